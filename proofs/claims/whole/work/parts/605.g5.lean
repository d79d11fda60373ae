/-! pure: how many nodes; the walk as a fold -/
def lfc : List nd_T → Nat
  | [] => 0
  | q :: l => (if q.1 ≤ 8 then 1 else 0) + lfc l
theorem lfc_app : ∀ l r : List nd_T, lfc (l ++ r) = lfc l + lfc r
  | [], r => by rw [List.nil_append]; show lfc r = 0 + lfc r; omega
  | q :: l, r => by
    show (if q.1 ≤ 8 then 1 else 0) + lfc (l ++ r) = (if q.1 ≤ 8 then 1 else 0) + lfc l + lfc r
    rw [lfc_app l r]
    omega
theorem lfc_le : ∀ l : List nd_T, lfc l ≤ l.length
  | [] => Nat.le_refl _
  | q :: l => by
    have := lfc_le l
    show (if q.1 ≤ 8 then 1 else 0) + lfc l ≤ l.length + 1
    split <;> omega
/-- a node within bounds whose choice is C's -/
def NOK (C : Nat → Bool → Int → Int → Int) (q : nd_T) : Prop := okp q.2.1 q.2.2.1 q.2.2.2.1 q.2.2.2.2.1 ∧ ∃ s : Nat, s ≤ 3 ∧ q.1 = C s q.2.2.2.2.2 q.2.2.2.1 q.2.2.2.2.1
def NB (C : Nat → Bool → Int → Int → Int) (w h : Int) (l : List nd_T) : Prop := (l.length : Int) + 1 ≤ 2 * (w * h) ∧ (lfc l : Int) ≤ w * h ∧ ∀ q ∈ l, NOK C q
theorem ns_b {C : Nat → Bool → Int → Int → Int} {K : Int} {s : Nat} {d : Bool} {rl : Int → Int → Int → Int → List nd_T} (hK : 0 ≤ K) (hV : CVc C) (hs : s ≤ 3) (hrec : ∀ s' : Nat, s = s' + 1 → ∀ x y w h : Int, okp x y w h → NB C w h (rl x y w h)) : ∀ (n : Nat) (x y w h : Int), okp x y w h → NB C w h (ns (C s d) K rl d n x y w h)
  | 0, x, y, w, h, hok => by
    have hok' := hok
    unfold okp at hok'
    have h1 := wh1 (w := w) (h := h) (by omega) (by omega)
    exact ⟨by show (0 : Int) + 1 ≤ _; omega, by show (0 : Int) ≤ _; omega, fun q hq => by cases hq⟩
  | n + 1, x, y, w, h, hok => by
    have hok' := hok
    unfold okp at hok'
    have h1 := wh1 (w := w) (h := h) (by omega) (by omega)
    have hn0 : NOK C (C s d w h, x, y, w, h, d) := ⟨hok, s, hs, rfl⟩
    have hcv := hV s d w h ⟨hs, by omega, by omega⟩
    unfold ns
    by_cases h8 : C s d w h ≤ 8
    · rw [if_pos h8]
      refine ⟨by show (1 : Int) + 1 ≤ _; omega, ?_, fun q hq => ?_⟩
      · show (((if C s d w h ≤ 8 then 1 else 0) + 0 : Nat) : Int) ≤ _
        rw [if_pos h8]
        omega
      · rw [List.mem_singleton] at hq
        rw [hq]
        exact hn0
    · rw [if_neg h8]
      obtain ⟨s1, s2⟩ := hcv.2 (by omega)
      obtain ⟨s', rfl⟩ : ∃ s' : Nat, s = s' + 1 := ⟨s - 1, by omega⟩
      generalize C (s' + 1) d w h = c at *
      have hcons : ∀ l : List nd_T, lfc ((c, x, y, w, h, d) :: l) = lfc l := fun l => by
        show (if c ≤ 8 then 1 else 0) + lfc l = lfc l
        rw [if_neg h8]
        omega
      cases d with
      | false =>
        simp only [Bool.false_eq_true, if_false] at s2 ⊢
        obtain ⟨a1, a2, a3⟩ := hrec s' rfl x y (c - 8) h (by unfold okp; omega)
        have e1 : (c - 8) * h + (w - (c - 8)) * h = w * h := by rw [← Int.add_mul]; congr 1; omega
        have e0 : 1 * h ≤ (w - (c - 8)) * h := mono_le (by omega) (by omega)
        by_cases hz : 0 < w - (c - 8) - K
        · rw [if_pos hz]
          obtain ⟨b1, b2, b3⟩ := ns_b (d := false) hK hV hs hrec n (x + (c - 8) + K) y (w - (c - 8) - K) h (by unfold okp; omega)
          have e2 : (w - (c - 8) - K) * h ≤ (w - (c - 8)) * h := mono_le (by omega) (by omega)
          refine ⟨?_, ?_, fun q hq => ?_⟩
          · rw [List.length_cons, List.length_append]
            omega
          · rw [hcons, lfc_app]
            omega
          · rcases List.mem_cons.mp hq with rfl | hq
            · exact hn0
            · rcases List.mem_append.mp hq with hq | hq
              · exact a3 q hq
              · exact b3 q hq
        · rw [if_neg hz, List.append_nil]
          refine ⟨?_, ?_, fun q hq => ?_⟩
          · rw [List.length_cons]
            omega
          · rw [hcons]
            omega
          · rcases List.mem_cons.mp hq with rfl | hq
            · exact hn0
            · exact a3 q hq
      | true =>
        simp only [if_true] at s2 ⊢
        obtain ⟨a1, a2, a3⟩ := hrec s' rfl x y w (c - 8) (by unfold okp; omega)
        have e1 : w * (c - 8) + w * (h - (c - 8)) = w * h := by rw [← Int.mul_add]; congr 1; omega
        have e0 : w * 1 ≤ w * (h - (c - 8)) := Int.mul_le_mul_of_nonneg_left (by omega) (by omega)
        by_cases hz : 0 < h - (c - 8) - K
        · rw [if_pos hz]
          obtain ⟨b1, b2, b3⟩ := ns_b (d := true) hK hV hs hrec n x (y + (c - 8) + K) w (h - (c - 8) - K) (by unfold okp; omega)
          have e2 : w * (h - (c - 8) - K) ≤ w * (h - (c - 8)) := Int.mul_le_mul_of_nonneg_left (by omega) (by omega)
          refine ⟨?_, ?_, fun q hq => ?_⟩
          · rw [List.length_cons, List.length_append]
            omega
          · rw [hcons, lfc_app]
            omega
          · rcases List.mem_cons.mp hq with rfl | hq
            · exact hn0
            · rcases List.mem_append.mp hq with hq | hq
              · exact a3 q hq
              · exact b3 q hq
        · rw [if_neg hz, List.append_nil]
          refine ⟨?_, ?_, fun q hq => ?_⟩
          · rw [List.length_cons]
            omega
          · rw [hcons]
            omega
          · rcases List.mem_cons.mp hq with rfl | hq
            · exact hn0
            · exact a3 q hq
theorem nod_b {C : Nat → Bool → Int → Int → Int} {K : Int} (hK : 0 ≤ K) (hV : CVc C) : ∀ (s : Nat) (d : Bool) (x y w h : Int), s ≤ 3 → okp x y w h → NB C w h (nod C K s d x y w h)
  | 0, d, x, y, w, h, hs, hok => ns_b hK hV hs (fun s' e => by omega) 16 x y w h hok
  | s + 1, d, x, y, w, h, hs, hok => ns_b hK hV hs (fun s' e x y w h hq => by
      have e2 : s' = s := by omega
      exact nod_b hK hV s (!d) x y w h (by omega) hq) 16 x y w h hok
theorem mw_go0 {ch : Nat → Int} {K le t : Int} {g : Nat → Int} {v : mv_T} : ∀ f : Nat, mw_go ch K le t f (0, g, v) = (0, g, v)
  | 0 => rfl
  | _ + 1 => rfl
/-- the walk's beginning, but for the stack -/
def mv_0 (t : Int) (wa : Nat → Int) (v : mv_T) : mv_T := (va_up v.1 t.toNat 0, va_up v.2.1 t.toNat 0, va_up v.2.2.1 t.toNat 0, va_up v.2.2.2.1 t.toNat 0, va_up v.2.2.2.2.1 t.toNat 0, va_up v.2.2.2.2.2.1 t.toNat 0, v.2.2.2.2.2.2.1, v.2.2.2.2.2.2.2.1, v.2.2.2.2.2.2.2.2.1, cp v.2.2.2.2.2.2.2.2.2 wa 8)
def wyb (T : mt_T) (S w h : Int) : Bool := decide (wy T S w h = 1)
theorem wyb_z {T : mt_T} {S w h : Int} : bz (wyb T S w h) = wy T S w h := by
  unfold wyb wy
  split <;> rfl
theorem mw_all_f {C : Nat → Bool → Int → Int → Int} {T : mt_T} {K le t w h : Int} {S : Nat} {wa : Nat → Int} {u : mw_T} (hK : 0 ≤ K) (hV : CVc C) (hc : ∀ (s : Nat) (d : Bool) (w h : Int), rg s w h → T.2.2 (mp s (bz d) w h).toNat = dec (C s d w h)) (hr : rg S w h) : (mw_all T K le S t w h wa u).2.2 = List.foldl (rst le t) (mv_0 t wa u.2.2) (nod C K S (wyb T S w h) 0 0 w h) := by
  have h1 := nod_b hK hV S (wyb T S w h) 0 0 w h hr.1 (by unfold okp; have := hr.2; omega)
  have h2 := wh1 hr.2.1 hr.2.2
  have a0 := ps_at (k := 0) (x := 0) (y := 0) (w := w) (h := h) (d := bz (wyb T S w h)) (s := (S : Int)) (g := u.wt)
  obtain ⟨g, _, b2⟩ := nod_top (le := le) (t := t) hK hV hc S (wyb T S w h) 0 0 w h hr 0 _ (mv_0 t wa u.2.2) a0
  generalize nod C K S (wyb T S w h) 0 0 w h = l at *
  have e : l.length + (512 - l.length) = 512 := by have := h1.1; omega
  have b3 := b2 (512 - l.length)
  rw [e, mw_go0] at b3
  have e2 : mw_0 T S t w h wa u = (0 + 1, ps ((0 : Nat) : Int) 0 0 w h (bz (wyb T S w h)) (S : Int) u.wt, mv_0 t wa u.2.2) := by
    rw [wyb_z]
    rfl
  unfold mw_all
  rw [e2, b3]
