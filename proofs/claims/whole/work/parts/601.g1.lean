/-! pure: the ideal tables -/
/-- the best of p0 and of the cuts 1 .. n, whose scores are a -/
def fm (a : Int → Int) (p0 : Int × Int) : Nat → Int × Int
  | 0 => p0
  | n + 1 => if (fm a p0 n).1 < a ((n : Int) + 1) then (a ((n : Int) + 1), 8 + ((n : Int) + 1)) else fm a p0 n
theorem fm_ext {a b : Int → Int} {p0 : Int × Int} : ∀ n : Nat, (∀ c : Int, 1 ≤ c → c ≤ (n : Int) → a c = b c) → fm a p0 n = fm b p0 n
  | 0, _ => rfl
  | n + 1, h => by
    have ih := fm_ext (a := a) (b := b) (p0 := p0) n (fun c h1 h2 => h c h1 (by omega))
    have e := h ((n : Int) + 1) (by omega) (by omega)
    unfold fm
    rw [ih, e]
theorem fm_mono {a b : Int → Int} {p0 q0 : Int × Int} (h0 : q0.1 ≤ p0.1) : ∀ n : Nat, (∀ c : Int, 1 ≤ c → c ≤ (n : Int) → b c ≤ a c) → (fm b q0 n).1 ≤ (fm a p0 n).1
  | 0, _ => h0
  | n + 1, h => by
    have ih := fm_mono (a := a) (b := b) h0 n (fun c h1 h2 => h c h1 (by omega))
    have e := h ((n : Int) + 1) (by omega) (by omega)
    unfold fm
    split
    · split
      · exact e
      · show b _ ≤ _
        omega
    · split
      · show _ ≤ a _
        omega
      · exact ih
theorem fm_ch {a : Int → Int} {p0 : Int × Int} : ∀ n : Nat, fm a p0 n = p0 ∨ ∃ c : Int, 1 ≤ c ∧ c ≤ (n : Int) ∧ fm a p0 n = (a c, 8 + c)
  | 0 => Or.inl rfl
  | n + 1 => by
    unfold fm
    split
    · exact Or.inr ⟨(n : Int) + 1, by omega, by omega, rfl⟩
    · rcases fm_ch (a := a) (p0 := p0) n with h | ⟨c, h1, h2, h3⟩
      · exact Or.inl h
      · exact Or.inr ⟨c, h1, by omega, h3⟩
theorem fm_same0 {a b : Int → Int} {p0 : Int × Int} : ∀ n : Nat, (∀ c : Int, 1 ≤ c → c ≤ (n : Int) → b c ≤ a c) → (fm a p0 n).2 ≤ 8 → fm a p0 n = p0 ∧ fm b p0 n = p0
  | 0, _, _ => ⟨rfl, rfl⟩
  | n + 1, h, h8 => by
    have e := h ((n : Int) + 1) (by omega) (by omega)
    unfold fm at h8 ⊢
    split at h8
    · have h9 : 8 + ((n : Int) + 1) ≤ 8 := h8
      omega
    · rename_i hn
      obtain ⟨i1, i2⟩ := fm_same0 (a := a) (b := b) (p0 := p0) n (fun c h1 h2 => h c h1 (by omega)) h8
      rw [i1] at hn
      rw [i1, i2, if_neg hn, if_neg (by omega)]
      exact ⟨rfl, rfl⟩
theorem fm_same {a b : Int → Int} {p0 q0 : Int × Int} {k : Int} (hp : p0.2 ≤ 8) (hq : q0.1 ≤ p0.1) (hk : 1 ≤ k) (hab : b k = a k) : ∀ n : Nat, (∀ c : Int, 1 ≤ c → c ≤ (n : Int) → b c ≤ a c) → (fm a p0 n).2 = 8 + k → fm b q0 n = fm a p0 n
  | 0, _, h2 => by
    have h3 : p0.2 = 8 + k := h2
    omega
  | n + 1, h, h2 => by
    have e := h ((n : Int) + 1) (by omega) (by omega)
    have m := fm_mono (a := a) (b := b) hq n (fun c h1 h2 => h c h1 (by omega))
    unfold fm at h2 ⊢
    split at h2
    · rename_i hi
      have h3 : 8 + ((n : Int) + 1) = 8 + k := h2
      have h4 : (n : Int) + 1 = k := by omega
      rw [if_pos hi, h4, hab, if_pos (by rw [h4] at hi; omega)]
    · rename_i hi
      have ih := fm_same hp hq hk hab n (fun c h1 h2 => h c h1 (by omega)) h2
      rw [ih, if_neg hi, if_neg (by omega)]
/-- a row of pieces of one way, by length: P the scores of first pieces, U what is not cut -/
def sqn (K : Int) (P : Int → Int) (U : Int → Int × Int) : Nat → Nat → Int × Int
  | 0 => fun _ => (0, 8)
  | n + 1 => va_up (sqn K P U n) (n + 1) (fm (fun c => P c + (sqn K P U n (max 0 ((n : Int) + 1 - c - K)).toNat).1 - 1) (U ((n : Int) + 1)) n)
def sq (K : Int) (P : Int → Int) (U : Int → Int × Int) (L : Int) : Int × Int := sqn K P U L.toNat L.toNat
theorem sqn_at {K : Int} {P : Int → Int} {U : Int → Int × Int} : ∀ n j : Nat, j ≤ n → sqn K P U n j = sqn K P U j j
  | 0, j, h => by
    have e : j = 0 := by omega
    subst e
    rfl
  | n + 1, j, h => by
    by_cases e : j = n + 1
    · rw [e]
    · show va_up (sqn K P U n) (n + 1) _ j = _
      rw [va_up_ne _ _ e]
      exact sqn_at n j (by omega)
theorem sq_0 {K : Int} {P : Int → Int} {U : Int → Int × Int} : sq K P U 0 = (0, 8) := rfl
theorem sq_eq {K : Int} {P : Int → Int} {U : Int → Int × Int} {L : Int} (hK : 0 ≤ K) (hL : 1 ≤ L) : sq K P U L = fm (fun c => P c + (sq K P U (max 0 (L - c - K))).1 - 1) (U L) (L - 1).toNat := by
  obtain ⟨n, rfl⟩ : ∃ n : Nat, L = (n : Int) + 1 := ⟨(L - 1).toNat, by omega⟩
  have e1 : ((n : Int) + 1).toNat = n + 1 := by omega
  have e2 : ((n : Int) + 1 - 1).toNat = n := by omega
  unfold sq
  rw [e1, e2]
  show va_up (sqn K P U n) (n + 1) _ (n + 1) = _
  rw [va_up_self]
  refine fm_ext n (fun c h1 h2 => ?_)
  rw [sqn_at n (max 0 ((n : Int) + 1 - c - K)).toNat (by omega)]
def idl (u : Int → Int → Int × Int) (K : Int) : Nat → Bool → Int → Int → Int × Int
  | 0, _, w, h => u w h
  | s + 1, false, w, h => sq K (fun c => (idl u K s true c h).1) (fun L => u L h) w
  | s + 1, true, w, h => sq K (fun c => (idl u K s false w c).1) (fun L => u w L) h
theorem idl_e0 {u : Int → Int → Int × Int} {K w h : Int} {s : Nat} (hK : 0 ≤ K) (hw : 1 ≤ w) : idl u K (s + 1) false w h = fm (fun c => (idl u K s true c h).1 + (idl u K (s + 1) false (max 0 (w - c - K)) h).1 - 1) (u w h) (w - 1).toNat := sq_eq hK hw
theorem idl_e1 {u : Int → Int → Int × Int} {K w h : Int} {s : Nat} (hK : 0 ≤ K) (hh : 1 ≤ h) : idl u K (s + 1) true w h = fm (fun c => (idl u K s false w c).1 + (idl u K (s + 1) true w (max 0 (h - c - K))).1 - 1) (u w h) (h - 1).toNat := sq_eq hK hh
/-- of the parts that fit the first -/
def ud (Fit : Nat → Int → Int → Bool) (w h : Int) : Nat → Int × Int
  | 0 => (0, 8)
  | k + 1 => if Fit (7 - k) w h = true then (w * h * 1024, ((7 - k : Nat) : Int)) else ud Fit w h k
def uo (Fit : Nat → Int → Int → Bool) (w h : Int) : Int × Int := ud Fit w h 8
theorem ud_lo {Fit : Nat → Int → Int → Bool} {w h : Int} : ∀ k : Nat, k ≤ 8 → (∀ p : Nat, 8 - k ≤ p → p < 8 → Fit p w h = false) → ud Fit w h k = (0, 8)
  | 0, _, _ => rfl
  | k + 1, hk, h0 => by
    unfold ud
    rw [if_neg (by rw [h0 (7 - k) (by omega) (by omega)]; decide)]
    exact ud_lo k (by omega) (fun p h1 h2 => h0 p (by omega) h2)
theorem ud_hi {Fit : Nat → Int → Int → Bool} {w h : Int} {p : Nat} (hp : Fit p w h = true) (hlt : ∀ j : Nat, j < p → Fit j w h = false) : ∀ k : Nat, k ≤ 8 → 8 - k ≤ p → p < 8 → ud Fit w h k = (w * h * 1024, (p : Int))
  | 0, _, h1, h2 => by omega
  | k + 1, hk, h1, h2 => by
    unfold ud
    by_cases e : p = 7 - k
    · rw [← e, if_pos hp]
    · by_cases e2 : Fit (7 - k) w h = true
      · have := hlt (7 - k) (by omega)
        rw [this] at e2
        exact absurd e2 (by decide)
      · rw [if_neg e2]
        exact ud_hi hp hlt k (by omega) (by omega) h2
theorem uo_none {Fit : Nat → Int → Int → Bool} {w h : Int} (h0 : ∀ p : Nat, p < 8 → Fit p w h = false) : uo Fit w h = (0, 8) := ud_lo 8 (by omega) (fun p _ h => h0 p h)
theorem uo_some {Fit : Nat → Int → Int → Bool} {w h : Int} {p : Nat} (h8 : p < 8) (hp : Fit p w h = true) (hlt : ∀ j : Nat, j < p → Fit j w h = false) : uo Fit w h = (w * h * 1024, (p : Int)) := ud_hi hp hlt 8 (by omega) (by omega) h8
theorem fit_first {Fit : Nat → Int → Int → Bool} {w h : Int} : ∀ n : Nat, (∀ p : Nat, p < n → Fit p w h = false) ∨ ∃ p : Nat, p < n ∧ Fit p w h = true ∧ ∀ j : Nat, j < p → Fit j w h = false
  | 0 => Or.inl (fun p h => by omega)
  | n + 1 => by
    rcases fit_first (Fit := Fit) (w := w) (h := h) n with h0 | ⟨p, h1, h2, h3⟩
    · cases e : Fit n w h with
      | false => exact Or.inl (fun p hp => by
          by_cases e2 : p = n
          · rw [e2, e]
          · exact h0 p (by omega))
      | true => exact Or.inr ⟨n, by omega, e, h0⟩
    · exact Or.inr ⟨p, by omega, h2, h3⟩
theorem uo_cases (Fit : Nat → Int → Int → Bool) (w h : Int) : (uo Fit w h = (0, 8) ∧ ∀ p : Nat, p < 8 → Fit p w h = false) ∨ ∃ p : Nat, p < 8 ∧ Fit p w h = true ∧ (∀ j : Nat, j < p → Fit j w h = false) ∧ uo Fit w h = (w * h * 1024, (p : Int)) := by
  rcases fit_first (Fit := Fit) (w := w) (h := h) 8 with h0 | ⟨p, h1, h2, h3⟩
  · exact Or.inl ⟨uo_none h0, h0⟩
  · exact Or.inr ⟨p, h1, h2, h3, uo_some h1 h2 h3⟩
/-! the class's tables are the ideal ones -/
def rg (s : Nat) (w h : Int) : Prop := s ≤ 3 ∧ (1 ≤ w ∧ w ≤ 16) ∧ 1 ≤ h ∧ h ≤ 16
def Z0 (sc : Nat → Int) : Prop := ∀ (s : Nat) (d : Bool) (a : Int), s ≤ 3 → 0 ≤ a → a ≤ 16 → sc (pl_at s (bz d) 0 a).toNat = 0 ∧ sc (pl_at s (bz d) a 0).toNat = 0
def CTb (u : Int → Int → Int × Int) (K : Int) (T : tp_T) (D : Nat → Bool → Int → Int → Prop) : Prop := Z0 T.1 ∧ ∀ (s : Nat) (d : Bool) (w h : Int), rg s w h → D s d w h → T.1 (pl_at s (bz d) w h).toNat = (idl u K s d w h).1 ∧ T.2 (pl_at s (bz d) w h).toNat = (idl u K s d w h).2
theorem CTb_mono {u : Int → Int → Int × Int} {K : Int} {T : tp_T} {D E : Nat → Bool → Int → Int → Prop} (h : CTb u K T D) (hE : ∀ s d w h, rg s w h → E s d w h → D s d w h) : CTb u K T E := ⟨h.1, fun s d w h' hr he => h.2 s d w h' hr (hE s d w h' hr he)⟩
theorem cz_fm {sc : Nat → Int} {K fb sb st L : Int} {p0 : Int × Int} : ∀ n : Nat, cz sc K fb sb st L p0 n = fm (cz_v sc K fb sb st L) p0 n
  | 0 => rfl
  | n + 1 => by
    unfold cz fm
    rw [cz_fm n]
theorem bz_r (d : Bool) : 0 ≤ bz d ∧ bz d ≤ 1 := by cases d <;> decide
theorem pl_inj {s s' : Nat} {d d' : Bool} {w h w' h' : Int} (hs : s ≤ 3) (hs' : s' ≤ 3) (hw : 0 ≤ w ∧ w ≤ 16) (hh : 0 ≤ h ∧ h ≤ 16) (hw' : 0 ≤ w' ∧ w' ≤ 16) (hh' : 0 ≤ h' ∧ h' ≤ 16) (e : (pl_at s (bz d) w h).toNat = (pl_at s' (bz d') w' h').toNat) : s = s' ∧ d = d' ∧ w = w' ∧ h = h' := by
  obtain ⟨e1, e2, e3, e4⟩ := pl_ne (by omega) (bz_r d) hw hh (by omega) (bz_r d') hw' hh' e
  refine ⟨by omega, ?_, e3, e4⟩
  cases d <;> cases d' <;> first | rfl | exact absurd e2 (by decide)
theorem ch_id {u : Int → Int → Int × Int} {K : Int} {T : tp_T} {D : Nat → Bool → Int → Int → Prop} {s : Nat} {d : Bool} {w h : Int} (hC : CTb u K T D) (hK : 0 ≤ K) (hr : rg (s + 1) w h) (h0 : D 0 d w h) (h1 : ∀ c : Int, 1 ≤ c → c < (if d = true then h else w) → D s (!d) (if d = true then w else c) (if d = true then c else h)) (h2 : ∀ c : Int, 1 ≤ c → c < (if d = true then h else w) → D (s + 1) d (if d = true then w else c) (if d = true then c else h)) : ch_res T.1 T.2 K ((s + 1 : Nat) : Int) (bz d) w h = idl u K (s + 1) d w h := by
  obtain ⟨hs, hw, hh⟩ := hr
  have c0 := hC.2 0 d w h ⟨by omega, hw, hh⟩ h0
  cases d with
  | false =>
    have e : ch_res T.1 T.2 K ((s + 1 : Nat) : Int) (bz false) w h = cz T.1 K (pl_at (((s + 1 : Nat) : Int) - 1) (1 - 0) w h - w * 17) (pl_at ((s + 1 : Nat) : Int) 0 w h - w * 17) 17 w (rd_scoreAt T.1 (pl_at 0 0 w h), rd_choiceAt T.2 (pl_at 0 0 w h)) (w - 1).toNat := if_pos rfl
    rw [e, idl_e0 hK hw.1, cz_fm]
    have p0 : (rd_scoreAt T.1 (pl_at 0 0 w h), rd_choiceAt T.2 (pl_at 0 0 w h)) = u w h := by
      rw [rd_pl (by omega) (by omega) (by omega) (by omega), rd_plc (by omega) (by omega) (by omega) (by omega)]
      exact Prod.ext c0.1 c0.2
    rw [p0]
    refine fm_ext _ (fun c g1 g2 => ?_)
    unfold cz_v
    have a1 : pl_at (((s + 1 : Nat) : Int) - 1) (1 - 0) w h - w * 17 + c * 17 = pl_at (s : Int) (bz true) c h := by
      show pl_at (((s + 1 : Nat) : Int) - 1) (1 - 0) w h - w * 17 + c * 17 = pl_at (s : Int) 1 c h
      unfold pl_at
      omega
    have a2 : pl_at ((s + 1 : Nat) : Int) 0 w h - w * 17 + max 0 (w - c - K) * 17 = pl_at ((s + 1 : Nat) : Int) (bz false) (max 0 (w - c - K)) h := by
      show pl_at ((s + 1 : Nat) : Int) 0 w h - w * 17 + max 0 (w - c - K) * 17 = pl_at ((s + 1 : Nat) : Int) 0 (max 0 (w - c - K)) h
      unfold pl_at
      omega
    rw [a1, a2, rd_pl (by omega) (bz_r _) (by omega) (by omega), rd_pl (by omega) (bz_r _) (by omega) (by omega)]
    have b1 := (hC.2 s true c h ⟨by omega, by omega, hh⟩ (h1 c g1 (by show c < w; omega))).1
    rw [b1]
    by_cases hz : 1 ≤ w - c - K
    · have e3 : max 0 (w - c - K) = w - c - K := by omega
      rw [e3]
      have b2 := (hC.2 (s + 1) false (w - c - K) h ⟨by omega, by omega, hh⟩ (h2 (w - c - K) hz (by show w - c - K < w; omega))).1
      rw [b2]
    · have e3 : max 0 (w - c - K) = 0 := by omega
      rw [e3, (hC.1 (s + 1) false h hs (by omega) (by omega)).1]
      rfl
  | true =>
    have e : ch_res T.1 T.2 K ((s + 1 : Nat) : Int) (bz true) w h = cz T.1 K (pl_at (((s + 1 : Nat) : Int) - 1) (1 - 1) w h - h * 1) (pl_at ((s + 1 : Nat) : Int) 1 w h - h * 1) 1 h (rd_scoreAt T.1 (pl_at 0 1 w h), rd_choiceAt T.2 (pl_at 0 1 w h)) (h - 1).toNat := if_neg (by decide)
    rw [e, idl_e1 hK hh.1, cz_fm]
    have p0 : (rd_scoreAt T.1 (pl_at 0 1 w h), rd_choiceAt T.2 (pl_at 0 1 w h)) = u w h := by
      rw [rd_pl (by omega) (by omega) (by omega) (by omega), rd_plc (by omega) (by omega) (by omega) (by omega)]
      exact Prod.ext c0.1 c0.2
    rw [p0]
    refine fm_ext _ (fun c g1 g2 => ?_)
    unfold cz_v
    have a1 : pl_at (((s + 1 : Nat) : Int) - 1) (1 - 1) w h - h * 1 + c * 1 = pl_at (s : Int) (bz false) w c := by
      show pl_at (((s + 1 : Nat) : Int) - 1) (1 - 1) w h - h * 1 + c * 1 = pl_at (s : Int) 0 w c
      unfold pl_at
      omega
    have a2 : pl_at ((s + 1 : Nat) : Int) 1 w h - h * 1 + max 0 (h - c - K) * 1 = pl_at ((s + 1 : Nat) : Int) (bz true) w (max 0 (h - c - K)) := by
      show pl_at ((s + 1 : Nat) : Int) 1 w h - h * 1 + max 0 (h - c - K) * 1 = pl_at ((s + 1 : Nat) : Int) 1 w (max 0 (h - c - K))
      unfold pl_at
      omega
    rw [a1, a2, rd_pl (by omega) (bz_r _) (by omega) (by omega), rd_pl (by omega) (bz_r _) (by omega) (by omega)]
    have b1 := (hC.2 s false w c ⟨by omega, hw, by omega⟩ (h1 c g1 (by show c < h; omega))).1
    rw [b1]
    by_cases hz : 1 ≤ h - c - K
    · have e3 : max 0 (h - c - K) = h - c - K := by omega
      rw [e3]
      have b2 := (hC.2 (s + 1) true w (h - c - K) ⟨by omega, hw, by omega⟩ (h2 (h - c - K) hz (by show h - c - K < h; omega))).1
      rw [b2]
    · have e3 : max 0 (h - c - K) = 0 := by omega
      rw [e3, (hC.1 (s + 1) true w hs (by omega) (by omega)).2]
      rfl
theorem CTb_up {u : Int → Int → Int × Int} {K : Int} {T : tp_T} {D : Nat → Bool → Int → Int → Prop} {s : Nat} {d : Bool} {w h : Int} (hC : CTb u K T D) (hK : 0 ≤ K) (hr : rg (s + 1) w h) (h0 : D 0 d w h) (h1 : ∀ c : Int, 1 ≤ c → c < (if d = true then h else w) → D s (!d) (if d = true then w else c) (if d = true then c else h)) (h2 : ∀ c : Int, 1 ≤ c → c < (if d = true then h else w) → D (s + 1) d (if d = true then w else c) (if d = true then c else h)) : CTb u K (ch_up K ((s + 1 : Nat) : Int) (bz d) w h T) (fun s' d' w' h' => D s' d' w' h' ∨ (s' = s + 1 ∧ d' = d ∧ w' = w ∧ h' = h)) := by
  have e := ch_id hC hK hr h0 h1 h2
  obtain ⟨hs, hw, hh⟩ := hr
  refine ⟨fun s' d' a b1 b2 b3 => ?_, fun s' d' w' h' hr' hd => ?_⟩
  · have z := hC.1 s' d' a b1 b2 b3
    refine ⟨?_, ?_⟩
    · show va_up T.1 _ _ _ = 0
      rw [va_up_ne _ _ (fun q => by have := (pl_inj b1 hs (by omega) (by omega) (by omega) (by omega) q).2.2.1; omega)]
      exact z.1
    · show va_up T.1 _ _ _ = 0
      rw [va_up_ne _ _ (fun q => by have := (pl_inj b1 hs (by omega) (by omega) (by omega) (by omega) q).2.2.2; omega)]
      exact z.2
  · obtain ⟨hs', hw', hh'⟩ := hr'
    show va_up T.1 _ _ _ = _ ∧ va_up T.2 _ _ _ = _
    by_cases q : (pl_at s' (bz d') w' h').toNat = (pl_at ((s + 1 : Nat) : Int) (bz d) w h).toNat
    · obtain ⟨q1, q2, q3, q4⟩ := pl_inj hs' hs (by omega) (by omega) (by omega) (by omega) q
      subst q1; subst q2; subst q3; subst q4
      rw [va_up_self, va_up_self, e]
      exact ⟨rfl, rfl⟩
    · rw [va_up_ne _ _ q, va_up_ne _ _ q]
      refine hC.2 s' d' w' h' ⟨hs', hw', hh'⟩ ?_
      rcases hd with hd | ⟨q1, q2, q3, q4⟩
      · exact hd
      · subst q1; subst q2; subst q3; subst q4
        exact absurd rfl q
/-- stages below s + 1, the widths up to n, and of width n + 1 the heights up to k -/
def DN (s : Nat) (n k : Int) : Nat → Bool → Int → Int → Prop := fun s' _ w h => s' ≤ s ∨ (s' = s + 1 ∧ (w ≤ n ∨ (w = n + 1 ∧ h ≤ k)))
theorem CTb_h {u : Int → Int → Int × Int} {K : Int} {s n : Nat} {T : tp_T} (hK : 0 ≤ K) (hs : s ≤ 2) (hn : n < 16) (hC : CTb u K T (DN s n 0)) : ∀ k : Nat, k ≤ 16 → CTb u K (fs_h K ((s + 1 : Nat) : Int) ((n : Int) + 1) T k) (DN s n k)
  | 0, _ => hC
  | k + 1, hk => by
    have ih := CTb_h hK hs hn hC k (by omega)
    have r1 : rg (s + 1) ((n : Int) + 1) ((k : Int) + 1) := ⟨by omega, by omega, by omega⟩
    have s1 := CTb_up (d := false) ih hK r1 (Or.inl (by omega)) (fun c _ _ => Or.inl (Nat.le_refl s)) (fun c g1 g2 => Or.inr ⟨rfl, Or.inl (by have : c < (n : Int) + 1 := g2; show c ≤ (n : Int); omega)⟩)
    have s2 := CTb_up (d := true) s1 hK r1 (Or.inl (Or.inl (by omega))) (fun c _ _ => Or.inl (Or.inl (Nat.le_refl s))) (fun c g1 g2 => Or.inl (Or.inr ⟨rfl, Or.inr ⟨rfl, by have : c < (k : Int) + 1 := g2; show c ≤ (k : Int); omega⟩⟩))
    refine CTb_mono s2 (fun s' d' w' h' hr hd => ?_)
    rcases hd with hd | ⟨e1, hd⟩
    · exact Or.inl (Or.inl (Or.inl hd))
    · rcases hd with hd | ⟨e2, e3⟩
      · exact Or.inl (Or.inl (Or.inr ⟨e1, Or.inl hd⟩))
      · by_cases e4 : h' ≤ (k : Int)
        · exact Or.inl (Or.inl (Or.inr ⟨e1, Or.inr ⟨e2, e4⟩⟩))
        · cases d' with
          | false => exact Or.inl (Or.inr ⟨e1, rfl, e2, by omega⟩)
          | true => exact Or.inr ⟨e1, rfl, e2, by omega⟩
theorem CTb_w {u : Int → Int → Int × Int} {K : Int} {s : Nat} {T : tp_T} (hK : 0 ≤ K) (hs : s ≤ 2) (hC : CTb u K T (fun s' _ _ _ => s' ≤ s)) : ∀ n : Nat, n ≤ 16 → CTb u K (fs_w K ((s + 1 : Nat) : Int) T n) (DN s n 0)
  | 0, _ => CTb_mono hC (fun s' d' w' h' hr hd => by
      rcases hd with hd | ⟨_, hd⟩
      · exact hd
      · have := hr.2.1.1
        have := hr.2.2.1
        rcases hd with hd | ⟨_, hd⟩
        · have hd2 : w' ≤ 0 := hd
          omega
        · have hd2 : h' ≤ 0 := hd
          omega)
  | n + 1, hn => by
    refine CTb_mono (CTb_h hK hs (by omega) (CTb_w hK hs hC n (by omega)) 16 (by omega)) (fun s' d' w' h' hr hd => ?_)
    rcases hd with hd | ⟨e1, hd⟩
    · exact Or.inl hd
    · refine Or.inr ⟨e1, ?_⟩
      rcases hd with hd | ⟨_, hd⟩
      · have hd2 : w' ≤ ((n + 1 : Nat) : Int) := hd
        by_cases e2 : w' ≤ (n : Int)
        · exact Or.inl e2
        · exact Or.inr ⟨by omega, hr.2.2.2⟩
      · have := hr.2.2.1
        have hd2 : h' ≤ 0 := hd
        omega
theorem CTb_g {u : Int → Int → Int × Int} {K : Int} {F : Nat} {T : tp_T} (hK : 0 ≤ K) (hC : CTb u K T (fun s' _ _ _ => s' ≤ F)) : ∀ n : Nat, F + n ≤ 3 → CTb u K (fg K (F : Int) T n) (fun s' _ _ _ => s' ≤ F + n)
  | 0, _ => hC
  | n + 1, hn => by
    have ih := CTb_g hK hC n (by omega)
    have e : ((F : Int) + (n : Int) + 1) = ((F + n + 1 : Nat) : Int) := by omega
    unfold fg
    rw [e]
    refine CTb_mono (CTb_w hK (by omega) ih 16 (by omega)) (fun s' d' w' h' hr hd => ?_)
    by_cases e2 : s' ≤ F + n
    · exact Or.inl e2
    · exact Or.inr ⟨by omega, Or.inl hr.2.1.2⟩
