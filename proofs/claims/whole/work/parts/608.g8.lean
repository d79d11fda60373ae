/-! pure: when parts cease to be wanted -/
section MO
variable {F G : Nat → Int → Int → Bool} {K : Int}
/-- G's parts are among F's -/
def SUB (G F : Nat → Int → Int → Bool) : Prop := ∀ (p : Nat) (w h : Int), G p w h = true → F p w h = true
theorem uo_le {w h : Int} (hS : SUB G F) (hwh : 0 ≤ w * h) : (uo G w h).1 ≤ (uo F w h).1 := by
  rcases uo_cases F w h with ⟨e, h0⟩ | ⟨p, h1, h2, h3, e⟩
  · have e2 : uo G w h = (0, 8) := uo_none (fun p hp => by
      cases q : G p w h with
      | false => rfl
      | true =>
        have := hS p w h q
        rw [h0 p hp] at this
        exact absurd this (by decide))
    rw [e, e2]
    exact Int.le_refl _
  · rw [e]
    rcases uo_cases G w h with ⟨e2, _⟩ | ⟨p2, _, _, _, e2⟩ <;> rw [e2]
    · show (0 : Int) ≤ w * h * 1024
      omega
    · exact Int.le_refl _
theorem id_le (hK : 0 ≤ K) (hS : SUB G F) : ∀ (s : Nat) (d : Bool) (n : Nat) (w h : Int), rg s w h → (if d = true then h else w) ≤ (n : Int) → (idl (uo G) K s d w h).1 ≤ (idl (uo F) K s d w h).1
  | 0, d, n, w, h, hr, _ => uo_le hS (Int.mul_nonneg (by have := hr.2.1; omega) (by have := hr.2.2; omega))
  | s + 1, false, 0, w, h, hr, hn => by
    have := hr.2.1
    have hn2 : w ≤ 0 := hn
    omega
  | s + 1, true, 0, w, h, hr, hn => by
    have := hr.2.2
    have hn2 : h ≤ 0 := hn
    omega
  | s + 1, false, n + 1, w, h, hr, hn => by
    have hw := hr.2.1
    have hn2 : w ≤ ((n + 1 : Nat) : Int) := hn
    rw [idl_e0 hK hr.2.1.1, idl_e0 hK hr.2.1.1]
    refine fm_mono (uo_le hS (Int.mul_nonneg (by omega) (by have := hr.2.2; omega))) _ (fun c h1 h2 => ?_)
    have a1 := id_le hK hS s true 16 c h ⟨by have := hr.1; omega, by omega, hr.2.2⟩ hr.2.2.2
    by_cases hz : 1 ≤ w - c - K
    · have e3 : max 0 (w - c - K) = w - c - K := by omega
      have a2 := id_le hK hS (s + 1) false n (w - c - K) h ⟨hr.1, by omega, hr.2.2⟩ (by show w - c - K ≤ (n : Int); omega)
      rw [e3]
      omega
    · have e3 : max 0 (w - c - K) = 0 := by omega
      rw [e3]
      show _ + (0 : Int) - 1 ≤ _ + (0 : Int) - 1
      omega
  | s + 1, true, n + 1, w, h, hr, hn => by
    have hh := hr.2.2
    have hn2 : h ≤ ((n + 1 : Nat) : Int) := hn
    rw [idl_e1 hK hr.2.2.1, idl_e1 hK hr.2.2.1]
    refine fm_mono (uo_le hS (Int.mul_nonneg (by have := hr.2.1; omega) (by omega))) _ (fun c h1 h2 => ?_)
    have a1 := id_le hK hS s false 16 w c ⟨by have := hr.1; omega, hr.2.1, by omega⟩ hr.2.1.2
    by_cases hz : 1 ≤ h - c - K
    · have e3 : max 0 (h - c - K) = h - c - K := by omega
      have a2 := id_le hK hS (s + 1) true n w (h - c - K) ⟨hr.1, hr.2.1, by omega⟩ (by show h - c - K ≤ (n : Int); omega)
      rw [e3]
      omega
    · have e3 : max 0 (h - c - K) = 0 := by omega
      rw [e3]
      show _ + (0 : Int) - 1 ≤ _ + (0 : Int) - 1
      omega
theorem id_le' (hK : 0 ≤ K) (hS : SUB G F) {s : Nat} {d : Bool} {w h : Int} (hr : rg s w h) : (idl (uo G) K s d w h).1 ≤ (idl (uo F) K s d w h).1 := id_le hK hS s d 16 w h hr (by
  have := hr.2.1
  have := hr.2.2
  cases d
  · show w ≤ 16; omega
  · show h ≤ 16; omega)
/-- the parts of these nodes are still wanted -/
def US (G F : Nat → Int → Int → Bool) (l : List nd_T) : Prop := ∀ q ∈ l, q.1 < 8 → ∀ w h : Int, F q.1.toNat w h = true → G q.1.toNat w h = true
abbrev chs (F : Nat → Int → Int → Bool) (K : Int) : Nat → Bool → Int → Int → Int := fun s d w h => (idl (uo F) K s d w h).2
theorem uo_same {w h : Int} (hS : SUB G F) (hu : (uo F w h).2 < 8 → ∀ w' h' : Int, F (uo F w h).2.toNat w' h' = true → G (uo F w h).2.toNat w' h' = true) : uo G w h = uo F w h := by
  rcases uo_cases F w h with ⟨e, h0⟩ | ⟨p, h1, h2, h3, e⟩
  · rw [e]
    exact uo_none (fun p hp => by
      cases q : G p w h with
      | false => rfl
      | true =>
        have := hS p w h q
        rw [h0 p hp] at this
        exact absurd this (by decide))
  · rw [e] at hu ⊢
    have hg := hu (by show (p : Int) < 8; omega) w h (by show F ((p : Int)).toNat w h = true; rw [Int.toNat_natCast]; exact h2)
    rw [show (((w * h * 1024, (p : Int)) : Int × Int).2).toNat = p from Int.toNat_natCast p] at hg
    exact uo_some h1 hg (fun j hj => by
      cases q : G j w h with
      | false => rfl
      | true =>
        have := hS j w h q
        rw [h3 j hj] at this
        exact absurd this (by decide))
theorem ns_same {s : Nat} {d : Bool} {rl rl' : Int → Int → Int → Int → List nd_T} (hK : 0 ≤ K) (hS : SUB G F) (hs : s ≤ 3) (hrec : ∀ s' : Nat, s = s' + 1 → ∀ x y w h : Int, rg s' w h → US G F (rl x y w h) → idl (uo G) K s' (!d) w h = idl (uo F) K s' (!d) w h ∧ rl' x y w h = rl x y w h) : ∀ (n : Nat) (x y w h : Int), rg s w h → (if d = true then h else w) ≤ (n : Int) → US G F (ns (chs F K s d) K rl d n x y w h) → idl (uo G) K s d w h = idl (uo F) K s d w h ∧ ns (chs G K s d) K rl' d n x y w h = ns (chs F K s d) K rl d n x y w h
  | 0, x, y, w, h, hr, hn, _ => by
    have h1 := hr.2.1
    have h2 := hr.2.2
    exfalso
    cases d with
    | false =>
      have : w ≤ 0 := hn
      omega
    | true =>
      have : h ≤ 0 := hn
      omega
  | n + 1, x, y, w, h, hr, hn, hus => by
    have hw := hr.2.1
    have hh := hr.2.2
    have hcv := idl_cv (Fit := F) hK s d w h hr
    dsimp only at hcv
    have hu8 := (uo_ch F w h).2
    have hle : (uo G w h).1 ≤ (uo F w h).1 := uo_le hS (Int.mul_nonneg (by omega) (by omega))
    unfold ns at hus ⊢
    by_cases h8 : chs F K s d w h ≤ 8
    · rw [if_pos h8] at hus ⊢
      have hus2 := hus (chs F K s d w h, x, y, w, h, d) (List.mem_singleton.mpr rfl)
      dsimp only at hus2
      have e : idl (uo G) K s d w h = idl (uo F) K s d w h := by
        cases s with
        | zero => exact uo_same hS hus2
        | succ s =>
          cases d with
          | false =>
            have h8' : (idl (uo F) K (s + 1) false w h).2 ≤ 8 := h8
            have hus3 : (idl (uo F) K (s + 1) false w h).2 < 8 → ∀ w' h' : Int, F (idl (uo F) K (s + 1) false w h).2.toNat w' h' = true → G (idl (uo F) K (s + 1) false w h).2.toNat w' h' = true := hus2
            rw [idl_e0 hK hw.1] at h8' hus3
            have m := fm_same0 (a := fun c => (idl (uo F) K s true c h).1 + (idl (uo F) K (s + 1) false (max 0 (w - c - K)) h).1 - 1) (b := fun c => (idl (uo G) K s true c h).1 + (idl (uo G) K (s + 1) false (max 0 (w - c - K)) h).1 - 1) (p0 := uo F w h) (w - 1).toNat (fun c h1 h2 => by
              have a1 := id_le' (d := true) hK hS (s := s) (w := c) (h := h) ⟨by omega, by omega, hh⟩
              skip
              by_cases hz : 1 ≤ w - c - K
              · have e3 : max 0 (w - c - K) = w - c - K := by omega
                have a2 := id_le' (d := false) hK hS (s := s + 1) (w := w - c - K) (h := h) ⟨hs, by omega, hh⟩
                rw [e3]
                omega
              · have e3 : max 0 (w - c - K) = 0 := by omega
                rw [e3]
                show _ + (0 : Int) - 1 ≤ _ + (0 : Int) - 1
                omega) h8'
            rw [m.1] at hus3
            rw [idl_e0 hK hw.1, idl_e0 hK hw.1, uo_same hS hus3, m.1, m.2]
          | true =>
            have h8' : (idl (uo F) K (s + 1) true w h).2 ≤ 8 := h8
            have hus3 : (idl (uo F) K (s + 1) true w h).2 < 8 → ∀ w' h' : Int, F (idl (uo F) K (s + 1) true w h).2.toNat w' h' = true → G (idl (uo F) K (s + 1) true w h).2.toNat w' h' = true := hus2
            rw [idl_e1 hK hh.1] at h8' hus3
            have m := fm_same0 (a := fun c => (idl (uo F) K s false w c).1 + (idl (uo F) K (s + 1) true w (max 0 (h - c - K))).1 - 1) (b := fun c => (idl (uo G) K s false w c).1 + (idl (uo G) K (s + 1) true w (max 0 (h - c - K))).1 - 1) (p0 := uo F w h) (h - 1).toNat (fun c h1 h2 => by
              have a1 := id_le' (d := false) hK hS (s := s) (w := w) (h := c) ⟨by omega, hw, by omega⟩
              skip
              by_cases hz : 1 ≤ h - c - K
              · have e3 : max 0 (h - c - K) = h - c - K := by omega
                have a2 := id_le' (d := true) hK hS (s := s + 1) (w := w) (h := h - c - K) ⟨hs, hw, by omega⟩
                rw [e3]
                omega
              · have e3 : max 0 (h - c - K) = 0 := by omega
                rw [e3]
                show _ + (0 : Int) - 1 ≤ _ + (0 : Int) - 1
                omega) h8'
            rw [m.1] at hus3
            rw [idl_e1 hK hh.1, idl_e1 hK hh.1, uo_same hS hus3, m.1, m.2]
      refine ⟨e, ?_⟩
      have ec : chs G K s d w h = chs F K s d w h := congrArg Prod.snd e
      rw [ec, if_pos h8]
    · rw [if_neg h8] at hus ⊢
      obtain ⟨s1, s2⟩ := hcv.2 (by have : ¬ (idl (uo F) K s d w h).2 ≤ 8 := h8; omega)
      obtain ⟨s', rfl⟩ : ∃ s' : Nat, s = s' + 1 := ⟨s - 1, by omega⟩
      obtain ⟨c, hc0⟩ : ∃ c : Int, chs F K (s' + 1) d w h = 8 + c := ⟨chs F K (s' + 1) d w h - 8, by omega⟩
      have hc1 : chs F K (s' + 1) d w h - 8 = c := by omega
      have hc2 : (idl (uo F) K (s' + 1) d w h).2 - 8 = c := hc1
      have hcp : 1 ≤ c := by omega
      rw [hc1] at hus ⊢
      rw [hc2] at s2
      cases d with
      | false =>
        simp only [Bool.false_eq_true, if_false] at hus s2 ⊢
        have hrA := hrec s' rfl x y c h ⟨by omega, by omega, hh⟩ (fun q hq => hus q (List.mem_cons_of_mem _ (List.mem_append_left _ hq)))
        have hB : (idl (uo G) K (s' + 1) false (max 0 (w - c - K)) h).1 = (idl (uo F) K (s' + 1) false (max 0 (w - c - K)) h).1 ∧ (if 0 < w - c - K then ns (chs G K (s' + 1) false) K rl' false n (x + c + K) y (w - c - K) h else []) = (if 0 < w - c - K then ns (chs F K (s' + 1) false) K rl false n (x + c + K) y (w - c - K) h else []) := by
          by_cases hz : 0 < w - c - K
          · have e3 : max 0 (w - c - K) = w - c - K := by omega
            rw [if_pos hz] at hus
            rw [if_pos hz, if_pos hz, e3]
            have := ns_same (d := false) hK hS hs hrec n (x + c + K) y (w - c - K) h ⟨hs, by omega, hh⟩ (by show w - c - K ≤ (n : Int); have : w ≤ ((n + 1 : Nat) : Int) := hn; omega) (fun q hq => hus q (List.mem_cons_of_mem _ (List.mem_append_right _ hq)))
            exact ⟨congrArg Prod.fst this.1, this.2⟩
          · have e3 : max 0 (w - c - K) = 0 := by omega
            rw [if_neg hz, if_neg hz, e3]
            exact ⟨rfl, rfl⟩
        have e : idl (uo G) K (s' + 1) false w h = idl (uo F) K (s' + 1) false w h := by
          have h2' : (idl (uo F) K (s' + 1) false w h).2 = 8 + c := hc0
          rw [idl_e0 hK hw.1] at h2'
          rw [idl_e0 hK hw.1, idl_e0 hK hw.1]
          refine fm_same (k := c) hu8 hle hcp ?_ _ (fun c' h1 h2 => ?_) h2'
          · skip
            have q1 : idl (uo G) K s' true c h = idl (uo F) K s' true c h := hrA.1
            rw [q1, hB.1]
          · have a1 := id_le' (d := true) hK hS (s := s') (w := c') (h := h) ⟨by omega, by omega, hh⟩
            skip
            by_cases hz : 1 ≤ w - c' - K
            · have e3 : max 0 (w - c' - K) = w - c' - K := by omega
              have a2 := id_le' (d := false) hK hS (s := s' + 1) (w := w - c' - K) (h := h) ⟨hs, by omega, hh⟩
              rw [e3]
              omega
            · have e3 : max 0 (w - c' - K) = 0 := by omega
              rw [e3]
              show _ + (0 : Int) - 1 ≤ _ + (0 : Int) - 1
              omega
        refine ⟨e, ?_⟩
        have ec : chs G K (s' + 1) false w h = chs F K (s' + 1) false w h := congrArg Prod.snd e
        rw [ec, hc0, if_neg (show ¬ 8 + c ≤ 8 by omega), show 8 + c - 8 = c by omega, hB.2, hrA.2]
      | true =>
        simp only [if_true] at hus s2 ⊢
        have hrA := hrec s' rfl x y w c ⟨by omega, hw, by omega⟩ (fun q hq => hus q (List.mem_cons_of_mem _ (List.mem_append_left _ hq)))
        have hB : (idl (uo G) K (s' + 1) true w (max 0 (h - c - K))).1 = (idl (uo F) K (s' + 1) true w (max 0 (h - c - K))).1 ∧ (if 0 < h - c - K then ns (chs G K (s' + 1) true) K rl' true n x (y + c + K) w (h - c - K) else []) = (if 0 < h - c - K then ns (chs F K (s' + 1) true) K rl true n x (y + c + K) w (h - c - K) else []) := by
          by_cases hz : 0 < h - c - K
          · have e3 : max 0 (h - c - K) = h - c - K := by omega
            rw [if_pos hz] at hus
            rw [if_pos hz, if_pos hz, e3]
            have := ns_same (d := true) hK hS hs hrec n x (y + c + K) w (h - c - K) ⟨hs, hw, by omega⟩ (by show h - c - K ≤ (n : Int); have : h ≤ ((n + 1 : Nat) : Int) := hn; omega) (fun q hq => hus q (List.mem_cons_of_mem _ (List.mem_append_right _ hq)))
            exact ⟨congrArg Prod.fst this.1, this.2⟩
          · have e3 : max 0 (h - c - K) = 0 := by omega
            rw [if_neg hz, if_neg hz, e3]
            exact ⟨rfl, rfl⟩
        have e : idl (uo G) K (s' + 1) true w h = idl (uo F) K (s' + 1) true w h := by
          have h2' : (idl (uo F) K (s' + 1) true w h).2 = 8 + c := hc0
          rw [idl_e1 hK hh.1] at h2'
          rw [idl_e1 hK hh.1, idl_e1 hK hh.1]
          refine fm_same (k := c) hu8 hle hcp ?_ _ (fun c' h1 h2 => ?_) h2'
          · skip
            have q1 : idl (uo G) K s' false w c = idl (uo F) K s' false w c := hrA.1
            rw [q1, hB.1]
          · have a1 := id_le' (d := false) hK hS (s := s') (w := w) (h := c') ⟨by omega, hw, by omega⟩
            skip
            by_cases hz : 1 ≤ h - c' - K
            · have e3 : max 0 (h - c' - K) = h - c' - K := by omega
              have a2 := id_le' (d := true) hK hS (s := s' + 1) (w := w) (h := h - c' - K) ⟨hs, hw, by omega⟩
              rw [e3]
              omega
            · have e3 : max 0 (h - c' - K) = 0 := by omega
              rw [e3]
              show _ + (0 : Int) - 1 ≤ _ + (0 : Int) - 1
              omega
        refine ⟨e, ?_⟩
        have ec : chs G K (s' + 1) true w h = chs F K (s' + 1) true w h := congrArg Prod.snd e
        rw [ec, hc0, if_neg (show ¬ 8 + c ≤ 8 by omega), show 8 + c - 8 = c by omega, hB.2, hrA.2]
theorem nod_same (hK : 0 ≤ K) (hS : SUB G F) : ∀ (s : Nat) (d : Bool) (x y w h : Int), rg s w h → US G F (nod (chs F K) K s d x y w h) → idl (uo G) K s d w h = idl (uo F) K s d w h ∧ nod (chs G K) K s d x y w h = nod (chs F K) K s d x y w h
  | 0, d, x, y, w, h, hr, hus => ns_same hK hS hr.1 (fun s' e => by omega) 16 x y w h hr (by have := hr.2.1; have := hr.2.2; cases d <;> (simp; omega)) hus
  | s + 1, d, x, y, w, h, hr, hus => ns_same hK hS hr.1 (fun s' e x y w h hq hu => by
      have e2 : s' = s := by omega
      rw [e2] at hq ⊢
      exact nod_same hK hS s (!d) x y w h hq hu) 16 x y w h hr (by have := hr.2.1; have := hr.2.2; cases d <;> (simp; omega)) hus
/-- the way of a sheet -/
def wyd (F : Nat → Int → Int → Bool) (K : Int) (S : Nat) (w h : Int) : Bool := decide ((idl (uo F) K S false w h).1 < (idl (uo F) K S true w h).1)
theorem tree_same {S : Nat} {w h : Int} (hK : 0 ≤ K) (hS : SUB G F) (hr : rg S w h) (hus : US G F (nod (chs F K) K S (wyd F K S w h) 0 0 w h)) : wyd G K S w h = wyd F K S w h ∧ nod (chs G K) K S (wyd G K S w h) 0 0 w h = nod (chs F K) K S (wyd F K S w h) 0 0 w h := by
  have key := nod_same hK hS S _ 0 0 w h hr hus
  have l0 := id_le' (d := false) hK hS hr
  have l1 := id_le' (d := true) hK hS hr
  have e : wyd G K S w h = wyd F K S w h := by
    cases q : wyd F K S w h with
    | false =>
      rw [q] at key
      have q2 := of_decide_eq_false q
      have k1 := congrArg Prod.fst key.1
      exact decide_eq_false (by omega)
    | true =>
      rw [q] at key
      have q2 := of_decide_eq_true q
      have k1 := congrArg Prod.fst key.1
      exact decide_eq_true (by omega)
  rw [e]
  exact ⟨rfl, key.2⟩
end MO
