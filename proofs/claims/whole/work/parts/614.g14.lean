/-! pure: class and reference between calls -/
theorem sumL_le {R : Nat → pa_T} (h : ∀ p : Nat, p < 8 → (R p).2.2.2.2 ≤ 50) : ∀ n : Nat, n ≤ 8 → sumL R n ≤ 50 * (n : Int)
  | 0, _ => by show (0 : Int) ≤ 50 * ((0 : Nat) : Int); omega
  | n + 1, hn => by
    have ih := sumL_le h n (by omega)
    have := h n (by omega)
    show sumL R n + (R n).2.2.2.2 ≤ 50 * ((n + 1 : Nat) : Int)
    omega
theorem sumL_ge0 {R : Nat → pa_T} (h : ∀ p : Nat, p < 8 → 0 ≤ (R p).2.2.2.2) : ∀ n : Nat, n ≤ 8 → 0 ≤ sumL R n
  | 0, _ => Int.le_refl 0
  | n + 1, hn => by
    have ih := sumL_ge0 h n (by omega)
    have := h n (by omega)
    show 0 ≤ sumL R n + (R n).2.2.2.2
    omega
theorem CX_ext {ar ar' : Nat → Int} {m : Nat} {ch : Nat → Int} (h : CX ar m ch) (he : ∀ p : Nat, p < 8 → bitm m p → ar' p = ar p) : CX ar' m ch := by
  intro s d w h' a1 a2 a3 a4 a5 a6 a7 a8
  obtain ⟨b1, b2, b3⟩ := h s d w h' a1 a2 a3 a4 a5 a6 a7 a8
  refine ⟨b1, b2, fun q => ?_⟩
  obtain ⟨c1, c2⟩ := b3 q
  exact ⟨c1, by rw [he _ (by omega) c1]; exact c2⟩
/-- class (nS, nP, nC, rn, u) and reference (rows, r) after some calls -/
def LR (K : Int) (S nS nP nC : Nat) (rn : Int) (u : RS) (sw sh ce sk pw ph co tu : Nat → Int) (r : mr_T) : Prop :=
  (nS ≤ 4 ∧ nP ≤ 8 ∧ nC ≤ 20 ∧ (rn = 0 ∨ rn = 1))
  ∧ (∀ k : Nat, k < nS → SO (u.Sh k) ∧ (u.Sh k).1 = sw k ∧ (u.Sh k).2.1 = sh k ∧ (u.Sh k).2.2.1 = ce k ∧ (u.Sh k).2.2.2.1 = sk k)
  ∧ (∀ k : Nat, k < 4 → (0 ≤ sk k ∧ sk k ≤ 20) ∧ 0 ≤ (u.Sh k).2.2.2.2 ∧ (u.Sh k).2.2.2.2 ≤ 20)
  ∧ (∀ p : Nat, p < 8 → PO (u.R p) ∧ (u.R p).1 = pw p ∧ (u.R p).2.1 = ph p ∧ (u.R p).2.2.1 = tu p ∧ (u.R p).2.2.2.1 = co p)
  ∧ (PZ u.R ∧ (∀ p : Nat, p < nP → 1 ≤ (u.R p).1 ∧ 1 ≤ (u.R p).2.1) ∧ ∀ p : Nat, nP ≤ p → p < 8 → (u.R p).2.2.2.2 = 0)
  ∧ (HT (ar_of u.R) u.W u.T ∧ (-1 ≤ u.W ∧ u.W < 256) ∧ (0 ≤ u.F ∧ u.F ≤ 3) ∧ IT K u.R u.W u.F u.T ∧ ∀ m : Nat, (m : Int) = u.W → ∀ p : Nat, p < 8 → bitm m p → p < nP)
  ∧ (∀ k : Nat, k < 20 → 0 ≤ u.Cs k 0 ∧ u.Cs k 0 < 4)
  ∧ (MI r.2.2.2.2.2 ∧ MCH r.2.2.2.2.2.2.2 ∧ BG (0, 0, r.2.2.1, r.2.2.2.1, r.2.2.2.2.1))
  ∧ (rn = 1 → (∀ p : Nat, p < 8 → r.1 p = (u.R p).2.2.2.2) ∧ (∃ (R0 : Nat → pa_T) (m0 : Nat), ∀ j : Nat, j < nC → QR K S nS R0 sw sh ce m0 u r.2.2.1 r.2.2.2.1 r.2.2.2.2.1.2.2 j) ∧ BU u.nT u.nR u.tk u.rs ∧ u.nT ≤ 400 ∧ u.nR ≤ 5120)
section LRS
variable {K le : Int} {S nS nP nC : Nat} {rn : Int} {u : RS} {sw sh ce sk pw ph co tu : Nat → Int} {r : mr_T}
theorem LR_sheet {w h c n : Int} (hL : LR K S nS nP nC rn u sw sh ce sk pw ph co tu r) (hn : nS < 4) (hw : 1 ≤ w ∧ w ≤ 16) (hh : 1 ≤ h ∧ h ≤ 16) (hc : 1 ≤ c ∧ c ≤ 10000) (hk : 0 ≤ n ∧ n ≤ 20) : LR K S (nS + 1) nP nC 0 (u.nT, u.nR, u.tk, u.rs, u.R, va_up u.Sh nS ((w, h, c, n, (u.Sh nS).2.2.2.2) : pa_T), u.Cs, u.way, u.st, u.T, u.W, u.F) (va_up sw nS w) (va_up sh nS h) (va_up ce nS c) (va_up sk nS n) pw ph co tu r := by
  obtain ⟨l1, l2, l3, l4, l5, l6, l7, l8, l9⟩ := hL
  refine ⟨⟨by omega, l1.2.1, l1.2.2.1, Or.inl rfl⟩, fun k hk2 => ?_, fun k hk2 => ?_, l4, l5, l6, l7, l8, fun q => by omega⟩
  · show SO (va_up u.Sh nS _ k) ∧ (va_up u.Sh nS _ k).1 = va_up sw nS w k ∧ (va_up u.Sh nS _ k).2.1 = va_up sh nS h k ∧ (va_up u.Sh nS _ k).2.2.1 = va_up ce nS c k ∧ (va_up u.Sh nS _ k).2.2.2.1 = va_up sk nS n k
    by_cases e : k = nS
    · subst e
      rw [va_up_self, va_up_self, va_up_self, va_up_self, va_up_self]
      exact ⟨⟨hw, hh, hc, (l3 k hn).2⟩, rfl, rfl, rfl, rfl⟩
    · rw [va_up_ne _ _ e, va_up_ne _ _ e, va_up_ne _ _ e, va_up_ne _ _ e, va_up_ne _ _ e]
      exact l2 k (by omega)
  · show (0 ≤ va_up sk nS n k ∧ va_up sk nS n k ≤ 20) ∧ 0 ≤ (va_up u.Sh nS _ k).2.2.2.2 ∧ (va_up u.Sh nS _ k).2.2.2.2 ≤ 20
    by_cases e : k = nS
    · subst e
      rw [va_up_self, va_up_self]
      exact ⟨hk, (l3 k hn).2⟩
    · rw [va_up_ne _ _ e, va_up_ne _ _ e]
      exact l3 k hk2
/-- a part's row changes that is not in the tables, or keeps its size -/
theorem LR_tab {p0 : Nat} {z : pa_T} (hp0 : p0 < 8) (h6 : HT (ar_of u.R) u.W u.T ∧ IT K u.R u.W u.F u.T) (hz : (∃ m : Nat, (m : Int) = u.W ∧ bitm m p0) → z.1 = (u.R p0).1 ∧ z.2.1 = (u.R p0).2.1 ∧ z.2.2.1 = (u.R p0).2.2.1) : HT (ar_of (va_up u.R p0 z)) u.W u.T ∧ IT K (va_up u.R p0 z) u.W u.F u.T := by
  refine ⟨fun m hm => ⟨(h6.1 m hm).1, CX_ext (h6.1 m hm).2 (fun p hp hb => ?_)⟩, fun m hm => ?_⟩
  · show (va_up u.R p0 z p).1 * (va_up u.R p0 z p).2.1 = (u.R p).1 * (u.R p).2.1
    by_cases e : p = p0
    · subst e
      obtain ⟨a, b, _⟩ := hz ⟨m, hm, hb⟩
      rw [va_up_self, a, b]
    · rw [va_up_ne _ _ e]
  · have e : ux (va_up u.R p0 z) m = ux u.R m := ux_ext (fun p hp hb => by
      by_cases e : p = p0
      · subst e
        rw [va_up_self]
        exact hz ⟨m, hm, hb⟩
      · rw [va_up_ne _ _ e]
        exact ⟨rfl, rfl, rfl⟩)
    rw [e]
    exact h6.2 m hm
theorem LR_part {w h n t : Int} (hL : LR K S nS nP nC rn u sw sh ce sk pw ph co tu r) (hn : nP < 8) (hw : 1 ≤ w ∧ w ≤ 16) (hh : 1 ≤ h ∧ h ≤ 16) (hk : 0 ≤ n ∧ n ≤ 50) (ht : t = 0 ∨ t = 1) : LR K S nS (nP + 1) nC 0 (u.nT, u.nR, u.tk, u.rs, va_up u.R nP ((w, h, t, n, (u.R nP).2.2.2.2) : pa_T), u.Sh, u.Cs, u.way, u.st, u.T, u.W, u.F) sw sh ce sk (va_up pw nP w) (va_up ph nP h) (va_up co nP n) (va_up tu nP t) r := by
  obtain ⟨l1, l2, l3, l4, l5, l6, l7, l8, l9⟩ := hL
  have hT := LR_tab (K := K) (u := u) (p0 := nP) (z := ((w, h, t, n, (u.R nP).2.2.2.2) : pa_T)) hn ⟨l6.1, l6.2.2.2.1⟩ (fun q => by
    obtain ⟨m, h1, h2⟩ := q
    have := l6.2.2.2.2 m h1 nP hn h2
    omega)
  have hp := (l4 nP hn).1
  unfold PO at hp
  refine ⟨⟨l1.1, by omega, l1.2.2.1, Or.inl rfl⟩, l2, l3, fun p hp2 => ?_, ⟨fun p hp2 => ?_, fun p hp2 => ?_, fun p h1 h2 => ?_⟩, ⟨hT.1, l6.2.1, l6.2.2.1, hT.2, fun m h1 p h2 h3 => ?_⟩, l7, l8, fun q => by omega⟩
  · show PO (va_up u.R nP _ p) ∧ (va_up u.R nP _ p).1 = va_up pw nP w p ∧ (va_up u.R nP _ p).2.1 = va_up ph nP h p ∧ (va_up u.R nP _ p).2.2.1 = va_up tu nP t p ∧ (va_up u.R nP _ p).2.2.2.1 = va_up co nP n p
    by_cases e : p = nP
    · subst e
      rw [va_up_self, va_up_self, va_up_self, va_up_self, va_up_self]
      exact ⟨⟨by show 0 ≤ w ∧ w ≤ 16; omega, by show 0 ≤ h ∧ h ≤ 16; omega, hk, hp.2.2.2⟩, rfl, rfl, rfl, rfl⟩
    · rw [va_up_ne _ _ e, va_up_ne _ _ e, va_up_ne _ _ e, va_up_ne _ _ e, va_up_ne _ _ e]
      exact l4 p hp2
  · show (va_up u.R nP _ p).2.2.1 = 0 ∨ (va_up u.R nP _ p).2.2.1 = 1
    by_cases e : p = nP
    · rw [e, va_up_self]
      exact ht
    · rw [va_up_ne _ _ e]
      exact l5.1 p hp2
  · show 1 ≤ (va_up u.R nP _ p).1 ∧ 1 ≤ (va_up u.R nP _ p).2.1
    by_cases e : p = nP
    · rw [e, va_up_self]
      exact ⟨hw.1, hh.1⟩
    · rw [va_up_ne _ _ e]
      exact l5.2.1 p (by omega)
  · show (va_up u.R nP _ p).2.2.2.2 = 0
    rw [va_up_ne _ _ (show p ≠ nP by omega)]
    exact l5.2.2 p (by omega) h2
  · have := l6.2.2.2.2 m h1 p h2 h3
    omega
theorem LR_count {k : Nat} {n : Int} (hL : LR K S nS nP nC rn u sw sh ce sk pw ph co tu r) (hk : k < nP) (hn : 0 ≤ n ∧ n ≤ 50) : LR K S nS nP nC 0 (u.nT, u.nR, u.tk, u.rs, va_up u.R k (((u.R k).1, (u.R k).2.1, (u.R k).2.2.1, n, (u.R k).2.2.2.2) : pa_T), u.Sh, u.Cs, u.way, u.st, u.T, u.W, u.F) sw sh ce sk pw ph (va_up co k n) tu r := by
  obtain ⟨l1, l2, l3, l4, l5, l6, l7, l8, l9⟩ := hL
  have h8 : k < 8 := by omega
  have hT := LR_tab (K := K) (u := u) (p0 := k) (z := (((u.R k).1, (u.R k).2.1, (u.R k).2.2.1, n, (u.R k).2.2.2.2) : pa_T)) h8 ⟨l6.1, l6.2.2.2.1⟩ (fun _ => ⟨rfl, rfl, rfl⟩)
  obtain ⟨hp, hp1⟩ := l4 k h8
  unfold PO at hp
  refine ⟨⟨l1.1, l1.2.1, l1.2.2.1, Or.inl rfl⟩, l2, l3, fun p hp2 => ?_, ⟨fun p hp2 => ?_, fun p hp2 => ?_, fun p h1 h2 => ?_⟩, ⟨hT.1, l6.2.1, l6.2.2.1, hT.2, l6.2.2.2.2⟩, l7, l8, fun q => by omega⟩
  · show PO (va_up u.R k _ p) ∧ (va_up u.R k _ p).1 = pw p ∧ (va_up u.R k _ p).2.1 = ph p ∧ (va_up u.R k _ p).2.2.1 = tu p ∧ (va_up u.R k _ p).2.2.2.1 = va_up co k n p
    by_cases e : p = k
    · subst e
      rw [va_up_self, va_up_self]
      exact ⟨⟨hp.1, hp.2.1, hn, hp.2.2.2⟩, hp1.1, hp1.2.1, hp1.2.2.1, rfl⟩
    · rw [va_up_ne _ _ e, va_up_ne _ _ e]
      exact l4 p hp2
  · show (va_up u.R k _ p).2.2.1 = 0 ∨ (va_up u.R k _ p).2.2.1 = 1
    by_cases e : p = k
    · rw [e, va_up_self]
      exact l5.1 k h8
    · rw [va_up_ne _ _ e]
      exact l5.1 p hp2
  · show 1 ≤ (va_up u.R k _ p).1 ∧ 1 ≤ (va_up u.R k _ p).2.1
    by_cases e : p = k
    · rw [e, va_up_self]
      exact l5.2.1 k hk
    · rw [va_up_ne _ _ e]
      exact l5.2.1 p hp2
  · show (va_up u.R k _ p).2.2.2.2 = 0
    rw [va_up_ne _ _ (show p ≠ k by omega)]
    exact l5.2.2 p h1 h2
theorem LR_PW (hL : LR K S nS nP nC rn u sw sh ce sk pw ph co tu r) {m : Nat} (hm : ∀ p : Nat, p < 8 → bitm m p → p < nP) : PW u.R m := fun p hp hb => by
  obtain ⟨l1, l2, l3, l4, l5, _⟩ := hL
  have h1 := l5.2.1 p (hm p hp hb)
  have h2 := (l4 p hp).1
  unfold PO at h2
  omega
/-- the tables' answer -/
theorem LR_worth {w h d s : Int} (hK : 0 ≤ K) (hL : LR K S nS nP nC rn u sw sh ce sk pw ph co tu r) (hw : 1 ≤ w ∧ w ≤ 16) (hh : 1 ≤ h ∧ h ≤ 16) (hd : 0 ≤ d ∧ d ≤ 1) (hs : 0 ≤ s ∧ s ≤ 3) : (rd_scoreAt (fl_T K u.R (pu_m (fun p => (u.R p).2.2.2.1) nP) s u.W u.F u.T).1 (pl_at s d w h) + 1024 - 1).tdiv 1024 = (fi_s pw ph tu (wl co nP r.1 8) nP K r.2.2.2.2.2 4).1 (mp s d w h).toNat ∧ LR K S nS nP nC rn (u.nT, u.nR, u.tk, u.rs, u.R, u.Sh, u.Cs, u.way, u.st, fl_T K u.R (pu_m (fun p => (u.R p).2.2.2.1) nP) s u.W u.F u.T, ((pu_m (fun p => (u.R p).2.2.2.1) nP : Nat) : Int), fl_G (pu_m (fun p => (u.R p).2.2.2.1) nP) s u.W u.F) sw sh ce sk pw ph co tu (cp (wl co nP r.1 8) (cp r.2.2.2.2.1.st r.1 8) 8, r.2.1, r.2.2.1, r.2.2.2.1, (r.2.2.2.2.1.1, r.2.2.2.2.1.2.1, r.2.2.2.2.1.cc, r.2.2.2.2.1.mi, r.2.2.2.2.1.tc, r.2.2.2.2.1.ta, r.2.2.2.2.1.rc, r.2.2.2.2.1.nc, r.2.2.2.2.1.no, r.2.2.2.2.1.tk, r.2.2.2.2.1.rs, cp r.2.2.2.2.1.st r.1 8), fi_s pw ph tu (wl co nP r.1 8) nP K r.2.2.2.2.2 4) := by
  have hL' := hL
  obtain ⟨l1, l2, l3, l4, l5, l6, l7, l8, l9⟩ := hL
  have hbit : ∀ p : Nat, bitm (pu_m (fun p => (u.R p).2.2.2.1) nP) p ↔ p < nP ∧ 0 < (u.R p).2.2.2.1 := fun p => pu_bit nP
  have hPW : PW u.R (pu_m (fun p => (u.R p).2.2.2.1) nP) := LR_PW hL' (fun p _ hb => ((hbit p).mp hb).1)
  generalize hm : pu_m (fun p => (u.R p).2.2.2.1) nP = m at *
  have hm8 : m < 256 := by rw [← hm]; exact pu_256 l1.2.1
  obtain ⟨c1, c2⟩ := IT_fl (S := s) hK hs l6.2.2.1 hPW l6.2.2.2.1
  obtain ⟨t1, t2, t3, t4⟩ := HT_fl (S := s) hK hs l6.2.2.1 hPW l6.1
  have hwl : ∀ p : Nat, p < 8 → wl co nP r.1 8 p = if p < nP then co p else 0 := fun p hp => by rw [wl_at 8 p, if_pos hp]
  have hM := RTb_s (pw := pw) (ph := ph) (tu := tu) (wa := wl co nP r.1 8) (Fit := fit u.R m) (nP := nP) (T := r.2.2.2.2.2) hK l1.2.1 (fun k w h hk => by
    obtain ⟨_, e1, e2, e3, e4⟩ := l4 k (by omega)
    unfold fit jst
    rw [decide_eq_true_iff, hwl k (by omega), if_pos hk, e1, e2, e3]
    have hb2 : m / 2 ^ k % 2 = 1 ↔ k < nP ∧ 0 < (u.R k).2.2.2.1 := hbit k
    rw [hb2, e4]
    constructor
    · rintro ⟨x1, x2⟩
      refine ⟨⟨hk, x1⟩, ?_⟩
      split at x2
      · rename_i hx
        rcases hx with hx | ⟨y1, y2, y3⟩
        · exact Or.inl hx
        · exact Or.inr ⟨y1, y3, y2⟩
      · omega
    · rintro ⟨⟨_, x1⟩, x2⟩
      refine ⟨x1, if_pos ?_⟩
      rcases x2 with x2 | ⟨y1, y2, y3⟩
      · exact Or.inl x2
      · exact Or.inr ⟨y1, y3, y2⟩) (fun k w h h1 h2 => decide_eq_false (fun q => by
    have := (hbit k).mp q.1
    omega)) l8.1 4 (Nat.le_refl _)
  refine ⟨?_, ⟨l1, l2, l3, l4, l5, ⟨HT_of t1 t2, ⟨by show -1 ≤ (m : Int); omega, by show (m : Int) < 256; omega⟩, ⟨t3, t4⟩, fun m' hm' => ?_, fun m' hm' p hp hb => ?_⟩, l7, ⟨MI_fs l8.1 hK 4 (Nat.le_refl _), MCH_fs l8.2.1 l1.2.1 4 (Nat.le_refl _), l8.2.2⟩, fun q => ?_⟩⟩
  · obtain ⟨s', rfl⟩ : ∃ s' : Nat, s = (s' : Int) := ⟨s.toNat, by omega⟩
    obtain ⟨b, rfl⟩ : ∃ b : Bool, d = bz b := by
      rcases (show d = 0 ∨ d = 1 by omega) with rfl | rfl
      · exact ⟨false, rfl⟩
      · exact ⟨true, rfl⟩
    have hr : rg s' w h := ⟨by omega, hw, hh⟩
    rw [rd_pl (by omega) (bz_r b) (by omega) (by omega), (c1.2 s' b w h hr (by show (s' : Int) ≤ _; omega)).1]
    have h1 := (hM.2 s' b w h hr (by omega)).1
    have h2 := hM.1 s' (bz b) w h (by omega) (by omega) (bz_r b).1 (bz_r b).2 hw.1 hw.2 hh.1 hh.2
    have h3 := wh1 hw hh
    have h1' : 1024 * (fi_s pw ph tu (wl co nP r.1 8) nP K r.2.2.2.2.2 4).1 (mp s' (bz b) w h).toNat - (fi_s pw ph tu (wl co nP r.1 8) nP K r.2.2.2.2.2 4).2.1 (mp s' (bz b) w h).toNat = (idl (ux u.R m) K s' b w h).1 := h1
    rw [← h1', Int.tdiv_eq_ediv_of_nonneg (by omega)]
    omega
  · have e : m' = m := by
      have : (m' : Int) = (m : Int) := hm'
      omega
    rw [e]
    exact c1
  · have e : m' = m := by
      have : (m' : Int) = (m : Int) := hm'
      omega
    rw [e] at hb
    exact ((hbit p).mp hb).1
  · obtain ⟨q1, ⟨R0, m0, q2⟩, q3⟩ := l9 q
    refine ⟨fun p hp => ?_, ⟨R0, m0, fun j hj => q2 j hj⟩, q3⟩
    show cp (wl co nP r.1 8) (cp r.2.2.2.2.1.st r.1 8) 8 p = _
    rw [cp_at 8 p, if_pos hp, cp_at 8 p, if_pos hp]
    exact q1 p hp
end LRS
