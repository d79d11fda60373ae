/-! pure: the reference's choices; what a walk keeps; longs by value -/
theorem MCH_up {T : mt_T} {s d w h v c x : Int} (hC : MCH T.2.2) (hs : 0 ≤ s ∧ s ≤ 3) (hd : 0 ≤ d ∧ d ≤ 1) (hw : 1 ≤ w ∧ w ≤ 16) (hh : 1 ≤ h ∧ h ≤ 16) (hx : (x = -1 ∨ (0 ≤ x ∧ x < 8)) ∨ (16 < x ∧ 1 ≤ s ∧ x - 16 < (if d = 0 then w else h))) : MCH (bt_up (mp s d w h).toNat v c x T).2.2 := by
  intro s' d' w' h' a1 a2 a3 a4 a5 a6 a7 a8
  show (va_up T.2.2 _ x _ = -1 ∨ (0 ≤ va_up T.2.2 _ x _ ∧ va_up T.2.2 _ x _ < 8)) ∨ (16 < va_up T.2.2 _ x _ ∧ 1 ≤ s' ∧ va_up T.2.2 _ x _ - 16 < _)
  by_cases e : (mp s' d' w' h').toNat = (mp s d w h).toNat
  · obtain ⟨e1, e2, e3, e4⟩ := mp_ne ⟨a1, a2⟩ ⟨a3, a4⟩ ⟨by omega, a6⟩ ⟨by omega, a8⟩ hs hd ⟨by omega, hw.2⟩ ⟨by omega, hh.2⟩ e
    subst e1; subst e2; subst e3; subst e4
    rw [va_up_self]
    exact hx
  · rw [va_up_ne _ _ e]
    exact hC s' d' w' h' a1 a2 a3 a4 a5 a6 a7 a8
theorem MCH_bt {T : mt_T} {s d w h v c x : Int} (hC : MCH T.2.2) (hs : 0 ≤ s ∧ s ≤ 3) (hd : 0 ≤ d ∧ d ≤ 1) (hw : 1 ≤ w ∧ w ≤ 16) (hh : 1 ≤ h ∧ h ≤ 16) (hx : (x = -1 ∨ (0 ≤ x ∧ x < 8)) ∨ (16 < x ∧ 1 ≤ s ∧ x - 16 < (if d = 0 then w else h))) : MCH (bt (mp s d w h).toNat v c x T).2.2 := by
  unfold bt
  split
  · exact MCH_up hC hs hd hw hh hx
  · exact hC
theorem MCH_p {pw ph tu wa : Nat → Int} {s d w h : Int} {T : mt_T} (hC : MCH T.2.2) (hs : 0 ≤ s ∧ s ≤ 3) (hd : 0 ≤ d ∧ d ≤ 1) (hw : 1 ≤ w ∧ w ≤ 16) (hh : 1 ≤ h ∧ h ≤ 16) : ∀ k : Nat, k ≤ 8 → MCH (fo_p pw ph tu wa (mp s d w h).toNat w h T k).2.2
  | 0, _ => hC
  | k + 1, hk => by
    have ih := MCH_p (pw := pw) (ph := ph) (tu := tu) (wa := wa) hC hs hd hw hh k (by omega)
    unfold fo_p
    split
    · exact MCH_bt ih hs hd hw hh (Or.inl (Or.inr (by omega)))
    · exact ih
theorem MCH_c {K s d w h : Int} {T : mt_T} (hC : MCH T.2.2) (hs : 1 ≤ s ∧ s ≤ 3) (hd : d = 0 ∨ d = 1) (hw : 1 ≤ w ∧ w ≤ 16) (hh : 1 ≤ h ∧ h ≤ 16) : ∀ n : Nat, (n : Int) < (if d = 0 then w else h) → MCH (fo_c K s d w h T n).2.2
  | 0, _ => hC
  | n + 1, hn => by
    have ih := MCH_c (K := K) hC hs hd hw hh n (by omega)
    unfold fo_c
    exact MCH_bt ih (by omega) (by omega) hw hh (Or.inr ⟨by omega, hs.1, by omega⟩)
theorem MCH_fo {pw ph tu wa : Nat → Int} {nP : Nat} {K s d w h : Int} {T : mt_T} (hC : MCH T.2.2) (hP : nP ≤ 8) (hs : 0 ≤ s ∧ s ≤ 3) (hd : d = 0 ∨ d = 1) (hw : 1 ≤ w ∧ w ≤ 16) (hh : 1 ≤ h ∧ h ≤ 16) : MCH (fo pw ph tu wa nP K s d w h T).2.2 := by
  have h1 : MCH (fo_p pw ph tu wa (mp s d w h).toNat w h (bt_up (mp s d w h).toNat 0 0 (-1) T) nP).2.2 := MCH_p (MCH_up hC hs (by omega) hw hh (Or.inl (Or.inl rfl))) hs (by omega) hw hh nP hP
  unfold fo fo_L
  split
  · exact MCH_c h1 (by omega) hd hw hh _ (by rcases hd with rfl | rfl <;> simp <;> omega)
  · exact h1
theorem MCH_fw {pw ph tu wa : Nat → Int} {nP : Nat} {K s d h : Int} {T : mt_T} (hC : MCH T.2.2) (hP : nP ≤ 8) (hs : 0 ≤ s ∧ s ≤ 3) (hd : d = 0 ∨ d = 1) (hh : 1 ≤ h ∧ h ≤ 16) : ∀ n : Nat, n ≤ 16 → MCH (fi_w pw ph tu wa nP K s d h T n).2.2
  | 0, _ => hC
  | n + 1, hn => MCH_fo (MCH_fw hC hP hs hd hh n (by omega)) hP hs hd (by omega) hh
theorem MCH_fh {pw ph tu wa : Nat → Int} {nP : Nat} {K s d : Int} {T : mt_T} (hC : MCH T.2.2) (hP : nP ≤ 8) (hs : 0 ≤ s ∧ s ≤ 3) (hd : d = 0 ∨ d = 1) : ∀ n : Nat, n ≤ 16 → MCH (fi_h pw ph tu wa nP K s d T n).2.2
  | 0, _ => hC
  | n + 1, hn => MCH_fw (MCH_fh hC hP hs hd n (by omega)) hP hs hd (by omega) 16 (by omega)
theorem MCH_fd {pw ph tu wa : Nat → Int} {nP : Nat} {K s : Int} {T : mt_T} (hC : MCH T.2.2) (hP : nP ≤ 8) (hs : 0 ≤ s ∧ s ≤ 3) : ∀ n : Nat, n ≤ 2 → MCH (fi_d pw ph tu wa nP K s T n).2.2
  | 0, _ => hC
  | n + 1, hn => MCH_fh (MCH_fd hC hP hs n (by omega)) hP hs (by omega) 16 (by omega)
theorem MCH_fs {pw ph tu wa : Nat → Int} {nP : Nat} {K : Int} {T : mt_T} (hC : MCH T.2.2) (hP : nP ≤ 8) : ∀ n : Nat, n ≤ 4 → MCH (fi_s pw ph tu wa nP K T n).2.2
  | 0, _ => hC
  | n + 1, hn => MCH_fd (MCH_fs hC hP n (by omega)) hP (by omega) 2 (by omega)
theorem MWI_go {ch : Nat → Int} {K le t : Int} (hC : MCH ch) (hK : 0 ≤ K) : ∀ (f : Nat) (u : mw_T), MWI t u → MWI t (mw_go ch K le t f u)
  | 0, u, h => h
  | f + 1, u, h => by
    unfold mw_go
    cases hn : u.n with
    | zero => exact h
    | succ k => exact MWI_go hC hK f _ (MWI_step hC hK hn h).1
theorem mw_all_ok {T : mt_T} {K le S t w h : Int} {wa : Nat → Int} {u : mw_T} (hC : MCH T.2.2) (hK : 0 ≤ K) (hS : 0 ≤ S ∧ S ≤ 3) (hw : 1 ≤ w ∧ w ≤ 16) (hh : 1 ≤ h ∧ h ≤ 16) (hwa : ∀ i : Nat, i < 8 → 0 ≤ wa i ∧ wa i ≤ 50) : (0 ≤ (mw_all T K le S t w h wa u).ta t.toNat ∧ (mw_all T K le S t w h wa u).ta t.toNat ≤ 256) ∧ ∀ p : Nat, p < 8 → 0 ≤ (mw_all T K le S t w h wa u).st p ∧ (mw_all T K le S t w h wa u).st p ≤ 50 := by
  have h1 := MWI_go (le := le) hC hK 512 _ (MWI_0 (T := T) (t := t) (u := u) hS hw hh hwa).1
  have h2 := SA_ge _ h1.1
  have h3 := h1.2.2.2.1
  refine ⟨⟨h3.1, ?_⟩, h1.2.2.2.2⟩
  have h4 := h3.2
  unfold mw_all
  omega
def iL (z : Int) : Int64 := Int64.ofInt z
theorem iL_mul (a b : Int) : iL a * iL b = iL (a * b) := (Int64.ofInt_mul a b).symm
theorem iL_toInt {z : Int} (h1 : -9223372036854775808 ≤ z) (h2 : z < 9223372036854775808) : (iL z).toInt = z := Int64.toInt_ofInt_of_le (by omega) (by omega)
theorem iL_of {z : Int} (h1 : -2147483648 ≤ z) (h2 : z < 2147483648) : (iI z).toInt64 = iL z := by
  apply Int64.toInt_inj.mp
  rw [Int32.toInt_toInt64, iI_toInt h1 h2, iL_toInt (by omega) (by omega)]
def cmz (a b : Int) : Int := if b < a then 1 else if a = b then 0 else -1

