/-! pure: the class's uncut pieces; fill -/
def fit (R : Nat → pa_T) (m p : Nat) (w h : Int) : Bool := decide (m / 2 ^ p % 2 = 1 ∧ (((R p).1 = w ∧ (R p).2.1 = h) ∨ (¬ (R p).2.2.1 = 0 ∧ (R p).2.1 = w ∧ (R p).1 = h)))
abbrev ux (R : Nat → pa_T) (m : Nat) : Int → Int → Int × Int := uo (fit R m)
/-- stage 0 as v says, the other stages empty -/
def WC (v : Int → Int → Int × Int) (T : tp_T) : Prop := ∀ (s : Nat) (d : Bool) (w h : Int), s ≤ 3 → (0 ≤ w ∧ w ≤ 16) → (0 ≤ h ∧ h ≤ 16) → T.1 (pl_at s (bz d) w h).toNat = (if s = 0 then (v w h).1 else 0) ∧ T.2 (pl_at s (bz d) w h).toNat = (if s = 0 then (v w h).2 else 8)
theorem WC_pp {v : Int → Int → Int × Int} {T : tp_T} {p w0 h0 : Int} (h : WC v T) (hw : 0 ≤ w0 ∧ w0 ≤ 16) (hh : 0 ≤ h0 ∧ h0 ≤ 16) : WC (fun w h => if w = w0 ∧ h = h0 then (w0 * h0 * 1024, p) else v w h) (pp_up p w0 h0 T) := by
  intro s d w h' hs hw' hh'
  obtain ⟨a1, a2⟩ := h s d w h' hs hw' hh'
  show va_up (va_up T.1 _ _) _ _ _ = _ ∧ va_up (va_up T.2 _ _) _ _ _ = _
  have i0 : (pl_at s (bz d) w h').toNat = (pl_at 0 0 w0 h0).toNat ↔ s = 0 ∧ d = false ∧ w = w0 ∧ h' = h0 := by
    refine ⟨fun q => pl_inj (s' := 0) (d' := false) hs (by omega) hw' hh' hw hh q, ?_⟩
    rintro ⟨rfl, rfl, rfl, rfl⟩
    rfl
  have i1 : (pl_at s (bz d) w h').toNat = (pl_at 0 1 w0 h0).toNat ↔ s = 0 ∧ d = true ∧ w = w0 ∧ h' = h0 := by
    refine ⟨fun q => pl_inj (s' := 0) (d' := true) hs (by omega) hw' hh' hw hh q, ?_⟩
    rintro ⟨rfl, rfl, rfl, rfl⟩
    rfl
  by_cases e0 : (pl_at s (bz d) w h').toNat = (pl_at 0 0 w0 h0).toNat
  · obtain ⟨q1, q2, q3, q4⟩ := i0.mp e0
    have n1 : ¬ (pl_at s (bz d) w h').toNat = (pl_at 0 1 w0 h0).toNat := fun q => by
      have := (i1.mp q).2.1
      rw [q2] at this
      exact absurd this (by decide)
    rw [va_up_ne _ _ n1, va_up_ne _ _ n1, e0, va_up_self, va_up_self, if_pos q1, if_pos q1]
    dsimp only
    rw [if_pos ⟨q3, q4⟩]
    exact ⟨rfl, rfl⟩
  · by_cases e1 : (pl_at s (bz d) w h').toNat = (pl_at 0 1 w0 h0).toNat
    · obtain ⟨q1, q2, q3, q4⟩ := i1.mp e1
      rw [e1, va_up_self, va_up_self, if_pos q1, if_pos q1]
      dsimp only
      rw [if_pos ⟨q3, q4⟩]
      exact ⟨rfl, rfl⟩
    · rw [va_up_ne _ _ e1, va_up_ne _ _ e1, va_up_ne _ _ e0, va_up_ne _ _ e0, a1, a2]
      by_cases hs0 : s = 0
      · have n2 : ¬ (w = w0 ∧ h' = h0) := fun q => by
          cases d with
          | false => exact e0 (i0.mpr ⟨hs0, rfl, q.1, q.2⟩)
          | true => exact e1 (i1.mpr ⟨hs0, rfl, q.1, q.2⟩)
        rw [if_pos hs0, if_pos hs0, if_pos hs0, if_pos hs0]
        dsimp only
        rw [if_neg n2]
        exact ⟨rfl, rfl⟩
      · rw [if_neg hs0, if_neg hs0, if_neg hs0, if_neg hs0]
        exact ⟨rfl, rfl⟩
theorem WC_ext {v v' : Int → Int → Int × Int} {T : tp_T} (h : WC v T) (he : ∀ w h : Int, v w h = v' w h) : WC v' T := by
  have e : v = v' := funext fun w => funext fun h => he w h
  rw [← e]
  exact h
theorem WC_wc {R : Nat → pa_T} {m : Nat} {T : tp_T} (hP : PW R m) : ∀ k : Nat, k ≤ 8 → WC (fun w h => ud (fit R m) w h k) (wc_dn R m T k)
  | 0, _ => by
    intro s d w h hs hw hh
    have hb := bz_r d
    have h1 : (pl_at s (bz d) w h).toNat < 2312 := by unfold pl_at; omega
    show (if _ < 2312 then (0 : Int) else _) = _ ∧ (if _ < 2312 then (8 : Int) else _) = _
    rw [if_pos h1, if_pos h1]
    split <;> exact ⟨rfl, rfl⟩
  | k + 1, hk => by
    have ih := WC_wc (T := T) hP k (by omega)
    show WC _ (wc_at R m (7 - k) (wc_dn R m T k))
    unfold wc_at
    have hu : ∀ w h : Int, ud (fit R m) w h (k + 1) = if fit R m (7 - k) w h = true then (w * h * 1024, ((7 - k : Nat) : Int)) else ud (fit R m) w h k := fun w h => rfl
    by_cases hb : m / 2 ^ (7 - k) % 2 = 1
    · rw [if_pos hb]
      obtain ⟨h1, h2⟩ := hP (7 - k) (by omega) hb
      by_cases ht : (R (7 - k)).2.2.1 = 0
      · rw [if_pos ht]
        refine WC_ext (WC_pp (p := ((7 - k : Nat) : Int)) ih (by omega) (by omega)) (fun w h => ?_)
        rw [hu]
        by_cases e : w = (R (7 - k)).1 ∧ h = (R (7 - k)).2.1
        · rw [if_pos e, if_pos (by unfold fit; exact decide_eq_true ⟨hb, Or.inl ⟨e.1.symm, e.2.symm⟩⟩), e.1, e.2]
        · rw [if_neg e, if_neg (fun q => by
            have := of_decide_eq_true q
            rcases this.2 with ⟨x, y⟩ | ⟨x, _⟩
            · exact e ⟨x.symm, y.symm⟩
            · exact x ht)]
      · rw [if_neg ht]
        refine WC_ext (WC_pp (p := ((7 - k : Nat) : Int)) (WC_pp (p := ((7 - k : Nat) : Int)) ih (by omega) (by omega)) (by omega) (by omega)) (fun w h => ?_)
        rw [hu]
        by_cases e2 : w = (R (7 - k)).2.1 ∧ h = (R (7 - k)).1
        · rw [if_pos e2, if_pos (by unfold fit; exact decide_eq_true ⟨hb, Or.inr ⟨ht, e2.1.symm, e2.2.symm⟩⟩), e2.1, e2.2]
        · rw [if_neg e2]
          by_cases e : w = (R (7 - k)).1 ∧ h = (R (7 - k)).2.1
          · rw [if_pos e, if_pos (by unfold fit; exact decide_eq_true ⟨hb, Or.inl ⟨e.1.symm, e.2.symm⟩⟩), e.1, e.2]
          · rw [if_neg e, if_neg (fun q => by
              have := of_decide_eq_true q
              rcases this.2 with ⟨x, y⟩ | ⟨_, x, y⟩
              · exact e ⟨x.symm, y.symm⟩
              · exact e2 ⟨x.symm, y.symm⟩)]
    · rw [if_neg hb]
      refine WC_ext ih (fun w h => ?_)
      rw [hu, if_neg (fun q => hb (of_decide_eq_true q).1)]
theorem fit_pos {R : Nat → pa_T} {m p : Nat} {w h : Int} (hP : PW R m) (hp : p < 8) (hf : fit R m p w h = true) : 1 ≤ w ∧ 1 ≤ h := by
  have h1 := of_decide_eq_true hf
  have h2 := hP p hp h1.1
  rcases h1.2 with ⟨x, y⟩ | ⟨_, x, y⟩ <;> omega
theorem CTb_wc {R : Nat → pa_T} {m : Nat} {K : Int} {T : tp_T} (hP : PW R m) : CTb (ux R m) K (wc_dn R m T 8) (fun s' _ _ _ => s' ≤ 0) := by
  have h := WC_wc (T := T) hP 8 (by omega)
  have z : ∀ w h : Int, (w = 0 ∨ h = 0) → (ud (fit R m) w h 8).1 = 0 := fun w h hz => by
    have e : uo (fit R m) w h = (0, 8) := uo_none (fun p hp => by
      cases q : fit R m p w h with
      | false => rfl
      | true =>
        have := fit_pos hP hp q
        omega)
    show (uo (fit R m) w h).1 = 0
    rw [e]
  refine ⟨fun s d a hs h1 h2 => ?_, fun s d w h' hr hd => ?_⟩
  · rw [(h s d 0 a hs (by omega) (by omega)).1, (h s d a 0 hs (by omega) (by omega)).1, z 0 a (Or.inl rfl), z a 0 (Or.inr rfl)]
    split <;> exact ⟨rfl, rfl⟩
  · have e : s = 0 := by omega
    subst e
    have := h 0 d w h' (by omega) (by have := hr.2.1; omega) (by have := hr.2.2; omega)
    rw [if_pos rfl, if_pos rfl] at this
    exact this
/-- the tables that stand are the ideal ones of the parts W, up to stage F -/
def IT (K : Int) (R : Nat → pa_T) (W F : Int) (T : tp_T) : Prop := ∀ m : Nat, (m : Int) = W → CTb (ux R m) K T (fun s' _ _ _ => (s' : Int) ≤ F)
theorem IT_fl {K : Int} {R : Nat → pa_T} {m : Nat} {S W F : Int} {T : tp_T} (hK : 0 ≤ K) (hS : 0 ≤ S ∧ S ≤ 3) (hF : 0 ≤ F ∧ F ≤ 3) (hP : PW R m) (hT : IT K R W F T) : CTb (ux R m) K (fl_T K R m S W F T) (fun s' _ _ _ => (s' : Int) ≤ fl_G m S W F) ∧ S ≤ fl_G m S W F := by
  unfold fl_T fl_T1 fl_G fl_F
  by_cases e : (m : Int) = W
  · simp only [if_pos e]
    obtain ⟨f, rfl⟩ : ∃ f : Nat, F = (f : Int) := ⟨F.toNat, by omega⟩
    refine ⟨CTb_mono (CTb_g hK (CTb_mono (hT m e) (fun s' _ _ _ _ q => ?_)) _ (by omega)) (fun s' _ _ _ _ q => ?_), by omega⟩
    · show (s' : Int) ≤ (f : Int)
      omega
    · show s' ≤ f + (S - (f : Int)).toNat
      omega
  · simp only [if_neg e]
    refine ⟨CTb_mono (CTb_g (F := 0) hK (CTb_wc hP) _ (by omega)) (fun s' _ _ _ _ q => ?_), by omega⟩
    show s' ≤ 0 + (S - 0).toNat
    omega
theorem ux_ext {R R' : Nat → pa_T} {m : Nat} (h : ∀ p : Nat, p < 8 → m / 2 ^ p % 2 = 1 → (R p).1 = (R' p).1 ∧ (R p).2.1 = (R' p).2.1 ∧ (R p).2.2.1 = (R' p).2.2.1) : ux R m = ux R' m := by
  have key : ∀ k : Nat, ∀ w h : Int, ud (fit R m) w h k = ud (fit R' m) w h k := by
    intro k
    induction k with
    | zero => exact fun _ _ => rfl
    | succ k ih =>
      intro w h'
      have e : fit R m (7 - k) w h' = fit R' m (7 - k) w h' := by
        unfold fit
        by_cases hb : m / 2 ^ (7 - k) % 2 = 1
        · obtain ⟨e1, e2, e3⟩ := h (7 - k) (by omega) hb
          rw [e1, e2, e3]
        · simp only [hb, false_and]
      unfold ud
      rw [e, ih]
  funext w h'
  exact key 8 w h'
