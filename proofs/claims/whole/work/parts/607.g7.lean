/-! pure: a layout and a walk over the same nodes -/
theorem at_ge {co : Nat → Int} {R : Nat → pa_T} {k : Nat} {v : Int} : ∀ n : Nat, n ≤ k → at_sum (va_up co k v) R n = at_sum co R n
  | 0, _ => rfl
  | n + 1, h => by
    show at_sum (va_up co k v) R n + min (va_up co k v n) (R n).2.2.2.2 * ((R n).1 * (R n).2.1) = at_sum co R n + min (co n) (R n).2.2.2.2 * ((R n).1 * (R n).2.1)
    rw [at_ge n (by omega), va_up_ne _ _ (by omega)]
theorem at_up1 {co : Nat → Int} {R : Nat → pa_T} {k : Nat} {v : Int} : ∀ n : Nat, k < n → at_sum (va_up co k v) R n = at_sum co R n + (min v (R k).2.2.2.2 - min (co k) (R k).2.2.2.2) * ((R k).1 * (R k).2.1)
  | 0, h => by omega
  | n + 1, h => by
    show at_sum (va_up co k v) R n + min (va_up co k v n) (R n).2.2.2.2 * ((R n).1 * (R n).2.1) = at_sum co R n + min (co n) (R n).2.2.2.2 * ((R n).1 * (R n).2.1) + _
    by_cases e : k = n
    · subst e
      rw [at_ge k (by omega), va_up_self, Int.sub_mul]
      omega
    · rw [at_up1 n (by omega), va_up_ne _ _ (fun q => e q.symm)]
      omega
theorem at_0 {co : Nat → Int} {R : Nat → pa_T} (h : ∀ p : Nat, p < 8 → co p = 0 ∧ 0 ≤ (R p).2.2.2.2) : ∀ n : Nat, n ≤ 8 → at_sum co R n = 0
  | 0, _ => rfl
  | n + 1, hn => by
    show at_sum co R n + min (co n) (R n).2.2.2.2 * ((R n).1 * (R n).2.1) = 0
    have h1 := h n (by omega)
    have e : min (co n) (R n).2.2.2.2 = 0 := by omega
    rw [at_0 h n (by omega), e, Int.zero_mul]
    rfl
def I1 (t : Nat) (l : List nd_T) (L : ly_T) (v : mv_T) : Prop := L.1 = (lfc l : Int) ∧ L.2.1 = v.cc t ∧ L.2.2.1 = v.mi t
def I2 (t : Nat) (l : List nd_T) (v : mv_T) : Prop := v.nc t = (l.length : Int) ∧ ∀ (i : Nat) (q : nd_T), l[i]? = some q → v.no (600 * t + i) = dec q.1
def I4 (t : Nat) (R : Nat → pa_T) (co : Nat → Int) (v : mv_T) : Prop := (∀ p : Nat, p < 8 → 0 ≤ co p ∧ v.st p = max 0 ((R p).2.2.2.2 - co p)) ∧ v.ta t = at_sum co R 8
def I5 (l : List nd_T) (co : Nat → Int) : Prop := ∀ p : Nat, p < 8 → (0 < co p ↔ ∃ q ∈ l, q.1 = (p : Int))
def I6 (t : Nat) (v0 v : mv_T) : Prop := (∀ i : Nat, i ≠ t → v.cc i = v0.cc i ∧ v.mi i = v0.mi i ∧ v.tc i = v0.tc i ∧ v.ta i = v0.ta i ∧ v.rc i = v0.rc i ∧ v.nc i = v0.nc i) ∧ (∀ i : Nat, i < 600 * t → v.no i = v0.no i) ∧ (∀ i : Nat, i < 1280 * t → v.tk i = v0.tk i) ∧ ∀ i : Nat, i < 1024 * t → v.rs i = v0.rs i
theorem cstep_co {L : ly_T} {q : nd_T} (h0 : 0 ≤ q.1) : (cstep L q).2.2.2.2 = if q.1 < 8 then va_up L.2.2.2.2 q.1.toNat (L.2.2.2.2 q.1.toNat + 1) else L.2.2.2.2 := by
  unfold cstep
  by_cases h8 : q.1 ≤ 8
  · rw [if_pos h8]
    show (if 0 ≤ q.1 ∧ q.1 < 8 then _ else _) = _
    by_cases h9 : q.1 < 8
    · rw [if_pos ⟨h0, h9⟩, if_pos h9]
    · rw [if_neg (fun z => h9 z.2), if_neg h9]
  · rw [if_neg h8, if_neg (show ¬ q.1 < 8 by omega)]
    rfl
theorem rst_cases (le : Int) (t : Nat) (v : mv_T) (q : nd_T) : (∃ ccx mix, rst le t v q = (ccx, mix, v.tc, v.ta, v.rc, nc' t v, no' t q.1 v, v.tk, v.rs, v.st) ∧ 8 < q.1 ∧ ccx = va_up v.cc t (v.cc t + 1) ∧ mix = va_up v.mi t (v.mi t + (if q.2.2.2.2.2 = true then q.2.2.2.1 else q.2.2.2.2.1))) ∨ (∃ rcx rsx, rst le t v q = (v.cc, v.mi, v.tc, v.ta, rcx, nc' t v, no' t q.1 v, v.tk, rsx, v.st) ∧ q.1 = 8 ∧ ((rcx = v.rc ∧ rsx = v.rs) ∨ (rcx = va_up v.rc t (v.rc t + 1) ∧ rsx = kr v.rc t q.2.1 q.2.2.1 q.2.2.2.1 q.2.2.2.2.1 v.rs))) ∨ (∃ tcx tax tkx stx, rst le t v q = (v.cc, v.mi, tcx, tax, v.rc, nc' t v, no' t q.1 v, tkx, v.rs, stx) ∧ q.1 < 8 ∧ ((tcx = v.tc ∧ tax = v.ta ∧ tkx = v.tk ∧ stx = v.st ∧ ¬ 0 < v.st q.1.toNat) ∨ (tcx = va_up v.tc t (v.tc t + 1) ∧ tax = va_up v.ta t (v.ta t + q.2.2.2.1 * q.2.2.2.2.1) ∧ tkx = tkg v.tc t q.1 q.2.1 q.2.2.1 q.2.2.2.1 q.2.2.2.2.1 v.tk ∧ stx = va_up v.st q.1.toNat (v.st q.1.toNat - 1) ∧ 0 < v.st q.1.toNat))) := by
  obtain ⟨c, x, y, w, h, d⟩ := q
  rcases Int.lt_trichotomy c 8 with h8 | h8 | h8
  · refine Or.inr (Or.inr ?_)
    by_cases hk : 0 < v.st c.toNat
    · exact ⟨_, _, _, _, rst_take h8 hk, h8, Or.inr ⟨rfl, rfl, rfl, rfl, hk⟩⟩
    · exact ⟨_, _, _, _, rst_pass h8 hk, h8, Or.inl ⟨rfl, rfl, rfl, rfl, hk⟩⟩
  · refine Or.inr (Or.inl ?_)
    by_cases hk : le ≤ w ∧ le ≤ h
    · exact ⟨_, _, rst_keep h8 hk, h8, Or.inr ⟨rfl, rfl⟩⟩
    · exact ⟨_, _, rst_drop h8 hk, h8, Or.inl ⟨rfl, rfl⟩⟩
  · exact Or.inl ⟨_, _, rst_cut h8, h8, rfl, rfl⟩
theorem I1_step {le : Int} {t : Nat} {l : List nd_T} {L : ly_T} {v : mv_T} {q : nd_T} (h : I1 t l L v) (hl : lfc l < 256 ∨ 8 < q.1) : I1 t (l ++ [q]) (cstep L q) (rst le t v q) := by
  obtain ⟨h1, h2, h3⟩ := h
  have hlf : lfc (l ++ [q]) = lfc l + (if q.1 ≤ 8 then 1 else 0) := by
    rw [lfc_app]
    rfl
  rcases rst_cases le t v q with ⟨a, b, e, hc, e1, e2⟩ | hrest
  · rw [e]
    have e3 : cstep L q = ly_cut (if q.2.2.2.2.2 = true then q.2.2.2.1 else q.2.2.2.2.1) L := by unfold cstep; rw [if_neg (by omega)]
    rw [e3]
    refine ⟨?_, ?_, ?_⟩
    · rw [hlf, if_neg (show ¬ q.1 ≤ 8 by omega)]
      exact h1
    · show L.2.1 + 1 = a t
      rw [e1, va_up_self, h2]
    · show L.2.2.1 + _ = b t
      rw [e2, va_up_self, h3]
  · have h8 : q.1 ≤ 8 := by
      rcases hrest with ⟨_, _, _, hc, _⟩ | ⟨_, _, _, _, _, hc, _⟩ <;> omega
    have e3 : cstep L q = ly_add q.1 (pk_z q.1 q.2.1 q.2.2.1 q.2.2.2.1 q.2.2.2.2.1) L := by unfold cstep; rw [if_pos h8]
    have e4 : (cstep L q).1 = (lfc (l ++ [q]) : Int) := by
      rw [e3, hlf, if_pos h8]
      show (if L.1 < 256 then L.1 + 1 else L.1) = _
      rw [if_pos (by omega)]
      omega
    refine ⟨e4, ?_, ?_⟩
    · rw [e3]
      show L.2.1 = _
      rcases hrest with ⟨_, _, e, _⟩ | ⟨_, _, _, _, e, _⟩ <;> rw [e] <;> exact h2
    · rw [e3]
      show L.2.2.1 = _
      rcases hrest with ⟨_, _, e, _⟩ | ⟨_, _, _, _, e, _⟩ <;> rw [e] <;> exact h3
theorem rst_nc (le : Int) (t : Nat) (v : mv_T) (q : nd_T) : (rst le t v q).nc = nc' t v ∧ (rst le t v q).no = no' t q.1 v := by
  rcases rst_cases le t v q with ⟨_, _, e, _⟩ | ⟨_, _, e, _⟩ | ⟨_, _, _, _, e, _⟩ <;> rw [e] <;> exact ⟨rfl, rfl⟩
theorem I2_step {le : Int} {t : Nat} {l : List nd_T} {v : mv_T} {q : nd_T} (h : I2 t l v) : I2 t (l ++ [q]) (rst le t v q) := by
  obtain ⟨h1, h2⟩ := h
  obtain ⟨e1, e2⟩ := rst_nc le t v q
  unfold I2
  rw [e1, e2]
  refine ⟨?_, fun i q' hi => ?_⟩
  · show va_up v.nc t (v.nc t + 1) t = _
    rw [va_up_self, h1, List.length_append]
    show (l.length : Int) + 1 = ((l.length + 1 : Nat) : Int)
    omega
  · have ez : (600 * (t : Int) + v.nc t).toNat = 600 * t + l.length := by omega
    show va_up v.no (600 * (t : Int) + v.nc t).toNat (dec q.1) _ = _
    rw [ez]
    by_cases e : i = l.length
    · subst e
      rw [List.getElem?_append_right (Nat.le_refl _)] at hi
      simp at hi
      rw [va_up_self, hi]
    · have hlt : i < l.length := by
        have := (List.getElem?_eq_some_iff.mp hi).1
        rw [List.length_append] at this
        have : i < l.length + 1 := this
        omega
      rw [List.getElem?_append_left hlt] at hi
      rw [va_up_ne _ _ (by omega)]
      exact h2 i q' hi
theorem I4_step {ar : Nat → Int} {le : Int} {t : Nat} {R : Nat → pa_T} {L : ly_T} {v : mv_T} {q : nd_T} (h : I4 t R L.2.2.2.2 v) (hq : QB ar q) (har : ∀ p : Nat, p < 8 → ar p = (R p).1 * (R p).2.1) : I4 t R (cstep L q).2.2.2.2 (rst le t v q) := by
  obtain ⟨g1, g2, g3⟩ := hq
  rw [cstep_co g1]
  rcases rst_cases le t v q with ⟨_, _, e, hc, _⟩ | ⟨_, _, e, hc, _⟩ | ⟨tcx, tax, tkx, stx, e, hc, hx⟩
  · rw [e, if_neg (by omega)]
    exact h
  · rw [e, if_neg (by omega)]
    exact h
  · rw [e, if_pos hc]
    obtain ⟨h1, h2⟩ := h
    have hk := h1 q.1.toNat (by omega)
    rcases hx with ⟨_, ea, _, es, hn⟩ | ⟨_, ea, _, es, hn⟩
    · refine ⟨fun p hp => ?_, ?_⟩
      · show 0 ≤ va_up _ _ _ p ∧ stx p = _
        rw [es]
        by_cases ep : p = q.1.toNat
        · rw [ep, va_up_self]
          omega
        · rw [va_up_ne _ _ ep]
          exact h1 p hp
      · show tax t = _
        rw [ea, at_up1 8 (by omega), h2]
        have e0 : min (L.2.2.2.2 q.1.toNat + 1) (R q.1.toNat).2.2.2.2 - min (L.2.2.2.2 q.1.toNat) (R q.1.toNat).2.2.2.2 = 0 := by omega
        rw [e0, Int.zero_mul]
        omega
    · refine ⟨fun p hp => ?_, ?_⟩
      · show 0 ≤ va_up _ _ _ p ∧ stx p = _
        rw [es]
        by_cases ep : p = q.1.toNat
        · rw [ep, va_up_self, va_up_self]
          omega
        · rw [va_up_ne _ _ ep, va_up_ne _ _ ep]
          exact h1 p hp
      · show tax t = _
        rw [ea, va_up_self, at_up1 8 (by omega), h2]
        have e0 : min (L.2.2.2.2 q.1.toNat + 1) (R q.1.toNat).2.2.2.2 - min (L.2.2.2.2 q.1.toNat) (R q.1.toNat).2.2.2.2 = 1 := by omega
        rw [e0, Int.one_mul, ← har q.1.toNat (by omega), g3 hc]
theorem I5_step {t : Nat} {R : Nat → pa_T} {v : mv_T} {l : List nd_T} {L : ly_T} {q : nd_T} (h4 : I4 t R L.2.2.2.2 v) (h : I5 l L.2.2.2.2) (h0 : 0 ≤ q.1) : I5 (l ++ [q]) (cstep L q).2.2.2.2 := by
  intro p hp
  rw [cstep_co h0]
  have hp1 := (h4.1 p hp).1
  have ih := h p hp
  have hm : (∃ q' ∈ l ++ [q], q'.1 = (p : Int)) ↔ (∃ q' ∈ l, q'.1 = (p : Int)) ∨ q.1 = (p : Int) := by
    constructor
    · rintro ⟨q', h1, h2⟩
      rcases List.mem_append.mp h1 with h1 | h1
      · exact Or.inl ⟨q', h1, h2⟩
      · rw [List.mem_singleton] at h1
        rw [h1] at h2
        exact Or.inr h2
    · rintro (⟨q', h1, h2⟩ | h2)
      · exact ⟨q', List.mem_append_left _ h1, h2⟩
      · exact ⟨q, List.mem_append_right _ (List.mem_singleton.mpr rfl), h2⟩
  rw [hm, ← ih]
  by_cases h8 : q.1 < 8
  · rw [if_pos h8]
    by_cases ep : p = q.1.toNat
    · rw [ep, va_up_self]
      rw [ep] at hp1
      constructor
      · intro _
        exact Or.inr (by omega)
      · intro _
        omega
    · rw [va_up_ne _ _ ep]
      constructor
      · exact Or.inl
      · rintro (x | x)
        · exact x
        · omega
  · rw [if_neg h8]
    constructor
    · exact Or.inl
    · rintro (x | x)
      · exact x
      · omega
theorem I6_step {le : Int} {t : Nat} {v0 v : mv_T} {q : nd_T} (h : I6 t v0 v) (hn : 0 ≤ v.nc t) (ht : 0 ≤ v.tc t) (hr : 0 ≤ v.rc t) : I6 t v0 (rst le t v q) := by
  obtain ⟨h1, h2, h3, h4⟩ := h
  obtain ⟨n, hn⟩ : ∃ n : Nat, v.nc t = (n : Int) := ⟨(v.nc t).toNat, by omega⟩
  have en : ∀ i : Nat, i ≠ t → nc' t v i = v0.nc i := fun i hi => by
    show va_up v.nc t _ i = _
    rw [va_up_ne _ _ hi]
    exact (h1 i hi).2.2.2.2.2
  have eo : ∀ i : Nat, i < 600 * t → no' t q.1 v i = v0.no i := fun i hi => by
    show va_up v.no (600 * (t : Int) + v.nc t).toNat _ i = _
    rw [va_up_ne _ _ (by omega)]
    exact h2 i hi
  rcases rst_cases le t v q with ⟨a, b, e, hc, e1, e2⟩ | ⟨a, b, e, hc, hx⟩ | ⟨a, b, c, d, e, hc, hx⟩
  · rw [e]
    refine ⟨fun i hi => ⟨?_, ?_, (h1 i hi).2.2.1, (h1 i hi).2.2.2.1, (h1 i hi).2.2.2.2.1, en i hi⟩, eo, h3, h4⟩
    · show a i = _
      rw [e1, va_up_ne _ _ hi]
      exact (h1 i hi).1
    · show b i = _
      rw [e2, va_up_ne _ _ hi]
      exact (h1 i hi).2.1
  · rw [e]
    refine ⟨fun i hi => ⟨(h1 i hi).1, (h1 i hi).2.1, (h1 i hi).2.2.1, (h1 i hi).2.2.2.1, ?_, en i hi⟩, eo, h3, fun i hi => ?_⟩
    · show a i = _
      rcases hx with ⟨x1, _⟩ | ⟨x1, _⟩
      · rw [x1]
        exact (h1 i hi).2.2.2.2.1
      · rw [x1, va_up_ne _ _ hi]
        exact (h1 i hi).2.2.2.2.1
    · show b i = _
      rcases hx with ⟨_, x1⟩ | ⟨_, x1⟩
      · rw [x1]
        exact h4 i hi
      · obtain ⟨r, hr⟩ : ∃ r : Nat, v.rc t = (r : Int) := ⟨(v.rc t).toNat, by omega⟩
        rw [x1, (kr_at hr).1 i (by omega)]
        exact h4 i hi
  · rw [e]
    refine ⟨fun i hi => ⟨(h1 i hi).1, (h1 i hi).2.1, ?_, ?_, (h1 i hi).2.2.2.2.1, en i hi⟩, eo, fun i hi => ?_, h4⟩
    · show a i = _
      rcases hx with ⟨x1, _⟩ | ⟨x1, _⟩
      · rw [x1]
        exact (h1 i hi).2.2.1
      · rw [x1, va_up_ne _ _ hi]
        exact (h1 i hi).2.2.1
    · show b i = _
      rcases hx with ⟨_, x1, _⟩ | ⟨_, x1, _⟩
      · rw [x1]
        exact (h1 i hi).2.2.2.1
      · rw [x1, va_up_ne _ _ hi]
        exact (h1 i hi).2.2.2.1
    · show c i = _
      rcases hx with ⟨_, _, x1, _⟩ | ⟨_, _, x1, _⟩
      · rw [x1]
        exact h3 i hi
      · obtain ⟨r, hr⟩ : ∃ r : Nat, v.tc t = (r : Int) := ⟨(v.tc t).toNat, by omega⟩
        rw [x1, (tkg_at hr).1 i (by omega)]
        exact h3 i hi
def IN (le : Int) (t : Nat) (s0 : ts_T) (v0 : mv_T) (l : List nd_T) (L : ly_T) (v : mv_T) : Prop := I1 t l L v ∧ I2 t l v ∧ I3 t s0 (tsl le s0 L) v ∧ I4 t s0.R L.2.2.2.2 v ∧ I5 l L.2.2.2.2 ∧ I6 t v0 v
theorem IN_go {ar : Nat → Int} {le : Int} {t : Nat} {s0 : ts_T} {v0 : mv_T} (h0 : 0 ≤ s0.1 ∧ 0 ≤ s0.2.1) (har : ∀ p : Nat, p < 8 → ar p = (s0.R p).1 * (s0.R p).2.1) : ∀ (l dn : List nd_T) (L : ly_T) (v : mv_T), (∀ q ∈ l, QB ar q) → lfc dn + lfc l ≤ 256 → IN le t s0 v0 dn L v → IN le t s0 v0 (dn ++ l) (List.foldl cstep L l) (List.foldl (rst le t) v l)
  | [], dn, L, v, _, _, h => by
    rw [List.append_nil]
    exact h
  | q :: l, dn, L, v, hq, hl, h => by
    obtain ⟨h1, h2, h3, h4, h5, h6⟩ := h
    have hq0 := hq q List.mem_cons_self
    have hl2 : lfc dn + ((if q.1 ≤ 8 then 1 else 0) + lfc l) ≤ 256 := hl
    have hlt : lfc dn < 256 ∨ 8 < q.1 := by
      by_cases h8 : q.1 ≤ 8
      · rw [if_pos h8] at hl2
        exact Or.inl (by omega)
      · exact Or.inr (by omega)
    have n3 := I3_step (le := le) h0 h3 hq0 har
    have ex : tsl le s0 (cstep L q) = if q.1 ≤ 8 then ts_step le (pk_z q.1 q.2.1 q.2.2.1 q.2.2.2.1 q.2.2.2.2.1) (tsl le s0 L) else tsl le s0 L := by
      by_cases h8 : q.1 ≤ 8
      · rw [if_pos h8]
        exact tsl_leaf h8 (by rw [h1.1]; omega)
      · rw [if_neg h8]
        exact tsl_cut h8
    rw [← ex] at n3
    have ih := IN_go h0 har l (dn ++ [q]) (cstep L q) (rst le t v q) (fun q' h' => hq q' (List.mem_cons_of_mem _ h')) (by
      rw [lfc_app]
      show lfc dn + ((if q.1 ≤ 8 then 1 else 0) + 0) + lfc l ≤ 256
      omega) ⟨I1_step h1 hlt, I2_step h2, n3, I4_step h4 hq0 har, I5_step h4 h5 hq0.1, I6_step h6 (by rw [h2.1]; omega) h3.1.2 h3.2.1.2⟩
    rw [List.append_assoc] at ih
    exact ih
theorem IN_0 {le : Int} {t : Nat} {s0 : ts_T} {v : mv_T} {wa : Nat → Int} {st : ly_T} (hwa : ∀ p : Nat, p < 8 → wa p = (s0.R p).2.2.2.2 ∧ 0 ≤ wa p) (h9 : s0.c 9 = 0) : IN le t s0 v [] (ly0 st) (mv_0 t wa v) := by
  have z : ∀ g : Nat → Int, va_up g t 0 t = 0 := fun g => va_up_self _ _ _
  have ht : ((t : Int)).toNat = t := Int.toNat_natCast t
  have e : mv_0 t wa v = (va_up v.1 t 0, va_up v.2.1 t 0, va_up v.2.2.1 t 0, va_up v.2.2.2.1 t 0, va_up v.2.2.2.2.1 t 0, va_up v.2.2.2.2.2.1 t 0, v.2.2.2.2.2.2.1, v.2.2.2.2.2.2.2.1, v.2.2.2.2.2.2.2.2.1, cp v.2.2.2.2.2.2.2.2.2 wa 8) := by
    unfold mv_0
    rw [ht]
  rw [e]
  have est : ∀ p : Nat, p < 8 → cp v.2.2.2.2.2.2.2.2.2 wa 8 p = wa p := fun p hp => by rw [cp_at 8 p, if_pos hp]
  have eco : ∀ p : Nat, p < 8 → (ly0 st).2.2.2.2 p = 0 := fun p hp => if_pos hp
  refine ⟨⟨rfl, (z _).symm, (z _).symm⟩, ⟨z _, fun i q hi => by cases hi⟩, ⟨⟨?_, ?_⟩, ⟨?_, ?_⟩, ?_, ?_, ?_, ?_, ?_, ?_, ?_, ?_⟩, ⟨fun p hp => ?_, ?_⟩, fun p hp => ?_, ⟨fun i hi => ⟨va_up_ne _ _ hi, va_up_ne _ _ hi, va_up_ne _ _ hi, va_up_ne _ _ hi, va_up_ne _ _ hi, va_up_ne _ _ hi⟩, fun _ _ => rfl, fun _ _ => rfl, fun _ _ => rfl⟩⟩
  · show va_up v.2.2.1 t 0 t = s0.1 - s0.1
    rw [z]
    omega
  · show 0 ≤ va_up v.2.2.1 t 0 t
    rw [z]
    omega
  · show va_up v.2.2.2.2.1 t 0 t = s0.2.1 - s0.2.1
    rw [z]
    omega
  · show 0 ≤ va_up v.2.2.2.2.1 t 0 t
    rw [z]
    omega
  · show va_up v.2.2.2.1 t 0 t = s0.c 9
    rw [z, h9]
  · intro p hp
    show cp v.2.2.2.2.2.2.2.2.2 wa 8 p = (s0.R p).2.2.2.2
    rw [est p hp, (hwa p hp).1]
  · intro p
    exact ⟨rfl, rfl, rfl, rfl⟩
  · intro j f hj
    have hj2 : (j : Int) < va_up v.2.2.1 t 0 t := hj
    rw [z] at hj2
    omega
  · intro j f hj
    have hj2 : (j : Int) < va_up v.2.2.2.2.1 t 0 t := hj
    rw [z] at hj2
    omega
  · exact fun _ _ => rfl
  · exact fun _ _ => rfl
  · exact fun _ _ => rfl
  · rw [eco p hp]
    refine ⟨Int.le_refl 0, ?_⟩
    show cp v.2.2.2.2.2.2.2.2.2 wa 8 p = _
    rw [est p hp]
    have := hwa p hp
    omega
  · show va_up v.2.2.2.1 t 0 t = _
    rw [z, at_0 (fun p hp => ⟨eco p hp, by have := hwa p hp; omega⟩) 8 (by omega)]
  · rw [eco p hp]
    constructor
    · intro x
      omega
    · rintro ⟨q, hq, _⟩
      cases hq
