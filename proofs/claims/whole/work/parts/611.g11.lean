/-! pure: the cut sheets, class and reference -/
theorem dec_inj {a b : Int} (ha : 0 ≤ a) (hb : 0 ≤ b) (h : dec a = dec b) : a = b := by
  unfold dec at h
  split at h <;> split at h <;> (try split at h) <;> (try split at h) <;> omega
theorem fa_spec {Cs : Nat → Nat → Int} {sh W : Int} : ∀ n i : Nat, i ≤ fa_at Cs sh W n i ∧ fa_at Cs sh W n i ≤ i + n ∧ (∀ j : Nat, i ≤ j → j < fa_at Cs sh W n i → ¬ (Cs j 0 = sh ∧ al_z (Cs j 6) W = 0)) ∧ (fa_at Cs sh W n i < i + n → Cs (fa_at Cs sh W n i) 0 = sh ∧ al_z (Cs (fa_at Cs sh W n i) 6) W = 0)
  | 0, i => ⟨Nat.le_refl _, Nat.le_refl _, fun j h1 h2 => by have : j < i := h2; omega, fun h => by have : i < i + 0 := h; omega⟩
  | n + 1, i => by
    unfold fa_at
    by_cases hc : Cs i 0 = sh ∧ al_z (Cs i 6) W = 0
    · rw [if_pos hc]
      exact ⟨Nat.le_refl _, by omega, fun j h1 h2 => by omega, fun _ => hc⟩
    · rw [if_neg hc]
      obtain ⟨a1, a2, a3, a4⟩ := fa_spec (Cs := Cs) (sh := sh) (W := W) n (i + 1)
      refine ⟨by omega, by omega, fun j h1 h2 => ?_, fun h => a4 (by omega)⟩
      by_cases e : j = i
      · rw [e]
        exact hc
      · exact a3 j (by omega) h2
theorem ia_ext {of of' nc nc2 fw fw' no no2 : Nat → Int} {t : Nat} (h1 : ∀ j : Nat, j < t → of' j = of j ∧ fw' j = fw j ∧ nc2 j = nc j ∧ 0 ≤ nc j ∧ nc j ≤ 600) (h2 : ∀ i : Nat, i < 600 * t → no2 i = no i) {a b : Nat} (ha : a < t) (hb : b < t) : iaP of' nc2 fw' no2 (a : Int) (b : Int) ↔ iaP of nc fw no (a : Int) (b : Int) := by
  obtain ⟨a1, a2, a3, a4, a5⟩ := h1 a ha
  obtain ⟨b1, b2, b3, b4, b5⟩ := h1 b hb
  unfold iaP iaE
  rw [Int.toNat_natCast, Int.toNat_natCast, a1, a2, a3, b1, b2, b3]
  constructor
  · rintro ⟨⟨x1, x2, x3⟩, x4⟩
    refine ⟨⟨x1, x2, x3⟩, fun k hk => ?_⟩
    have := x4 k hk
    rw [h2 _ (by omega), h2 _ (by omega)] at this
    exact this
  · rintro ⟨⟨x1, x2, x3⟩, x4⟩
    refine ⟨⟨x1, x2, x3⟩, fun k hk => ?_⟩
    rw [h2 _ (by omega), h2 _ (by omega)]
    exact x4 k hk
/-- a cut sheet's record, class and reference; m0: the parts that are still wanted -/
def QR (K : Int) (S nS : Nat) (R : Nat → pa_T) (sw sh ce : Nat → Int) (m0 : Nat) (u : RS) (of fw : Nat → Int) (v : mv_T) (i : Nat) : Prop := ∃ k m pu f : Nat, (k < nS ∧ of i = (k : Int) ∧ u.Cs i 0 = (k : Int) ∧ u.Cs i 1 = ce k ∧ u.Cs i 2 = sw k * sh k) ∧ ((∀ p : Nat, p < 8 → bitm m0 p → bitm m p) ∧ fw i = bz (wyd (fit R m) K S (sw k) (sh k)) ∧ u.Cs i 3 = fw i ∧ I2 i (TR K S R m (sw k) (sh k)) v ∧ u.Cs i 6 = (pu : Int) ∧ pu < 256 ∧ (∀ p : Nat, p < 8 → (bitm pu p ↔ ∃ q ∈ TR K S R m (sw k) (sh k), q.1 = (p : Int)))) ∧ (u.Cs i 4 = v.cc i ∧ u.Cs i 5 = v.mi i ∧ u.Cs i 8 = v.tc i ∧ u.Cs i 9 = v.ta i ∧ u.Cs i 11 = v.rc i) ∧ (0 ≤ u.Cs i 7 ∧ 0 ≤ v.tc i ∧ v.tc i ≤ 256 ∧ u.Cs i 7 + v.tc i ≤ u.nT ∧ ∀ j g : Nat, (j : Int) < v.tc i → g < 5 → v.tk (5 * (256 * i + j) + g) = pf_z (u.tk (u.Cs i 7 + (j : Int)).toNat) g) ∧ (0 ≤ u.Cs i 10 ∧ 0 ≤ v.rc i ∧ v.rc i ≤ 256 ∧ u.Cs i 10 + v.rc i ≤ u.nR ∧ ∀ j g : Nat, (j : Int) < v.rc i → g < 4 → v.rs (4 * (256 * i + j) + g) = pf_z (u.rs (u.Cs i 10 + (j : Int)).toNat) (1 + (g : Int))) ∧ (u.Cs i 12 = (f : Int) ∧ f ≤ i ∧ iaP of v.nc fw v.no (f : Int) (i : Int) ∧ ∀ j : Nat, j < f → ¬ iaP of v.nc fw v.no (j : Int) (i : Int))
def TOLD (nS : Nat) (sw sh : Nat → Int) : Prop := ∀ k : Nat, k < nS → (1 ≤ sw k ∧ sw k ≤ 16) ∧ 1 ≤ sh k ∧ sh k ≤ 16
theorem QR_nc {K : Int} {S nS : Nat} {R : Nat → pa_T} {sw sh ce : Nat → Int} {m0 : Nat} {u : RS} {of fw : Nat → Int} {v : mv_T} {i : Nat} (hK : 0 ≤ K) (hS : S ≤ 3) (ht : TOLD nS sw sh) (h : QR K S nS R sw sh ce m0 u of fw v i) : 0 ≤ v.nc i ∧ v.nc i ≤ 511 := by
  obtain ⟨k, m, pu, f, h1, h2, _⟩ := h
  have hb := TR_b (R := R) (m := m) hK ⟨hS, (ht k h1.1).1, (ht k h1.1).2⟩
  have e := h2.2.2.2.1.1
  rw [e]
  omega
theorem QR_keep {K : Int} {S nS : Nat} {R : Nat → pa_T} {sw sh ce : Nat → Int} {m0 m1 : Nat} {u u' : RS} {of fw of' fw' : Nat → Int} {v v' : mv_T} {t i : Nat} (hi : i < t) (hnc : ∀ j : Nat, j < t → 0 ≤ v.nc j ∧ v.nc j ≤ 600) (h : QR K S nS R sw sh ce m0 u of fw v i) (hm : ∀ p : Nat, p < 8 → bitm m1 p → bitm m0 p) (hC : u'.Cs i = u.Cs i) (hT : u.nT ≤ u'.nT) (hR : u.nR ≤ u'.nR) (htk : ∀ j : Nat, (j : Int) < u.nT → u'.tk j = u.tk j) (hrs : ∀ j : Nat, (j : Int) < u.nR → u'.rs j = u.rs j) (ho : ∀ j : Nat, j ≠ t → of' j = of j ∧ fw' j = fw j) (h6 : I6 t v v') : QR K S nS R sw sh ce m1 u' of' fw' v' i := by
  obtain ⟨k, m, pu, f, q1, q2, q3, q4, q5, q6⟩ := h
  obtain ⟨g1, g2, g3, g4⟩ := h6
  obtain ⟨i1, i2, i3, i4, i5, i6⟩ := g1 i (by omega)
  obtain ⟨o1, o2⟩ := ho i (by omega)
  have hia : ∀ a b : Nat, a < t → b < t → (iaP of' v'.nc fw' v'.no (a : Int) (b : Int) ↔ iaP of v.nc fw v.no (a : Int) (b : Int)) := fun a b ha hb => ia_ext (fun j hj => ⟨(ho j (by omega)).1, (ho j (by omega)).2, (g1 j (by omega)).2.2.2.2.2, (hnc j hj).1, (hnc j hj).2⟩) g2 ha hb
  refine ⟨k, m, pu, f, ?_, ?_, ?_, ?_, ?_, ?_⟩
  · rw [hC, o1]
    exact q1
  · obtain ⟨a1, a2, a3, a4, a5⟩ := q2
    rw [hC, o2]
    refine ⟨fun p hp hb => a1 p hp (hm p hp hb), a2, a3, ⟨by rw [i6]; exact a4.1, fun n q hq => ?_⟩, a5⟩
    have hlt := (List.getElem?_eq_some_iff.mp hq).1
    have hl : (n : Int) < v.nc i := by rw [a4.1]; omega
    rw [g2 _ (by have := hnc i hi; omega)]
    exact a4.2 n q hq
  · rw [hC, i1, i2, i3, i4, i5]
    exact q3
  · obtain ⟨a1, a2, a3, a4, a5⟩ := q4
    rw [hC, i3]
    refine ⟨a1, a2, a3, by omega, fun j g hj hg => ?_⟩
    rw [g3 _ (by omega), htk _ (by omega)]
    exact a5 j g hj hg
  · obtain ⟨a1, a2, a3, a4, a5⟩ := q5
    rw [hC, i5]
    refine ⟨a1, a2, a3, by omega, fun j g hj hg => ?_⟩
    rw [g4 _ (by omega), hrs _ (by omega)]
    exact a5 j g hj hg
  · obtain ⟨a1, a2, a3, a4⟩ := q6
    rw [hC]
    exact ⟨a1, a2, (hia f i (by omega) hi).mpr a3, fun j hj => fun z => a4 j hj ((hia j i (by omega) hi).mp z)⟩
theorem fit_sub {R : Nat → pa_T} {m1 m : Nat} (h : ∀ p : Nat, p < 8 → bitm m1 p → bitm m p) (h8 : m1 < 256) : SUB (fit R m1) (fit R m) := by
  intro p w h' hf
  have h1 := of_decide_eq_true hf
  have hp : p < 8 := by
    by_cases e : p < 8
    · exact e
    · have h2 : m1.testBit p = true := (bitm_tb m1 p).mp h1.1
      have : m1.testBit p = false := Nat.testBit_lt_two_pow (Nat.lt_of_lt_of_le h8 (show 256 ≤ 2 ^ p from Nat.pow_le_pow_right (by decide : 0 < 2) (show 8 ≤ p by omega)))
      rw [this] at h2
      exact absurd h2 (by decide)
  exact decide_eq_true ⟨h p hp h1.1, h1.2⟩
/-- alike: the same sheet, and no part that is not wanted any more -/
theorem alike_iff {K : Int} {S nS : Nat} {R : Nat → pa_T} {sw sh : Nat → Int} {of fw : Nat → Int} {v : mv_T} {i j k k' m m' pu : Nat} (hK : 0 ≤ K) (hS : S ≤ 3) (ht : TOLD nS sw sh) (hk : k < nS) (hk' : k' < nS) (hoi : of i = (k : Int)) (hoj : of j = (k' : Int)) (hm8 : m < 256) (hpu : pu < 256) (hsub : ∀ p : Nat, p < 8 → bitm m p → bitm m' p) (fi : fw i = bz (wyd (fit R m) K S (sw k) (sh k))) (fj : fw j = bz (wyd (fit R m') K S (sw k') (sh k'))) (Ii : I2 i (TR K S R m (sw k) (sh k)) v) (Ij : I2 j (TR K S R m' (sw k') (sh k')) v) (hp : ∀ p : Nat, p < 8 → (bitm pu p ↔ ∃ q ∈ TR K S R m' (sw k') (sh k'), q.1 = (p : Int))) : iaP of v.nc fw v.no (j : Int) (i : Int) ↔ ((k' : Int) = (k : Int) ∧ al_z (pu : Int) (m : Int) = 0) := by
  have hr : rg S (sw k) (sh k) := ⟨hS, (ht k hk).1, (ht k hk).2⟩
  have hr' : rg S (sw k') (sh k') := ⟨hS, (ht k' hk').1, (ht k' hk').2⟩
  have hb := TR_b (R := R) (m := m) hK hr
  have hb' := TR_b (R := R) (m := m') hK hr'
  have ei : ∀ (a n : Nat), (600 * (a : Int) + (n : Int)).toNat = 600 * a + n := fun a n => by omega
  unfold iaP iaE
  rw [Int.toNat_natCast, Int.toNat_natCast, hoi, hoj, al_0 hpu hm8]
  constructor
  · rintro ⟨⟨x1, x2, x3⟩, x4⟩
    refine ⟨x1, fun p hp8 hbp => ?_⟩
    obtain ⟨q, hq, eq⟩ := (hp p hp8).mp hbp
    obtain ⟨n, hn⟩ := List.mem_iff_getElem?.mp hq
    have hlt := (List.getElem?_eq_some_iff.mp hn).1
    have y1 := Ij.2 n q hn
    have e1 : (TR K S R m' (sw k') (sh k')).length = (TR K S R m (sw k) (sh k)).length := by
      have a := Ii.1
      have b := Ij.1
      omega
    obtain ⟨q2, hq2⟩ : ∃ q2, (TR K S R m (sw k) (sh k))[n]? = some q2 := ⟨_, List.getElem?_eq_getElem (by omega)⟩
    have y2 := Ii.2 n q2 hq2
    have y3 := x4 n (by rw [Ij.1]; omega)
    rw [ei, ei, y1, y2] at y3
    have m1 := List.mem_iff_getElem?.mpr ⟨n, hq2⟩
    have z := hb.1 q2 m1
    have z' := hb'.1 q hq
    have y4 := dec_inj z'.1.1 z.1.1 y3
    have y5 := z.2 (by omega)
    rw [show q2.1.toNat = p by omega] at y5
    exact y5
  · rintro ⟨x1, x2⟩
    have x1' : k' = k := by omega
    subst x1'
    have hus : US (fit R m) (fit R m') (TR K S R m' (sw k') (sh k')) := by
      intro q hq h8 w h hf
      have h0 := (hb'.1 q hq).1.1
      have hbp := x2 q.1.toNat (by omega) ((hp q.1.toNat (by omega)).mpr ⟨q, hq, by omega⟩)
      have h1 := of_decide_eq_true hf
      exact decide_eq_true ⟨hbp, h1.2⟩
    obtain ⟨s1, s2⟩ := tree_same hK (fit_sub hsub hm8) hr hus
    have s3 : TR K S R m (sw k') (sh k') = TR K S R m' (sw k') (sh k') := s2
    rw [s3] at Ii
    refine ⟨⟨rfl, by rw [Ii.1, Ij.1], by rw [fi, fj, s1]⟩, fun n hn => ?_⟩
    have hlt : n < (TR K S R m' (sw k') (sh k')).length := by
      have := Ij.1
      omega
    obtain ⟨q2, hq2⟩ : ∃ q2, (TR K S R m' (sw k') (sh k'))[n]? = some q2 := ⟨_, List.getElem?_eq_getElem hlt⟩
    rw [ei, ei, Ii.2 n q2 hq2, Ij.2 n q2 hq2]
