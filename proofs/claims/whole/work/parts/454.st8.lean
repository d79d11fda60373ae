/-! SheetTrees: bound; needRun, partAt, cutSheetAt, left, all where they return -/
def bd_m (Sh : Nat → pa_T) : Nat → Int
  | 0 => 0
  | n + 1 => max (bd_m Sh n) ((Sh n).1 * (Sh n).2.1)
def bd_s (R : Nat → pa_T) : Nat → Int
  | 0 => 0
  | n + 1 => bd_s R n + (R n).1 * (R n).2.1 * (R n).2.2.2.1
def bd_r (Sh R : Nat → pa_T) (nS nP : Nat) : Int := if bd_m Sh nS < 1 then 0 else (bd_s R nP + bd_m Sh nS - 1).tdiv (bd_m Sh nS)
theorem bd_m_bd {Sh : Nat → pa_T} : ∀ n : Nat, (∀ i : Nat, i < n → SO (Sh i)) → 0 ≤ bd_m Sh n ∧ bd_m Sh n ≤ 256
  | 0, _ => by unfold bd_m; omega
  | n + 1, h => by
    have ih := bd_m_bd n (fun i hi => h i (by omega))
    have h1 := h n (by omega)
    unfold SO at h1
    have h2 := area_le (w := (Sh n).1) (h := (Sh n).2.1) (by omega) (by omega) (by omega) (by omega)
    unfold bd_m
    omega
theorem bd_s_bd {R : Nat → pa_T} : ∀ n : Nat, (∀ p : Nat, p < n → PO (R p)) → 0 ≤ bd_s R n ∧ bd_s R n ≤ 12800 * n
  | 0, _ => by unfold bd_s; omega
  | n + 1, h => by
    have ih := bd_s_bd n (fun i hi => h i (by omega))
    have h1 := h n (by omega)
    have h2 := PO_ar h1
    have h3 := h1.2.2.1
    have e1 := Int.mul_nonneg h2.1 h3.1
    have e2 := Int.mul_le_mul h2.2 h3.2 h3.1 (by omega)
    unfold bd_s
    omega
set_option maxHeartbeats 4000000 in
set_option maxRecDepth 100000 in
theorem c_ST_bound (l : Launch) (D : va_G) (x qsh qpa qcu qtk qrs qt ql nS nP : Nat) (S le nC nT nR rn : Int) (cS cP : ClassId) (fS fP : Nat → Option Nat) (L : List Nat) (f : Nat → va_E) (aS aP aC : Nat → Nat) (Sh R : Nat → pa_T) (Cs : Nat → Nat → Int) (hnS : nS ≤ 4) (hnP : nP ≤ 8) (hfS : ∀ i : Nat, i < 4 → fS i = some (aS i)) (hfP : ∀ i : Nat, i < 8 → fP i = some (aP i)) (hPL : PL L f aS aP aC Sh R Cs) (hSO : ∀ i : Nat, i < nS → SO (Sh i)) (hPO : ∀ p : Nat, p < 8 → PO (R p)) : CP l y_ST_bound b_ST_bound 4 (some .int) rm_1 [.ref x] D [(cS, .object "SheetTrees$Sheet"), (cP, .object "SheetTrees$Part")] ([ob_ST x qsh qpa qcu qtk qrs qt ql S le (nS : Int) (nP : Int) nC nT nR rn, ar_Q qsh cS 4 fS, ar_Q qpa cP 8 fP] ++ va_pl L f) (fun v => v = some (.int (iI (bd_r Sh R nS nP)))) := by
  refine cp_of (by decide) (Nat.le_of_ble_eq_true rfl) ?_
  intro X sz hl hr hD hA
  subst hD
  have hbm := bd_m_bd nS hSO
  have hbs := bd_s_bd nP (fun p hp => hPO p (by omega))
  have loopP : ∀ m i : Nat, i + m = nP → ∀ z : Int, bd_s R i = z → ¬ bd_m Sh nS < 1 → VV X (b_ST_bound, 4, "SheetTrees", rm_1) (cr X sz (fun v => v = some (.int (iI (bd_r Sh R nS nP)))) rm_1) 0 0 [(cS, .object "SheetTrees$Sheet"), (cP, .object "SheetTrees$Part")] [ob_ST x qsh qpa qcu qtk qrs qt ql S le (nS : Int) (nP : Int) nC nT nR rn, ar_Q qsh cS 4 fS, ar_Q qpa cP 8 fP] (va_pl L f) [some (.ref x), some (.int (iI (bd_m Sh nS))), some (.int (iI z)), some (.int (iI (i : Int)))] [] 52 := by
    intro m
    induction m with
    | zero =>
      intro i hi z hz hm1
      have hi2 : i = nP := by omega
      subst hi2
      refine vv_iload_n d_ST_bound_52 rfl ?_
      refine vv_aload_n d_ST_bound_53 rfl ?_
      refine vv_get d_ST_bound_54 0 rfl fl_ST_38 rfl ?_
      refine vv_icmp_ge (tgt := 97) d_ST_bound_57 (by decide) ⟨by omega, by omega⟩ (fun c57 => ?_) (fun c57 => ?_)
      · skip
        refine vv_iload_n d_ST_bound_97 rfl ?_
        refine vv_iload_n d_ST_bound_98 rfl ?_
        refine vv_iadd d_ST_bound_99 ?_
        refine vv_iconst d_ST_bound_100 ?_
        refine vv_isub d_ST_bound_101 ?_
        refine vv_iload_n d_ST_bound_102 rfl ?_
        refine vv_idiv d_ST_bound_103 (by omega) ?_
        exact vp_iret hA hr d_ST_bound_104 (by decide) (by decide) (by unfold bd_r; rw [if_neg hm1, hz])
      · exfalso; omega
    | succ m ih =>
      intro i hi z hz hm1
      have hi8 : i < 8 := by omega
      obtain ⟨hin, hat⟩ := hPL.2.1 i hi8
      refine vv_iload_n d_ST_bound_52 rfl ?_
      refine vv_aload_n d_ST_bound_53 rfl ?_
      refine vv_get d_ST_bound_54 0 rfl fl_ST_38 rfl ?_
      refine vv_icmp_ge (tgt := 97) d_ST_bound_57 (by decide) ⟨by omega, by omega⟩ (fun c57 => ?_) (fun c57 => ?_)
      · exfalso; omega
      · skip
        refine vv_iload_n d_ST_bound_60 rfl ?_
        refine vv_aload_n d_ST_bound_61 rfl ?_
        refine vv_get d_ST_bound_62 0 rfl fl_ST_17 rfl ?_
        refine vv_alen d_ST_bound_65 2 1 rfl rfl (v := 8) rfl ?_
        refine vv_icmp_ge (tgt := 97) d_ST_bound_66 (by decide) ⟨by omega, by omega⟩ (fun c66 => ?_) (fun c66 => ?_)
        · exfalso; omega
        · skip
          refine vv_iload_n d_ST_bound_69 rfl ?_
          refine vv_aload_n d_ST_bound_70 rfl ?_
          refine vv_get d_ST_bound_71 0 rfl fl_ST_17 rfl ?_
          refine vv_iload_n d_ST_bound_74 rfl ?_
          refine vv_aald d_ST_bound_75 2 1 rfl rfl (by omega) (show fP ((i : Int).toNat) = some (aP i) by rw [Int.toNat_natCast]; exact hfP i hi8) ?_
          refine vv_pV (wc := []) (plc := va_pl L f) [.int (iI z)] (c_PA_area (cx_l X) (cx_D X) L f (aP i) (R i) hin hat) lk_ST_237 d_ST_bound_76 rfl (rc_pl hin hat rfl rfl) [] ⟨rfl, rfl, Or.inr rfl⟩ [] rfl ⟨⟨by decide, by decide⟩, ⟨by decide, by decide⟩, Nat.le_of_ble_eq_true rfl⟩ ⟨rfl, rfl⟩ ?_
          intro v hv
          subst hv
          dsimp only [Option.toList, List.cons_append, List.nil_append, List.append_nil]
          refine vv_aload_n d_ST_bound_79 rfl ?_
          refine vv_get d_ST_bound_80 0 rfl fl_ST_17 rfl ?_
          refine vv_iload_n d_ST_bound_83 rfl ?_
          refine vv_aald d_ST_bound_84 2 1 rfl rfl (by omega) (show fP ((i : Int).toNat) = some (aP i) by rw [Int.toNat_natCast]; exact hfP i hi8) ?_
          refine vv_getP d_ST_bound_85 hin hat fl_ST_130 rfl ?_
          refine vv_imul d_ST_bound_88 ?_
          refine vv_iadd d_ST_bound_89 ?_
          refine vv_istore_n d_ST_bound_90 rfl (by decide) ?_
          dsimp only [List.set]
          refine vv_iinc d_ST_bound_91 rfl rfl (by decide) ?_
          dsimp only [List.set]
          refine vv_goto (tgt := 52) d_ST_bound_94 (by decide) ?_
          exact ih (i + 1) (by omega) _ (by rw [← hz]; rfl) hm1
  have loopS : ∀ m i : Nat, i + m = nS → ∀ z : Int, bd_m Sh i = z → VV X (b_ST_bound, 4, "SheetTrees", rm_1) (cr X sz (fun v => v = some (.int (iI (bd_r Sh R nS nP)))) rm_1) 0 0 [(cS, .object "SheetTrees$Sheet"), (cP, .object "SheetTrees$Part")] [ob_ST x qsh qpa qcu qtk qrs qt ql S le (nS : Int) (nP : Int) nC nT nR rn, ar_Q qsh cS 4 fS, ar_Q qpa cP 8 fP] (va_pl L f) [some (.ref x), some (.int (iI z)), some (.int (iI (i : Int))), none] [] 4 := by
    intro m
    induction m with
    | zero =>
      intro i hi z hz
      have hi2 : i = nS := by omega
      subst hi2
      subst hz
      refine vv_iload_n d_ST_bound_4 rfl ?_
      refine vv_aload_n d_ST_bound_5 rfl ?_
      refine vv_get d_ST_bound_6 0 rfl fl_ST_34 rfl ?_
      refine vv_icmp_ge (tgt := 41) d_ST_bound_9 (by decide) ⟨by omega, by omega⟩ (fun c9 => ?_) (fun c9 => ?_)
      · skip
        refine vv_iload_n d_ST_bound_41 rfl ?_
        refine vv_iconst d_ST_bound_42 ?_
        refine vv_icmp_ge (tgt := 48) d_ST_bound_43 (by decide) ⟨by omega, by omega⟩ (fun c43 => ?_) (fun c43 => ?_)
        · skip
          refine vv_iconst d_ST_bound_48 ?_
          refine vv_istore_n d_ST_bound_49 rfl (by decide) ?_
          dsimp only [List.set]
          refine vv_iconst d_ST_bound_50 ?_
          refine vv_istore_n d_ST_bound_51 rfl (by decide) ?_
          dsimp only [List.set]
          exact loopP nP 0 (by omega) 0 rfl (by omega)
        · skip
          refine vv_iconst d_ST_bound_46 ?_
          exact vp_iret hA hr d_ST_bound_47 (by decide) (by decide) (by unfold bd_r; rw [if_pos (by omega)])
      · exfalso; omega
    | succ m ih =>
      intro i hi z hz
      have hi4 : i < 4 := by omega
      obtain ⟨hin, hat⟩ := hPL.1 i hi4
      have hz2 := bd_m_bd i (fun j hj => hSO j (by omega))
      rw [hz] at hz2
      have hz3 := bd_m_bd (i + 1) (fun j hj => hSO j (by omega))
      have hso := hSO i (by omega)
      unfold SO at hso
      have har := area_le (w := (Sh i).1) (h := (Sh i).2.1) (by omega) (by omega) (by omega) (by omega)
      refine vv_iload_n d_ST_bound_4 rfl ?_
      refine vv_aload_n d_ST_bound_5 rfl ?_
      refine vv_get d_ST_bound_6 0 rfl fl_ST_34 rfl ?_
      refine vv_icmp_ge (tgt := 41) d_ST_bound_9 (by decide) ⟨by omega, by omega⟩ (fun c9 => ?_) (fun c9 => ?_)
      · exfalso; omega
      · skip
        refine vv_iload_n d_ST_bound_12 rfl ?_
        refine vv_aload_n d_ST_bound_13 rfl ?_
        refine vv_get d_ST_bound_14 0 rfl fl_ST_11 rfl ?_
        refine vv_alen d_ST_bound_17 1 0 rfl rfl (v := 4) rfl ?_
        refine vv_icmp_ge (tgt := 41) d_ST_bound_18 (by decide) ⟨by omega, by omega⟩ (fun c18 => ?_) (fun c18 => ?_)
        · exfalso; omega
        · skip
          refine vv_iload_n d_ST_bound_21 rfl ?_
          refine vv_aload_n d_ST_bound_22 rfl ?_
          refine vv_get d_ST_bound_23 0 rfl fl_ST_11 rfl ?_
          refine vv_iload_n d_ST_bound_26 rfl ?_
          refine vv_aald d_ST_bound_27 1 0 rfl rfl (by omega) (show fS ((i : Int).toNat) = some (aS i) by rw [Int.toNat_natCast]; exact hfS i hi4) ?_
          refine vv_pV (wc := []) (plc := va_pl L f) [.int (iI z)] (c_SH_area (cx_l X) (cx_D X) L f (aS i) (Sh i) hin hat) lk_ST_230 d_ST_bound_28 rfl (rc_pl hin hat rfl rfl) [] ⟨rfl, rfl, Or.inr rfl⟩ [] rfl ⟨⟨by decide, by decide⟩, ⟨by decide, by decide⟩, Nat.le_of_ble_eq_true rfl⟩ ⟨rfl, rfl⟩ ?_
          intro v hv
          subst hv
          dsimp only [Option.toList, List.cons_append, List.nil_append, List.append_nil]
          refine vv_mmax d_ST_bound_31 lm_ST_232 ⟨by omega, by omega⟩ ⟨by decide, Nat.le_of_ble_eq_true rfl, by decide, by decide⟩ ?_
          refine vv_istore_n d_ST_bound_34 rfl (by decide) ?_
          dsimp only [List.set]
          refine vv_iinc d_ST_bound_35 rfl rfl (by decide) ?_
          dsimp only [List.set]
          refine vv_goto (tgt := 4) d_ST_bound_38 (by decide) ?_
          exact ih (i + 1) (by omega) _ (by rw [← hz]; rfl)
  show VV X (b_ST_bound, 4, "SheetTrees", rm_1) _ 0 0 [(cS, .object "SheetTrees$Sheet"), (cP, .object "SheetTrees$Part")] [ob_ST x qsh qpa qcu qtk qrs qt ql S le (nS : Int) (nP : Int) nC nT nR rn, ar_Q qsh cS 4 fS, ar_Q qpa cP 8 fP] (va_pl L f) [some (.ref x), none, none, none] [] 0
  refine vv_iconst d_ST_bound_0 ?_
  refine vv_istore_n d_ST_bound_1 rfl (by decide) ?_
  dsimp only [List.set]
  refine vv_iconst d_ST_bound_2 ?_
  refine vv_istore_n d_ST_bound_3 rfl (by decide) ?_
  dsimp only [List.set]
  exact loopS nS 0 (by omega) 0 rfl
set_option maxHeartbeats 4000000 in
set_option maxRecDepth 100000 in
theorem c_ST_needRun_y (l : Launch) (D : va_G) (x qsh qpa qcu qtk qrs qt ql : Nat) (S le nS nP nC nT nR : Int) : CP l y_ST_needRun b_ST_needRun 1 none rm_1 [.ref x] D [] ([ob_ST x qsh qpa qcu qtk qrs qt ql S le nS nP nC nT nR 1] ++ []) (fun v => v = none) := by
  refine cp_of (by decide) (Nat.le_of_ble_eq_true rfl) ?_
  intro X sz hl hr hD hA
  subst hD
  show VV X (b_ST_needRun, 1, "SheetTrees", rm_1) _ 0 0 [] [ob_ST x qsh qpa qcu qtk qrs qt ql S le nS nP nC nT nR 1] [] [some (.ref x)] [] 0
  refine vv_aload_n d_ST_needRun_0 rfl ?_
  refine vv_get d_ST_needRun_1 0 rfl fl_ST_50 rfl ?_
  refine vv_if_ne (tgt := 17) d_ST_needRun_4 (by decide) (by omega) (fun c4 => ?_) (fun c4 => ?_)
  · skip
    exact vp_vret hA hr d_ST_needRun_17 (by decide) (by decide) (by rfl)
  · exfalso; omega
set_option maxHeartbeats 4000000 in
set_option maxRecDepth 100000 in
theorem c_ST_partAt_y (l : Launch) (D : va_G) (x qsh qpa qcu qtk qrs qt ql nP k : Nat) (S le nS nC nT nR rn : Int) (cP : ClassId) (fP : Nat → Option Nat) (aP : Nat → Nat) (hnP : nP ≤ 8) (hk : k < nP) (hfP : ∀ i : Nat, i < 8 → fP i = some (aP i)) : CP l y_ST_partAt b_ST_partAt 2 (some (.object "SheetTrees$Part")) rm_1 [.ref x, .int (iI (k : Int))] D [(cP, .object "SheetTrees$Part")] ([ob_ST x qsh qpa qcu qtk qrs qt ql S le nS (nP : Int) nC nT nR rn, ar_Q qpa cP 8 fP] ++ []) (fun v => v = some (.ref (aP k))) := by
  refine cp_of (by decide) (Nat.le_of_ble_eq_true rfl) ?_
  intro X sz hl hr hD hA
  subst hD
  have hk8 : k < 8 := by omega
  show VV X (b_ST_partAt, 2, "SheetTrees", rm_1) _ 0 0 [(cP, .object "SheetTrees$Part")] [ob_ST x qsh qpa qcu qtk qrs qt ql S le nS (nP : Int) nC nT nR rn, ar_Q qpa cP 8 fP] [] [some (.ref x), some (.int (iI (k : Int)))] [] 0
  refine vv_iload_n d_ST_partAt_0 rfl ?_
  refine vv_if_lt (tgt := 21) d_ST_partAt_1 (by decide) (by omega) (fun c1 => ?_) (fun c1 => ?_)
  · exfalso; omega
  · skip
    refine vv_iload_n d_ST_partAt_4 rfl ?_
    refine vv_aload_n d_ST_partAt_5 rfl ?_
    refine vv_get d_ST_partAt_6 0 rfl fl_ST_38 rfl ?_
    refine vv_icmp_ge (tgt := 21) d_ST_partAt_9 (by decide) ⟨by omega, by omega⟩ (fun c9 => ?_) (fun c9 => ?_)
    · exfalso; omega
    · skip
      refine vv_iload_n d_ST_partAt_12 rfl ?_
      refine vv_aload_n d_ST_partAt_13 rfl ?_
      refine vv_get d_ST_partAt_14 0 rfl fl_ST_17 rfl ?_
      refine vv_alen d_ST_partAt_17 1 0 rfl rfl (v := 8) rfl ?_
      refine vv_icmp_lt (tgt := 31) d_ST_partAt_18 (by decide) ⟨by omega, by omega⟩ (fun c18 => ?_) (fun c18 => ?_)
      · skip
        refine vv_aload_n d_ST_partAt_31 rfl ?_
        refine vv_get d_ST_partAt_32 0 rfl fl_ST_17 rfl ?_
        refine vv_iload_n d_ST_partAt_35 rfl ?_
        refine vv_aald d_ST_partAt_36 1 0 rfl rfl (by omega) (show fP ((k : Int).toNat) = some (aP k) by rw [Int.toNat_natCast]; exact hfP k hk8) ?_
        exact vp_aret hA hr (Or.inl ⟨_, rfl⟩) d_ST_partAt_37 (by decide) (by decide) (by rfl)
      · exfalso; omega
set_option maxHeartbeats 4000000 in
set_option maxRecDepth 100000 in
theorem c_ST_cutSheetAt_y (l : Launch) (D : va_G) (x qsh qpa qcu qtk qrs qt ql nC k : Nat) (S le nS nP nT nR : Int) (cC : ClassId) (fC : Nat → Option Nat) (aC : Nat → Nat) (hnC : nC ≤ 20) (hk : k < nC) (hfC : ∀ i : Nat, i < 20 → fC i = some (aC i)) : CP l y_ST_cutSheetAt b_ST_cutSheetAt 2 (some (.object "SheetTrees$CutSheet")) rm_2 [.ref x, .int (iI (k : Int))] D [(cC, .object "SheetTrees$CutSheet")] ([ob_ST x qsh qpa qcu qtk qrs qt ql S le nS nP (nC : Int) nT nR 1, ar_Q qcu cC 20 fC] ++ []) (fun v => v = some (.ref (aC k))) := by
  refine cp_of (by decide) (Nat.le_of_ble_eq_true rfl) ?_
  intro X sz hl hr hD hA
  subst hD
  have hk8 : k < 20 := by omega
  show VV X (b_ST_cutSheetAt, 2, "SheetTrees", rm_2) _ 0 0 [(cC, .object "SheetTrees$CutSheet")] [ob_ST x qsh qpa qcu qtk qrs qt ql S le nS nP (nC : Int) nT nR 1, ar_Q qcu cC 20 fC] [] [some (.ref x), some (.int (iI (k : Int)))] [] 0
  refine vv_aload_n d_ST_cutSheetAt_0 rfl ?_
  refine vv_pV (wc := [ob_ST x qsh qpa qcu qtk qrs qt ql S le nS nP (nC : Int) nT nR 1]) (plc := []) [] (c_ST_needRun_y (cx_l X) (cx_D X) x qsh qpa qcu qtk qrs qt ql S le _ _ _ _ _) lk_ST_218 d_ST_cutSheetAt_1 rfl (rc_at 0 rfl rfl rfl) [0] ⟨rfl, rfl, Or.inl rfl⟩ [] rfl ⟨⟨by decide, by decide⟩, ⟨by decide, by decide⟩, Nat.le_of_ble_eq_true rfl⟩ ⟨rfl, rfl⟩ ?_
  intro v hv
  subst hv
  dsimp only [Option.toList, List.cons_append, List.nil_append, List.append_nil]
  refine vv_iload_n d_ST_cutSheetAt_4 rfl ?_
  refine vv_if_lt (tgt := 25) d_ST_cutSheetAt_5 (by decide) (by omega) (fun c5 => ?_) (fun c5 => ?_)
  · exfalso; omega
  · skip
    refine vv_iload_n d_ST_cutSheetAt_8 rfl ?_
    refine vv_aload_n d_ST_cutSheetAt_9 rfl ?_
    refine vv_get d_ST_cutSheetAt_10 0 rfl fl_ST_41 rfl ?_
    refine vv_icmp_ge (tgt := 25) d_ST_cutSheetAt_13 (by decide) ⟨by omega, by omega⟩ (fun c13 => ?_) (fun c13 => ?_)
    · exfalso; omega
    · skip
      refine vv_iload_n d_ST_cutSheetAt_16 rfl ?_
      refine vv_aload_n d_ST_cutSheetAt_17 rfl ?_
      refine vv_get d_ST_cutSheetAt_18 0 rfl fl_ST_23 rfl ?_
      refine vv_alen d_ST_cutSheetAt_21 1 0 rfl rfl (v := 20) rfl ?_
      refine vv_icmp_lt (tgt := 35) d_ST_cutSheetAt_22 (by decide) ⟨by omega, by omega⟩ (fun c22 => ?_) (fun c22 => ?_)
      · skip
        refine vv_aload_n d_ST_cutSheetAt_35 rfl ?_
        refine vv_get d_ST_cutSheetAt_36 0 rfl fl_ST_23 rfl ?_
        refine vv_iload_n d_ST_cutSheetAt_39 rfl ?_
        refine vv_aald d_ST_cutSheetAt_40 1 0 rfl rfl (by omega) (show fC ((k : Int).toNat) = some (aC k) by rw [Int.toNat_natCast]; exact hfC k hk8) ?_
        exact vp_aret hA hr (Or.inl ⟨_, rfl⟩) d_ST_cutSheetAt_41 (by decide) (by decide) (by rfl)
      · exfalso; omega
set_option maxHeartbeats 4000000 in
set_option maxRecDepth 100000 in
theorem c_ST_left_y (l : Launch) (D : va_G) (x qsh qpa qcu qtk qrs qt ql nP k : Nat) (S le nS nC nT nR : Int) (cP : ClassId) (fP : Nat → Option Nat) (L : List Nat) (f : Nat → va_E) (aP : Nat → Nat) (R : Nat → pa_T) (hnP : nP ≤ 8) (hk : k < nP) (hfP : ∀ i : Nat, i < 8 → fP i = some (aP i)) (hPP : PP L f aP R) : CP l y_ST_left b_ST_left 2 (some .int) rm_2 [.ref x, .int (iI (k : Int))] D [(cP, .object "SheetTrees$Part")] ([ob_ST x qsh qpa qcu qtk qrs qt ql S le nS (nP : Int) nC nT nR 1, ar_Q qpa cP 8 fP] ++ va_pl L f) (fun v => v = some (.int (iI (R k).2.2.2.2))) := by
  refine cp_of (by decide) (Nat.le_of_ble_eq_true rfl) ?_
  intro X sz hl hr hD hA
  subst hD
  obtain ⟨hin, hat⟩ := hPP k (by omega)
  show VV X (b_ST_left, 2, "SheetTrees", rm_2) _ 0 0 [(cP, .object "SheetTrees$Part")] [ob_ST x qsh qpa qcu qtk qrs qt ql S le nS (nP : Int) nC nT nR 1, ar_Q qpa cP 8 fP] (va_pl L f) [some (.ref x), some (.int (iI (k : Int)))] [] 0
  refine vv_aload_n d_ST_left_0 rfl ?_
  refine vv_pV (wc := [ob_ST x qsh qpa qcu qtk qrs qt ql S le nS (nP : Int) nC nT nR 1]) (plc := []) [] (c_ST_needRun_y (cx_l X) (cx_D X) x qsh qpa qcu qtk qrs qt ql S le _ _ _ _ _) lk_ST_218 d_ST_left_1 rfl (rc_at 0 rfl rfl rfl) [0] ⟨rfl, rfl, Or.inl rfl⟩ [] rfl ⟨⟨by decide, by decide⟩, ⟨by decide, by decide⟩, Nat.le_of_ble_eq_true rfl⟩ ⟨rfl, rfl⟩ ?_
  intro v hv
  subst hv
  dsimp only [Option.toList, List.cons_append, List.nil_append, List.append_nil]
  refine vv_aload_n d_ST_left_4 rfl ?_
  refine vv_iload_n d_ST_left_5 rfl ?_
  refine vv_pV (wc := [ob_ST x qsh qpa qcu qtk qrs qt ql S le nS (nP : Int) nC nT nR 1, ar_Q qpa cP 8 fP]) (plc := []) [] (c_ST_partAt_y (cx_l X) (cx_D X) x qsh qpa qcu qtk qrs qt ql nP k S le nS nC nT nR 1 cP fP aP hnP hk hfP) lk_ST_133 d_ST_left_6 rfl (rc_at 0 rfl rfl rfl) [0, 1] ⟨rfl, rfl, Or.inl rfl⟩ [0] rfl ⟨⟨by decide, by decide⟩, ⟨by decide, by decide⟩, Nat.le_of_ble_eq_true rfl⟩ ⟨rfl, rfl⟩ ?_
  intro v hv
  subst hv
  dsimp only [Option.toList, List.cons_append, List.nil_append, List.append_nil]
  refine vv_getP d_ST_left_9 hin hat fl_ST_221 rfl ?_
  exact vp_iret hA hr d_ST_left_12 (by decide) (by decide) (by rfl)
def al_g (w : Int) (c : Nat → Int) : Int := if w = 0 then c 1 else if w = 1 then c 2 else c 9
def al_s (w : Int) (Cs : Nat → Nat → Int) : Nat → Int64
  | 0 => 0
  | n + 1 => al_s w Cs n + (iI (al_g w (Cs n))).toInt64
set_option maxHeartbeats 4000000 in
set_option maxRecDepth 100000 in
theorem c_ST_all_y (l : Launch) (D : va_G) (x qsh qpa qcu qtk qrs qt ql nC : Nat) (S le nS nP nT nR w : Int) (cC : ClassId) (fC : Nat → Option Nat) (L : List Nat) (f : Nat → va_E) (aC : Nat → Nat) (Cs : Nat → Nat → Int) (hnC : nC ≤ 20) (hw : 0 ≤ w ∧ w ≤ 2) (hfC : ∀ i : Nat, i < 20 → fC i = some (aC i)) (hCC : CC L f aC Cs) : CP l y_ST_all b_ST_all 6 (some .long) rm_2 [.ref x, .int (iI w)] D [(cC, .object "SheetTrees$CutSheet")] ([ob_ST x qsh qpa qcu qtk qrs qt ql S le nS nP (nC : Int) nT nR 1, ar_Q qcu cC 20 fC] ++ va_pl L f) (fun v => v = some (.long (al_s w Cs nC))) := by
  refine cp_of (by decide) (Nat.le_of_ble_eq_true rfl) ?_
  intro X sz hl hr hD hA
  subst hD
  have hiw : isW w 0 2 = 1 := by unfold isW; rw [if_pos hw]
  have loop : ∀ m i : Nat, i + m = nC → ∀ (z : Int64) (v5 : Option Value), al_s w Cs i = z → VV X (b_ST_all, 6, "SheetTrees", rm_2) (cr X sz (fun v => v = some (.long (al_s w Cs nC))) rm_2) 0 0 [(cC, .object "SheetTrees$CutSheet")] [ob_ST x qsh qpa qcu qtk qrs qt ql S le nS nP (nC : Int) nT nR 1, ar_Q qcu cC 20 fC] (va_pl L f) [some (.ref x), some (.int (iI w)), some (.long z), none, some (.int (iI (i : Int))), v5] [] 28 := by
    intro m
    induction m with
    | zero =>
      intro i hi z v5 hz
      have hi2 : i = nC := by omega
      subst hi2
      subst hz
      refine vv_iload d_ST_all_28 rfl ?_
      refine vv_aload_n d_ST_all_30 rfl ?_
      refine vv_get d_ST_all_31 0 rfl fl_ST_41 rfl ?_
      refine vv_icmp_ge (tgt := 98) d_ST_all_34 (by decide) ⟨by omega, by omega⟩ (fun c34 => ?_) (fun c34 => ?_)
      · skip
        refine vv_lload_n d_ST_all_98 rfl ?_
        exact vp_lret hA hr d_ST_all_99 (by decide) (by decide) (by rfl)
      · exfalso; omega
    | succ m ih =>
      intro i hi z v5 hz
      have hi20 : i < 20 := by omega
      obtain ⟨hin, hat⟩ := hCC i hi20
      have h9 := ih (i + 1) (by omega)
      have hs : al_s w Cs (i + 1) = z + (iI (al_g w (Cs i))).toInt64 := by rw [← hz]; rfl
      refine vv_iload d_ST_all_28 rfl ?_
      refine vv_aload_n d_ST_all_30 rfl ?_
      refine vv_get d_ST_all_31 0 rfl fl_ST_41 rfl ?_
      refine vv_icmp_ge (tgt := 98) d_ST_all_34 (by decide) ⟨by omega, by omega⟩ (fun c34 => ?_) (fun c34 => ?_)
      · exfalso; omega
      · skip
        refine vv_iload d_ST_all_37 rfl ?_
        refine vv_aload_n d_ST_all_39 rfl ?_
        refine vv_get d_ST_all_40 0 rfl fl_ST_23 rfl ?_
        refine vv_alen d_ST_all_43 1 0 rfl rfl (v := 20) rfl ?_
        refine vv_icmp_ge (tgt := 98) d_ST_all_44 (by decide) ⟨by omega, by omega⟩ (fun c44 => ?_) (fun c44 => ?_)
        · exfalso; omega
        · skip
          refine vv_aload_n d_ST_all_47 rfl ?_
          refine vv_get d_ST_all_48 0 rfl fl_ST_23 rfl ?_
          refine vv_iload d_ST_all_51 rfl ?_
          refine vv_aald d_ST_all_53 1 0 rfl rfl (by omega) (show fC ((i : Int).toNat) = some (aC i) by rw [Int.toNat_natCast]; exact hfC i hi20) ?_
          refine vv_astore d_ST_all_54 rfl (by decide) ?_
          dsimp only [List.set]
          refine vv_lload_n d_ST_all_56 rfl ?_
          refine vv_iload_n d_ST_all_57 rfl ?_
          refine vv_if_ne (tgt := 70) d_ST_all_58 (by decide) (by omega) (fun c58 => ?_) (fun c58 => ?_)
          · skip
            refine vv_iload_n d_ST_all_70 rfl ?_
            refine vv_iconst d_ST_all_71 ?_
            refine vv_icmp_ne (tgt := 84) d_ST_all_72 (by decide) ⟨by omega, by omega⟩ (fun c72 => ?_) (fun c72 => ?_)
            · skip
              refine vv_aload d_ST_all_84 rfl ?_
              refine vv_getP d_ST_all_86 hin hat fl_ST_173 rfl ?_
              refine vv_i2l d_ST_all_89 rfl ?_
              rw [show al_g w (Cs i) = _ from (by unfold al_g; rw [if_neg c58, if_neg c72])] at hs
              refine vv_ladd d_ST_all_90 rfl ?_
              refine vv_lstore_n d_ST_all_91 rfl (by decide) ?_
              dsimp only [List.set]
              refine vv_iinc d_ST_all_92 rfl rfl (by decide) ?_
              dsimp only [List.set]
              refine vv_goto (tgt := 28) d_ST_all_95 (by decide) ?_
              exact h9 _ _ hs
            · skip
              refine vv_aload d_ST_all_75 rfl ?_
              refine vv_getP d_ST_all_77 hin hat fl_ST_227 rfl ?_
              refine vv_i2l d_ST_all_80 rfl ?_
              refine vv_goto (tgt := 90) d_ST_all_81 (by decide) ?_
              rw [show al_g w (Cs i) = _ from (by unfold al_g; rw [if_neg c58, if_pos c72])] at hs
              refine vv_ladd d_ST_all_90 rfl ?_
              refine vv_lstore_n d_ST_all_91 rfl (by decide) ?_
              dsimp only [List.set]
              refine vv_iinc d_ST_all_92 rfl rfl (by decide) ?_
              dsimp only [List.set]
              refine vv_goto (tgt := 28) d_ST_all_95 (by decide) ?_
              exact h9 _ _ hs
          · skip
            refine vv_aload d_ST_all_61 rfl ?_
            refine vv_getP d_ST_all_63 hin hat fl_ST_226 rfl ?_
            refine vv_i2l d_ST_all_66 rfl ?_
            refine vv_goto (tgt := 90) d_ST_all_67 (by decide) ?_
            rw [show al_g w (Cs i) = _ from (by unfold al_g; rw [if_pos c58])] at hs
            refine vv_ladd d_ST_all_90 rfl ?_
            refine vv_lstore_n d_ST_all_91 rfl (by decide) ?_
            dsimp only [List.set]
            refine vv_iinc d_ST_all_92 rfl rfl (by decide) ?_
            dsimp only [List.set]
            refine vv_goto (tgt := 28) d_ST_all_95 (by decide) ?_
            exact h9 _ _ hs
  show VV X (b_ST_all, 6, "SheetTrees", rm_2) _ 0 0 [(cC, .object "SheetTrees$CutSheet")] [ob_ST x qsh qpa qcu qtk qrs qt ql S le nS nP (nC : Int) nT nR 1, ar_Q qcu cC 20 fC] (va_pl L f) [some (.ref x), some (.int (iI w)), none, none, none, none] [] 0
  refine vv_aload_n d_ST_all_0 rfl ?_
  refine vv_pV (wc := [ob_ST x qsh qpa qcu qtk qrs qt ql S le nS nP (nC : Int) nT nR 1]) (plc := []) [] (c_ST_needRun_y (cx_l X) (cx_D X) x qsh qpa qcu qtk qrs qt ql S le _ _ _ _ _) lk_ST_218 d_ST_all_1 rfl (rc_at 0 rfl rfl rfl) [0] ⟨rfl, rfl, Or.inl rfl⟩ [] rfl ⟨⟨by decide, by decide⟩, ⟨by decide, by decide⟩, Nat.le_of_ble_eq_true rfl⟩ ⟨rfl, rfl⟩ ?_
  intro v hv
  subst hv
  dsimp only [Option.toList, List.cons_append, List.nil_append, List.append_nil]
  refine vv_iload_n d_ST_all_4 rfl ?_
  refine vv_iconst d_ST_all_5 ?_
  refine vv_iconst d_ST_all_6 ?_
  refine vv_pS (wc := []) (plc := []) [] (c_ST_isWithin (cx_l X) (cx_D X) w 0 2 (by omega) (by omega) (by omega)) lk_ST_96 d_ST_all_7 rfl [] ⟨rfl, rfl, Or.inl rfl⟩ [] rfl ⟨⟨by decide, by decide⟩, ⟨by decide, by decide⟩, Nat.le_of_ble_eq_true rfl⟩ ⟨rfl, rfl⟩ ?_
  intro v hv
  subst hv
  dsimp only [Option.toList, List.cons_append, List.nil_append, List.append_nil]
  rw [hiw]
  refine vv_if_ne (tgt := 23) d_ST_all_10 (by decide) (by omega) (fun c10 => ?_) (fun c10 => ?_)
  · skip
    refine vv_lconst d_ST_all_23 rfl ?_
    refine vv_lstore_n d_ST_all_24 rfl (by decide) ?_
    dsimp only [List.set]
    refine vv_iconst d_ST_all_25 ?_
    refine vv_istore d_ST_all_26 rfl (by decide) ?_
    dsimp only [List.set]
    exact loop nC 0 (by omega) 0 _ rfl
  · exfalso; omega
