/-! SheetTrees: startRun, takePieces -/
def sr_S (Sh : Nat → pa_T) (n : Nat) : Nat → pa_T := fun j => if j < n then ((Sh j).1, (Sh j).2.1, (Sh j).2.2.1, (Sh j).2.2.2.1, (Sh j).2.2.2.1) else Sh j
theorem sr_up (Sh : Nat → pa_T) (n : Nat) : va_up (sr_S Sh n) n ((Sh n).1, (Sh n).2.1, (Sh n).2.2.1, (Sh n).2.2.2.1, (Sh n).2.2.2.1) = sr_S Sh (n + 1) := by
  funext j
  unfold sr_S
  by_cases h1 : j = n
  · subst h1
    rw [va_up_self, if_pos (by omega)]
  · rw [va_up_ne _ _ h1]
    by_cases h2 : j < n
    · rw [if_pos h2, if_pos (by omega)]
    · rw [if_neg h2, if_neg (by omega)]
theorem sr_at (Sh : Nat → pa_T) (n : Nat) : sr_S Sh n n = Sh n := if_neg (by omega)
theorem sr_0 (Sh : Nat → pa_T) : sr_S Sh 0 = Sh := by funext j; exact if_neg (by omega)
set_option maxHeartbeats 4000000 in
set_option maxRecDepth 100000 in
theorem c_ST_startRun (l : Launch) (D : va_G) (x qsh qpa qcu qtk qrs qt ql nS nP : Nat) (S le nC nT nR rn : Int) (cS cP : ClassId) (fS fP : Nat → Option Nat) (L : List Nat) (f : Nat → va_E) (aS aP aC : Nat → Nat) (Sh R : Nat → pa_T) (Cs : Nat → Nat → Int) (hnS : nS ≤ 4) (hnP : nP ≤ 8) (hfS : ∀ i : Nat, i < 4 → fS i = some (aS i)) (hfP : ∀ i : Nat, i < 8 → fP i = some (aP i)) (hPL : PL L f aS aP aC Sh R Cs) (hAD : AD aS aP aC) : CM l y_ST_startRun b_ST_startRun 2 none rm_0 [.ref x] D [(cS, .object "SheetTrees$Sheet"), (cP, .object "SheetTrees$Part")] ([ob_ST x qsh qpa qcu qtk qrs qt ql S le (nS : Int) (nP : Int) nC nT nR rn, ar_Q qsh cS 4 fS, ar_Q qpa cP 8 fP] ++ va_pl L f) (fun v w1 p1 _ => v = none ∧ w1 = [ob_ST x qsh qpa qcu qtk qrs qt ql S le (nS : Int) (nP : Int) 0 0 0 rn, ar_Q qsh cS 4 fS, ar_Q qpa cP 8 fP] ∧ ∃ f9, p1 = va_pl L f9 ∧ PL L f9 aS aP aC (sr_S Sh nS) (sr_S R nP) Cs) := by
  refine cm_of (by decide) (Nat.le_of_ble_eq_true rfl) ?_
  intro X sz hl hr hnm hD hA hw
  subst hD
  have loopP : ∀ m i : Nat, i + m = nP → ∀ f1 : Nat → va_E, PL L f1 aS aP aC (sr_S Sh nS) (sr_S R i) Cs → VV X (b_ST_startRun, 2, "SheetTrees", rm_0) (cq X ([ob_ST x qsh qpa qcu qtk qrs qt ql S le (nS : Int) (nP : Int) nC nT nR rn, ar_Q qsh cS 4 fS, ar_Q qpa cP 8 fP] ++ va_pl L f) sz (fun v w1 p1 _ => v = none ∧ w1 = [ob_ST x qsh qpa qcu qtk qrs qt ql S le (nS : Int) (nP : Int) 0 0 0 rn, ar_Q qsh cS 4 fS, ar_Q qpa cP 8 fP] ∧ ∃ f9, p1 = va_pl L f9 ∧ PL L f9 aS aP aC (sr_S Sh nS) (sr_S R nP) Cs) rm_0) 0 0 [(cS, .object "SheetTrees$Sheet"), (cP, .object "SheetTrees$Part")] [ob_ST x qsh qpa qcu qtk qrs qt ql S le (nS : Int) (nP : Int) 0 0 0 rn, ar_Q qsh cS 4 fS, ar_Q qpa cP 8 fP] (va_pl L f1) [some (.ref x), some (.int (iI (i : Int)))] [] 60 := by
    intro m
    induction m with
    | zero =>
      intro i hi f1 hp
      have hi2 : i = nP := by omega
      subst hi2
      refine vv_iload_n d_ST_startRun_60 rfl ?_
      refine vv_aload_n d_ST_startRun_61 rfl ?_
      refine vv_get d_ST_startRun_62 0 rfl fl_ST_38 rfl ?_
      refine vv_icmp_ge (tgt := 101) d_ST_startRun_65 (by decide) ⟨by omega, by omega⟩ (fun c65 => ?_) (fun c65 => ?_)
      · skip
        exact vv_vret hA hw hr d_ST_startRun_101 (by decide) (by decide) (by exact ⟨rfl, rfl, f1, rfl, hp⟩)
      · exfalso; omega
    | succ m ih =>
      intro i hi f1 hp
      have hi8 : i < 8 := by omega
      obtain ⟨hin, hat⟩ := hp.2.1 i hi8
      have hp2 := PL_P (i := i) (r := ((R i).1, (R i).2.1, (R i).2.2.1, (R i).2.2.2.1, (R i).2.2.2.1)) hp hAD hi8
      rw [sr_up] at hp2
      rw [sr_at] at hat
      refine vv_iload_n d_ST_startRun_60 rfl ?_
      refine vv_aload_n d_ST_startRun_61 rfl ?_
      refine vv_get d_ST_startRun_62 0 rfl fl_ST_38 rfl ?_
      refine vv_icmp_ge (tgt := 101) d_ST_startRun_65 (by decide) ⟨by omega, by omega⟩ (fun c65 => ?_) (fun c65 => ?_)
      · exfalso; omega
      · skip
        refine vv_iload_n d_ST_startRun_68 rfl ?_
        refine vv_aload_n d_ST_startRun_69 rfl ?_
        refine vv_get d_ST_startRun_70 0 rfl fl_ST_17 rfl ?_
        refine vv_alen d_ST_startRun_73 2 1 rfl rfl (v := 8) rfl ?_
        refine vv_icmp_ge (tgt := 101) d_ST_startRun_74 (by decide) ⟨by omega, by omega⟩ (fun c74 => ?_) (fun c74 => ?_)
        · exfalso; omega
        · skip
          refine vv_aload_n d_ST_startRun_77 rfl ?_
          refine vv_get d_ST_startRun_78 0 rfl fl_ST_17 rfl ?_
          refine vv_iload_n d_ST_startRun_81 rfl ?_
          refine vv_aald d_ST_startRun_82 2 1 rfl rfl (by omega) (show fP ((i : Int).toNat) = some (aP i) by rw [Int.toNat_natCast]; exact hfP i hi8) ?_
          refine vv_aload_n d_ST_startRun_83 rfl ?_
          refine vv_get d_ST_startRun_84 0 rfl fl_ST_17 rfl ?_
          refine vv_iload_n d_ST_startRun_87 rfl ?_
          refine vv_aald d_ST_startRun_88 2 1 rfl rfl (by omega) (show fP ((i : Int).toNat) = some (aP i) by rw [Int.toNat_natCast]; exact hfP i hi8) ?_
          refine vv_getP d_ST_startRun_89 hin hat fl_ST_130 rfl ?_
          refine vv_putP hw d_ST_startRun_92 hin hat fp_ST_221 rfl rfl (Nat.le_of_ble_eq_true rfl) ?_
          dsimp only [List.set]
          refine vv_iinc d_ST_startRun_95 rfl rfl (by decide) ?_
          dsimp only [List.set]
          refine vv_goto (tgt := 60) d_ST_startRun_98 (by decide) ?_
          exact ih (i + 1) (by omega) _ hp2
  have loopS : ∀ m i : Nat, i + m = nS → ∀ f1 : Nat → va_E, PL L f1 aS aP aC (sr_S Sh i) R Cs → VV X (b_ST_startRun, 2, "SheetTrees", rm_0) (cq X ([ob_ST x qsh qpa qcu qtk qrs qt ql S le (nS : Int) (nP : Int) nC nT nR rn, ar_Q qsh cS 4 fS, ar_Q qpa cP 8 fP] ++ va_pl L f) sz (fun v w1 p1 _ => v = none ∧ w1 = [ob_ST x qsh qpa qcu qtk qrs qt ql S le (nS : Int) (nP : Int) 0 0 0 rn, ar_Q qsh cS 4 fS, ar_Q qpa cP 8 fP] ∧ ∃ f9, p1 = va_pl L f9 ∧ PL L f9 aS aP aC (sr_S Sh nS) (sr_S R nP) Cs) rm_0) 0 0 [(cS, .object "SheetTrees$Sheet"), (cP, .object "SheetTrees$Part")] [ob_ST x qsh qpa qcu qtk qrs qt ql S le (nS : Int) (nP : Int) 0 0 0 rn, ar_Q qsh cS 4 fS, ar_Q qpa cP 8 fP] (va_pl L f1) [some (.ref x), some (.int (iI (i : Int)))] [] 17 := by
    intro m
    induction m with
    | zero =>
      intro i hi f1 hp
      have hi2 : i = nS := by omega
      subst hi2
      refine vv_iload_n d_ST_startRun_17 rfl ?_
      refine vv_aload_n d_ST_startRun_18 rfl ?_
      refine vv_get d_ST_startRun_19 0 rfl fl_ST_34 rfl ?_
      refine vv_icmp_ge (tgt := 58) d_ST_startRun_22 (by decide) ⟨by omega, by omega⟩ (fun c22 => ?_) (fun c22 => ?_)
      · skip
        refine vv_iconst d_ST_startRun_58 ?_
        refine vv_istore_n d_ST_startRun_59 rfl (by decide) ?_
        dsimp only [List.set]
        exact loopP nP 0 (by omega) f1 (by rw [sr_0]; exact hp)
      · exfalso; omega
    | succ m ih =>
      intro i hi f1 hp
      have hi4 : i < 4 := by omega
      obtain ⟨hin, hat⟩ := hp.1 i hi4
      have hp2 := PL_S (i := i) (r := ((Sh i).1, (Sh i).2.1, (Sh i).2.2.1, (Sh i).2.2.2.1, (Sh i).2.2.2.1)) hp hAD hi4
      rw [sr_up] at hp2
      rw [sr_at] at hat
      refine vv_iload_n d_ST_startRun_17 rfl ?_
      refine vv_aload_n d_ST_startRun_18 rfl ?_
      refine vv_get d_ST_startRun_19 0 rfl fl_ST_34 rfl ?_
      refine vv_icmp_ge (tgt := 58) d_ST_startRun_22 (by decide) ⟨by omega, by omega⟩ (fun c22 => ?_) (fun c22 => ?_)
      · exfalso; omega
      · skip
        refine vv_iload_n d_ST_startRun_25 rfl ?_
        refine vv_aload_n d_ST_startRun_26 rfl ?_
        refine vv_get d_ST_startRun_27 0 rfl fl_ST_11 rfl ?_
        refine vv_alen d_ST_startRun_30 1 0 rfl rfl (v := 4) rfl ?_
        refine vv_icmp_ge (tgt := 58) d_ST_startRun_31 (by decide) ⟨by omega, by omega⟩ (fun c31 => ?_) (fun c31 => ?_)
        · exfalso; omega
        · skip
          refine vv_aload_n d_ST_startRun_34 rfl ?_
          refine vv_get d_ST_startRun_35 0 rfl fl_ST_11 rfl ?_
          refine vv_iload_n d_ST_startRun_38 rfl ?_
          refine vv_aald d_ST_startRun_39 1 0 rfl rfl (by omega) (show fS ((i : Int).toNat) = some (aS i) by rw [Int.toNat_natCast]; exact hfS i hi4) ?_
          refine vv_aload_n d_ST_startRun_40 rfl ?_
          refine vv_get d_ST_startRun_41 0 rfl fl_ST_11 rfl ?_
          refine vv_iload_n d_ST_startRun_44 rfl ?_
          refine vv_aald d_ST_startRun_45 1 0 rfl rfl (by omega) (show fS ((i : Int).toNat) = some (aS i) by rw [Int.toNat_natCast]; exact hfS i hi4) ?_
          refine vv_getP d_ST_startRun_46 hin hat fl_ST_118 rfl ?_
          refine vv_putP hw d_ST_startRun_49 hin hat fp_ST_247 rfl rfl (Nat.le_of_ble_eq_true rfl) ?_
          dsimp only [List.set]
          refine vv_iinc d_ST_startRun_52 rfl rfl (by decide) ?_
          dsimp only [List.set]
          refine vv_goto (tgt := 17) d_ST_startRun_55 (by decide) ?_
          exact ih (i + 1) (by omega) _ hp2
  show VV X (b_ST_startRun, 2, "SheetTrees", rm_0) _ 0 0 [(cS, .object "SheetTrees$Sheet"), (cP, .object "SheetTrees$Part")] [ob_ST x qsh qpa qcu qtk qrs qt ql S le (nS : Int) (nP : Int) nC nT nR rn, ar_Q qsh cS 4 fS, ar_Q qpa cP 8 fP] (va_pl L f) [some (.ref x), none] [] 0
  refine vv_aload_n d_ST_startRun_0 rfl ?_
  refine vv_iconst d_ST_startRun_1 ?_
  refine vv_put hw d_ST_startRun_2 0 rfl fp_ST_41 rfl rfl (Nat.le_of_ble_eq_true rfl) ?_
  dsimp only [List.set]
  refine vv_aload_n d_ST_startRun_5 rfl ?_
  refine vv_iconst d_ST_startRun_6 ?_
  refine vv_put hw d_ST_startRun_7 0 rfl fp_ST_44 rfl rfl (Nat.le_of_ble_eq_true rfl) ?_
  dsimp only [List.set]
  refine vv_aload_n d_ST_startRun_10 rfl ?_
  refine vv_iconst d_ST_startRun_11 ?_
  refine vv_put hw d_ST_startRun_12 0 rfl fp_ST_47 rfl rfl (Nat.le_of_ble_eq_true rfl) ?_
  dsimp only [List.set]
  refine vv_iconst d_ST_startRun_15 ?_
  refine vv_istore_n d_ST_startRun_16 rfl (by decide) ?_
  dsimp only [List.set]
  exact loopS nS 0 (by omega) f (by rw [sr_0]; exact hPL)
