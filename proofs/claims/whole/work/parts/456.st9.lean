/-! SheetTrees: sheet, part, count, worth, cut, taken, rest where they return -/
theorem isW_1 {v lo hi : Int} (h : lo ≤ v ∧ v ≤ hi) : isW v lo hi = 1 := if_pos h
def ct_k (w : Int) : Nat := if w = 0 then 0 else if w = 1 then 8 else if w = 2 then 9 else if w = 3 then 4 else if w = 4 then 3 else if w = 5 then 5 else if w = 6 then 11 else 12
set_option maxHeartbeats 4000000 in
set_option maxRecDepth 100000 in
theorem c_ST_sheet_y (l : Launch) (D : va_G) (x qsh qpa qcu qtk qrs qt ql nS : Nat) (S le nP nC nT nR rn w h c n : Int) (cS : ClassId) (fS : Nat → Option Nat) (L : List Nat) (f : Nat → va_E) (aS aP aC : Nat → Nat) (Sh R : Nat → pa_T) (Cs : Nat → Nat → Int) (hnS : nS < 4) (hw1 : 1 ≤ w ∧ w ≤ 16) (hh1 : 1 ≤ h ∧ h ≤ 16) (hc1 : 1 ≤ c ∧ c ≤ 10000) (hn1 : 0 ≤ n ∧ n ≤ 20) (hfS : ∀ i : Nat, i < 4 → fS i = some (aS i)) (hPL : PL L f aS aP aC Sh R Cs) (hAD : AD aS aP aC) : CM l y_ST_sheet b_ST_sheet 6 (some .int) rm_2 [.ref x, .int (iI w), .int (iI h), .int (iI c), .int (iI n)] D [(cS, .object "SheetTrees$Sheet")] ([ob_ST x qsh qpa qcu qtk qrs qt ql S le (nS : Int) nP nC nT nR rn, ar_Q qsh cS 4 fS] ++ va_pl L f) (fun v w1 p1 _ => v = some (.int (iI (nS : Int))) ∧ w1 = [ob_ST x qsh qpa qcu qtk qrs qt ql S le ((nS : Int) + 1) nP nC nT nR 0, ar_Q qsh cS 4 fS] ∧ ∃ f9, p1 = va_pl L f9 ∧ PL L f9 aS aP aC (va_up Sh nS ((w, h, c, n, (Sh nS).2.2.2.2) : pa_T)) R Cs) := by
  refine cm_of (by decide) (Nat.le_of_ble_eq_true rfl) ?_
  intro X sz hl hr hnm hD hA hw
  subst hD
  obtain ⟨hin, hat⟩ := hPL.1 nS hnS
  have hp := PL_S (i := nS) (r := ((w, h, c, n, (Sh nS).2.2.2.2) : pa_T)) hPL hAD hnS
  show VV X (b_ST_sheet, 6, "SheetTrees", rm_2) _ 0 0 [(cS, .object "SheetTrees$Sheet")] [ob_ST x qsh qpa qcu qtk qrs qt ql S le (nS : Int) nP nC nT nR rn, ar_Q qsh cS 4 fS] (va_pl L f) [some (.ref x), some (.int (iI w)), some (.int (iI h)), some (.int (iI c)), some (.int (iI n)), none] [] 0
  refine vv_iload_n d_ST_sheet_0 rfl ?_
  refine vv_pS (wc := []) (plc := []) [] (c_ST_isSide (cx_l X) (cx_D X) w (by omega)) lk_ST_85 d_ST_sheet_1 rfl [] ⟨rfl, rfl, Or.inl rfl⟩ [] rfl ⟨⟨by decide, by decide⟩, ⟨by decide, by decide⟩, Nat.le_of_ble_eq_true rfl⟩ ⟨rfl, rfl⟩ ?_
  intro v hv
  subst hv
  dsimp only [Option.toList, List.cons_append, List.nil_append, List.append_nil]
  rw [isW_1 hw1]
  refine vv_if_eq (tgt := 14) d_ST_sheet_4 (by decide) (by omega) (fun c4 => ?_) (fun c4 => ?_)
  · exfalso; omega
  · skip
    refine vv_iload_n d_ST_sheet_7 rfl ?_
    refine vv_pS (wc := []) (plc := []) [] (c_ST_isSide (cx_l X) (cx_D X) h (by omega)) lk_ST_85 d_ST_sheet_8 rfl [] ⟨rfl, rfl, Or.inl rfl⟩ [] rfl ⟨⟨by decide, by decide⟩, ⟨by decide, by decide⟩, Nat.le_of_ble_eq_true rfl⟩ ⟨rfl, rfl⟩ ?_
    intro v hv
    subst hv
    dsimp only [Option.toList, List.cons_append, List.nil_append, List.append_nil]
    rw [isW_1 hh1]
    refine vv_if_ne (tgt := 24) d_ST_sheet_11 (by decide) (by omega) (fun c11 => ?_) (fun c11 => ?_)
    · skip
      refine vv_iload_n d_ST_sheet_24 rfl ?_
      refine vv_iconst d_ST_sheet_25 ?_
      refine vv_sipush d_ST_sheet_26 (by decide +kernel) ?_
      refine vv_pS (wc := []) (plc := []) [] (c_ST_isWithin (cx_l X) (cx_D X) c 1 10000 (by omega) (by omega) (by omega)) lk_ST_96 d_ST_sheet_29 rfl [] ⟨rfl, rfl, Or.inl rfl⟩ [] rfl ⟨⟨by decide, by decide⟩, ⟨by decide, by decide⟩, Nat.le_of_ble_eq_true rfl⟩ ⟨rfl, rfl⟩ ?_
      intro v hv
      subst hv
      dsimp only [Option.toList, List.cons_append, List.nil_append, List.append_nil]
      rw [isW_1 hc1]
      refine vv_if_ne (tgt := 45) d_ST_sheet_32 (by decide) (by omega) (fun c32 => ?_) (fun c32 => ?_)
      · skip
        refine vv_iload d_ST_sheet_45 rfl ?_
        refine vv_iconst d_ST_sheet_47 ?_
        refine vv_bipush d_ST_sheet_48 (by decide +kernel) ?_
        refine vv_pS (wc := []) (plc := []) [] (c_ST_isWithin (cx_l X) (cx_D X) n 0 20 (by omega) (by omega) (by omega)) lk_ST_96 d_ST_sheet_50 rfl [] ⟨rfl, rfl, Or.inl rfl⟩ [] rfl ⟨⟨by decide, by decide⟩, ⟨by decide, by decide⟩, Nat.le_of_ble_eq_true rfl⟩ ⟨rfl, rfl⟩ ?_
        intro v hv
        subst hv
        dsimp only [Option.toList, List.cons_append, List.nil_append, List.append_nil]
        rw [isW_1 hn1]
        refine vv_if_ne (tgt := 66) d_ST_sheet_53 (by decide) (by omega) (fun c53 => ?_) (fun c53 => ?_)
        · skip
          refine vv_aload_n d_ST_sheet_66 rfl ?_
          refine vv_get d_ST_sheet_67 0 rfl fl_ST_34 rfl ?_
          refine vv_aload_n d_ST_sheet_70 rfl ?_
          refine vv_get d_ST_sheet_71 0 rfl fl_ST_11 rfl ?_
          refine vv_alen d_ST_sheet_74 1 0 rfl rfl (v := 4) rfl ?_
          refine vv_icmp_lt (tgt := 88) d_ST_sheet_75 (by decide) ⟨by omega, by omega⟩ (fun c75 => ?_) (fun c75 => ?_)
          · skip
            refine vv_aload_n d_ST_sheet_88 rfl ?_
            refine vv_get d_ST_sheet_89 0 rfl fl_ST_11 rfl ?_
            refine vv_aload_n d_ST_sheet_92 rfl ?_
            refine vv_get d_ST_sheet_93 0 rfl fl_ST_34 rfl ?_
            refine vv_aald d_ST_sheet_96 1 0 rfl rfl (by omega) (show fS ((nS : Int).toNat) = some (aS nS) by rw [Int.toNat_natCast]; exact hfS nS hnS) ?_
            refine vv_enter hat ?_
            refine vv_astore d_ST_sheet_97 rfl (by decide) ?_
            dsimp only [List.set]
            refine vv_aload d_ST_sheet_99 rfl ?_
            refine vv_iload_n d_ST_sheet_101 rfl ?_
            refine vv_putU hw d_ST_sheet_102 hin fp_ST_109 rfl rfl (Nat.le_of_ble_eq_true rfl) ?_
            dsimp only [List.set]
            refine vv_aload d_ST_sheet_105 rfl ?_
            refine vv_iload_n d_ST_sheet_107 rfl ?_
            refine vv_putU hw d_ST_sheet_108 hin fp_ST_112 rfl rfl (Nat.le_of_ble_eq_true rfl) ?_
            dsimp only [List.set]
            refine vv_aload d_ST_sheet_111 rfl ?_
            refine vv_iload_n d_ST_sheet_113 rfl ?_
            refine vv_putU hw d_ST_sheet_114 hin fp_ST_115 rfl rfl (Nat.le_of_ble_eq_true rfl) ?_
            dsimp only [List.set]
            refine vv_aload d_ST_sheet_117 rfl ?_
            refine vv_iload d_ST_sheet_119 rfl ?_
            refine vv_putU hw d_ST_sheet_121 hin fp_ST_118 rfl rfl (Nat.le_of_ble_eq_true rfl) ?_
            dsimp only [List.set]
            refine vv_aload_n d_ST_sheet_124 rfl ?_
            refine vv_iconst d_ST_sheet_125 ?_
            refine vv_put hw d_ST_sheet_126 0 rfl fp_ST_50 rfl rfl (Nat.le_of_ble_eq_true rfl) ?_
            dsimp only [List.set]
            refine vv_aload_n d_ST_sheet_129 rfl ?_
            refine vv_dup d_ST_sheet_130 rfl ?_
            refine vv_get d_ST_sheet_131 0 rfl fl_ST_34 rfl ?_
            refine vv_dup_x1 d_ST_sheet_134 rfl rfl ?_
            refine vv_iconst d_ST_sheet_135 ?_
            refine vv_iadd d_ST_sheet_136 ?_
            refine vv_put hw d_ST_sheet_137 0 rfl fp_ST_34 rfl rfl (Nat.le_of_ble_eq_true rfl) ?_
            dsimp only [List.set]
            exact vv_iret hA hw hr d_ST_sheet_140 (by decide) (by decide) (by exact ⟨rfl, rfl, _, rfl, hp⟩)
          · exfalso; omega
        · exfalso; omega
      · exfalso; omega
    · exfalso; omega
set_option maxHeartbeats 4000000 in
set_option maxRecDepth 100000 in
theorem c_ST_part_y (l : Launch) (D : va_G) (x qsh qpa qcu qtk qrs qt ql nP : Nat) (S le nS nC nT nR rn w h n t : Int) (cP : ClassId) (fP : Nat → Option Nat) (L : List Nat) (f : Nat → va_E) (aS aP aC : Nat → Nat) (Sh R : Nat → pa_T) (Cs : Nat → Nat → Int) (hnP : nP < 8) (hw1 : 1 ≤ w ∧ w ≤ 16) (hh1 : 1 ≤ h ∧ h ≤ 16) (hn1 : 0 ≤ n ∧ n ≤ 50) (ht1 : t = 0 ∨ t = 1) (hfP : ∀ i : Nat, i < 8 → fP i = some (aP i)) (hPL : PL L f aS aP aC Sh R Cs) (hAD : AD aS aP aC) : CM l y_ST_part b_ST_part 6 (some .int) rm_2 [.ref x, .int (iI w), .int (iI h), .int (iI n), .int (iI t)] D [(cP, .object "SheetTrees$Part")] ([ob_ST x qsh qpa qcu qtk qrs qt ql S le nS (nP : Int) nC nT nR rn, ar_Q qpa cP 8 fP] ++ va_pl L f) (fun v w1 p1 _ => v = some (.int (iI (nP : Int))) ∧ w1 = [ob_ST x qsh qpa qcu qtk qrs qt ql S le nS ((nP : Int) + 1) nC nT nR 0, ar_Q qpa cP 8 fP] ∧ ∃ f9, p1 = va_pl L f9 ∧ PL L f9 aS aP aC Sh (va_up R nP ((w, h, t, n, (R nP).2.2.2.2) : pa_T)) Cs) := by
  refine cm_of (by decide) (Nat.le_of_ble_eq_true rfl) ?_
  intro X sz hl hr hnm hD hA hw
  subst hD
  obtain ⟨hin, hat⟩ := hPL.2.1 nP hnP
  have hp := PL_P (i := nP) (r := ((w, h, t, n, (R nP).2.2.2.2) : pa_T)) hPL hAD hnP
  have hzt : narrow .boolean (.int (iI t)) = .int (iI t) := by rcases ht1 with rfl | rfl <;> decide +kernel
  have hft : fits .boolean (.int (iI t)) = true := by rcases ht1 with rfl | rfl <;> decide +kernel
  show VV X (b_ST_part, 6, "SheetTrees", rm_2) _ 0 0 [(cP, .object "SheetTrees$Part")] [ob_ST x qsh qpa qcu qtk qrs qt ql S le nS (nP : Int) nC nT nR rn, ar_Q qpa cP 8 fP] (va_pl L f) [some (.ref x), some (.int (iI w)), some (.int (iI h)), some (.int (iI n)), some (.int (iI t)), none] [] 0
  refine vv_iload_n d_ST_part_0 rfl ?_
  refine vv_pS (wc := []) (plc := []) [] (c_ST_isSide (cx_l X) (cx_D X) w (by omega)) lk_ST_85 d_ST_part_1 rfl [] ⟨rfl, rfl, Or.inl rfl⟩ [] rfl ⟨⟨by decide, by decide⟩, ⟨by decide, by decide⟩, Nat.le_of_ble_eq_true rfl⟩ ⟨rfl, rfl⟩ ?_
  intro v hv
  subst hv
  dsimp only [Option.toList, List.cons_append, List.nil_append, List.append_nil]
  rw [isW_1 hw1]
  refine vv_if_eq (tgt := 14) d_ST_part_4 (by decide) (by omega) (fun c4 => ?_) (fun c4 => ?_)
  · exfalso; omega
  · skip
    refine vv_iload_n d_ST_part_7 rfl ?_
    refine vv_pS (wc := []) (plc := []) [] (c_ST_isSide (cx_l X) (cx_D X) h (by omega)) lk_ST_85 d_ST_part_8 rfl [] ⟨rfl, rfl, Or.inl rfl⟩ [] rfl ⟨⟨by decide, by decide⟩, ⟨by decide, by decide⟩, Nat.le_of_ble_eq_true rfl⟩ ⟨rfl, rfl⟩ ?_
    intro v hv
    subst hv
    dsimp only [Option.toList, List.cons_append, List.nil_append, List.append_nil]
    rw [isW_1 hh1]
    refine vv_if_ne (tgt := 24) d_ST_part_11 (by decide) (by omega) (fun c11 => ?_) (fun c11 => ?_)
    · skip
      refine vv_iload_n d_ST_part_24 rfl ?_
      refine vv_iconst d_ST_part_25 ?_
      refine vv_bipush d_ST_part_26 (by decide +kernel) ?_
      refine vv_pS (wc := []) (plc := []) [] (c_ST_isWithin (cx_l X) (cx_D X) n 0 50 (by omega) (by omega) (by omega)) lk_ST_96 d_ST_part_28 rfl [] ⟨rfl, rfl, Or.inl rfl⟩ [] rfl ⟨⟨by decide, by decide⟩, ⟨by decide, by decide⟩, Nat.le_of_ble_eq_true rfl⟩ ⟨rfl, rfl⟩ ?_
      intro v hv
      subst hv
      dsimp only [Option.toList, List.cons_append, List.nil_append, List.append_nil]
      rw [isW_1 hn1]
      refine vv_if_ne (tgt := 44) d_ST_part_31 (by decide) (by omega) (fun c31 => ?_) (fun c31 => ?_)
      · skip
        refine vv_aload_n d_ST_part_44 rfl ?_
        refine vv_get d_ST_part_45 0 rfl fl_ST_38 rfl ?_
        refine vv_aload_n d_ST_part_48 rfl ?_
        refine vv_get d_ST_part_49 0 rfl fl_ST_17 rfl ?_
        refine vv_alen d_ST_part_52 1 0 rfl rfl (v := 8) rfl ?_
        refine vv_icmp_lt (tgt := 66) d_ST_part_53 (by decide) ⟨by omega, by omega⟩ (fun c53 => ?_) (fun c53 => ?_)
        · skip
          refine vv_aload_n d_ST_part_66 rfl ?_
          refine vv_get d_ST_part_67 0 rfl fl_ST_17 rfl ?_
          refine vv_aload_n d_ST_part_70 rfl ?_
          refine vv_get d_ST_part_71 0 rfl fl_ST_38 rfl ?_
          refine vv_aald d_ST_part_74 1 0 rfl rfl (by omega) (show fP ((nP : Int).toNat) = some (aP nP) by rw [Int.toNat_natCast]; exact hfP nP hnP) ?_
          refine vv_enter hat ?_
          refine vv_astore d_ST_part_75 rfl (by decide) ?_
          dsimp only [List.set]
          refine vv_aload d_ST_part_77 rfl ?_
          refine vv_iload_n d_ST_part_79 rfl ?_
          refine vv_putU hw d_ST_part_80 hin fp_ST_125 rfl rfl (Nat.le_of_ble_eq_true rfl) ?_
          dsimp only [List.set]
          refine vv_aload d_ST_part_83 rfl ?_
          refine vv_iload_n d_ST_part_85 rfl ?_
          refine vv_putU hw d_ST_part_86 hin fp_ST_126 rfl rfl (Nat.le_of_ble_eq_true rfl) ?_
          dsimp only [List.set]
          refine vv_aload d_ST_part_89 rfl ?_
          refine vv_iload d_ST_part_91 rfl ?_
          refine vv_putU hw d_ST_part_93 hin fp_ST_127 hzt hft (Nat.le_of_ble_eq_true rfl) ?_
          dsimp only [List.set]
          refine vv_aload d_ST_part_96 rfl ?_
          refine vv_iload_n d_ST_part_98 rfl ?_
          refine vv_putU hw d_ST_part_99 hin fp_ST_130 rfl rfl (Nat.le_of_ble_eq_true rfl) ?_
          dsimp only [List.set]
          refine vv_aload_n d_ST_part_102 rfl ?_
          refine vv_iconst d_ST_part_103 ?_
          refine vv_put hw d_ST_part_104 0 rfl fp_ST_50 rfl rfl (Nat.le_of_ble_eq_true rfl) ?_
          dsimp only [List.set]
          refine vv_aload_n d_ST_part_107 rfl ?_
          refine vv_dup d_ST_part_108 rfl ?_
          refine vv_get d_ST_part_109 0 rfl fl_ST_38 rfl ?_
          refine vv_dup_x1 d_ST_part_112 rfl rfl ?_
          refine vv_iconst d_ST_part_113 ?_
          refine vv_iadd d_ST_part_114 ?_
          refine vv_put hw d_ST_part_115 0 rfl fp_ST_38 rfl rfl (Nat.le_of_ble_eq_true rfl) ?_
          dsimp only [List.set]
          exact vv_iret hA hw hr d_ST_part_118 (by decide) (by decide) (by exact ⟨rfl, rfl, _, rfl, hp⟩)
        · exfalso; omega
      · exfalso; omega
    · exfalso; omega
set_option maxHeartbeats 4000000 in
set_option maxRecDepth 100000 in
theorem c_ST_count_y (l : Launch) (D : va_G) (x qsh qpa qcu qtk qrs qt ql nP k : Nat) (S le nS nC nT nR rn n : Int) (cP : ClassId) (fP : Nat → Option Nat) (L : List Nat) (f : Nat → va_E) (aS aP aC : Nat → Nat) (Sh R : Nat → pa_T) (Cs : Nat → Nat → Int) (hnP : nP ≤ 8) (hk : k < nP) (hn1 : 0 ≤ n ∧ n ≤ 50) (hfP : ∀ i : Nat, i < 8 → fP i = some (aP i)) (hPL : PL L f aS aP aC Sh R Cs) (hAD : AD aS aP aC) : CM l y_ST_count b_ST_count 5 (some .int) rm_2 [.ref x, .int (iI (k : Int)), .int (iI n)] D [(cP, .object "SheetTrees$Part")] ([ob_ST x qsh qpa qcu qtk qrs qt ql S le nS (nP : Int) nC nT nR rn, ar_Q qpa cP 8 fP] ++ va_pl L f) (fun v w1 p1 _ => v = some (.int (iI (R k).2.2.2.1)) ∧ w1 = [ob_ST x qsh qpa qcu qtk qrs qt ql S le nS (nP : Int) nC nT nR 0, ar_Q qpa cP 8 fP] ∧ ∃ f9, p1 = va_pl L f9 ∧ PL L f9 aS aP aC Sh (va_up R k (((R k).1, (R k).2.1, (R k).2.2.1, n, (R k).2.2.2.2) : pa_T)) Cs) := by
  refine cm_of (by decide) (Nat.le_of_ble_eq_true rfl) ?_
  intro X sz hl hr hnm hD hA hw
  subst hD
  have hk8 : k < 8 := by omega
  obtain ⟨hin, hat⟩ := hPL.2.1 k hk8
  have hp := PL_P (i := k) (r := (((R k).1, (R k).2.1, (R k).2.2.1, n, (R k).2.2.2.2) : pa_T)) hPL hAD hk8
  show VV X (b_ST_count, 5, "SheetTrees", rm_2) _ 0 0 [(cP, .object "SheetTrees$Part")] [ob_ST x qsh qpa qcu qtk qrs qt ql S le nS (nP : Int) nC nT nR rn, ar_Q qpa cP 8 fP] (va_pl L f) [some (.ref x), some (.int (iI (k : Int))), some (.int (iI n)), none, none] [] 0
  refine vv_aload_n d_ST_count_0 rfl ?_
  refine vv_iload_n d_ST_count_1 rfl ?_
  refine vv_pV (wc := [ob_ST x qsh qpa qcu qtk qrs qt ql S le nS (nP : Int) nC nT nR rn, ar_Q qpa cP 8 fP]) (plc := []) [] (c_ST_partAt_y (cx_l X) (cx_D X) x qsh qpa qcu qtk qrs qt ql nP k S le nS nC nT nR rn cP fP aP hnP hk hfP) lk_ST_133 d_ST_count_2 rfl (rc_at 0 rfl rfl rfl) [0, 1] ⟨rfl, rfl, Or.inl rfl⟩ [0] rfl ⟨⟨by decide, by decide⟩, ⟨by decide, by decide⟩, Nat.le_of_ble_eq_true rfl⟩ ⟨rfl, rfl⟩ ?_
  intro v hv
  subst hv
  dsimp only [Option.toList, List.cons_append, List.nil_append, List.append_nil]
  refine vv_astore_n d_ST_count_5 rfl (by decide) ?_
  dsimp only [List.set]
  refine vv_iload_n d_ST_count_6 rfl ?_
  refine vv_iconst d_ST_count_7 ?_
  refine vv_bipush d_ST_count_8 (by decide +kernel) ?_
  refine vv_pS (wc := []) (plc := []) [] (c_ST_isWithin (cx_l X) (cx_D X) n 0 50 (by omega) (by omega) (by omega)) lk_ST_96 d_ST_count_10 rfl [] ⟨rfl, rfl, Or.inl rfl⟩ [] rfl ⟨⟨by decide, by decide⟩, ⟨by decide, by decide⟩, Nat.le_of_ble_eq_true rfl⟩ ⟨rfl, rfl⟩ ?_
  intro v hv
  subst hv
  dsimp only [Option.toList, List.cons_append, List.nil_append, List.append_nil]
  rw [isW_1 hn1]
  refine vv_if_ne (tgt := 26) d_ST_count_13 (by decide) (by omega) (fun c13 => ?_) (fun c13 => ?_)
  · skip
    refine vv_enter hat ?_
    refine vv_aload_n d_ST_count_26 rfl ?_
    refine vv_getU d_ST_count_27 hin fl_ST_130 rfl ?_
    refine vv_istore d_ST_count_30 rfl (by decide) ?_
    dsimp only [List.set]
    refine vv_aload_n d_ST_count_32 rfl ?_
    refine vv_iload_n d_ST_count_33 rfl ?_
    refine vv_putU hw d_ST_count_34 hin fp_ST_130 rfl rfl (Nat.le_of_ble_eq_true rfl) ?_
    dsimp only [List.set]
    refine vv_aload_n d_ST_count_37 rfl ?_
    refine vv_iconst d_ST_count_38 ?_
    refine vv_put hw d_ST_count_39 0 rfl fp_ST_50 rfl rfl (Nat.le_of_ble_eq_true rfl) ?_
    dsimp only [List.set]
    refine vv_iload d_ST_count_42 rfl ?_
    exact vv_iret hA hw hr d_ST_count_44 (by decide) (by decide) (by exact ⟨rfl, rfl, _, rfl, hp⟩)
  · exfalso; omega
set_option maxHeartbeats 4000000 in
set_option maxRecDepth 100000 in
theorem c_ST_worth_y (l : Launch) (D : va_G) (x qsh qpa qcu qtk qrs qt ql qs qc nP : Nat) (S le nS nC nT nR rn K W F w h d s : Int) (T : tp_T) (cI cP : ClassId) (fP : Nat → Option Nat) (L : List Nat) (f : Nat → va_E) (aP : Nat → Nat) (R : Nat → pa_T) (hnP : nP ≤ 8) (hw1 : 1 ≤ w ∧ w ≤ 16) (hh1 : 1 ≤ h ∧ h ≤ 16) (hd1 : 0 ≤ d ∧ d ≤ 1) (hs1 : 0 ≤ s ∧ s ≤ 3) (hK : 0 ≤ K ∧ K ≤ 3) (hF : 0 ≤ F ∧ F ≤ 3) (hW : -1 ≤ W ∧ W < 256) (hT : HT (ar_of R) W T) (hPO : ∀ p : Nat, p < 8 → PO (R p)) (hPZ : PZ R) (hpw : ∀ p : Nat, p < nP → 1 ≤ (R p).1 ∧ 1 ≤ (R p).2.1) (hfP : ∀ i : Nat, i < 8 → fP i = some (aP i)) (hPP : PP L f aP R) : CM l y_ST_worth b_ST_worth 5 (some .int) rm_4 [.ref x, .int (iI w), .int (iI h), .int (iI d), .int (iI s)] D [(cI, .int), (cP, .object "SheetTrees$Part")] ([ob_ST x qsh qpa qcu qtk qrs qt ql S le nS (nP : Int) nC nT nR rn, ar_Q qpa cP 8 fP, ob_TB qt qs qc K W F, ar_I qs cI 2312 T.1, ar_I qc cI 2312 T.2] ++ va_pl L f) (fun v w1 p1 _ => v = some (.int (iI ((rd_scoreAt (fl_T K R (pu_m (fun p => (R p).2.2.2.1) nP) s W F T).1 (pl_at s d w h) + 1024 - 1).tdiv 1024))) ∧ w1 = [ob_ST x qsh qpa qcu qtk qrs qt ql S le nS (nP : Int) nC nT nR rn, ar_Q qpa cP 8 fP, ob_TB qt qs qc K (((pu_m (fun p => (R p).2.2.2.1) nP) : Nat) : Int) (fl_G (pu_m (fun p => (R p).2.2.2.1) nP) s W F), ar_I qs cI 2312 (fl_T K R (pu_m (fun p => (R p).2.2.2.1) nP) s W F T).1, ar_I qc cI 2312 (fl_T K R (pu_m (fun p => (R p).2.2.2.1) nP) s W F T).2] ∧ p1 = va_pl L f) := by
  refine cm_of (by decide) (Nat.le_of_ble_eq_true rfl) ?_
  intro X sz hl hr hnm hD hA hw
  subst hD
  have hPW : PW R (pu_m (fun p => (R p).2.2.2.1) nP) := fun p hp hb => by
    have h1 := (pu_bit nP).mp hb
    have h2 := hpw p h1.1
    have h3 := hPO p hp
    unfold PO at h3
    omega
  have hm256 : (pu_m (fun p => (R p).2.2.2.1) nP) < 256 := pu_256 hnP
  have hfl := HT_fl (K := K) (S := s) hK.1 hs1 hF hPW hT
  have hpl : -2147483648 ≤ pl_at s d w h ∧ pl_at s d w h < 2147483648 := by unfold pl_at; omega
  show VV X (b_ST_worth, 5, "SheetTrees", rm_4) _ 0 0 [(cI, .int), (cP, .object "SheetTrees$Part")] [ob_ST x qsh qpa qcu qtk qrs qt ql S le nS (nP : Int) nC nT nR rn, ar_Q qpa cP 8 fP, ob_TB qt qs qc K W F, ar_I qs cI 2312 T.1, ar_I qc cI 2312 T.2] (va_pl L f) [some (.ref x), some (.int (iI w)), some (.int (iI h)), some (.int (iI d)), some (.int (iI s))] [] 0
  refine vv_iload_n d_ST_worth_0 rfl ?_
  refine vv_pS (wc := []) (plc := []) [] (c_ST_isSide (cx_l X) (cx_D X) w (by omega)) lk_ST_85 d_ST_worth_1 rfl [] ⟨rfl, rfl, Or.inl rfl⟩ [] rfl ⟨⟨by decide, by decide⟩, ⟨by decide, by decide⟩, Nat.le_of_ble_eq_true rfl⟩ ⟨rfl, rfl⟩ ?_
  intro v hv
  subst hv
  dsimp only [Option.toList, List.cons_append, List.nil_append, List.append_nil]
  rw [isW_1 hw1]
  refine vv_if_eq (tgt := 14) d_ST_worth_4 (by decide) (by omega) (fun c4 => ?_) (fun c4 => ?_)
  · exfalso; omega
  · skip
    refine vv_iload_n d_ST_worth_7 rfl ?_
    refine vv_pS (wc := []) (plc := []) [] (c_ST_isSide (cx_l X) (cx_D X) h (by omega)) lk_ST_85 d_ST_worth_8 rfl [] ⟨rfl, rfl, Or.inl rfl⟩ [] rfl ⟨⟨by decide, by decide⟩, ⟨by decide, by decide⟩, Nat.le_of_ble_eq_true rfl⟩ ⟨rfl, rfl⟩ ?_
    intro v hv
    subst hv
    dsimp only [Option.toList, List.cons_append, List.nil_append, List.append_nil]
    rw [isW_1 hh1]
    refine vv_if_ne (tgt := 24) d_ST_worth_11 (by decide) (by omega) (fun c11 => ?_) (fun c11 => ?_)
    · skip
      refine vv_iload_n d_ST_worth_24 rfl ?_
      refine vv_iconst d_ST_worth_25 ?_
      refine vv_iconst d_ST_worth_26 ?_
      refine vv_pS (wc := []) (plc := []) [] (c_ST_isWithin (cx_l X) (cx_D X) d 0 1 (by omega) (by omega) (by omega)) lk_ST_96 d_ST_worth_27 rfl [] ⟨rfl, rfl, Or.inl rfl⟩ [] rfl ⟨⟨by decide, by decide⟩, ⟨by decide, by decide⟩, Nat.le_of_ble_eq_true rfl⟩ ⟨rfl, rfl⟩ ?_
      intro v hv
      subst hv
      dsimp only [Option.toList, List.cons_append, List.nil_append, List.append_nil]
      rw [isW_1 hd1]
      refine vv_if_ne (tgt := 43) d_ST_worth_30 (by decide) (by omega) (fun c30 => ?_) (fun c30 => ?_)
      · skip
        refine vv_iload d_ST_worth_43 rfl ?_
        refine vv_iconst d_ST_worth_45 ?_
        refine vv_iconst d_ST_worth_46 ?_
        refine vv_pS (wc := []) (plc := []) [] (c_ST_isWithin (cx_l X) (cx_D X) s 0 3 (by omega) (by omega) (by omega)) lk_ST_96 d_ST_worth_47 rfl [] ⟨rfl, rfl, Or.inl rfl⟩ [] rfl ⟨⟨by decide, by decide⟩, ⟨by decide, by decide⟩, Nat.le_of_ble_eq_true rfl⟩ ⟨rfl, rfl⟩ ?_
        intro v hv
        subst hv
        dsimp only [Option.toList, List.cons_append, List.nil_append, List.append_nil]
        rw [isW_1 hs1]
        refine vv_if_ne (tgt := 63) d_ST_worth_50 (by decide) (by omega) (fun c50 => ?_) (fun c50 => ?_)
        · skip
          refine vv_aload_n d_ST_worth_63 rfl ?_
          refine vv_get d_ST_worth_64 0 rfl fl_ST_69 rfl ?_
          refine vv_aload_n d_ST_worth_67 rfl ?_
          refine vv_get d_ST_worth_68 0 rfl fl_ST_17 rfl ?_
          refine vv_aload_n d_ST_worth_71 rfl ?_
          refine vv_pV (wc := [ob_ST x qsh qpa qcu qtk qrs qt ql S le nS (nP : Int) nC nT nR rn, ar_Q qpa cP 8 fP]) (plc := va_pl L f) [.ref qpa, .ref qt] (c_ST_partsTold (cx_l X) (cx_D X) x qsh qpa qcu qtk qrs qt ql nP S le nS nC nT nR rn cP fP L f aP R hnP hfP hPP (fun p hp => by have := (hPO p hp).2.2.1; omega)) lk_ST_141 d_ST_worth_72 rfl (rc_at 0 rfl rfl rfl) [0, 1] ⟨rfl, rfl, Or.inr rfl⟩ [1] rfl ⟨⟨by decide, by decide⟩, ⟨by decide, by decide⟩, Nat.le_of_ble_eq_true rfl⟩ ⟨rfl, rfl⟩ ?_
          intro v hv
          subst hv
          dsimp only [Option.toList, List.cons_append, List.nil_append, List.append_nil]
          refine vv_iload d_ST_worth_75 rfl ?_
          refine vv_mV hw (wc := [ob_TB qt qs qc K W F, ar_I qs cI 2312 T.1, ar_I qc cI 2312 T.2, ar_Q qpa cP 8 fP]) (wr := [ob_ST x qsh qpa qcu qtk qrs qt ql S le nS (nP : Int) nC nT nR rn]) [] (c_TB_fill (cx_l X) (cx_D X) cI cP qt qs qc qpa (pu_m (fun p => (R p).2.2.2.1) nP) K W F s T fP L f aP R hK hm256 hs1 hF (by omega) (fun e => (hT _ e).1) hfP hPP hPW hPZ) lk_ST_145 d_ST_worth_77 rfl (rc_at 2 rfl rfl rfl) [2, 3, 4, 1] [0] ⟨rfl, rfl⟩ ⟨rfl, rfl, by decide⟩ [0, 1] rfl ⟨⟨by decide, by decide⟩, ⟨by decide, by decide⟩, Nat.le_of_ble_eq_true rfl⟩ ⟨rfl, rfl⟩ ?_
          rintro v w1 p1 t1 ⟨rfl, rfl, rfl⟩
          dsimp only [Option.toList, List.cons_append, List.nil_append, List.append_nil]
          refine vv_sub (ws' := [ob_ST x qsh qpa qcu qtk qrs qt ql S le nS (nP : Int) nC nT nR rn, ar_Q qpa cP 8 fP, ob_TB qt qs qc K (((pu_m (fun p => (R p).2.2.2.1) nP) : Nat) : Int) (fl_G (pu_m (fun p => (R p).2.2.2.1) nP) s W F), ar_I qs cI 2312 (fl_T K R (pu_m (fun p => (R p).2.2.2.1) nP) s W F T).1, ar_I qc cI 2312 (fl_T K R (pu_m (fun p => (R p).2.2.2.1) nP) s W F T).2]) [0, 4, 1, 2, 3] rfl rfl ?_
          refine vv_aload_n d_ST_worth_80 rfl ?_
          refine vv_get d_ST_worth_81 0 rfl fl_ST_69 rfl ?_
          refine vv_iload d_ST_worth_84 rfl ?_
          refine vv_iload_n d_ST_worth_86 rfl ?_
          refine vv_iload_n d_ST_worth_87 rfl ?_
          refine vv_iload_n d_ST_worth_88 rfl ?_
          refine vv_pV (wc := [ob_TB qt qs qc K (((pu_m (fun p => (R p).2.2.2.1) nP) : Nat) : Int) (fl_G (pu_m (fun p => (R p).2.2.2.1) nP) s W F), ar_I qs cI 2312 (fl_T K R (pu_m (fun p => (R p).2.2.2.1) nP) s W F T).1]) (plc := []) [] (c_TB_valueOf (cx_l X) (cx_D X) cI qt qs qc K (((pu_m (fun p => (R p).2.2.2.1) nP) : Nat) : Int) (fl_G (pu_m (fun p => (R p).2.2.2.1) nP) s W F) s d w h (fl_T K R (pu_m (fun p => (R p).2.2.2.1) nP) s W F T).1 hpl (TI_bd hfl.1)) lk_ST_149 d_ST_worth_89 rfl (rc_at 2 rfl rfl rfl) [2, 3] ⟨rfl, rfl, Or.inl rfl⟩ [0] rfl ⟨⟨by decide, by decide⟩, ⟨by decide, by decide⟩, Nat.le_of_ble_eq_true rfl⟩ ⟨rfl, rfl⟩ ?_
          intro v hv
          subst hv
          dsimp only [Option.toList, List.cons_append, List.nil_append, List.append_nil]
          exact vv_iret hA hw hr d_ST_worth_92 (by decide) (by decide) (by exact ⟨rfl, rfl, rfl⟩)
        · exfalso; omega
      · exfalso; omega
    · exfalso; omega
set_option maxHeartbeats 4000000 in
set_option maxRecDepth 100000 in
theorem c_ST_cut_y (l : Launch) (D : va_G) (x qsh qpa qcu qtk qrs qt ql nC k : Nat) (S le nS nP nT nR w : Int) (cC : ClassId) (fC : Nat → Option Nat) (L : List Nat) (f : Nat → va_E) (aC : Nat → Nat) (Cs : Nat → Nat → Int) (hnC : nC ≤ 20) (hk : k < nC) (hfC : ∀ i : Nat, i < 20 → fC i = some (aC i)) (hCC : CC L f aC Cs) (hw : 0 ≤ w ∧ w ≤ 7) : CP l y_ST_cut b_ST_cut 4 (some .int) rm_3 [.ref x, .int (iI (k : Int)), .int (iI w)] D [(cC, .object "SheetTrees$CutSheet")] ([ob_ST x qsh qpa qcu qtk qrs qt ql S le nS nP (nC : Int) nT nR 1, ar_Q qcu cC 20 fC] ++ va_pl L f) (fun v => v = some (.int (iI (Cs k (ct_k w))))) := by
  refine cp_of (by decide) (Nat.le_of_ble_eq_true rfl) ?_
  intro X sz hl hr hD hA
  subst hD
  obtain ⟨hin, hat⟩ := hCC k (by omega)
  show VV X (b_ST_cut, 4, "SheetTrees", rm_3) _ 0 0 [(cC, .object "SheetTrees$CutSheet")] [ob_ST x qsh qpa qcu qtk qrs qt ql S le nS nP (nC : Int) nT nR 1, ar_Q qcu cC 20 fC] (va_pl L f) [some (.ref x), some (.int (iI (k : Int))), some (.int (iI w)), none] [] 0
  refine vv_aload_n d_ST_cut_0 rfl ?_
  refine vv_iload_n d_ST_cut_1 rfl ?_
  refine vv_pV (wc := [ob_ST x qsh qpa qcu qtk qrs qt ql S le nS nP (nC : Int) nT nR 1, ar_Q qcu cC 20 fC]) (plc := []) [] (c_ST_cutSheetAt_y (cx_l X) (cx_D X) x qsh qpa qcu qtk qrs qt ql nC k S le nS nP nT nR cC fC aC hnC hk hfC) lk_ST_165 d_ST_cut_2 rfl (rc_at 0 rfl rfl rfl) [0, 1] ⟨rfl, rfl, Or.inl rfl⟩ [0] rfl ⟨⟨by decide, by decide⟩, ⟨by decide, by decide⟩, Nat.le_of_ble_eq_true rfl⟩ ⟨rfl, rfl⟩ ?_
  intro v hv
  subst hv
  dsimp only [Option.toList, List.cons_append, List.nil_append, List.append_nil]
  refine vv_astore_n d_ST_cut_5 rfl (by decide) ?_
  dsimp only [List.set]
  refine vv_iload_n d_ST_cut_6 rfl ?_
  have hc8 : w = 0 ∨ w = 1 ∨ w = 2 ∨ w = 3 ∨ w = 4 ∨ w = 5 ∨ w = 6 ∨ w = 7 := by omega
  rcases hc8 with rfl | rfl | rfl | rfl | rfl | rfl | rfl | rfl
  · refine vv_tabIn (tgt := 52) d_ST_cut_7 (by decide +kernel) (by decide +kernel) (show _ = some 45 by decide +kernel) (by decide) ?_
    refine vv_aload_n d_ST_cut_52 rfl ?_
    refine vv_getP d_ST_cut_53 hin hat fl_ST_169 rfl ?_
    exact vp_iret hA hr d_ST_cut_56 (by decide) (by decide) rfl
  · refine vv_tabIn (tgt := 57) d_ST_cut_7 (by decide +kernel) (by decide +kernel) (show _ = some 50 by decide +kernel) (by decide) ?_
    refine vv_aload_n d_ST_cut_57 rfl ?_
    refine vv_getP d_ST_cut_58 hin hat fl_ST_172 rfl ?_
    exact vp_iret hA hr d_ST_cut_61 (by decide) (by decide) rfl
  · refine vv_tabIn (tgt := 62) d_ST_cut_7 (by decide +kernel) (by decide +kernel) (show _ = some 55 by decide +kernel) (by decide) ?_
    refine vv_aload_n d_ST_cut_62 rfl ?_
    refine vv_getP d_ST_cut_63 hin hat fl_ST_173 rfl ?_
    exact vp_iret hA hr d_ST_cut_66 (by decide) (by decide) rfl
  · refine vv_tabIn (tgt := 67) d_ST_cut_7 (by decide +kernel) (by decide +kernel) (show _ = some 60 by decide +kernel) (by decide) ?_
    refine vv_aload_n d_ST_cut_67 rfl ?_
    refine vv_getP d_ST_cut_68 hin hat fl_ST_176 rfl ?_
    exact vp_iret hA hr d_ST_cut_71 (by decide) (by decide) rfl
  · refine vv_tabIn (tgt := 72) d_ST_cut_7 (by decide +kernel) (by decide +kernel) (show _ = some 65 by decide +kernel) (by decide) ?_
    refine vv_aload_n d_ST_cut_72 rfl ?_
    refine vv_getP d_ST_cut_73 hin hat fl_ST_179 rfl ?_
    exact vp_iret hA hr d_ST_cut_76 (by decide) (by decide) rfl
  · refine vv_tabIn (tgt := 77) d_ST_cut_7 (by decide +kernel) (by decide +kernel) (show _ = some 70 by decide +kernel) (by decide) ?_
    refine vv_aload_n d_ST_cut_77 rfl ?_
    refine vv_getP d_ST_cut_78 hin hat fl_ST_182 rfl ?_
    exact vp_iret hA hr d_ST_cut_81 (by decide) (by decide) rfl
  · refine vv_tabIn (tgt := 82) d_ST_cut_7 (by decide +kernel) (by decide +kernel) (show _ = some 75 by decide +kernel) (by decide) ?_
    refine vv_aload_n d_ST_cut_82 rfl ?_
    refine vv_getP d_ST_cut_83 hin hat fl_ST_185 rfl ?_
    exact vp_iret hA hr d_ST_cut_86 (by decide) (by decide) rfl
  · refine vv_tabIn (tgt := 87) d_ST_cut_7 (by decide +kernel) (by decide +kernel) (show _ = some 80 by decide +kernel) (by decide) ?_
    refine vv_aload_n d_ST_cut_87 rfl ?_
    refine vv_getP d_ST_cut_88 hin hat fl_ST_186 rfl ?_
    exact vp_iret hA hr d_ST_cut_91 (by decide) (by decide) rfl
set_option maxHeartbeats 4000000 in
set_option maxRecDepth 100000 in
theorem c_ST_taken_y (l : Launch) (D : va_G) (x qsh qpa qcu qtk qrs qt ql nC k : Nat) (S le nS nP nT nR j w : Int) (cI cC : ClassId) (tk : Nat → Int) (fC : Nat → Option Nat) (L : List Nat) (f : Nat → va_E) (aC : Nat → Nat) (Cs : Nat → Nat → Int) (hnC : nC ≤ 20) (hk : k < nC) (hfC : ∀ i : Nat, i < 20 → fC i = some (aC i)) (hCC : CC L f aC Cs) (hw : 0 ≤ w ∧ w ≤ 4) (hj : 0 ≤ j ∧ j ≤ Cs k 8 - 1) (hc1 : 0 ≤ Cs k 8 ∧ Cs k 8 ≤ 1000000) (hz : 0 ≤ (Cs k 7 + j) ∧ (Cs k 7 + j) < 400) (hq : 0 ≤ tk (Cs k 7 + j).toNat ∧ tk (Cs k 7 + j).toNat < 2147483648) : CP l y_ST_taken b_ST_taken 5 (some .int) rm_3 [.ref x, .int (iI (k : Int)), .int (iI j), .int (iI w)] D [(cI, .int), (cC, .object "SheetTrees$CutSheet")] ([ob_ST x qsh qpa qcu qtk qrs qt ql S le nS nP (nC : Int) nT nR 1, ar_Q qcu cC 20 fC, ar_I qtk cI 400 tk] ++ va_pl L f) (fun v => v = some (.int (iI (pf_z (tk (Cs k 7 + j).toNat) w)))) := by
  refine cp_of (by decide) (Nat.le_of_ble_eq_true rfl) ?_
  intro X sz hl hr hD hA
  subst hD
  obtain ⟨hin, hat⟩ := hCC k (by omega)
  show VV X (b_ST_taken, 5, "SheetTrees", rm_3) _ 0 0 [(cI, .int), (cC, .object "SheetTrees$CutSheet")] [ob_ST x qsh qpa qcu qtk qrs qt ql S le nS nP (nC : Int) nT nR 1, ar_Q qcu cC 20 fC, ar_I qtk cI 400 tk] (va_pl L f) [some (.ref x), some (.int (iI (k : Int))), some (.int (iI j)), some (.int (iI w)), none] [] 0
  refine vv_aload_n d_ST_taken_0 rfl ?_
  refine vv_iload_n d_ST_taken_1 rfl ?_
  refine vv_pV (wc := [ob_ST x qsh qpa qcu qtk qrs qt ql S le nS nP (nC : Int) nT nR 1, ar_Q qcu cC 20 fC]) (plc := []) [] (c_ST_cutSheetAt_y (cx_l X) (cx_D X) x qsh qpa qcu qtk qrs qt ql nC k S le nS nP nT nR cC fC aC hnC hk hfC) lk_ST_165 d_ST_taken_2 rfl (rc_at 0 rfl rfl rfl) [0, 1] ⟨rfl, rfl, Or.inl rfl⟩ [1] rfl ⟨⟨by decide, by decide⟩, ⟨by decide, by decide⟩, Nat.le_of_ble_eq_true rfl⟩ ⟨rfl, rfl⟩ ?_
  intro v hv
  subst hv
  dsimp only [Option.toList, List.cons_append, List.nil_append, List.append_nil]
  refine vv_astore d_ST_taken_5 rfl (by decide) ?_
  dsimp only [List.set]
  refine vv_iload_n d_ST_taken_7 rfl ?_
  refine vv_iconst d_ST_taken_8 ?_
  refine vv_aload d_ST_taken_9 rfl ?_
  refine vv_getP d_ST_taken_11 hin hat fl_ST_172 rfl ?_
  refine vv_iconst d_ST_taken_14 ?_
  refine vv_isub d_ST_taken_15 ?_
  refine vv_pS (wc := []) (plc := []) [] (c_ST_isWithin (cx_l X) (cx_D X) j 0 (Cs k 8 - 1) (by omega) (by omega) (by omega)) lk_ST_96 d_ST_taken_16 rfl [] ⟨rfl, rfl, Or.inl rfl⟩ [] rfl ⟨⟨by decide, by decide⟩, ⟨by decide, by decide⟩, Nat.le_of_ble_eq_true rfl⟩ ⟨rfl, rfl⟩ ?_
  intro v hv
  subst hv
  dsimp only [Option.toList, List.cons_append, List.nil_append, List.append_nil]
  rw [isW_1 hj]
  refine vv_if_ne (tgt := 32) d_ST_taken_19 (by decide) (by omega) (fun c19 => ?_) (fun c19 => ?_)
  · skip
    refine vv_iload_n d_ST_taken_32 rfl ?_
    refine vv_iconst d_ST_taken_33 ?_
    refine vv_iconst d_ST_taken_34 ?_
    refine vv_pS (wc := []) (plc := []) [] (c_ST_isWithin (cx_l X) (cx_D X) w 0 4 (by omega) (by omega) (by omega)) lk_ST_96 d_ST_taken_35 rfl [] ⟨rfl, rfl, Or.inl rfl⟩ [] rfl ⟨⟨by decide, by decide⟩, ⟨by decide, by decide⟩, Nat.le_of_ble_eq_true rfl⟩ ⟨rfl, rfl⟩ ?_
    intro v hv
    subst hv
    dsimp only [Option.toList, List.cons_append, List.nil_append, List.append_nil]
    rw [isW_1 hw]
    refine vv_if_ne (tgt := 51) d_ST_taken_38 (by decide) (by omega) (fun c38 => ?_) (fun c38 => ?_)
    · skip
      refine vv_aload_n d_ST_taken_51 rfl ?_
      refine vv_get d_ST_taken_52 0 rfl fl_ST_27 rfl ?_
      refine vv_aload d_ST_taken_55 rfl ?_
      refine vv_getP d_ST_taken_57 hin hat fl_ST_198 rfl ?_
      refine vv_iload_n d_ST_taken_60 rfl ?_
      refine vv_iadd d_ST_taken_61 ?_
      refine vv_pS (wc := [ar_I qtk cI 400 tk]) (plc := []) [] (c_ST_pieceAt (cx_l X) (cx_D X) cI qtk 400 tk (Cs k 7 + j) (by omega) (by decide)) lk_ST_201 d_ST_taken_62 rfl [2] ⟨rfl, rfl, Or.inl rfl⟩ [0] rfl ⟨⟨by decide, by decide⟩, ⟨by decide, by decide⟩, Nat.le_of_ble_eq_true rfl⟩ ⟨rfl, rfl⟩ ?_
      intro v hv
      subst hv
      dsimp only [Option.toList, List.cons_append, List.nil_append, List.append_nil]
      refine vv_iload_n d_ST_taken_65 rfl ?_
      refine vv_pS (wc := []) (plc := []) [] (c_PI_field (cx_l X) (cx_D X) (tk (Cs k 7 + j).toNat) w hq (by omega)) lk_ST_205 d_ST_taken_66 rfl [] ⟨rfl, rfl, Or.inl rfl⟩ [] rfl ⟨⟨by decide, by decide⟩, ⟨by decide, by decide⟩, Nat.le_of_ble_eq_true rfl⟩ ⟨rfl, rfl⟩ ?_
      intro v hv
      subst hv
      dsimp only [Option.toList, List.cons_append, List.nil_append, List.append_nil]
      exact vp_iret hA hr d_ST_taken_69 (by decide) (by decide) (by rfl)
    · exfalso; omega
  · exfalso; omega
set_option maxHeartbeats 4000000 in
set_option maxRecDepth 100000 in
theorem c_ST_rest_y (l : Launch) (D : va_G) (x qsh qpa qcu qtk qrs qt ql nC k : Nat) (S le nS nP nT nR j w : Int) (cI cC : ClassId) (tk : Nat → Int) (fC : Nat → Option Nat) (L : List Nat) (f : Nat → va_E) (aC : Nat → Nat) (Cs : Nat → Nat → Int) (hnC : nC ≤ 20) (hk : k < nC) (hfC : ∀ i : Nat, i < 20 → fC i = some (aC i)) (hCC : CC L f aC Cs) (hw : 0 ≤ w ∧ w ≤ 3) (hj : 0 ≤ j ∧ j ≤ Cs k 11 - 1) (hc1 : 0 ≤ Cs k 11 ∧ Cs k 11 ≤ 1000000) (hz : 0 ≤ (Cs k 10 + j) ∧ (Cs k 10 + j) < 5120) (hq : 0 ≤ tk (Cs k 10 + j).toNat ∧ tk (Cs k 10 + j).toNat < 2147483648) : CP l y_ST_rest b_ST_rest 5 (some .int) rm_3 [.ref x, .int (iI (k : Int)), .int (iI j), .int (iI w)] D [(cI, .int), (cC, .object "SheetTrees$CutSheet")] ([ob_ST x qsh qpa qcu qtk qrs qt ql S le nS nP (nC : Int) nT nR 1, ar_Q qcu cC 20 fC, ar_I qrs cI 5120 tk] ++ va_pl L f) (fun v => v = some (.int (iI (pf_z (tk (Cs k 10 + j).toNat) (1 + w))))) := by
  refine cp_of (by decide) (Nat.le_of_ble_eq_true rfl) ?_
  intro X sz hl hr hD hA
  subst hD
  obtain ⟨hin, hat⟩ := hCC k (by omega)
  show VV X (b_ST_rest, 5, "SheetTrees", rm_3) _ 0 0 [(cI, .int), (cC, .object "SheetTrees$CutSheet")] [ob_ST x qsh qpa qcu qtk qrs qt ql S le nS nP (nC : Int) nT nR 1, ar_Q qcu cC 20 fC, ar_I qrs cI 5120 tk] (va_pl L f) [some (.ref x), some (.int (iI (k : Int))), some (.int (iI j)), some (.int (iI w)), none] [] 0
  refine vv_aload_n d_ST_rest_0 rfl ?_
  refine vv_iload_n d_ST_rest_1 rfl ?_
  refine vv_pV (wc := [ob_ST x qsh qpa qcu qtk qrs qt ql S le nS nP (nC : Int) nT nR 1, ar_Q qcu cC 20 fC]) (plc := []) [] (c_ST_cutSheetAt_y (cx_l X) (cx_D X) x qsh qpa qcu qtk qrs qt ql nC k S le nS nP nT nR cC fC aC hnC hk hfC) lk_ST_165 d_ST_rest_2 rfl (rc_at 0 rfl rfl rfl) [0, 1] ⟨rfl, rfl, Or.inl rfl⟩ [1] rfl ⟨⟨by decide, by decide⟩, ⟨by decide, by decide⟩, Nat.le_of_ble_eq_true rfl⟩ ⟨rfl, rfl⟩ ?_
  intro v hv
  subst hv
  dsimp only [Option.toList, List.cons_append, List.nil_append, List.append_nil]
  refine vv_astore d_ST_rest_5 rfl (by decide) ?_
  dsimp only [List.set]
  refine vv_iload_n d_ST_rest_7 rfl ?_
  refine vv_iconst d_ST_rest_8 ?_
  refine vv_aload d_ST_rest_9 rfl ?_
  refine vv_getP d_ST_rest_11 hin hat fl_ST_185 rfl ?_
  refine vv_iconst d_ST_rest_14 ?_
  refine vv_isub d_ST_rest_15 ?_
  refine vv_pS (wc := []) (plc := []) [] (c_ST_isWithin (cx_l X) (cx_D X) j 0 (Cs k 11 - 1) (by omega) (by omega) (by omega)) lk_ST_96 d_ST_rest_16 rfl [] ⟨rfl, rfl, Or.inl rfl⟩ [] rfl ⟨⟨by decide, by decide⟩, ⟨by decide, by decide⟩, Nat.le_of_ble_eq_true rfl⟩ ⟨rfl, rfl⟩ ?_
  intro v hv
  subst hv
  dsimp only [Option.toList, List.cons_append, List.nil_append, List.append_nil]
  rw [isW_1 hj]
  refine vv_if_ne (tgt := 32) d_ST_rest_19 (by decide) (by omega) (fun c19 => ?_) (fun c19 => ?_)
  · skip
    refine vv_iload_n d_ST_rest_32 rfl ?_
    refine vv_iconst d_ST_rest_33 ?_
    refine vv_iconst d_ST_rest_34 ?_
    refine vv_pS (wc := []) (plc := []) [] (c_ST_isWithin (cx_l X) (cx_D X) w 0 3 (by omega) (by omega) (by omega)) lk_ST_96 d_ST_rest_35 rfl [] ⟨rfl, rfl, Or.inl rfl⟩ [] rfl ⟨⟨by decide, by decide⟩, ⟨by decide, by decide⟩, Nat.le_of_ble_eq_true rfl⟩ ⟨rfl, rfl⟩ ?_
    intro v hv
    subst hv
    dsimp only [Option.toList, List.cons_append, List.nil_append, List.append_nil]
    rw [isW_1 hw]
    refine vv_if_ne (tgt := 51) d_ST_rest_38 (by decide) (by omega) (fun c38 => ?_) (fun c38 => ?_)
    · skip
      refine vv_aload_n d_ST_rest_51 rfl ?_
      refine vv_get d_ST_rest_52 0 rfl fl_ST_31 rfl ?_
      refine vv_aload d_ST_rest_55 rfl ?_
      refine vv_getP d_ST_rest_57 hin hat fl_ST_215 rfl ?_
      refine vv_iload_n d_ST_rest_60 rfl ?_
      refine vv_iadd d_ST_rest_61 ?_
      refine vv_pS (wc := [ar_I qrs cI 5120 tk]) (plc := []) [] (c_ST_pieceAt (cx_l X) (cx_D X) cI qrs 5120 tk (Cs k 10 + j) (by omega) (by decide)) lk_ST_201 d_ST_rest_62 rfl [2] ⟨rfl, rfl, Or.inl rfl⟩ [0] rfl ⟨⟨by decide, by decide⟩, ⟨by decide, by decide⟩, Nat.le_of_ble_eq_true rfl⟩ ⟨rfl, rfl⟩ ?_
      intro v hv
      subst hv
      dsimp only [Option.toList, List.cons_append, List.nil_append, List.append_nil]
      refine vv_iconst d_ST_rest_65 ?_
      refine vv_iload_n d_ST_rest_66 rfl ?_
      refine vv_iadd d_ST_rest_67 ?_
      refine vv_pS (wc := []) (plc := []) [] (c_PI_field (cx_l X) (cx_D X) (tk (Cs k 10 + j).toNat) (1 + w) hq (by omega)) lk_ST_205 d_ST_rest_68 rfl [] ⟨rfl, rfl, Or.inl rfl⟩ [] rfl ⟨⟨by decide, by decide⟩, ⟨by decide, by decide⟩, Nat.le_of_ble_eq_true rfl⟩ ⟨rfl, rfl⟩ ?_
      intro v hv
      subst hv
      dsimp only [Option.toList, List.cons_append, List.nil_append, List.append_nil]
      exact vp_iret hA hr d_ST_rest_71 (by decide) (by decide) (by rfl)
    · exfalso; omega
  · exfalso; omega
