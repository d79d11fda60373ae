/-! SheetTrees: what throws -/
abbrev rx_0 : Room := { frames := 6, cells := 1, slots := 6, locals := 128 }
abbrev rx_1 : Room := { frames := 7, cells := 1, slots := 6, locals := 192 }
abbrev rx_2 : Room := { frames := 8, cells := 1, slots := 6, locals := 256 }
abbrev rx_3 : Room := { frames := 9, cells := 1, slots := 6, locals := 320 }
theorem isW_c (v lo hi : Int) : (isW v lo hi = 1 ∧ lo ≤ v ∧ v ≤ hi) ∨ (isW v lo hi = 0 ∧ (v < lo ∨ hi < v)) := by
  unfold isW
  split
  · exact Or.inl ⟨rfl, by omega, by omega⟩
  · exact Or.inr ⟨rfl, by omega⟩
set_option maxHeartbeats 4000000 in
set_option maxRecDepth 100000 in
theorem c_ST_needRun_n (l : Launch) (D : va_G) (x qsh qpa qcu qtk qrs qt ql : Nat) (S le nS nP nC nT nR : Int) (hfl : l.flags = flags0)  : CT l y_ST_needRun b_ST_needRun 1 none rx_0 [.ref x] D [] ([ob_ST x qsh qpa qcu qtk qrs qt ql S le nS nP nC nT nR 0] ++ []) n_ISE := by
  refine ct_of hfl (by decide) (Nat.le_of_ble_eq_true rfl) ?_
  intro X sz hl hr hD ht
  subst hD
  show VV X (b_ST_needRun, 1, "SheetTrees", rx_0) _ 0 0 [] [ob_ST x qsh qpa qcu qtk qrs qt ql S le nS nP nC nT nR 0] [] [some (.ref x)] [] 0
  refine vv_aload_n d_ST_needRun_0 rfl ?_
  refine vv_get d_ST_needRun_1 0 rfl fl_ST_50 rfl ?_
  refine vv_if_ne (tgt := 17) d_ST_needRun_4 (by decide) (by omega) (fun c4 => ?_) (fun c4 => ?_)
  · exfalso; omega
  · skip
    exact vv_throw (tx := "nothing was run since something was told") ht rfl tw_ISE (by decide +kernel) d_ST_needRun_7 d_ST_needRun_10 d_ST_needRun_11 d_ST_needRun_13 d_ST_needRun_16 ⟨⟨by decide, by decide⟩, by decide, by decide⟩ ⟨by decide, by decide⟩
set_option maxHeartbeats 4000000 in
set_option maxRecDepth 100000 in
theorem c_ST_partAt_n (l : Launch) (D : va_G) (x qsh qpa qcu qtk qrs qt ql : Nat) (nP : Nat) (S le nS nC nT nR rn k : Int) (cP : ClassId) (fP : Nat → Option Nat) (hfl : l.flags = flags0) (hnP : nP ≤ 8) (h_k : -2147483648 ≤ k ∧ k < 2147483648) (hk : k < 0 ∨ (nP : Int) ≤ k) : CT l y_ST_partAt b_ST_partAt 2 (some (.object "SheetTrees$Part")) rx_0 [.ref x, .int (iI k)] D [(cP, .object "SheetTrees$Part")] ([ob_ST x qsh qpa qcu qtk qrs qt ql S le nS (nP : Int) nC nT nR rn, ar_Q qpa cP 8 fP] ++ []) n_IOB := by
  refine ct_of hfl (by decide) (Nat.le_of_ble_eq_true rfl) ?_
  intro X sz hl hr hD ht
  subst hD
  show VV X (b_ST_partAt, 2, "SheetTrees", rx_0) _ 0 0 [(cP, .object "SheetTrees$Part")] [ob_ST x qsh qpa qcu qtk qrs qt ql S le nS (nP : Int) nC nT nR rn, ar_Q qpa cP 8 fP] [] [some (.ref x), some (.int (iI k))] [] 0
  refine vv_iload_n d_ST_partAt_0 rfl ?_
  refine vv_if_lt (tgt := 21) d_ST_partAt_1 (by decide) (by omega) (fun c1 => ?_) (fun c1 => ?_)
  · skip
    exact vv_throw (tx := "there is no such part") ht rfl tw_IOB (by decide +kernel) d_ST_partAt_21 d_ST_partAt_24 d_ST_partAt_25 d_ST_partAt_27 d_ST_partAt_30 ⟨⟨by decide, by decide⟩, by decide, by decide⟩ ⟨by decide, by decide⟩
  · skip
    refine vv_iload_n d_ST_partAt_4 rfl ?_
    refine vv_aload_n d_ST_partAt_5 rfl ?_
    refine vv_get d_ST_partAt_6 0 rfl fl_ST_38 rfl ?_
    refine vv_icmp_ge (tgt := 21) d_ST_partAt_9 (by decide) ⟨by omega, by omega⟩ (fun c9 => ?_) (fun c9 => ?_)
    · skip
      exact vv_throw (tx := "there is no such part") ht rfl tw_IOB (by decide +kernel) d_ST_partAt_21 d_ST_partAt_24 d_ST_partAt_25 d_ST_partAt_27 d_ST_partAt_30 ⟨⟨by decide, by decide⟩, by decide, by decide⟩ ⟨by decide, by decide⟩
    · skip
      refine vv_iload_n d_ST_partAt_12 rfl ?_
      refine vv_aload_n d_ST_partAt_13 rfl ?_
      refine vv_get d_ST_partAt_14 0 rfl fl_ST_17 rfl ?_
      refine vv_alen d_ST_partAt_17 1 0 rfl rfl (v := 8) rfl ?_
      refine vv_icmp_lt (tgt := 31) d_ST_partAt_18 (by decide) ⟨by omega, by omega⟩ (fun c18 => ?_) (fun c18 => ?_)
      · skip
        exfalso; omega
      · skip
        exact vv_throw (tx := "there is no such part") ht rfl tw_IOB (by decide +kernel) d_ST_partAt_21 d_ST_partAt_24 d_ST_partAt_25 d_ST_partAt_27 d_ST_partAt_30 ⟨⟨by decide, by decide⟩, by decide, by decide⟩ ⟨by decide, by decide⟩
set_option maxHeartbeats 4000000 in
set_option maxRecDepth 100000 in
theorem c_ST_cutSheetAt_n1 (l : Launch) (D : va_G) (x qsh qpa qcu qtk qrs qt ql : Nat) (nC : Nat) (S le nS nP nT nR k : Int) (cC : ClassId) (fC : Nat → Option Nat) (hfl : l.flags = flags0)  : CT l y_ST_cutSheetAt b_ST_cutSheetAt 2 (some (.object "SheetTrees$CutSheet")) rx_1 [.ref x, .int (iI k)] D [(cC, .object "SheetTrees$CutSheet")] ([ob_ST x qsh qpa qcu qtk qrs qt ql S le nS nP (nC : Int) nT nR 0, ar_Q qcu cC 20 fC] ++ []) n_ISE := by
  refine ct_of hfl (by decide) (Nat.le_of_ble_eq_true rfl) ?_
  intro X sz hl hr hD ht
  subst hD
  show VV X (b_ST_cutSheetAt, 2, "SheetTrees", rx_1) _ 0 0 [(cC, .object "SheetTrees$CutSheet")] [ob_ST x qsh qpa qcu qtk qrs qt ql S le nS nP (nC : Int) nT nR 0, ar_Q qcu cC 20 fC] [] [some (.ref x), some (.int (iI k))] [] 0
  refine vv_aload_n d_ST_cutSheetAt_0 rfl ?_
  exact vv_tV [] ht (wc := [ob_ST x qsh qpa qcu qtk qrs qt ql S le nS nP (nC : Int) nT nR 0]) (plc := []) (c_ST_needRun_n (cx_l X) (cx_D X) x qsh qpa qcu qtk qrs qt ql S le _ _ _ _ _ (hl ▸ hfl)) lk_ST_218 (tb_at 608 rfl rfl) d_ST_cutSheetAt_1 rfl (rc_at 0 rfl rfl rfl) [0] ⟨rfl, rfl, Or.inl rfl⟩ [] rfl ⟨⟨by decide, by decide⟩, ⟨by decide, by decide⟩, Nat.le_of_ble_eq_true rfl⟩ ⟨by decide, by decide⟩
set_option maxHeartbeats 4000000 in
set_option maxRecDepth 100000 in
theorem c_ST_cutSheetAt_n2 (l : Launch) (D : va_G) (x qsh qpa qcu qtk qrs qt ql : Nat) (nC : Nat) (S le nS nP nT nR k : Int) (cC : ClassId) (fC : Nat → Option Nat) (hfl : l.flags = flags0) (hnC : nC ≤ 20) (h_k : -2147483648 ≤ k ∧ k < 2147483648) (hk : k < 0 ∨ (nC : Int) ≤ k) : CT l y_ST_cutSheetAt b_ST_cutSheetAt 2 (some (.object "SheetTrees$CutSheet")) rx_1 [.ref x, .int (iI k)] D [(cC, .object "SheetTrees$CutSheet")] ([ob_ST x qsh qpa qcu qtk qrs qt ql S le nS nP (nC : Int) nT nR 1, ar_Q qcu cC 20 fC] ++ []) n_IOB := by
  refine ct_of hfl (by decide) (Nat.le_of_ble_eq_true rfl) ?_
  intro X sz hl hr hD ht
  subst hD
  show VV X (b_ST_cutSheetAt, 2, "SheetTrees", rx_1) _ 0 0 [(cC, .object "SheetTrees$CutSheet")] [ob_ST x qsh qpa qcu qtk qrs qt ql S le nS nP (nC : Int) nT nR 1, ar_Q qcu cC 20 fC] [] [some (.ref x), some (.int (iI k))] [] 0
  refine vv_aload_n d_ST_cutSheetAt_0 rfl ?_
  refine vv_pV (wc := [ob_ST x qsh qpa qcu qtk qrs qt ql S le nS nP (nC : Int) nT nR 1]) (plc := []) [] (c_ST_needRun_y (cx_l X) (cx_D X) x qsh qpa qcu qtk qrs qt ql S le _ _ _ _ _) lk_ST_218 d_ST_cutSheetAt_1 rfl (rc_at 0 rfl rfl rfl) [0] ⟨rfl, rfl, Or.inl rfl⟩ [] rfl ⟨⟨by decide, by decide⟩, ⟨by decide, by decide⟩, Nat.le_of_ble_eq_true rfl⟩ ⟨rfl, rfl⟩ ?_
  intro v hv
  subst hv
  dsimp only [Option.toList, List.cons_append, List.nil_append, List.append_nil]
  refine vv_iload_n d_ST_cutSheetAt_4 rfl ?_
  refine vv_if_lt (tgt := 25) d_ST_cutSheetAt_5 (by decide) (by omega) (fun c5 => ?_) (fun c5 => ?_)
  · skip
    exact vv_throw (tx := "there is no such cut sheet") ht rfl tw_IOB (by decide +kernel) d_ST_cutSheetAt_25 d_ST_cutSheetAt_28 d_ST_cutSheetAt_29 d_ST_cutSheetAt_31 d_ST_cutSheetAt_34 ⟨⟨by decide, by decide⟩, by decide, by decide⟩ ⟨by decide, by decide⟩
  · skip
    refine vv_iload_n d_ST_cutSheetAt_8 rfl ?_
    refine vv_aload_n d_ST_cutSheetAt_9 rfl ?_
    refine vv_get d_ST_cutSheetAt_10 0 rfl fl_ST_41 rfl ?_
    refine vv_icmp_ge (tgt := 25) d_ST_cutSheetAt_13 (by decide) ⟨by omega, by omega⟩ (fun c13 => ?_) (fun c13 => ?_)
    · skip
      exact vv_throw (tx := "there is no such cut sheet") ht rfl tw_IOB (by decide +kernel) d_ST_cutSheetAt_25 d_ST_cutSheetAt_28 d_ST_cutSheetAt_29 d_ST_cutSheetAt_31 d_ST_cutSheetAt_34 ⟨⟨by decide, by decide⟩, by decide, by decide⟩ ⟨by decide, by decide⟩
    · skip
      refine vv_iload_n d_ST_cutSheetAt_16 rfl ?_
      refine vv_aload_n d_ST_cutSheetAt_17 rfl ?_
      refine vv_get d_ST_cutSheetAt_18 0 rfl fl_ST_23 rfl ?_
      refine vv_alen d_ST_cutSheetAt_21 1 0 rfl rfl (v := 20) rfl ?_
      refine vv_icmp_lt (tgt := 35) d_ST_cutSheetAt_22 (by decide) ⟨by omega, by omega⟩ (fun c22 => ?_) (fun c22 => ?_)
      · skip
        exfalso; omega
      · skip
        exact vv_throw (tx := "there is no such cut sheet") ht rfl tw_IOB (by decide +kernel) d_ST_cutSheetAt_25 d_ST_cutSheetAt_28 d_ST_cutSheetAt_29 d_ST_cutSheetAt_31 d_ST_cutSheetAt_34 ⟨⟨by decide, by decide⟩, by decide, by decide⟩ ⟨by decide, by decide⟩
set_option maxHeartbeats 4000000 in
set_option maxRecDepth 100000 in
theorem c_ST_cut_n1 (l : Launch) (D : va_G) (x qsh qpa qcu qtk qrs qt ql : Nat) (nC : Nat) (S le nS nP nT nR k w : Int) (cC : ClassId) (fC : Nat → Option Nat) (hfl : l.flags = flags0)  : CT l y_ST_cut b_ST_cut 4 (some .int) rx_2 [.ref x, .int (iI k), .int (iI w)] D [(cC, .object "SheetTrees$CutSheet")] ([ob_ST x qsh qpa qcu qtk qrs qt ql S le nS nP (nC : Int) nT nR 0, ar_Q qcu cC 20 fC] ++ []) n_ISE := by
  refine ct_of hfl (by decide) (Nat.le_of_ble_eq_true rfl) ?_
  intro X sz hl hr hD ht
  subst hD
  show VV X (b_ST_cut, 4, "SheetTrees", rx_2) _ 0 0 [(cC, .object "SheetTrees$CutSheet")] [ob_ST x qsh qpa qcu qtk qrs qt ql S le nS nP (nC : Int) nT nR 0, ar_Q qcu cC 20 fC] [] [some (.ref x), some (.int (iI k)), some (.int (iI w)), none] [] 0
  refine vv_aload_n d_ST_cut_0 rfl ?_
  refine vv_iload_n d_ST_cut_1 rfl ?_
  exact vv_tV [] ht (wc := [ob_ST x qsh qpa qcu qtk qrs qt ql S le nS nP (nC : Int) nT nR 0, ar_Q qcu cC 20 fC]) (plc := []) (c_ST_cutSheetAt_n1 (cx_l X) (cx_D X) x qsh qpa qcu qtk qrs qt ql nC S le nS nP nT nR k cC fC (hl ▸ hfl)) lk_ST_165 (tb_at 604 rfl rfl) d_ST_cut_2 rfl (rc_at 0 rfl rfl rfl) [0, 1] ⟨rfl, rfl, Or.inl rfl⟩ [0] rfl ⟨⟨by decide, by decide⟩, ⟨by decide, by decide⟩, Nat.le_of_ble_eq_true rfl⟩ ⟨by decide, by decide⟩
set_option maxHeartbeats 4000000 in
set_option maxRecDepth 100000 in
theorem c_ST_cut_n2 (l : Launch) (D : va_G) (x qsh qpa qcu qtk qrs qt ql : Nat) (nC : Nat) (S le nS nP nT nR k w : Int) (cC : ClassId) (fC : Nat → Option Nat) (hfl : l.flags = flags0) (hnC : nC ≤ 20) (h_k : -2147483648 ≤ k ∧ k < 2147483648) (hk : k < 0 ∨ (nC : Int) ≤ k) : CT l y_ST_cut b_ST_cut 4 (some .int) rx_2 [.ref x, .int (iI k), .int (iI w)] D [(cC, .object "SheetTrees$CutSheet")] ([ob_ST x qsh qpa qcu qtk qrs qt ql S le nS nP (nC : Int) nT nR 1, ar_Q qcu cC 20 fC] ++ []) n_IOB := by
  refine ct_of hfl (by decide) (Nat.le_of_ble_eq_true rfl) ?_
  intro X sz hl hr hD ht
  subst hD
  show VV X (b_ST_cut, 4, "SheetTrees", rx_2) _ 0 0 [(cC, .object "SheetTrees$CutSheet")] [ob_ST x qsh qpa qcu qtk qrs qt ql S le nS nP (nC : Int) nT nR 1, ar_Q qcu cC 20 fC] [] [some (.ref x), some (.int (iI k)), some (.int (iI w)), none] [] 0
  refine vv_aload_n d_ST_cut_0 rfl ?_
  refine vv_iload_n d_ST_cut_1 rfl ?_
  exact vv_tV [] ht (wc := [ob_ST x qsh qpa qcu qtk qrs qt ql S le nS nP (nC : Int) nT nR 1, ar_Q qcu cC 20 fC]) (plc := []) (c_ST_cutSheetAt_n2 (cx_l X) (cx_D X) x qsh qpa qcu qtk qrs qt ql nC S le nS nP nT nR k cC fC (hl ▸ hfl) hnC h_k hk) lk_ST_165 (tb_at 604 rfl rfl) d_ST_cut_2 rfl (rc_at 0 rfl rfl rfl) [0, 1] ⟨rfl, rfl, Or.inl rfl⟩ [0] rfl ⟨⟨by decide, by decide⟩, ⟨by decide, by decide⟩, Nat.le_of_ble_eq_true rfl⟩ ⟨by decide, by decide⟩
set_option maxHeartbeats 4000000 in
set_option maxRecDepth 100000 in
theorem c_ST_cut_n3 (l : Launch) (D : va_G) (x qsh qpa qcu qtk qrs qt ql : Nat) (nC k : Nat) (S le nS nP nT nR w : Int) (cC : ClassId) (fC : Nat → Option Nat) (aC : Nat → Nat) (hfl : l.flags = flags0) (hnC : nC ≤ 20) (hk : k < nC) (hfC : ∀ i : Nat, i < 20 → fC i = some (aC i)) (h_w : -2147483648 ≤ w ∧ w < 2147483648) (hw : w < 0 ∨ 7 < w) : CT l y_ST_cut b_ST_cut 4 (some .int) rx_2 [.ref x, .int (iI (k : Int)), .int (iI w)] D [(cC, .object "SheetTrees$CutSheet")] ([ob_ST x qsh qpa qcu qtk qrs qt ql S le nS nP (nC : Int) nT nR 1, ar_Q qcu cC 20 fC] ++ []) n_IOB := by
  refine ct_of hfl (by decide) (Nat.le_of_ble_eq_true rfl) ?_
  intro X sz hl hr hD ht
  subst hD
  show VV X (b_ST_cut, 4, "SheetTrees", rx_2) _ 0 0 [(cC, .object "SheetTrees$CutSheet")] [ob_ST x qsh qpa qcu qtk qrs qt ql S le nS nP (nC : Int) nT nR 1, ar_Q qcu cC 20 fC] [] [some (.ref x), some (.int (iI (k : Int))), some (.int (iI w)), none] [] 0
  refine vv_aload_n d_ST_cut_0 rfl ?_
  refine vv_iload_n d_ST_cut_1 rfl ?_
  refine vv_pV (wc := [ob_ST x qsh qpa qcu qtk qrs qt ql S le nS nP (nC : Int) nT nR 1, ar_Q qcu cC 20 fC]) (plc := []) [] (c_ST_cutSheetAt_y (cx_l X) (cx_D X) x qsh qpa qcu qtk qrs qt ql nC k S le nS nP nT nR cC fC aC hnC hk hfC) lk_ST_165 d_ST_cut_2 rfl (rc_at 0 rfl rfl rfl) [0, 1] ⟨rfl, rfl, Or.inl rfl⟩ [0] rfl ⟨⟨by decide, by decide⟩, ⟨by decide, by decide⟩, Nat.le_of_ble_eq_true rfl⟩ ⟨rfl, rfl⟩ ?_
  intro v hv
  subst hv
  dsimp only [Option.toList, List.cons_append, List.nil_append, List.append_nil]
  refine vv_astore_n d_ST_cut_5 rfl (by decide) ?_
  dsimp only [List.set]
  refine vv_iload_n d_ST_cut_6 rfl ?_
  refine vv_tabOut (tgt := 92) d_ST_cut_7 (by rw [iI_toInt h_w.1 h_w.2]; exact hw) (by decide) ?_
  exact vv_throw (tx := "what is not 0 .. 7") ht rfl tw_IOB (by decide +kernel) d_ST_cut_92 d_ST_cut_95 d_ST_cut_96 d_ST_cut_98 d_ST_cut_101 ⟨⟨by decide, by decide⟩, by decide, by decide⟩ ⟨by decide, by decide⟩
set_option maxHeartbeats 4000000 in
set_option maxRecDepth 100000 in
theorem c_ST_taken_n1 (l : Launch) (D : va_G) (x qsh qpa qcu qtk qrs qt ql : Nat) (nC : Nat) (S le nS nP nT nR k j w : Int) (cC : ClassId) (fC : Nat → Option Nat) (hfl : l.flags = flags0)  : CT l y_ST_taken b_ST_taken 5 (some .int) rx_2 [.ref x, .int (iI k), .int (iI j), .int (iI w)] D [(cC, .object "SheetTrees$CutSheet")] ([ob_ST x qsh qpa qcu qtk qrs qt ql S le nS nP (nC : Int) nT nR 0, ar_Q qcu cC 20 fC] ++ []) n_ISE := by
  refine ct_of hfl (by decide) (Nat.le_of_ble_eq_true rfl) ?_
  intro X sz hl hr hD ht
  subst hD
  show VV X (b_ST_taken, 5, "SheetTrees", rx_2) _ 0 0 [(cC, .object "SheetTrees$CutSheet")] [ob_ST x qsh qpa qcu qtk qrs qt ql S le nS nP (nC : Int) nT nR 0, ar_Q qcu cC 20 fC] [] [some (.ref x), some (.int (iI k)), some (.int (iI j)), some (.int (iI w)), none] [] 0
  refine vv_aload_n d_ST_taken_0 rfl ?_
  refine vv_iload_n d_ST_taken_1 rfl ?_
  exact vv_tV [] ht (wc := [ob_ST x qsh qpa qcu qtk qrs qt ql S le nS nP (nC : Int) nT nR 0, ar_Q qcu cC 20 fC]) (plc := []) (c_ST_cutSheetAt_n1 (cx_l X) (cx_D X) x qsh qpa qcu qtk qrs qt ql nC S le nS nP nT nR k cC fC (hl ▸ hfl)) lk_ST_165 (tb_at 604 rfl rfl) d_ST_taken_2 rfl (rc_at 0 rfl rfl rfl) [0, 1] ⟨rfl, rfl, Or.inl rfl⟩ [0] rfl ⟨⟨by decide, by decide⟩, ⟨by decide, by decide⟩, Nat.le_of_ble_eq_true rfl⟩ ⟨by decide, by decide⟩
set_option maxHeartbeats 4000000 in
set_option maxRecDepth 100000 in
theorem c_ST_taken_n2 (l : Launch) (D : va_G) (x qsh qpa qcu qtk qrs qt ql : Nat) (nC : Nat) (S le nS nP nT nR k j w : Int) (cC : ClassId) (fC : Nat → Option Nat) (hfl : l.flags = flags0) (hnC : nC ≤ 20) (h_k : -2147483648 ≤ k ∧ k < 2147483648) (hk : k < 0 ∨ (nC : Int) ≤ k) : CT l y_ST_taken b_ST_taken 5 (some .int) rx_2 [.ref x, .int (iI k), .int (iI j), .int (iI w)] D [(cC, .object "SheetTrees$CutSheet")] ([ob_ST x qsh qpa qcu qtk qrs qt ql S le nS nP (nC : Int) nT nR 1, ar_Q qcu cC 20 fC] ++ []) n_IOB := by
  refine ct_of hfl (by decide) (Nat.le_of_ble_eq_true rfl) ?_
  intro X sz hl hr hD ht
  subst hD
  show VV X (b_ST_taken, 5, "SheetTrees", rx_2) _ 0 0 [(cC, .object "SheetTrees$CutSheet")] [ob_ST x qsh qpa qcu qtk qrs qt ql S le nS nP (nC : Int) nT nR 1, ar_Q qcu cC 20 fC] [] [some (.ref x), some (.int (iI k)), some (.int (iI j)), some (.int (iI w)), none] [] 0
  refine vv_aload_n d_ST_taken_0 rfl ?_
  refine vv_iload_n d_ST_taken_1 rfl ?_
  exact vv_tV [] ht (wc := [ob_ST x qsh qpa qcu qtk qrs qt ql S le nS nP (nC : Int) nT nR 1, ar_Q qcu cC 20 fC]) (plc := []) (c_ST_cutSheetAt_n2 (cx_l X) (cx_D X) x qsh qpa qcu qtk qrs qt ql nC S le nS nP nT nR k cC fC (hl ▸ hfl) hnC h_k hk) lk_ST_165 (tb_at 604 rfl rfl) d_ST_taken_2 rfl (rc_at 0 rfl rfl rfl) [0, 1] ⟨rfl, rfl, Or.inl rfl⟩ [0] rfl ⟨⟨by decide, by decide⟩, ⟨by decide, by decide⟩, Nat.le_of_ble_eq_true rfl⟩ ⟨by decide, by decide⟩
set_option maxHeartbeats 4000000 in
set_option maxRecDepth 100000 in
theorem c_ST_taken_n3 (l : Launch) (D : va_G) (x qsh qpa qcu qtk qrs qt ql : Nat) (nC k : Nat) (S le nS nP nT nR j w : Int) (cC : ClassId) (fC : Nat → Option Nat) (L : List Nat) (f : Nat → va_E) (aC : Nat → Nat) (Cs : Nat → Nat → Int) (hfl : l.flags = flags0) (hnC : nC ≤ 20) (hk : k < nC) (hfC : ∀ i : Nat, i < 20 → fC i = some (aC i)) (hCC : CC L f aC Cs) (h_j : -2147483648 ≤ j ∧ j < 2147483648) (h_w : -2147483648 ≤ w ∧ w < 2147483648) (hc1 : 0 ≤ Cs k 8 ∧ Cs k 8 ≤ 1000000) (hw : (j < 0 ∨ Cs k 8 ≤ j) ∨ w < 0 ∨ 4 < w) : CT l y_ST_taken b_ST_taken 5 (some .int) rx_2 [.ref x, .int (iI (k : Int)), .int (iI j), .int (iI w)] D [(cC, .object "SheetTrees$CutSheet")] ([ob_ST x qsh qpa qcu qtk qrs qt ql S le nS nP (nC : Int) nT nR 1, ar_Q qcu cC 20 fC] ++ va_pl L f) n_IOB := by
  refine ct_of hfl (by decide) (Nat.le_of_ble_eq_true rfl) ?_
  intro X sz hl hr hD ht
  subst hD
  obtain ⟨hin, hat⟩ := hCC k (by omega)
  show VV X (b_ST_taken, 5, "SheetTrees", rx_2) _ 0 0 [(cC, .object "SheetTrees$CutSheet")] [ob_ST x qsh qpa qcu qtk qrs qt ql S le nS nP (nC : Int) nT nR 1, ar_Q qcu cC 20 fC] (va_pl L f) [some (.ref x), some (.int (iI (k : Int))), some (.int (iI j)), some (.int (iI w)), none] [] 0
  refine vv_aload_n d_ST_taken_0 rfl ?_
  refine vv_iload_n d_ST_taken_1 rfl ?_
  refine vv_pV (wc := [ob_ST x qsh qpa qcu qtk qrs qt ql S le nS nP (nC : Int) nT nR 1, ar_Q qcu cC 20 fC]) (plc := []) [] (c_ST_cutSheetAt_y (cx_l X) (cx_D X) x qsh qpa qcu qtk qrs qt ql nC k S le nS nP nT nR cC fC aC hnC hk hfC) lk_ST_165 d_ST_taken_2 rfl (rc_at 0 rfl rfl rfl) [0, 1] ⟨rfl, rfl, Or.inl rfl⟩ [0] rfl ⟨⟨by decide, by decide⟩, ⟨by decide, by decide⟩, Nat.le_of_ble_eq_true rfl⟩ ⟨rfl, rfl⟩ ?_
  intro v hv
  subst hv
  dsimp only [Option.toList, List.cons_append, List.nil_append, List.append_nil]
  refine vv_astore d_ST_taken_5 rfl (by decide) ?_
  dsimp only [List.set]
  refine vv_iload_n d_ST_taken_7 rfl ?_
  refine vv_iconst d_ST_taken_8 ?_
  refine vv_aload d_ST_taken_9 rfl ?_
  refine vv_getP d_ST_taken_11 hin hat fl_ST_172 rfl ?_
  refine vv_iconst d_ST_taken_14 ?_
  refine vv_isub d_ST_taken_15 ?_
  refine vv_pS (wc := []) (plc := []) [] (c_ST_isWithin (cx_l X) (cx_D X) j 0 (Cs k 8 - 1) (by omega) (by omega) (by omega)) lk_ST_96 d_ST_taken_16 rfl [] ⟨rfl, rfl, Or.inl rfl⟩ [] rfl ⟨⟨by decide, by decide⟩, ⟨by decide, by decide⟩, Nat.le_of_ble_eq_true rfl⟩ ⟨rfl, rfl⟩ ?_
  intro v hv
  subst hv
  dsimp only [Option.toList, List.cons_append, List.nil_append, List.append_nil]
  have hc16 := isW_c j 0 (Cs k 8 - 1)
  refine vv_if_ne (tgt := 32) d_ST_taken_19 (by decide) (by omega) (fun c19 => ?_) (fun c19 => ?_)
  · skip
    refine vv_iload_n d_ST_taken_32 rfl ?_
    refine vv_iconst d_ST_taken_33 ?_
    refine vv_iconst d_ST_taken_34 ?_
    refine vv_pS (wc := []) (plc := []) [] (c_ST_isWithin (cx_l X) (cx_D X) w 0 4 (by omega) (by omega) (by omega)) lk_ST_96 d_ST_taken_35 rfl [] ⟨rfl, rfl, Or.inl rfl⟩ [] rfl ⟨⟨by decide, by decide⟩, ⟨by decide, by decide⟩, Nat.le_of_ble_eq_true rfl⟩ ⟨rfl, rfl⟩ ?_
    intro v hv
    subst hv
    dsimp only [Option.toList, List.cons_append, List.nil_append, List.append_nil]
    have hc35 := isW_c w 0 4
    refine vv_if_ne (tgt := 51) d_ST_taken_38 (by decide) (by omega) (fun c38 => ?_) (fun c38 => ?_)
    · skip
      exfalso; omega
    · skip
      exact vv_throw (tx := "what is not 0 .. 4") ht rfl tw_IOB (by decide +kernel) d_ST_taken_41 d_ST_taken_44 d_ST_taken_45 d_ST_taken_47 d_ST_taken_50 ⟨⟨by decide, by decide⟩, by decide, by decide⟩ ⟨by decide, by decide⟩
  · skip
    exact vv_throw (tx := "there is no such part taken") ht rfl tw_IOB (by decide +kernel) d_ST_taken_22 d_ST_taken_25 d_ST_taken_26 d_ST_taken_28 d_ST_taken_31 ⟨⟨by decide, by decide⟩, by decide, by decide⟩ ⟨by decide, by decide⟩
set_option maxHeartbeats 4000000 in
set_option maxRecDepth 100000 in
theorem c_ST_rest_n1 (l : Launch) (D : va_G) (x qsh qpa qcu qtk qrs qt ql : Nat) (nC : Nat) (S le nS nP nT nR k j w : Int) (cC : ClassId) (fC : Nat → Option Nat) (hfl : l.flags = flags0)  : CT l y_ST_rest b_ST_rest 5 (some .int) rx_2 [.ref x, .int (iI k), .int (iI j), .int (iI w)] D [(cC, .object "SheetTrees$CutSheet")] ([ob_ST x qsh qpa qcu qtk qrs qt ql S le nS nP (nC : Int) nT nR 0, ar_Q qcu cC 20 fC] ++ []) n_ISE := by
  refine ct_of hfl (by decide) (Nat.le_of_ble_eq_true rfl) ?_
  intro X sz hl hr hD ht
  subst hD
  show VV X (b_ST_rest, 5, "SheetTrees", rx_2) _ 0 0 [(cC, .object "SheetTrees$CutSheet")] [ob_ST x qsh qpa qcu qtk qrs qt ql S le nS nP (nC : Int) nT nR 0, ar_Q qcu cC 20 fC] [] [some (.ref x), some (.int (iI k)), some (.int (iI j)), some (.int (iI w)), none] [] 0
  refine vv_aload_n d_ST_rest_0 rfl ?_
  refine vv_iload_n d_ST_rest_1 rfl ?_
  exact vv_tV [] ht (wc := [ob_ST x qsh qpa qcu qtk qrs qt ql S le nS nP (nC : Int) nT nR 0, ar_Q qcu cC 20 fC]) (plc := []) (c_ST_cutSheetAt_n1 (cx_l X) (cx_D X) x qsh qpa qcu qtk qrs qt ql nC S le nS nP nT nR k cC fC (hl ▸ hfl)) lk_ST_165 (tb_at 604 rfl rfl) d_ST_rest_2 rfl (rc_at 0 rfl rfl rfl) [0, 1] ⟨rfl, rfl, Or.inl rfl⟩ [0] rfl ⟨⟨by decide, by decide⟩, ⟨by decide, by decide⟩, Nat.le_of_ble_eq_true rfl⟩ ⟨by decide, by decide⟩
set_option maxHeartbeats 4000000 in
set_option maxRecDepth 100000 in
theorem c_ST_rest_n2 (l : Launch) (D : va_G) (x qsh qpa qcu qtk qrs qt ql : Nat) (nC : Nat) (S le nS nP nT nR k j w : Int) (cC : ClassId) (fC : Nat → Option Nat) (hfl : l.flags = flags0) (hnC : nC ≤ 20) (h_k : -2147483648 ≤ k ∧ k < 2147483648) (hk : k < 0 ∨ (nC : Int) ≤ k) : CT l y_ST_rest b_ST_rest 5 (some .int) rx_2 [.ref x, .int (iI k), .int (iI j), .int (iI w)] D [(cC, .object "SheetTrees$CutSheet")] ([ob_ST x qsh qpa qcu qtk qrs qt ql S le nS nP (nC : Int) nT nR 1, ar_Q qcu cC 20 fC] ++ []) n_IOB := by
  refine ct_of hfl (by decide) (Nat.le_of_ble_eq_true rfl) ?_
  intro X sz hl hr hD ht
  subst hD
  show VV X (b_ST_rest, 5, "SheetTrees", rx_2) _ 0 0 [(cC, .object "SheetTrees$CutSheet")] [ob_ST x qsh qpa qcu qtk qrs qt ql S le nS nP (nC : Int) nT nR 1, ar_Q qcu cC 20 fC] [] [some (.ref x), some (.int (iI k)), some (.int (iI j)), some (.int (iI w)), none] [] 0
  refine vv_aload_n d_ST_rest_0 rfl ?_
  refine vv_iload_n d_ST_rest_1 rfl ?_
  exact vv_tV [] ht (wc := [ob_ST x qsh qpa qcu qtk qrs qt ql S le nS nP (nC : Int) nT nR 1, ar_Q qcu cC 20 fC]) (plc := []) (c_ST_cutSheetAt_n2 (cx_l X) (cx_D X) x qsh qpa qcu qtk qrs qt ql nC S le nS nP nT nR k cC fC (hl ▸ hfl) hnC h_k hk) lk_ST_165 (tb_at 604 rfl rfl) d_ST_rest_2 rfl (rc_at 0 rfl rfl rfl) [0, 1] ⟨rfl, rfl, Or.inl rfl⟩ [0] rfl ⟨⟨by decide, by decide⟩, ⟨by decide, by decide⟩, Nat.le_of_ble_eq_true rfl⟩ ⟨by decide, by decide⟩
set_option maxHeartbeats 4000000 in
set_option maxRecDepth 100000 in
theorem c_ST_rest_n3 (l : Launch) (D : va_G) (x qsh qpa qcu qtk qrs qt ql : Nat) (nC k : Nat) (S le nS nP nT nR j w : Int) (cC : ClassId) (fC : Nat → Option Nat) (L : List Nat) (f : Nat → va_E) (aC : Nat → Nat) (Cs : Nat → Nat → Int) (hfl : l.flags = flags0) (hnC : nC ≤ 20) (hk : k < nC) (hfC : ∀ i : Nat, i < 20 → fC i = some (aC i)) (hCC : CC L f aC Cs) (h_j : -2147483648 ≤ j ∧ j < 2147483648) (h_w : -2147483648 ≤ w ∧ w < 2147483648) (hc1 : 0 ≤ Cs k 11 ∧ Cs k 11 ≤ 1000000) (hw : (j < 0 ∨ Cs k 11 ≤ j) ∨ w < 0 ∨ 3 < w) : CT l y_ST_rest b_ST_rest 5 (some .int) rx_2 [.ref x, .int (iI (k : Int)), .int (iI j), .int (iI w)] D [(cC, .object "SheetTrees$CutSheet")] ([ob_ST x qsh qpa qcu qtk qrs qt ql S le nS nP (nC : Int) nT nR 1, ar_Q qcu cC 20 fC] ++ va_pl L f) n_IOB := by
  refine ct_of hfl (by decide) (Nat.le_of_ble_eq_true rfl) ?_
  intro X sz hl hr hD ht
  subst hD
  obtain ⟨hin, hat⟩ := hCC k (by omega)
  show VV X (b_ST_rest, 5, "SheetTrees", rx_2) _ 0 0 [(cC, .object "SheetTrees$CutSheet")] [ob_ST x qsh qpa qcu qtk qrs qt ql S le nS nP (nC : Int) nT nR 1, ar_Q qcu cC 20 fC] (va_pl L f) [some (.ref x), some (.int (iI (k : Int))), some (.int (iI j)), some (.int (iI w)), none] [] 0
  refine vv_aload_n d_ST_rest_0 rfl ?_
  refine vv_iload_n d_ST_rest_1 rfl ?_
  refine vv_pV (wc := [ob_ST x qsh qpa qcu qtk qrs qt ql S le nS nP (nC : Int) nT nR 1, ar_Q qcu cC 20 fC]) (plc := []) [] (c_ST_cutSheetAt_y (cx_l X) (cx_D X) x qsh qpa qcu qtk qrs qt ql nC k S le nS nP nT nR cC fC aC hnC hk hfC) lk_ST_165 d_ST_rest_2 rfl (rc_at 0 rfl rfl rfl) [0, 1] ⟨rfl, rfl, Or.inl rfl⟩ [0] rfl ⟨⟨by decide, by decide⟩, ⟨by decide, by decide⟩, Nat.le_of_ble_eq_true rfl⟩ ⟨rfl, rfl⟩ ?_
  intro v hv
  subst hv
  dsimp only [Option.toList, List.cons_append, List.nil_append, List.append_nil]
  refine vv_astore d_ST_rest_5 rfl (by decide) ?_
  dsimp only [List.set]
  refine vv_iload_n d_ST_rest_7 rfl ?_
  refine vv_iconst d_ST_rest_8 ?_
  refine vv_aload d_ST_rest_9 rfl ?_
  refine vv_getP d_ST_rest_11 hin hat fl_ST_185 rfl ?_
  refine vv_iconst d_ST_rest_14 ?_
  refine vv_isub d_ST_rest_15 ?_
  refine vv_pS (wc := []) (plc := []) [] (c_ST_isWithin (cx_l X) (cx_D X) j 0 (Cs k 11 - 1) (by omega) (by omega) (by omega)) lk_ST_96 d_ST_rest_16 rfl [] ⟨rfl, rfl, Or.inl rfl⟩ [] rfl ⟨⟨by decide, by decide⟩, ⟨by decide, by decide⟩, Nat.le_of_ble_eq_true rfl⟩ ⟨rfl, rfl⟩ ?_
  intro v hv
  subst hv
  dsimp only [Option.toList, List.cons_append, List.nil_append, List.append_nil]
  have hc16 := isW_c j 0 (Cs k 11 - 1)
  refine vv_if_ne (tgt := 32) d_ST_rest_19 (by decide) (by omega) (fun c19 => ?_) (fun c19 => ?_)
  · skip
    refine vv_iload_n d_ST_rest_32 rfl ?_
    refine vv_iconst d_ST_rest_33 ?_
    refine vv_iconst d_ST_rest_34 ?_
    refine vv_pS (wc := []) (plc := []) [] (c_ST_isWithin (cx_l X) (cx_D X) w 0 3 (by omega) (by omega) (by omega)) lk_ST_96 d_ST_rest_35 rfl [] ⟨rfl, rfl, Or.inl rfl⟩ [] rfl ⟨⟨by decide, by decide⟩, ⟨by decide, by decide⟩, Nat.le_of_ble_eq_true rfl⟩ ⟨rfl, rfl⟩ ?_
    intro v hv
    subst hv
    dsimp only [Option.toList, List.cons_append, List.nil_append, List.append_nil]
    have hc35 := isW_c w 0 3
    refine vv_if_ne (tgt := 51) d_ST_rest_38 (by decide) (by omega) (fun c38 => ?_) (fun c38 => ?_)
    · skip
      exfalso; omega
    · skip
      exact vv_throw (tx := "what is not 0 .. 3") ht rfl tw_IOB (by decide +kernel) d_ST_rest_41 d_ST_rest_44 d_ST_rest_45 d_ST_rest_47 d_ST_rest_50 ⟨⟨by decide, by decide⟩, by decide, by decide⟩ ⟨by decide, by decide⟩
  · skip
    exact vv_throw (tx := "there is no such rest") ht rfl tw_IOB (by decide +kernel) d_ST_rest_22 d_ST_rest_25 d_ST_rest_26 d_ST_rest_28 d_ST_rest_31 ⟨⟨by decide, by decide⟩, by decide, by decide⟩ ⟨by decide, by decide⟩
set_option maxHeartbeats 4000000 in
set_option maxRecDepth 100000 in
theorem c_ST_left_n1 (l : Launch) (D : va_G) (x qsh qpa qcu qtk qrs qt ql : Nat) (nP : Nat) (S le nS nC nT nR k : Int) (cP : ClassId) (fP : Nat → Option Nat) (hfl : l.flags = flags0)  : CT l y_ST_left b_ST_left 2 (some .int) rx_1 [.ref x, .int (iI k)] D [(cP, .object "SheetTrees$Part")] ([ob_ST x qsh qpa qcu qtk qrs qt ql S le nS (nP : Int) nC nT nR 0, ar_Q qpa cP 8 fP] ++ []) n_ISE := by
  refine ct_of hfl (by decide) (Nat.le_of_ble_eq_true rfl) ?_
  intro X sz hl hr hD ht
  subst hD
  show VV X (b_ST_left, 2, "SheetTrees", rx_1) _ 0 0 [(cP, .object "SheetTrees$Part")] [ob_ST x qsh qpa qcu qtk qrs qt ql S le nS (nP : Int) nC nT nR 0, ar_Q qpa cP 8 fP] [] [some (.ref x), some (.int (iI k))] [] 0
  refine vv_aload_n d_ST_left_0 rfl ?_
  exact vv_tV [] ht (wc := [ob_ST x qsh qpa qcu qtk qrs qt ql S le nS (nP : Int) nC nT nR 0]) (plc := []) (c_ST_needRun_n (cx_l X) (cx_D X) x qsh qpa qcu qtk qrs qt ql S le _ _ _ _ _ (hl ▸ hfl)) lk_ST_218 (tb_at 608 rfl rfl) d_ST_left_1 rfl (rc_at 0 rfl rfl rfl) [0] ⟨rfl, rfl, Or.inl rfl⟩ [] rfl ⟨⟨by decide, by decide⟩, ⟨by decide, by decide⟩, Nat.le_of_ble_eq_true rfl⟩ ⟨by decide, by decide⟩
set_option maxHeartbeats 4000000 in
set_option maxRecDepth 100000 in
theorem c_ST_left_n2 (l : Launch) (D : va_G) (x qsh qpa qcu qtk qrs qt ql : Nat) (nP : Nat) (S le nS nC nT nR k : Int) (cP : ClassId) (fP : Nat → Option Nat) (hfl : l.flags = flags0) (hnP : nP ≤ 8) (h_k : -2147483648 ≤ k ∧ k < 2147483648) (hk : k < 0 ∨ (nP : Int) ≤ k) : CT l y_ST_left b_ST_left 2 (some .int) rx_1 [.ref x, .int (iI k)] D [(cP, .object "SheetTrees$Part")] ([ob_ST x qsh qpa qcu qtk qrs qt ql S le nS (nP : Int) nC nT nR 1, ar_Q qpa cP 8 fP] ++ []) n_IOB := by
  refine ct_of hfl (by decide) (Nat.le_of_ble_eq_true rfl) ?_
  intro X sz hl hr hD ht
  subst hD
  show VV X (b_ST_left, 2, "SheetTrees", rx_1) _ 0 0 [(cP, .object "SheetTrees$Part")] [ob_ST x qsh qpa qcu qtk qrs qt ql S le nS (nP : Int) nC nT nR 1, ar_Q qpa cP 8 fP] [] [some (.ref x), some (.int (iI k))] [] 0
  refine vv_aload_n d_ST_left_0 rfl ?_
  refine vv_pV (wc := [ob_ST x qsh qpa qcu qtk qrs qt ql S le nS (nP : Int) nC nT nR 1]) (plc := []) [] (c_ST_needRun_y (cx_l X) (cx_D X) x qsh qpa qcu qtk qrs qt ql S le _ _ _ _ _) lk_ST_218 d_ST_left_1 rfl (rc_at 0 rfl rfl rfl) [0] ⟨rfl, rfl, Or.inl rfl⟩ [] rfl ⟨⟨by decide, by decide⟩, ⟨by decide, by decide⟩, Nat.le_of_ble_eq_true rfl⟩ ⟨rfl, rfl⟩ ?_
  intro v hv
  subst hv
  dsimp only [Option.toList, List.cons_append, List.nil_append, List.append_nil]
  refine vv_aload_n d_ST_left_4 rfl ?_
  refine vv_iload_n d_ST_left_5 rfl ?_
  exact vv_tV [] ht (wc := [ob_ST x qsh qpa qcu qtk qrs qt ql S le nS (nP : Int) nC nT nR 1, ar_Q qpa cP 8 fP]) (plc := []) (c_ST_partAt_n (cx_l X) (cx_D X) x qsh qpa qcu qtk qrs qt ql nP S le nS nC nT nR 1 k cP fP (hl ▸ hfl) hnP h_k hk) lk_ST_133 (tb_at 559 rfl rfl) d_ST_left_6 rfl (rc_at 0 rfl rfl rfl) [0, 1] ⟨rfl, rfl, Or.inl rfl⟩ [0] rfl ⟨⟨by decide, by decide⟩, ⟨by decide, by decide⟩, Nat.le_of_ble_eq_true rfl⟩ ⟨by decide, by decide⟩
set_option maxHeartbeats 4000000 in
set_option maxRecDepth 100000 in
theorem c_ST_all_n1 (l : Launch) (D : va_G) (x qsh qpa qcu qtk qrs qt ql : Nat) (S le nS nP nC nT nR w : Int) (hfl : l.flags = flags0)  : CT l y_ST_all b_ST_all 6 (some .long) rx_1 [.ref x, .int (iI w)] D [] ([ob_ST x qsh qpa qcu qtk qrs qt ql S le nS nP nC nT nR 0] ++ []) n_ISE := by
  refine ct_of hfl (by decide) (Nat.le_of_ble_eq_true rfl) ?_
  intro X sz hl hr hD ht
  subst hD
  show VV X (b_ST_all, 6, "SheetTrees", rx_1) _ 0 0 [] [ob_ST x qsh qpa qcu qtk qrs qt ql S le nS nP nC nT nR 0] [] [some (.ref x), some (.int (iI w)), none, none, none, none] [] 0
  refine vv_aload_n d_ST_all_0 rfl ?_
  exact vv_tV [] ht (wc := [ob_ST x qsh qpa qcu qtk qrs qt ql S le nS nP nC nT nR 0]) (plc := []) (c_ST_needRun_n (cx_l X) (cx_D X) x qsh qpa qcu qtk qrs qt ql S le _ _ _ _ _ (hl ▸ hfl)) lk_ST_218 (tb_at 608 rfl rfl) d_ST_all_1 rfl (rc_at 0 rfl rfl rfl) [0] ⟨rfl, rfl, Or.inl rfl⟩ [] rfl ⟨⟨by decide, by decide⟩, ⟨by decide, by decide⟩, Nat.le_of_ble_eq_true rfl⟩ ⟨by decide, by decide⟩
set_option maxHeartbeats 4000000 in
set_option maxRecDepth 100000 in
theorem c_ST_all_n2 (l : Launch) (D : va_G) (x qsh qpa qcu qtk qrs qt ql : Nat) (S le nS nP nC nT nR w : Int) (hfl : l.flags = flags0) (h_w : -2147483648 ≤ w ∧ w < 2147483648) (hw : w < 0 ∨ 2 < w) : CT l y_ST_all b_ST_all 6 (some .long) rx_1 [.ref x, .int (iI w)] D [] ([ob_ST x qsh qpa qcu qtk qrs qt ql S le nS nP nC nT nR 1] ++ []) n_IOB := by
  refine ct_of hfl (by decide) (Nat.le_of_ble_eq_true rfl) ?_
  intro X sz hl hr hD ht
  subst hD
  show VV X (b_ST_all, 6, "SheetTrees", rx_1) _ 0 0 [] [ob_ST x qsh qpa qcu qtk qrs qt ql S le nS nP nC nT nR 1] [] [some (.ref x), some (.int (iI w)), none, none, none, none] [] 0
  refine vv_aload_n d_ST_all_0 rfl ?_
  refine vv_pV (wc := [ob_ST x qsh qpa qcu qtk qrs qt ql S le nS nP nC nT nR 1]) (plc := []) [] (c_ST_needRun_y (cx_l X) (cx_D X) x qsh qpa qcu qtk qrs qt ql S le _ _ _ _ _) lk_ST_218 d_ST_all_1 rfl (rc_at 0 rfl rfl rfl) [0] ⟨rfl, rfl, Or.inl rfl⟩ [] rfl ⟨⟨by decide, by decide⟩, ⟨by decide, by decide⟩, Nat.le_of_ble_eq_true rfl⟩ ⟨rfl, rfl⟩ ?_
  intro v hv
  subst hv
  dsimp only [Option.toList, List.cons_append, List.nil_append, List.append_nil]
  refine vv_iload_n d_ST_all_4 rfl ?_
  refine vv_iconst d_ST_all_5 ?_
  refine vv_iconst d_ST_all_6 ?_
  refine vv_pS (wc := []) (plc := []) [] (c_ST_isWithin (cx_l X) (cx_D X) w 0 2 (by omega) (by omega) (by omega)) lk_ST_96 d_ST_all_7 rfl [] ⟨rfl, rfl, Or.inl rfl⟩ [] rfl ⟨⟨by decide, by decide⟩, ⟨by decide, by decide⟩, Nat.le_of_ble_eq_true rfl⟩ ⟨rfl, rfl⟩ ?_
  intro v hv
  subst hv
  dsimp only [Option.toList, List.cons_append, List.nil_append, List.append_nil]
  have hc7 := isW_c w 0 2
  refine vv_if_ne (tgt := 23) d_ST_all_10 (by decide) (by omega) (fun c10 => ?_) (fun c10 => ?_)
  · skip
    exfalso; omega
  · skip
    exact vv_throw (tx := "what is not 0 .. 2") ht rfl tw_IOB (by decide +kernel) d_ST_all_13 d_ST_all_16 d_ST_all_17 d_ST_all_19 d_ST_all_22 ⟨⟨by decide, by decide⟩, by decide, by decide⟩ ⟨by decide, by decide⟩
set_option maxHeartbeats 4000000 in
set_option maxRecDepth 100000 in
theorem c_ST_count_n1 (l : Launch) (D : va_G) (x qsh qpa qcu qtk qrs qt ql : Nat) (nP : Nat) (S le nS nC nT nR rn k n : Int) (cP : ClassId) (fP : Nat → Option Nat) (hfl : l.flags = flags0) (hnP : nP ≤ 8) (h_k : -2147483648 ≤ k ∧ k < 2147483648) (hk : k < 0 ∨ (nP : Int) ≤ k) : CT l y_ST_count b_ST_count 5 (some .int) rx_1 [.ref x, .int (iI k), .int (iI n)] D [(cP, .object "SheetTrees$Part")] ([ob_ST x qsh qpa qcu qtk qrs qt ql S le nS (nP : Int) nC nT nR rn, ar_Q qpa cP 8 fP] ++ []) n_IOB := by
  refine ct_of hfl (by decide) (Nat.le_of_ble_eq_true rfl) ?_
  intro X sz hl hr hD ht
  subst hD
  show VV X (b_ST_count, 5, "SheetTrees", rx_1) _ 0 0 [(cP, .object "SheetTrees$Part")] [ob_ST x qsh qpa qcu qtk qrs qt ql S le nS (nP : Int) nC nT nR rn, ar_Q qpa cP 8 fP] [] [some (.ref x), some (.int (iI k)), some (.int (iI n)), none, none] [] 0
  refine vv_aload_n d_ST_count_0 rfl ?_
  refine vv_iload_n d_ST_count_1 rfl ?_
  exact vv_tV [] ht (wc := [ob_ST x qsh qpa qcu qtk qrs qt ql S le nS (nP : Int) nC nT nR rn, ar_Q qpa cP 8 fP]) (plc := []) (c_ST_partAt_n (cx_l X) (cx_D X) x qsh qpa qcu qtk qrs qt ql nP S le nS nC nT nR rn k cP fP (hl ▸ hfl) hnP h_k hk) lk_ST_133 (tb_at 559 rfl rfl) d_ST_count_2 rfl (rc_at 0 rfl rfl rfl) [0, 1] ⟨rfl, rfl, Or.inl rfl⟩ [0] rfl ⟨⟨by decide, by decide⟩, ⟨by decide, by decide⟩, Nat.le_of_ble_eq_true rfl⟩ ⟨by decide, by decide⟩
set_option maxHeartbeats 4000000 in
set_option maxRecDepth 100000 in
theorem c_ST_count_n2 (l : Launch) (D : va_G) (x qsh qpa qcu qtk qrs qt ql : Nat) (nP k : Nat) (S le nS nC nT nR rn n : Int) (cP : ClassId) (fP : Nat → Option Nat) (aP : Nat → Nat) (hfl : l.flags = flags0) (hnP : nP ≤ 8) (hk : k < nP) (hfP : ∀ i : Nat, i < 8 → fP i = some (aP i)) (h_n : -2147483648 ≤ n ∧ n < 2147483648) (hn : n < 0 ∨ 50 < n) : CT l y_ST_count b_ST_count 5 (some .int) rx_1 [.ref x, .int (iI (k : Int)), .int (iI n)] D [(cP, .object "SheetTrees$Part")] ([ob_ST x qsh qpa qcu qtk qrs qt ql S le nS (nP : Int) nC nT nR rn, ar_Q qpa cP 8 fP] ++ []) n_IAE := by
  refine ct_of hfl (by decide) (Nat.le_of_ble_eq_true rfl) ?_
  intro X sz hl hr hD ht
  subst hD
  show VV X (b_ST_count, 5, "SheetTrees", rx_1) _ 0 0 [(cP, .object "SheetTrees$Part")] [ob_ST x qsh qpa qcu qtk qrs qt ql S le nS (nP : Int) nC nT nR rn, ar_Q qpa cP 8 fP] [] [some (.ref x), some (.int (iI (k : Int))), some (.int (iI n)), none, none] [] 0
  refine vv_aload_n d_ST_count_0 rfl ?_
  refine vv_iload_n d_ST_count_1 rfl ?_
  refine vv_pV (wc := [ob_ST x qsh qpa qcu qtk qrs qt ql S le nS (nP : Int) nC nT nR rn, ar_Q qpa cP 8 fP]) (plc := []) [] (c_ST_partAt_y (cx_l X) (cx_D X) x qsh qpa qcu qtk qrs qt ql nP k S le nS nC nT nR rn cP fP aP hnP hk hfP) lk_ST_133 d_ST_count_2 rfl (rc_at 0 rfl rfl rfl) [0, 1] ⟨rfl, rfl, Or.inl rfl⟩ [0] rfl ⟨⟨by decide, by decide⟩, ⟨by decide, by decide⟩, Nat.le_of_ble_eq_true rfl⟩ ⟨rfl, rfl⟩ ?_
  intro v hv
  subst hv
  dsimp only [Option.toList, List.cons_append, List.nil_append, List.append_nil]
  refine vv_astore_n d_ST_count_5 rfl (by decide) ?_
  dsimp only [List.set]
  refine vv_iload_n d_ST_count_6 rfl ?_
  refine vv_iconst d_ST_count_7 ?_
  refine vv_bipush d_ST_count_8 (by decide +kernel) ?_
  refine vv_pS (wc := []) (plc := []) [] (c_ST_isWithin (cx_l X) (cx_D X) n 0 50 (by omega) (by omega) (by omega)) lk_ST_96 d_ST_count_10 rfl [] ⟨rfl, rfl, Or.inl rfl⟩ [] rfl ⟨⟨by decide, by decide⟩, ⟨by decide, by decide⟩, Nat.le_of_ble_eq_true rfl⟩ ⟨rfl, rfl⟩ ?_
  intro v hv
  subst hv
  dsimp only [Option.toList, List.cons_append, List.nil_append, List.append_nil]
  have hc10 := isW_c n 0 50
  refine vv_if_ne (tgt := 26) d_ST_count_13 (by decide) (by omega) (fun c13 => ?_) (fun c13 => ?_)
  · skip
    exfalso; omega
  · skip
    exact vv_throw (tx := "count is not 0 .. 50") ht rfl tw_IAE (by decide +kernel) d_ST_count_16 d_ST_count_19 d_ST_count_20 d_ST_count_22 d_ST_count_25 ⟨⟨by decide, by decide⟩, by decide, by decide⟩ ⟨by decide, by decide⟩
set_option maxHeartbeats 4000000 in
set_option maxRecDepth 100000 in
theorem c_ST_sheet_n1 (l : Launch) (D : va_G) (x qsh qpa qcu qtk qrs qt ql : Nat) (nS : Nat) (S le nP nC nT nR rn w h c n : Int) (cS : ClassId) (fS : Nat → Option Nat) (hfl : l.flags = flags0) (h_w : -2147483648 ≤ w ∧ w < 2147483648) (h_h : -2147483648 ≤ h ∧ h < 2147483648) (h_c : -2147483648 ≤ c ∧ c < 2147483648) (h_n : -2147483648 ≤ n ∧ n < 2147483648) (hb : (w < 1 ∨ 16 < w) ∨ (h < 1 ∨ 16 < h) ∨ (c < 1 ∨ 10000 < c) ∨ n < 0 ∨ 20 < n) : CT l y_ST_sheet b_ST_sheet 6 (some .int) rx_1 [.ref x, .int (iI w), .int (iI h), .int (iI c), .int (iI n)] D [(cS, .object "SheetTrees$Sheet")] ([ob_ST x qsh qpa qcu qtk qrs qt ql S le (nS : Int) nP nC nT nR rn, ar_Q qsh cS 4 fS] ++ []) n_IAE := by
  refine ct_of hfl (by decide) (Nat.le_of_ble_eq_true rfl) ?_
  intro X sz hl hr hD ht
  subst hD
  show VV X (b_ST_sheet, 6, "SheetTrees", rx_1) _ 0 0 [(cS, .object "SheetTrees$Sheet")] [ob_ST x qsh qpa qcu qtk qrs qt ql S le (nS : Int) nP nC nT nR rn, ar_Q qsh cS 4 fS] [] [some (.ref x), some (.int (iI w)), some (.int (iI h)), some (.int (iI c)), some (.int (iI n)), none] [] 0
  refine vv_iload_n d_ST_sheet_0 rfl ?_
  refine vv_pS (wc := []) (plc := []) [] (c_ST_isSide (cx_l X) (cx_D X) w (by omega)) lk_ST_85 d_ST_sheet_1 rfl [] ⟨rfl, rfl, Or.inl rfl⟩ [] rfl ⟨⟨by decide, by decide⟩, ⟨by decide, by decide⟩, Nat.le_of_ble_eq_true rfl⟩ ⟨rfl, rfl⟩ ?_
  intro v hv
  subst hv
  dsimp only [Option.toList, List.cons_append, List.nil_append, List.append_nil]
  have hc1 := isW_c w 1 16
  refine vv_if_eq (tgt := 14) d_ST_sheet_4 (by decide) (by omega) (fun c4 => ?_) (fun c4 => ?_)
  · skip
    exact vv_throw (tx := "a side is not 1 .. 16") ht rfl tw_IAE (by decide +kernel) d_ST_sheet_14 d_ST_sheet_17 d_ST_sheet_18 d_ST_sheet_20 d_ST_sheet_23 ⟨⟨by decide, by decide⟩, by decide, by decide⟩ ⟨by decide, by decide⟩
  · skip
    refine vv_iload_n d_ST_sheet_7 rfl ?_
    refine vv_pS (wc := []) (plc := []) [] (c_ST_isSide (cx_l X) (cx_D X) h (by omega)) lk_ST_85 d_ST_sheet_8 rfl [] ⟨rfl, rfl, Or.inl rfl⟩ [] rfl ⟨⟨by decide, by decide⟩, ⟨by decide, by decide⟩, Nat.le_of_ble_eq_true rfl⟩ ⟨rfl, rfl⟩ ?_
    intro v hv
    subst hv
    dsimp only [Option.toList, List.cons_append, List.nil_append, List.append_nil]
    have hc8 := isW_c h 1 16
    refine vv_if_ne (tgt := 24) d_ST_sheet_11 (by decide) (by omega) (fun c11 => ?_) (fun c11 => ?_)
    · skip
      refine vv_iload_n d_ST_sheet_24 rfl ?_
      refine vv_iconst d_ST_sheet_25 ?_
      refine vv_sipush d_ST_sheet_26 (by decide +kernel) ?_
      refine vv_pS (wc := []) (plc := []) [] (c_ST_isWithin (cx_l X) (cx_D X) c 1 10000 (by omega) (by omega) (by omega)) lk_ST_96 d_ST_sheet_29 rfl [] ⟨rfl, rfl, Or.inl rfl⟩ [] rfl ⟨⟨by decide, by decide⟩, ⟨by decide, by decide⟩, Nat.le_of_ble_eq_true rfl⟩ ⟨rfl, rfl⟩ ?_
      intro v hv
      subst hv
      dsimp only [Option.toList, List.cons_append, List.nil_append, List.append_nil]
      have hc29 := isW_c c 1 10000
      refine vv_if_ne (tgt := 45) d_ST_sheet_32 (by decide) (by omega) (fun c32 => ?_) (fun c32 => ?_)
      · skip
        refine vv_iload d_ST_sheet_45 rfl ?_
        refine vv_iconst d_ST_sheet_47 ?_
        refine vv_bipush d_ST_sheet_48 (by decide +kernel) ?_
        refine vv_pS (wc := []) (plc := []) [] (c_ST_isWithin (cx_l X) (cx_D X) n 0 20 (by omega) (by omega) (by omega)) lk_ST_96 d_ST_sheet_50 rfl [] ⟨rfl, rfl, Or.inl rfl⟩ [] rfl ⟨⟨by decide, by decide⟩, ⟨by decide, by decide⟩, Nat.le_of_ble_eq_true rfl⟩ ⟨rfl, rfl⟩ ?_
        intro v hv
        subst hv
        dsimp only [Option.toList, List.cons_append, List.nil_append, List.append_nil]
        have hc50 := isW_c n 0 20
        refine vv_if_ne (tgt := 66) d_ST_sheet_53 (by decide) (by omega) (fun c53 => ?_) (fun c53 => ?_)
        · skip
          exfalso; omega
        · skip
          exact vv_throw (tx := "stock is not 0 .. 20") ht rfl tw_IAE (by decide +kernel) d_ST_sheet_56 d_ST_sheet_59 d_ST_sheet_60 d_ST_sheet_62 d_ST_sheet_65 ⟨⟨by decide, by decide⟩, by decide, by decide⟩ ⟨by decide, by decide⟩
      · skip
        exact vv_throw (tx := "cents are not 1 .. 10000") ht rfl tw_IAE (by decide +kernel) d_ST_sheet_35 d_ST_sheet_38 d_ST_sheet_39 d_ST_sheet_41 d_ST_sheet_44 ⟨⟨by decide, by decide⟩, by decide, by decide⟩ ⟨by decide, by decide⟩
    · skip
      exact vv_throw (tx := "a side is not 1 .. 16") ht rfl tw_IAE (by decide +kernel) d_ST_sheet_14 d_ST_sheet_17 d_ST_sheet_18 d_ST_sheet_20 d_ST_sheet_23 ⟨⟨by decide, by decide⟩, by decide, by decide⟩ ⟨by decide, by decide⟩
set_option maxHeartbeats 4000000 in
set_option maxRecDepth 100000 in
theorem c_ST_sheet_n2 (l : Launch) (D : va_G) (x qsh qpa qcu qtk qrs qt ql : Nat) (nS : Nat) (S le nP nC nT nR rn w h c n : Int) (cS : ClassId) (fS : Nat → Option Nat) (hfl : l.flags = flags0) (hnS : nS = 4) (hb : (1 ≤ w ∧ w ≤ 16) ∧ (1 ≤ h ∧ h ≤ 16) ∧ (1 ≤ c ∧ c ≤ 10000) ∧ 0 ≤ n ∧ n ≤ 20) : CT l y_ST_sheet b_ST_sheet 6 (some .int) rx_1 [.ref x, .int (iI w), .int (iI h), .int (iI c), .int (iI n)] D [(cS, .object "SheetTrees$Sheet")] ([ob_ST x qsh qpa qcu qtk qrs qt ql S le (nS : Int) nP nC nT nR rn, ar_Q qsh cS 4 fS] ++ []) n_ISE := by
  refine ct_of hfl (by decide) (Nat.le_of_ble_eq_true rfl) ?_
  intro X sz hl hr hD ht
  subst hD
  show VV X (b_ST_sheet, 6, "SheetTrees", rx_1) _ 0 0 [(cS, .object "SheetTrees$Sheet")] [ob_ST x qsh qpa qcu qtk qrs qt ql S le (nS : Int) nP nC nT nR rn, ar_Q qsh cS 4 fS] [] [some (.ref x), some (.int (iI w)), some (.int (iI h)), some (.int (iI c)), some (.int (iI n)), none] [] 0
  refine vv_iload_n d_ST_sheet_0 rfl ?_
  refine vv_pS (wc := []) (plc := []) [] (c_ST_isSide (cx_l X) (cx_D X) w (by omega)) lk_ST_85 d_ST_sheet_1 rfl [] ⟨rfl, rfl, Or.inl rfl⟩ [] rfl ⟨⟨by decide, by decide⟩, ⟨by decide, by decide⟩, Nat.le_of_ble_eq_true rfl⟩ ⟨rfl, rfl⟩ ?_
  intro v hv
  subst hv
  dsimp only [Option.toList, List.cons_append, List.nil_append, List.append_nil]
  have hc1 := isW_c w 1 16
  refine vv_if_eq (tgt := 14) d_ST_sheet_4 (by decide) (by omega) (fun c4 => ?_) (fun c4 => ?_)
  · skip
    exfalso; omega
  · skip
    refine vv_iload_n d_ST_sheet_7 rfl ?_
    refine vv_pS (wc := []) (plc := []) [] (c_ST_isSide (cx_l X) (cx_D X) h (by omega)) lk_ST_85 d_ST_sheet_8 rfl [] ⟨rfl, rfl, Or.inl rfl⟩ [] rfl ⟨⟨by decide, by decide⟩, ⟨by decide, by decide⟩, Nat.le_of_ble_eq_true rfl⟩ ⟨rfl, rfl⟩ ?_
    intro v hv
    subst hv
    dsimp only [Option.toList, List.cons_append, List.nil_append, List.append_nil]
    have hc8 := isW_c h 1 16
    refine vv_if_ne (tgt := 24) d_ST_sheet_11 (by decide) (by omega) (fun c11 => ?_) (fun c11 => ?_)
    · skip
      refine vv_iload_n d_ST_sheet_24 rfl ?_
      refine vv_iconst d_ST_sheet_25 ?_
      refine vv_sipush d_ST_sheet_26 (by decide +kernel) ?_
      refine vv_pS (wc := []) (plc := []) [] (c_ST_isWithin (cx_l X) (cx_D X) c 1 10000 (by omega) (by omega) (by omega)) lk_ST_96 d_ST_sheet_29 rfl [] ⟨rfl, rfl, Or.inl rfl⟩ [] rfl ⟨⟨by decide, by decide⟩, ⟨by decide, by decide⟩, Nat.le_of_ble_eq_true rfl⟩ ⟨rfl, rfl⟩ ?_
      intro v hv
      subst hv
      dsimp only [Option.toList, List.cons_append, List.nil_append, List.append_nil]
      have hc29 := isW_c c 1 10000
      refine vv_if_ne (tgt := 45) d_ST_sheet_32 (by decide) (by omega) (fun c32 => ?_) (fun c32 => ?_)
      · skip
        refine vv_iload d_ST_sheet_45 rfl ?_
        refine vv_iconst d_ST_sheet_47 ?_
        refine vv_bipush d_ST_sheet_48 (by decide +kernel) ?_
        refine vv_pS (wc := []) (plc := []) [] (c_ST_isWithin (cx_l X) (cx_D X) n 0 20 (by omega) (by omega) (by omega)) lk_ST_96 d_ST_sheet_50 rfl [] ⟨rfl, rfl, Or.inl rfl⟩ [] rfl ⟨⟨by decide, by decide⟩, ⟨by decide, by decide⟩, Nat.le_of_ble_eq_true rfl⟩ ⟨rfl, rfl⟩ ?_
        intro v hv
        subst hv
        dsimp only [Option.toList, List.cons_append, List.nil_append, List.append_nil]
        have hc50 := isW_c n 0 20
        refine vv_if_ne (tgt := 66) d_ST_sheet_53 (by decide) (by omega) (fun c53 => ?_) (fun c53 => ?_)
        · skip
          refine vv_aload_n d_ST_sheet_66 rfl ?_
          refine vv_get d_ST_sheet_67 0 rfl fl_ST_34 rfl ?_
          refine vv_aload_n d_ST_sheet_70 rfl ?_
          refine vv_get d_ST_sheet_71 0 rfl fl_ST_11 rfl ?_
          refine vv_alen d_ST_sheet_74 1 0 rfl rfl (v := 4) rfl ?_
          refine vv_icmp_lt (tgt := 88) d_ST_sheet_75 (by decide) ⟨by omega, by omega⟩ (fun c75 => ?_) (fun c75 => ?_)
          · skip
            exfalso; omega
          · skip
            exact vv_throw (tx := "there are 4 sheets") ht rfl tw_ISE (by decide +kernel) d_ST_sheet_78 d_ST_sheet_81 d_ST_sheet_82 d_ST_sheet_84 d_ST_sheet_87 ⟨⟨by decide, by decide⟩, by decide, by decide⟩ ⟨by decide, by decide⟩
        · skip
          exfalso; omega
      · skip
        exfalso; omega
    · skip
      exfalso; omega
set_option maxHeartbeats 4000000 in
set_option maxRecDepth 100000 in
theorem c_ST_part_n1 (l : Launch) (D : va_G) (x qsh qpa qcu qtk qrs qt ql : Nat) (nP : Nat) (S le nS nC nT nR rn w h n t : Int) (cP : ClassId) (fP : Nat → Option Nat) (hfl : l.flags = flags0) (h_w : -2147483648 ≤ w ∧ w < 2147483648) (h_h : -2147483648 ≤ h ∧ h < 2147483648) (h_n : -2147483648 ≤ n ∧ n < 2147483648) (hb : (w < 1 ∨ 16 < w) ∨ (h < 1 ∨ 16 < h) ∨ n < 0 ∨ 50 < n) : CT l y_ST_part b_ST_part 6 (some .int) rx_1 [.ref x, .int (iI w), .int (iI h), .int (iI n), .int (iI t)] D [(cP, .object "SheetTrees$Part")] ([ob_ST x qsh qpa qcu qtk qrs qt ql S le nS (nP : Int) nC nT nR rn, ar_Q qpa cP 8 fP] ++ []) n_IAE := by
  refine ct_of hfl (by decide) (Nat.le_of_ble_eq_true rfl) ?_
  intro X sz hl hr hD ht
  subst hD
  show VV X (b_ST_part, 6, "SheetTrees", rx_1) _ 0 0 [(cP, .object "SheetTrees$Part")] [ob_ST x qsh qpa qcu qtk qrs qt ql S le nS (nP : Int) nC nT nR rn, ar_Q qpa cP 8 fP] [] [some (.ref x), some (.int (iI w)), some (.int (iI h)), some (.int (iI n)), some (.int (iI t)), none] [] 0
  refine vv_iload_n d_ST_part_0 rfl ?_
  refine vv_pS (wc := []) (plc := []) [] (c_ST_isSide (cx_l X) (cx_D X) w (by omega)) lk_ST_85 d_ST_part_1 rfl [] ⟨rfl, rfl, Or.inl rfl⟩ [] rfl ⟨⟨by decide, by decide⟩, ⟨by decide, by decide⟩, Nat.le_of_ble_eq_true rfl⟩ ⟨rfl, rfl⟩ ?_
  intro v hv
  subst hv
  dsimp only [Option.toList, List.cons_append, List.nil_append, List.append_nil]
  have hc1 := isW_c w 1 16
  refine vv_if_eq (tgt := 14) d_ST_part_4 (by decide) (by omega) (fun c4 => ?_) (fun c4 => ?_)
  · skip
    exact vv_throw (tx := "a side is not 1 .. 16") ht rfl tw_IAE (by decide +kernel) d_ST_part_14 d_ST_part_17 d_ST_part_18 d_ST_part_20 d_ST_part_23 ⟨⟨by decide, by decide⟩, by decide, by decide⟩ ⟨by decide, by decide⟩
  · skip
    refine vv_iload_n d_ST_part_7 rfl ?_
    refine vv_pS (wc := []) (plc := []) [] (c_ST_isSide (cx_l X) (cx_D X) h (by omega)) lk_ST_85 d_ST_part_8 rfl [] ⟨rfl, rfl, Or.inl rfl⟩ [] rfl ⟨⟨by decide, by decide⟩, ⟨by decide, by decide⟩, Nat.le_of_ble_eq_true rfl⟩ ⟨rfl, rfl⟩ ?_
    intro v hv
    subst hv
    dsimp only [Option.toList, List.cons_append, List.nil_append, List.append_nil]
    have hc8 := isW_c h 1 16
    refine vv_if_ne (tgt := 24) d_ST_part_11 (by decide) (by omega) (fun c11 => ?_) (fun c11 => ?_)
    · skip
      refine vv_iload_n d_ST_part_24 rfl ?_
      refine vv_iconst d_ST_part_25 ?_
      refine vv_bipush d_ST_part_26 (by decide +kernel) ?_
      refine vv_pS (wc := []) (plc := []) [] (c_ST_isWithin (cx_l X) (cx_D X) n 0 50 (by omega) (by omega) (by omega)) lk_ST_96 d_ST_part_28 rfl [] ⟨rfl, rfl, Or.inl rfl⟩ [] rfl ⟨⟨by decide, by decide⟩, ⟨by decide, by decide⟩, Nat.le_of_ble_eq_true rfl⟩ ⟨rfl, rfl⟩ ?_
      intro v hv
      subst hv
      dsimp only [Option.toList, List.cons_append, List.nil_append, List.append_nil]
      have hc28 := isW_c n 0 50
      refine vv_if_ne (tgt := 44) d_ST_part_31 (by decide) (by omega) (fun c31 => ?_) (fun c31 => ?_)
      · skip
        exfalso; omega
      · skip
        exact vv_throw (tx := "count is not 0 .. 50") ht rfl tw_IAE (by decide +kernel) d_ST_part_34 d_ST_part_37 d_ST_part_38 d_ST_part_40 d_ST_part_43 ⟨⟨by decide, by decide⟩, by decide, by decide⟩ ⟨by decide, by decide⟩
    · skip
      exact vv_throw (tx := "a side is not 1 .. 16") ht rfl tw_IAE (by decide +kernel) d_ST_part_14 d_ST_part_17 d_ST_part_18 d_ST_part_20 d_ST_part_23 ⟨⟨by decide, by decide⟩, by decide, by decide⟩ ⟨by decide, by decide⟩
set_option maxHeartbeats 4000000 in
set_option maxRecDepth 100000 in
theorem c_ST_part_n2 (l : Launch) (D : va_G) (x qsh qpa qcu qtk qrs qt ql : Nat) (nP : Nat) (S le nS nC nT nR rn w h n t : Int) (cP : ClassId) (fP : Nat → Option Nat) (hfl : l.flags = flags0) (hnP : nP = 8) (hb : (1 ≤ w ∧ w ≤ 16) ∧ (1 ≤ h ∧ h ≤ 16) ∧ 0 ≤ n ∧ n ≤ 50) : CT l y_ST_part b_ST_part 6 (some .int) rx_1 [.ref x, .int (iI w), .int (iI h), .int (iI n), .int (iI t)] D [(cP, .object "SheetTrees$Part")] ([ob_ST x qsh qpa qcu qtk qrs qt ql S le nS (nP : Int) nC nT nR rn, ar_Q qpa cP 8 fP] ++ []) n_ISE := by
  refine ct_of hfl (by decide) (Nat.le_of_ble_eq_true rfl) ?_
  intro X sz hl hr hD ht
  subst hD
  show VV X (b_ST_part, 6, "SheetTrees", rx_1) _ 0 0 [(cP, .object "SheetTrees$Part")] [ob_ST x qsh qpa qcu qtk qrs qt ql S le nS (nP : Int) nC nT nR rn, ar_Q qpa cP 8 fP] [] [some (.ref x), some (.int (iI w)), some (.int (iI h)), some (.int (iI n)), some (.int (iI t)), none] [] 0
  refine vv_iload_n d_ST_part_0 rfl ?_
  refine vv_pS (wc := []) (plc := []) [] (c_ST_isSide (cx_l X) (cx_D X) w (by omega)) lk_ST_85 d_ST_part_1 rfl [] ⟨rfl, rfl, Or.inl rfl⟩ [] rfl ⟨⟨by decide, by decide⟩, ⟨by decide, by decide⟩, Nat.le_of_ble_eq_true rfl⟩ ⟨rfl, rfl⟩ ?_
  intro v hv
  subst hv
  dsimp only [Option.toList, List.cons_append, List.nil_append, List.append_nil]
  have hc1 := isW_c w 1 16
  refine vv_if_eq (tgt := 14) d_ST_part_4 (by decide) (by omega) (fun c4 => ?_) (fun c4 => ?_)
  · skip
    exfalso; omega
  · skip
    refine vv_iload_n d_ST_part_7 rfl ?_
    refine vv_pS (wc := []) (plc := []) [] (c_ST_isSide (cx_l X) (cx_D X) h (by omega)) lk_ST_85 d_ST_part_8 rfl [] ⟨rfl, rfl, Or.inl rfl⟩ [] rfl ⟨⟨by decide, by decide⟩, ⟨by decide, by decide⟩, Nat.le_of_ble_eq_true rfl⟩ ⟨rfl, rfl⟩ ?_
    intro v hv
    subst hv
    dsimp only [Option.toList, List.cons_append, List.nil_append, List.append_nil]
    have hc8 := isW_c h 1 16
    refine vv_if_ne (tgt := 24) d_ST_part_11 (by decide) (by omega) (fun c11 => ?_) (fun c11 => ?_)
    · skip
      refine vv_iload_n d_ST_part_24 rfl ?_
      refine vv_iconst d_ST_part_25 ?_
      refine vv_bipush d_ST_part_26 (by decide +kernel) ?_
      refine vv_pS (wc := []) (plc := []) [] (c_ST_isWithin (cx_l X) (cx_D X) n 0 50 (by omega) (by omega) (by omega)) lk_ST_96 d_ST_part_28 rfl [] ⟨rfl, rfl, Or.inl rfl⟩ [] rfl ⟨⟨by decide, by decide⟩, ⟨by decide, by decide⟩, Nat.le_of_ble_eq_true rfl⟩ ⟨rfl, rfl⟩ ?_
      intro v hv
      subst hv
      dsimp only [Option.toList, List.cons_append, List.nil_append, List.append_nil]
      have hc28 := isW_c n 0 50
      refine vv_if_ne (tgt := 44) d_ST_part_31 (by decide) (by omega) (fun c31 => ?_) (fun c31 => ?_)
      · skip
        refine vv_aload_n d_ST_part_44 rfl ?_
        refine vv_get d_ST_part_45 0 rfl fl_ST_38 rfl ?_
        refine vv_aload_n d_ST_part_48 rfl ?_
        refine vv_get d_ST_part_49 0 rfl fl_ST_17 rfl ?_
        refine vv_alen d_ST_part_52 1 0 rfl rfl (v := 8) rfl ?_
        refine vv_icmp_lt (tgt := 66) d_ST_part_53 (by decide) ⟨by omega, by omega⟩ (fun c53 => ?_) (fun c53 => ?_)
        · skip
          exfalso; omega
        · skip
          exact vv_throw (tx := "there are 8 parts") ht rfl tw_ISE (by decide +kernel) d_ST_part_56 d_ST_part_59 d_ST_part_60 d_ST_part_62 d_ST_part_65 ⟨⟨by decide, by decide⟩, by decide, by decide⟩ ⟨by decide, by decide⟩
      · skip
        exfalso; omega
    · skip
      exfalso; omega
set_option maxHeartbeats 4000000 in
set_option maxRecDepth 100000 in
theorem c_ST_worth_n (l : Launch) (D : va_G) (x qsh qpa qcu qtk qrs qt ql : Nat) (S le nS nP nC nT nR rn w h d s : Int) (hfl : l.flags = flags0) (h_w : -2147483648 ≤ w ∧ w < 2147483648) (h_h : -2147483648 ≤ h ∧ h < 2147483648) (h_d : -2147483648 ≤ d ∧ d < 2147483648) (h_s : -2147483648 ≤ s ∧ s < 2147483648) (hb : (w < 1 ∨ 16 < w) ∨ (h < 1 ∨ 16 < h) ∨ (d < 0 ∨ 1 < d) ∨ s < 0 ∨ 3 < s) : CT l y_ST_worth b_ST_worth 5 (some .int) rx_1 [.ref x, .int (iI w), .int (iI h), .int (iI d), .int (iI s)] D [] ([ob_ST x qsh qpa qcu qtk qrs qt ql S le nS nP nC nT nR rn] ++ []) n_IAE := by
  refine ct_of hfl (by decide) (Nat.le_of_ble_eq_true rfl) ?_
  intro X sz hl hr hD ht
  subst hD
  show VV X (b_ST_worth, 5, "SheetTrees", rx_1) _ 0 0 [] [ob_ST x qsh qpa qcu qtk qrs qt ql S le nS nP nC nT nR rn] [] [some (.ref x), some (.int (iI w)), some (.int (iI h)), some (.int (iI d)), some (.int (iI s))] [] 0
  refine vv_iload_n d_ST_worth_0 rfl ?_
  refine vv_pS (wc := []) (plc := []) [] (c_ST_isSide (cx_l X) (cx_D X) w (by omega)) lk_ST_85 d_ST_worth_1 rfl [] ⟨rfl, rfl, Or.inl rfl⟩ [] rfl ⟨⟨by decide, by decide⟩, ⟨by decide, by decide⟩, Nat.le_of_ble_eq_true rfl⟩ ⟨rfl, rfl⟩ ?_
  intro v hv
  subst hv
  dsimp only [Option.toList, List.cons_append, List.nil_append, List.append_nil]
  have hc1 := isW_c w 1 16
  refine vv_if_eq (tgt := 14) d_ST_worth_4 (by decide) (by omega) (fun c4 => ?_) (fun c4 => ?_)
  · skip
    exact vv_throw (tx := "a side is not 1 .. 16") ht rfl tw_IAE (by decide +kernel) d_ST_worth_14 d_ST_worth_17 d_ST_worth_18 d_ST_worth_20 d_ST_worth_23 ⟨⟨by decide, by decide⟩, by decide, by decide⟩ ⟨by decide, by decide⟩
  · skip
    refine vv_iload_n d_ST_worth_7 rfl ?_
    refine vv_pS (wc := []) (plc := []) [] (c_ST_isSide (cx_l X) (cx_D X) h (by omega)) lk_ST_85 d_ST_worth_8 rfl [] ⟨rfl, rfl, Or.inl rfl⟩ [] rfl ⟨⟨by decide, by decide⟩, ⟨by decide, by decide⟩, Nat.le_of_ble_eq_true rfl⟩ ⟨rfl, rfl⟩ ?_
    intro v hv
    subst hv
    dsimp only [Option.toList, List.cons_append, List.nil_append, List.append_nil]
    have hc8 := isW_c h 1 16
    refine vv_if_ne (tgt := 24) d_ST_worth_11 (by decide) (by omega) (fun c11 => ?_) (fun c11 => ?_)
    · skip
      refine vv_iload_n d_ST_worth_24 rfl ?_
      refine vv_iconst d_ST_worth_25 ?_
      refine vv_iconst d_ST_worth_26 ?_
      refine vv_pS (wc := []) (plc := []) [] (c_ST_isWithin (cx_l X) (cx_D X) d 0 1 (by omega) (by omega) (by omega)) lk_ST_96 d_ST_worth_27 rfl [] ⟨rfl, rfl, Or.inl rfl⟩ [] rfl ⟨⟨by decide, by decide⟩, ⟨by decide, by decide⟩, Nat.le_of_ble_eq_true rfl⟩ ⟨rfl, rfl⟩ ?_
      intro v hv
      subst hv
      dsimp only [Option.toList, List.cons_append, List.nil_append, List.append_nil]
      have hc27 := isW_c d 0 1
      refine vv_if_ne (tgt := 43) d_ST_worth_30 (by decide) (by omega) (fun c30 => ?_) (fun c30 => ?_)
      · skip
        refine vv_iload d_ST_worth_43 rfl ?_
        refine vv_iconst d_ST_worth_45 ?_
        refine vv_iconst d_ST_worth_46 ?_
        refine vv_pS (wc := []) (plc := []) [] (c_ST_isWithin (cx_l X) (cx_D X) s 0 3 (by omega) (by omega) (by omega)) lk_ST_96 d_ST_worth_47 rfl [] ⟨rfl, rfl, Or.inl rfl⟩ [] rfl ⟨⟨by decide, by decide⟩, ⟨by decide, by decide⟩, Nat.le_of_ble_eq_true rfl⟩ ⟨rfl, rfl⟩ ?_
        intro v hv
        subst hv
        dsimp only [Option.toList, List.cons_append, List.nil_append, List.append_nil]
        have hc47 := isW_c s 0 3
        refine vv_if_ne (tgt := 63) d_ST_worth_50 (by decide) (by omega) (fun c50 => ?_) (fun c50 => ?_)
        · skip
          exfalso; omega
        · skip
          exact vv_throw (tx := "stages are not 0 .. 3") ht rfl tw_IAE (by decide +kernel) d_ST_worth_53 d_ST_worth_56 d_ST_worth_57 d_ST_worth_59 d_ST_worth_62 ⟨⟨by decide, by decide⟩, by decide, by decide⟩ ⟨by decide, by decide⟩
      · skip
        exact vv_throw (tx := "way is not 0 or 1") ht rfl tw_IAE (by decide +kernel) d_ST_worth_33 d_ST_worth_36 d_ST_worth_37 d_ST_worth_39 d_ST_worth_42 ⟨⟨by decide, by decide⟩, by decide, by decide⟩ ⟨by decide, by decide⟩
    · skip
      exact vv_throw (tx := "a side is not 1 .. 16") ht rfl tw_IAE (by decide +kernel) d_ST_worth_14 d_ST_worth_17 d_ST_worth_18 d_ST_worth_20 d_ST_worth_23 ⟨⟨by decide, by decide⟩, by decide, by decide⟩ ⟨by decide, by decide⟩
