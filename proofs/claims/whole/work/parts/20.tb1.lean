/-! Tables: the readers. Pictures: the Tables object [kerf, scores, choices, wanted, stagesFilled] at a, its two rows. -/
abbrev rm_0 : Room := { frames := 0, cells := 0, slots := 0, locals := 0 }
abbrev rm_1 : Room := { frames := 1, cells := 0, slots := 0, locals := 64 }
abbrev ob_TB (a qs qc : Nat) (K W F : Int) : Nat × va_E := (a, .inr (4, [.int (iI K), .ref qs, .ref qc, .int (iI W), .int (iI F)]))
abbrev ar_I (q : Nat) (cA : ClassId) (N : Nat) (g : Nat → Int) : Nat × va_E := (q, .inl (cA, N, .inl (fun j => iI (g j))))
/-- the place of a piece in the tables -/
def pl_at (s d w h : Int) : Int := ((s * 2 + d) * 17 + w) * 17 + h
set_option maxHeartbeats 4000000 in
set_option maxRecDepth 100000 in
theorem c_TB_placeOf (l : Launch) (D : va_G) (s d w h : Int) : CP l y_TB_placeOf b_TB_placeOf 4 (some .int) rm_0 [.int (iI s), .int (iI d), .int (iI w), .int (iI h)] D [] ([] ++ []) (fun v => v = some (.int (iI (pl_at s d w h)))) := by
  refine cp_of (by decide) (Nat.le_of_ble_eq_true rfl) ?_
  intro X sz hl hr hD hA
  subst hD
  show VV X (b_TB_placeOf, 4, "SheetTrees$Tables", rm_0) _ 0 0 [] [] [] [some (.int (iI s)), some (.int (iI d)), some (.int (iI w)), some (.int (iI h))] [] 0
  refine vv_iload_n d_TB_placeOf_0 rfl ?_
  refine vv_iconst d_TB_placeOf_1 ?_
  refine vv_imul d_TB_placeOf_2 ?_
  refine vv_iload_n d_TB_placeOf_3 rfl ?_
  refine vv_iadd d_TB_placeOf_4 ?_
  refine vv_bipush d_TB_placeOf_5 (by decide +kernel) ?_
  refine vv_imul d_TB_placeOf_7 ?_
  refine vv_iload_n d_TB_placeOf_8 rfl ?_
  refine vv_iadd d_TB_placeOf_9 ?_
  refine vv_bipush d_TB_placeOf_10 (by decide +kernel) ?_
  refine vv_imul d_TB_placeOf_12 ?_
  refine vv_iload_n d_TB_placeOf_13 rfl ?_
  refine vv_iadd d_TB_placeOf_14 ?_
  exact vp_iret hA hr d_TB_placeOf_15 (by decide) (by decide) (by rfl)
def rd_scoreAt (g : Nat → Int) (z : Int) : Int := if 0 ≤ z ∧ z < 2312 then g z.toNat else 0
set_option maxHeartbeats 4000000 in
set_option maxRecDepth 100000 in
theorem c_TB_scoreAt (l : Launch) (D : va_G) (cI : ClassId) (a qs qc : Nat) (K W F z : Int) (g : Nat → Int) (hz : -2147483648 ≤ z ∧ z < 2147483648) : CP l y_TB_scoreAt b_TB_scoreAt 2 (some .int) rm_0 [.ref a, .int (iI z)] D [(cI, .int)] ([ob_TB a qs qc K W F, ar_I qs cI 2312 g] ++ []) (fun v => v = some (.int (iI (rd_scoreAt g z)))) := by
  refine cp_of (by decide) (Nat.le_of_ble_eq_true rfl) ?_
  intro X sz hl hr hD hA
  subst hD
  show VV X (b_TB_scoreAt, 2, "SheetTrees$Tables", rm_0) _ 0 0 [(cI, .int)] [ob_TB a qs qc K W F, ar_I qs cI 2312 g] [] [some (.ref a), some (.int (iI z))] [] 0
  refine vv_iload_n d_TB_scoreAt_0 rfl ?_
  refine vv_if_lt (tgt := 22) d_TB_scoreAt_1 (by decide) (by omega) (fun c1 => ?_) (fun c1 => ?_)
  · skip
    refine vv_iconst d_TB_scoreAt_22 ?_
    exact vp_iret hA hr d_TB_scoreAt_23 (by decide) (by decide) (by unfold rd_scoreAt; rw [if_neg (by omega)])
  · skip
    refine vv_iload_n d_TB_scoreAt_4 rfl ?_
    refine vv_aload_n d_TB_scoreAt_5 rfl ?_
    refine vv_get d_TB_scoreAt_6 0 rfl fl_TB_11 rfl ?_
    refine vv_alen d_TB_scoreAt_9 1 0 rfl rfl (v := 2312) rfl ?_
    refine vv_icmp_ge (tgt := 22) d_TB_scoreAt_10 (by decide) (by omega) (fun c10 => ?_) (fun c10 => ?_)
    · skip
      refine vv_iconst d_TB_scoreAt_22 ?_
      exact vp_iret hA hr d_TB_scoreAt_23 (by decide) (by decide) (by unfold rd_scoreAt; rw [if_neg (by omega)])
    · skip
      refine vv_aload_n d_TB_scoreAt_13 rfl ?_
      refine vv_get d_TB_scoreAt_14 0 rfl fl_TB_11 rfl ?_
      refine vv_iload_n d_TB_scoreAt_17 rfl ?_
      refine vv_iald d_TB_scoreAt_18 1 0 rfl rfl (by omega) ?_
      refine vv_goto (tgt := 23) d_TB_scoreAt_19 (by decide) ?_
      exact vp_iret hA hr d_TB_scoreAt_23 (by decide) (by decide) (by unfold rd_scoreAt; rw [if_pos (by omega)])
def rd_choiceAt (g : Nat → Int) (z : Int) : Int := if 0 ≤ z ∧ z < 2312 then g z.toNat else 8
set_option maxHeartbeats 4000000 in
set_option maxRecDepth 100000 in
theorem c_TB_choiceAt (l : Launch) (D : va_G) (cI : ClassId) (a qs qc : Nat) (K W F z : Int) (g : Nat → Int) (hz : -2147483648 ≤ z ∧ z < 2147483648) : CP l y_TB_choiceAt b_TB_choiceAt 2 (some .int) rm_0 [.ref a, .int (iI z)] D [(cI, .int)] ([ob_TB a qs qc K W F, ar_I qc cI 2312 g] ++ []) (fun v => v = some (.int (iI (rd_choiceAt g z)))) := by
  refine cp_of (by decide) (Nat.le_of_ble_eq_true rfl) ?_
  intro X sz hl hr hD hA
  subst hD
  show VV X (b_TB_choiceAt, 2, "SheetTrees$Tables", rm_0) _ 0 0 [(cI, .int)] [ob_TB a qs qc K W F, ar_I qc cI 2312 g] [] [some (.ref a), some (.int (iI z))] [] 0
  refine vv_iload_n d_TB_choiceAt_0 rfl ?_
  refine vv_if_lt (tgt := 22) d_TB_choiceAt_1 (by decide) (by omega) (fun c1 => ?_) (fun c1 => ?_)
  · skip
    refine vv_bipush d_TB_choiceAt_22 (by decide +kernel) ?_
    exact vp_iret hA hr d_TB_choiceAt_24 (by decide) (by decide) (by unfold rd_choiceAt; rw [if_neg (by omega)])
  · skip
    refine vv_iload_n d_TB_choiceAt_4 rfl ?_
    refine vv_aload_n d_TB_choiceAt_5 rfl ?_
    refine vv_get d_TB_choiceAt_6 0 rfl fl_TB_15 rfl ?_
    refine vv_alen d_TB_choiceAt_9 1 0 rfl rfl (v := 2312) rfl ?_
    refine vv_icmp_ge (tgt := 22) d_TB_choiceAt_10 (by decide) (by omega) (fun c10 => ?_) (fun c10 => ?_)
    · skip
      refine vv_bipush d_TB_choiceAt_22 (by decide +kernel) ?_
      exact vp_iret hA hr d_TB_choiceAt_24 (by decide) (by decide) (by unfold rd_choiceAt; rw [if_neg (by omega)])
    · skip
      refine vv_aload_n d_TB_choiceAt_13 rfl ?_
      refine vv_get d_TB_choiceAt_14 0 rfl fl_TB_15 rfl ?_
      refine vv_iload_n d_TB_choiceAt_17 rfl ?_
      refine vv_iald d_TB_choiceAt_18 1 0 rfl rfl (by omega) ?_
      refine vv_goto (tgt := 24) d_TB_choiceAt_19 (by decide) ?_
      exact vp_iret hA hr d_TB_choiceAt_24 (by decide) (by decide) (by unfold rd_choiceAt; rw [if_pos (by omega)])
set_option maxHeartbeats 4000000 in
set_option maxRecDepth 100000 in
theorem c_TB_scoreOf (l : Launch) (D : va_G) (cI : ClassId) (a qs qc : Nat) (K W F s d w h : Int) (g : Nat → Int) (hz : -2147483648 ≤ pl_at s d w h ∧ pl_at s d w h < 2147483648) : CP l y_TB_scoreOf b_TB_scoreOf 5 (some .int) rm_1 [.ref a, .int (iI s), .int (iI d), .int (iI w), .int (iI h)] D [(cI, .int)] ([ob_TB a qs qc K W F, ar_I qs cI 2312 g] ++ []) (fun v => v = some (.int (iI (rd_scoreAt g (pl_at s d w h))))) := by
  refine cp_of (by decide) (Nat.le_of_ble_eq_true rfl) ?_
  intro X sz hl hr hD hA
  subst hD
  show VV X (b_TB_scoreOf, 5, "SheetTrees$Tables", rm_1) _ 0 0 [(cI, .int)] [ob_TB a qs qc K W F, ar_I qs cI 2312 g] [] [some (.ref a), some (.int (iI s)), some (.int (iI d)), some (.int (iI w)), some (.int (iI h))] [] 0
  refine vv_aload_n d_TB_scoreOf_0 rfl ?_
  refine vv_iload_n d_TB_scoreOf_1 rfl ?_
  refine vv_iload_n d_TB_scoreOf_2 rfl ?_
  refine vv_iload_n d_TB_scoreOf_3 rfl ?_
  refine vv_iload d_TB_scoreOf_4 rfl ?_
  refine vv_pS (wc := []) (plc := []) [.ref a] (c_TB_placeOf (cx_l X) (cx_D X) s d w h) lk_TB_40 d_TB_scoreOf_6 rfl [] ⟨rfl, rfl, Or.inl rfl⟩ [] rfl ⟨⟨by decide, by decide⟩, ⟨by decide, by decide⟩, Nat.le_of_ble_eq_true rfl⟩ ⟨rfl, rfl⟩ ?_
  intro v hv
  subst hv
  dsimp only [Option.toList, List.cons_append, List.nil_append]
  refine vv_pV (wc := [ob_TB a qs qc K W F, ar_I qs cI 2312 g]) (plc := []) [] (c_TB_scoreAt (cx_l X) (cx_D X) cI a qs qc K W F (pl_at s d w h) g hz) lk_TB_43 d_TB_scoreOf_9 rfl (rc_at 0 rfl rfl rfl) [0, 1] ⟨rfl, rfl, Or.inl rfl⟩ [0] rfl ⟨⟨by decide, by decide⟩, ⟨by decide, by decide⟩, Nat.le_of_ble_eq_true rfl⟩ ⟨rfl, rfl⟩ ?_
  intro v hv
  subst hv
  dsimp only [Option.toList, List.cons_append, List.nil_append]
  exact vp_iret hA hr d_TB_scoreOf_12 (by decide) (by decide) (by rfl)
set_option maxHeartbeats 4000000 in
set_option maxRecDepth 100000 in
theorem c_TB_choiceOf (l : Launch) (D : va_G) (cI : ClassId) (a qs qc : Nat) (K W F s d w h : Int) (g : Nat → Int) (hz : -2147483648 ≤ pl_at s d w h ∧ pl_at s d w h < 2147483648) : CP l y_TB_choiceOf b_TB_choiceOf 5 (some .int) rm_1 [.ref a, .int (iI s), .int (iI d), .int (iI w), .int (iI h)] D [(cI, .int)] ([ob_TB a qs qc K W F, ar_I qc cI 2312 g] ++ []) (fun v => v = some (.int (iI (rd_choiceAt g (pl_at s d w h))))) := by
  refine cp_of (by decide) (Nat.le_of_ble_eq_true rfl) ?_
  intro X sz hl hr hD hA
  subst hD
  show VV X (b_TB_choiceOf, 5, "SheetTrees$Tables", rm_1) _ 0 0 [(cI, .int)] [ob_TB a qs qc K W F, ar_I qc cI 2312 g] [] [some (.ref a), some (.int (iI s)), some (.int (iI d)), some (.int (iI w)), some (.int (iI h))] [] 0
  refine vv_aload_n d_TB_choiceOf_0 rfl ?_
  refine vv_iload_n d_TB_choiceOf_1 rfl ?_
  refine vv_iload_n d_TB_choiceOf_2 rfl ?_
  refine vv_iload_n d_TB_choiceOf_3 rfl ?_
  refine vv_iload d_TB_choiceOf_4 rfl ?_
  refine vv_pS (wc := []) (plc := []) [.ref a] (c_TB_placeOf (cx_l X) (cx_D X) s d w h) lk_TB_40 d_TB_choiceOf_6 rfl [] ⟨rfl, rfl, Or.inl rfl⟩ [] rfl ⟨⟨by decide, by decide⟩, ⟨by decide, by decide⟩, Nat.le_of_ble_eq_true rfl⟩ ⟨rfl, rfl⟩ ?_
  intro v hv
  subst hv
  dsimp only [Option.toList, List.cons_append, List.nil_append]
  refine vv_pV (wc := [ob_TB a qs qc K W F, ar_I qc cI 2312 g]) (plc := []) [] (c_TB_choiceAt (cx_l X) (cx_D X) cI a qs qc K W F (pl_at s d w h) g hz) lk_TB_47 d_TB_choiceOf_9 rfl (rc_at 0 rfl rfl rfl) [0, 1] ⟨rfl, rfl, Or.inl rfl⟩ [0] rfl ⟨⟨by decide, by decide⟩, ⟨by decide, by decide⟩, Nat.le_of_ble_eq_true rfl⟩ ⟨rfl, rfl⟩ ?_
  intro v hv
  subst hv
  dsimp only [Option.toList, List.cons_append, List.nil_append]
  exact vp_iret hA hr d_TB_choiceOf_12 (by decide) (by decide) (by rfl)
