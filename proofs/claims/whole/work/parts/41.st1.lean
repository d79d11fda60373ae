/-! SheetTrees: small helpers; CutSheet.start; takePart, keepRest, firstAlike -/
abbrev ob_ST (x qsh qpa qcu qtk qrs qt ql : Nat) (S le nS nP nC nT nR rn : Int) : Nat × va_E := (x, .inr (5, [.int (iI S), .int (iI le), .ref qsh, .ref qpa, .ref qcu, .ref qtk, .ref qrs, .ref qt, .ref ql, .int (iI nS), .int (iI nP), .int (iI nC), .int (iI nT), .int (iI nR), .int (iI rn)]))
def isW (v lo hi : Int) : Int := if lo ≤ v ∧ v ≤ hi then 1 else 0
set_option maxHeartbeats 4000000 in
set_option maxRecDepth 100000 in
theorem c_ST_isWithin (l : Launch) (D : va_G) (v lo hi : Int) (hv : -2147483648 ≤ v ∧ v < 2147483648) (h1 : -2147483648 ≤ lo ∧ lo < 2147483648) (h2 : -2147483648 ≤ hi ∧ hi < 2147483648) : CP l y_ST_isWithin b_ST_isWithin 3 (some .boolean) rm_0 [.int (iI v), .int (iI lo), .int (iI hi)] D [] ([] ++ []) (fun r => r = some (.int (iI (isW v lo hi)))) := by
  refine cp_of (by decide) (Nat.le_of_ble_eq_true rfl) ?_
  intro X sz hl hr hD hA
  subst hD
  show VV X (b_ST_isWithin, 3, "SheetTrees", rm_0) _ 0 0 [] [] [] [some (.int (iI v)), some (.int (iI lo)), some (.int (iI hi))] [] 0
  refine vv_iload_n d_ST_isWithin_0 rfl ?_
  refine vv_iload_n d_ST_isWithin_1 rfl ?_
  refine vv_icmp_lt (tgt := 14) d_ST_isWithin_2 (by decide) ⟨by omega, by omega⟩ (fun c2 => ?_) (fun c2 => ?_)
  · skip
    refine vv_iconst d_ST_isWithin_14 ?_
    exact vp_zret hA hr (by decide) d_ST_isWithin_15 (by decide) (by decide) (by unfold isW; rw [if_neg (by omega)])
  · skip
    refine vv_iload_n d_ST_isWithin_5 rfl ?_
    refine vv_iload_n d_ST_isWithin_6 rfl ?_
    refine vv_icmp_gt (tgt := 14) d_ST_isWithin_7 (by decide) ⟨by omega, by omega⟩ (fun c7 => ?_) (fun c7 => ?_)
    · skip
      refine vv_iconst d_ST_isWithin_14 ?_
      exact vp_zret hA hr (by decide) d_ST_isWithin_15 (by decide) (by decide) (by unfold isW; rw [if_neg (by omega)])
    · skip
      refine vv_iconst d_ST_isWithin_10 ?_
      refine vv_goto (tgt := 15) d_ST_isWithin_11 (by decide) ?_
      exact vp_zret hA hr (by decide) d_ST_isWithin_15 (by decide) (by decide) (by unfold isW; rw [if_pos (by omega)])
set_option maxHeartbeats 4000000 in
set_option maxRecDepth 100000 in
theorem c_ST_isSide (l : Launch) (D : va_G) (v : Int) (hv : -2147483648 ≤ v ∧ v < 2147483648) : CP l y_ST_isSide b_ST_isSide 1 (some .boolean) rm_1 [.int (iI v)] D [] ([] ++ []) (fun r => r = some (.int (iI (isW v 1 16)))) := by
  refine cp_of (by decide) (Nat.le_of_ble_eq_true rfl) ?_
  intro X sz hl hr hD hA
  subst hD
  show VV X (b_ST_isSide, 1, "SheetTrees", rm_1) _ 0 0 [] [] [] [some (.int (iI v))] [] 0
  have hz : isW v 1 16 = 0 ∨ isW v 1 16 = 1 := by unfold isW; split <;> simp
  refine vv_iload_n d_ST_isSide_0 rfl ?_
  refine vv_iconst d_ST_isSide_1 ?_
  refine vv_bipush d_ST_isSide_2 (by decide +kernel) ?_
  refine vv_pS (wc := []) (plc := []) [] (c_ST_isWithin (cx_l X) (cx_D X) v 1 16 hv (by omega) (by omega)) lk_ST_96 d_ST_isSide_4 rfl [] ⟨rfl, rfl, Or.inl rfl⟩ [] rfl ⟨⟨by decide, by decide⟩, ⟨by decide, by decide⟩, Nat.le_of_ble_eq_true rfl⟩ ⟨rfl, rfl⟩ ?_
  intro v hv
  subst hv
  dsimp only [Option.toList, List.cons_append, List.nil_append, List.append_nil]
  refine vp_zret hA hr ?_ d_ST_isSide_7 (by decide) (by decide) rfl
  rcases hz with hz | hz <;> rw [hz] <;> decide
set_option maxHeartbeats 4000000 in
set_option maxRecDepth 100000 in
theorem c_ST_nearest (l : Launch) (D : va_G) (v lo hi : Int) (hv : -2147483648 ≤ v ∧ v < 2147483648) (h1 : -2147483648 ≤ lo ∧ lo < 2147483648) (h2 : -2147483648 ≤ hi ∧ hi < 2147483648) : CP l y_ST_nearest b_ST_nearest 3 (some .int) rm_1 [.int (iI v), .int (iI lo), .int (iI hi)] D [] ([] ++ []) (fun r => r = some (.int (iI (max lo (min hi v))))) := by
  refine cp_of (by decide) (Nat.le_of_ble_eq_true rfl) ?_
  intro X sz hl hr hD hA
  subst hD
  show VV X (b_ST_nearest, 3, "SheetTrees", rm_1) _ 0 0 [] [] [] [some (.int (iI v)), some (.int (iI lo)), some (.int (iI hi))] [] 0
  refine vv_iload_n d_ST_nearest_0 rfl ?_
  refine vv_iload_n d_ST_nearest_1 rfl ?_
  refine vv_iload_n d_ST_nearest_2 rfl ?_
  refine vv_mmin d_ST_nearest_3 lm_ST_238 ⟨by omega, by omega⟩ ⟨by decide, Nat.le_of_ble_eq_true rfl, by decide, by decide⟩ ?_
  refine vv_mmax d_ST_nearest_6 lm_ST_232 ⟨by omega, by omega⟩ ⟨by decide, Nat.le_of_ble_eq_true rfl, by decide, by decide⟩ ?_
  exact vp_iret hA hr d_ST_nearest_9 (by decide) (by decide) (by rfl)
set_option maxHeartbeats 4000000 in
set_option maxRecDepth 100000 in
theorem c_ST_pieceAt (l : Launch) (D : va_G) (cI : ClassId) (q N : Nat) (g : Nat → Int) (z : Int) (hz : 0 ≤ z ∧ z < (N : Int)) (hN : N < 2147483648) : CP l y_ST_pieceAt b_ST_pieceAt 2 (some .int) rm_0 [.ref q, .int (iI z)] D [(cI, .int)] ([ar_I q cI N g] ++ []) (fun r => r = some (.int (iI (g z.toNat)))) := by
  refine cp_of (by decide) (Nat.le_of_ble_eq_true rfl) ?_
  intro X sz hl hr hD hA
  subst hD
  show VV X (b_ST_pieceAt, 2, "SheetTrees", rm_0) _ 0 0 [(cI, .int)] [ar_I q cI N g] [] [some (.ref q), some (.int (iI z))] [] 0
  refine vv_iload_n d_ST_pieceAt_0 rfl ?_
  refine vv_if_lt (tgt := 16) d_ST_pieceAt_1 (by decide) ⟨by omega, by omega⟩ (fun c1 => ?_) (fun c1 => ?_)
  · exfalso; omega
  · skip
    refine vv_iload_n d_ST_pieceAt_4 rfl ?_
    refine vv_aload_n d_ST_pieceAt_5 rfl ?_
    refine vv_alen d_ST_pieceAt_6 0 0 rfl rfl (v := (N : Int)) rfl ?_
    refine vv_icmp_ge (tgt := 16) d_ST_pieceAt_7 (by decide) ⟨by omega, by omega⟩ (fun c7 => ?_) (fun c7 => ?_)
    · exfalso; omega
    · skip
      refine vv_aload_n d_ST_pieceAt_10 rfl ?_
      refine vv_iload_n d_ST_pieceAt_11 rfl ?_
      refine vv_iald d_ST_pieceAt_12 0 0 rfl rfl (by omega) ?_
      refine vv_goto (tgt := 17) d_ST_pieceAt_13 (by decide) ?_
      exact vp_iret hA hr d_ST_pieceAt_17 (by decide) (by decide) (by rfl)
def cs_st (c : Nat → Int) (i ce ar wy cu mi pu : Int) : Nat → Int := fun k => match k with | 0 => i | 1 => ce | 2 => ar | 3 => wy | 4 => cu | 5 => mi | 6 => pu | 9 => 0 | k => c k
set_option maxHeartbeats 4000000 in
set_option maxRecDepth 100000 in
theorem c_CS_start (l : Launch) (D : va_G) (cI : ClassId) (a b ql qt qp qo : Nat) (way i : Int) (st : ly_T) (c : Nat → Int) (r : pa_T) (L : List Nat) (f : Nat → va_E) (hin : a ∈ L) (hat : f a = ob_CS c) (hin2 : b ∈ L) (hat2 : f b = ob_SH r) (hco : ∀ p : Nat, p < 8 → 0 ≤ st.2.2.2.2 p ∧ st.2.2.2.2 p ≤ 1000000) : CM l y_CS_start b_CS_start 4 none rm_1 [.ref a, .int (iI i), .ref b, .ref ql] D [(cI, .int)] ([ob_LY ql qt qp qo way st, ar_I qo cI 8 st.2.2.2.2] ++ va_pl L f) (fun v w1 p1 _ => v = none ∧ w1 = [ob_LY ql qt qp qo way st, ar_I qo cI 8 st.2.2.2.2] ∧ p1 = va_pl L (va_up f a (ob_CS (cs_st c i r.2.2.1 (r.1 * r.2.1) way st.2.1 st.2.2.1 (pu_m st.2.2.2.2 8 : Nat))))) := by
  refine cm_of (by decide) (Nat.le_of_ble_eq_true rfl) ?_
  intro X sz hl hr hnm hD hA hw
  subst hD
  show VV X (b_CS_start, 4, "SheetTrees$CutSheet", rm_1) _ 0 0 [(cI, .int)] [ob_LY ql qt qp qo way st, ar_I qo cI 8 st.2.2.2.2] (va_pl L f) [some (.ref a), some (.int (iI i)), some (.ref b), some (.ref ql)] [] 0
  have hne : b ≠ a := ne_of_f hat2 hat (by decide)
  refine vv_enter hat ?_
  refine vv_aload_n d_CS_start_0 rfl ?_
  refine vv_iload_n d_CS_start_1 rfl ?_
  refine vv_putU hw d_CS_start_2 hin fp_CS_7 rfl rfl (Nat.le_of_ble_eq_true rfl) ?_
  dsimp only [List.set]
  refine vv_aload_n d_CS_start_5 rfl ?_
  refine vv_aload_n d_CS_start_6 rfl ?_
  refine vv_getP d_CS_start_7 hin2 ((va_up_ne _ _ hne).trans hat2) fl_CS_49 rfl ?_
  refine vv_putU hw d_CS_start_10 hin fp_CS_13 rfl rfl (Nat.le_of_ble_eq_true rfl) ?_
  dsimp only [List.set]
  refine vv_aload_n d_CS_start_13 rfl ?_
  refine vv_aload_n d_CS_start_14 rfl ?_
  refine vv_pV (wc := []) (plc := va_pl L _) [.ref a] (c_SH_area (cx_l X) (cx_D X) L _ b r hin2 ((va_up_ne _ _ hne).trans hat2)) lk_CS_52 d_CS_start_15 rfl (rc_pl hin2 ((va_up_ne _ _ hne).trans hat2) rfl rfl) [] ⟨rfl, rfl, Or.inr rfl⟩ [] rfl ⟨⟨by decide, by decide⟩, ⟨by decide, by decide⟩, Nat.le_of_ble_eq_true rfl⟩ ⟨rfl, rfl⟩ ?_
  intro v hv
  subst hv
  dsimp only [Option.toList, List.cons_append, List.nil_append, List.append_nil]
  refine vv_putU hw d_CS_start_18 hin fp_CS_16 rfl rfl (Nat.le_of_ble_eq_true rfl) ?_
  dsimp only [List.set]
  refine vv_aload_n d_CS_start_21 rfl ?_
  refine vv_aload_n d_CS_start_22 rfl ?_
  refine vv_get d_CS_start_23 0 rfl fl_CS_55 rfl ?_
  refine vv_putU hw d_CS_start_26 hin fp_CS_19 rfl rfl (Nat.le_of_ble_eq_true rfl) ?_
  dsimp only [List.set]
  refine vv_aload_n d_CS_start_29 rfl ?_
  refine vv_aload_n d_CS_start_30 rfl ?_
  refine vv_get d_CS_start_31 0 rfl fl_CS_58 rfl ?_
  refine vv_putU hw d_CS_start_34 hin fp_CS_22 rfl rfl (Nat.le_of_ble_eq_true rfl) ?_
  dsimp only [List.set]
  refine vv_aload_n d_CS_start_37 rfl ?_
  refine vv_aload_n d_CS_start_38 rfl ?_
  refine vv_get d_CS_start_39 0 rfl fl_CS_59 rfl ?_
  refine vv_putU hw d_CS_start_42 hin fp_CS_25 rfl rfl (Nat.le_of_ble_eq_true rfl) ?_
  dsimp only [List.set]
  refine vv_aload_n d_CS_start_45 rfl ?_
  refine vv_aload_n d_CS_start_46 rfl ?_
  refine vv_pV (wc := [ob_LY ql qt qp qo way st, ar_I qo cI 8 st.2.2.2.2]) (plc := []) [.ref a] (c_LY_partsUsed (cx_l X) (cx_D X) cI ql qt qp qo way st hco) lk_CS_60 d_CS_start_47 rfl (rc_at 0 rfl rfl rfl) [0, 1] ⟨rfl, rfl, Or.inl rfl⟩ [0] rfl ⟨⟨by decide, by decide⟩, ⟨by decide, by decide⟩, Nat.le_of_ble_eq_true rfl⟩ ⟨rfl, rfl⟩ ?_
  intro v hv
  subst hv
  dsimp only [Option.toList, List.cons_append, List.nil_append, List.append_nil]
  refine vv_putU hw d_CS_start_50 hin fp_CS_28 rfl rfl (Nat.le_of_ble_eq_true rfl) ?_
  dsimp only [List.set]
  refine vv_aload_n d_CS_start_53 rfl ?_
  refine vv_iconst d_CS_start_54 ?_
  refine vv_putU hw d_CS_start_55 hin fp_CS_37 rfl rfl (Nat.le_of_ble_eq_true rfl) ?_
  dsimp only [List.set]
  exact vv_vret hA hw hr d_CS_start_58 (by decide) (by decide) (by exact ⟨rfl, rfl, rfl⟩)
