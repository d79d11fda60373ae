/-! Piece, areas, Layout.addPiece -/
theorem ia_or (a b : Nat) : iI (a : Int) ||| iI (b : Int) = iI ((a ||| b : Nat) : Int) := by
  rw [iI_nat, iI_nat, iI_nat]
  apply Int32.toBitVec_inj.1
  show BitVec.ofNat 32 a ||| BitVec.ofNat 32 b = BitVec.ofNat 32 (a ||| b)
  apply BitVec.eq_of_getLsbD_eq
  intro i hi
  simp [hi]
theorem ia_shl5 {a : Nat} (h : a < 67108864) : iI (a : Int) <<< (iI 5 &&& 31) = iI ((a * 32 : Nat) : Int) := by
  rw [iI_nat, iI_nat]
  exact pk_shlN _ 5 (by decide +kernel) (by omega)
theorem ia_or5 {a b : Nat} (hb : b < 32) : iI ((a * 32 : Nat) : Int) ||| iI (b : Int) = iI ((a * 32 + b : Nat) : Int) := by
  rw [ia_or]
  have h1 := Nat.two_pow_add_eq_or_of_lt (i := 5) hb a
  rw [show a * 32 = 2 ^ 5 * a by omega, h1]
theorem ia_and31 {a : Nat} (h : a < 2147483648) : iI (a : Int) &&& iI 31 = iI ((a % 32 : Nat) : Int) := by
  rw [iI_nat, iI_nat]
  exact pk_andN (by omega) 5 (by decide +kernel)
/-- a piece in one number, and its fields -/
def pk_z (k x y w h : Int) : Int := (((k * 32 + x) * 32 + y) * 32 + w) * 32 + h
def pf_z (P f : Int) : Int := P / 2 ^ (5 * (4 - f)).toNat % 32
set_option maxHeartbeats 4000000 in
set_option maxRecDepth 100000 in
theorem c_PI_of (l : Launch) (D : va_G) (k x y w h : Int) (hk : 0 ≤ k ∧ k < 32) (hx : 0 ≤ x ∧ x < 32) (hy : 0 ≤ y ∧ y < 32) (hw : 0 ≤ w ∧ w < 32) (hh : 0 ≤ h ∧ h < 32) : CP l y_PI_of b_PI_of 5 (some .int) rm_0 [.int (iI k), .int (iI x), .int (iI y), .int (iI w), .int (iI h)] D [] ([] ++ []) (fun v => v = some (.int (iI (pk_z k x y w h)))) := by
  refine cp_of (by decide) (Nat.le_of_ble_eq_true rfl) ?_
  intro X sz hl hr hD hA
  subst hD
  obtain ⟨k, rfl⟩ := Int.eq_ofNat_of_zero_le hk.1
  obtain ⟨x, rfl⟩ := Int.eq_ofNat_of_zero_le hx.1
  obtain ⟨y, rfl⟩ := Int.eq_ofNat_of_zero_le hy.1
  obtain ⟨w, rfl⟩ := Int.eq_ofNat_of_zero_le hw.1
  obtain ⟨h, rfl⟩ := Int.eq_ofNat_of_zero_le hh.1
  show VV X (b_PI_of, 5, "SheetTrees$Piece", rm_0) _ 0 0 [] [] [] [some (.int (iI (k : Int))), some (.int (iI (x : Int))), some (.int (iI (y : Int))), some (.int (iI (w : Int))), some (.int (iI (h : Int)))] [] 0
  refine vv_iload_n d_PI_of_0 rfl ?_
  refine vv_iconst d_PI_of_1 ?_
  refine vv_ishl d_PI_of_2 (ia_shl5 (by omega)) ?_
  refine vv_iload_n d_PI_of_3 rfl ?_
  refine vv_ior d_PI_of_4 (ia_or5 (by omega)) ?_
  refine vv_iconst d_PI_of_5 ?_
  refine vv_ishl d_PI_of_6 (ia_shl5 (by omega)) ?_
  refine vv_iload_n d_PI_of_7 rfl ?_
  refine vv_ior d_PI_of_8 (ia_or5 (by omega)) ?_
  refine vv_iconst d_PI_of_9 ?_
  refine vv_ishl d_PI_of_10 (ia_shl5 (by omega)) ?_
  refine vv_iload_n d_PI_of_11 rfl ?_
  refine vv_ior d_PI_of_12 (ia_or5 (by omega)) ?_
  refine vv_iconst d_PI_of_13 ?_
  refine vv_ishl d_PI_of_14 (ia_shl5 (by omega)) ?_
  refine vv_iload d_PI_of_15 rfl ?_
  refine vv_ior d_PI_of_17 (ia_or5 (by omega)) ?_
  exact vp_iret hA hr d_PI_of_18 (by decide) (by decide) (by unfold pk_z; rfl)
set_option maxHeartbeats 4000000 in
set_option maxRecDepth 100000 in
theorem c_PI_field (l : Launch) (D : va_G) (q f : Int) (hq : 0 ≤ q ∧ q < 2147483648) (hf : 0 ≤ f ∧ f ≤ 4) : CP l y_PI_field b_PI_field 2 (some .int) rm_0 [.int (iI q), .int (iI f)] D [] ([] ++ []) (fun v => v = some (.int (iI (pf_z q f)))) := by
  refine cp_of (by decide) (Nat.le_of_ble_eq_true rfl) ?_
  intro X sz hl hr hD hA
  subst hD
  obtain ⟨q, rfl⟩ := Int.eq_ofNat_of_zero_le hq.1
  obtain ⟨f, rfl⟩ := Int.eq_ofNat_of_zero_le hf.1
  have e5 : 5 * (4 - (f : Int)) = ((5 * (4 - f) : Nat) : Int) := by omega
  have hle : q / 2 ^ (5 * (4 - f)) ≤ q := Nat.div_le_self _ _
  show VV X (b_PI_field, 2, "SheetTrees$Piece", rm_0) _ 0 0 [] [] [] [some (.int (iI (q : Int))), some (.int (iI (f : Int)))] [] 0
  refine vv_iload_n d_PI_field_0 rfl ?_
  refine vv_iconst d_PI_field_1 ?_
  refine vv_iconst d_PI_field_2 ?_
  refine vv_iload_n d_PI_field_3 rfl ?_
  refine vv_isub d_PI_field_4 ?_
  refine vv_imul d_PI_field_5 ?_
  rw [e5]
  refine vv_ishr d_PI_field_6 (ia_shr (by omega) (by omega)) ?_
  refine vv_bipush d_PI_field_7 (by decide +kernel) ?_
  refine vv_iand d_PI_field_9 (ia_and31 (by omega)) ?_
  exact vp_iret hA hr d_PI_field_10 (by decide) (by decide) (by unfold pf_z; rw [e5, Int.toNat_natCast]; norm_cast)
set_option maxHeartbeats 4000000 in
set_option maxRecDepth 100000 in
theorem c_PI_isAtLeast (l : Launch) (D : va_G) (q s : Int) (hq : 0 ≤ q ∧ q < 2147483648) (hs : 1 ≤ s ∧ s ≤ 16) : CP l y_PI_isAtLeast b_PI_isAtLeast 2 (some .boolean) rm_1 [.int (iI q), .int (iI s)] D [] ([] ++ []) (fun v => v = some (.int (iI (if s ≤ pf_z q 3 ∧ s ≤ pf_z q 4 then 1 else 0)))) := by
  refine cp_of (by decide) (Nat.le_of_ble_eq_true rfl) ?_
  intro X sz hl hr hD hA
  subst hD
  have h3 : 0 ≤ pf_z q 3 ∧ pf_z q 3 < 32 := by unfold pf_z; omega
  have h4 : 0 ≤ pf_z q 4 ∧ pf_z q 4 < 32 := by unfold pf_z; omega
  show VV X (b_PI_isAtLeast, 2, "SheetTrees$Piece", rm_1) _ 0 0 [] [] [] [some (.int (iI q)), some (.int (iI s))] [] 0
  refine vv_iload_n d_PI_isAtLeast_0 rfl ?_
  refine vv_iconst d_PI_isAtLeast_1 ?_
  refine vv_pS (wc := []) (plc := []) [] (c_PI_field (cx_l X) (cx_D X) q 3 hq (by omega)) lk_PI_9 d_PI_isAtLeast_2 rfl [] ⟨rfl, rfl, Or.inl rfl⟩ [] rfl ⟨⟨by decide, by decide⟩, ⟨by decide, by decide⟩, Nat.le_of_ble_eq_true rfl⟩ ⟨rfl, rfl⟩ ?_
  intro v hv
  subst hv
  dsimp only [Option.toList, List.cons_append, List.nil_append, List.append_nil]
  refine vv_iload_n d_PI_isAtLeast_5 rfl ?_
  refine vv_icmp_lt (tgt := 22) d_PI_isAtLeast_6 (by decide) ⟨by omega, by omega⟩ (fun c6 => ?_) (fun c6 => ?_)
  · skip
    refine vv_iconst d_PI_isAtLeast_22 ?_
    exact vp_zret hA hr rfl d_PI_isAtLeast_23 (by decide) (by decide) (by rw [if_neg (by omega)])
  · skip
    refine vv_iload_n d_PI_isAtLeast_9 rfl ?_
    refine vv_iconst d_PI_isAtLeast_10 ?_
    refine vv_pS (wc := []) (plc := []) [] (c_PI_field (cx_l X) (cx_D X) q 4 hq (by omega)) lk_PI_9 d_PI_isAtLeast_11 rfl [] ⟨rfl, rfl, Or.inl rfl⟩ [] rfl ⟨⟨by decide, by decide⟩, ⟨by decide, by decide⟩, Nat.le_of_ble_eq_true rfl⟩ ⟨rfl, rfl⟩ ?_
    intro v hv
    subst hv
    dsimp only [Option.toList, List.cons_append, List.nil_append, List.append_nil]
    refine vv_iload_n d_PI_isAtLeast_14 rfl ?_
    refine vv_icmp_lt (tgt := 22) d_PI_isAtLeast_15 (by decide) ⟨by omega, by omega⟩ (fun c15 => ?_) (fun c15 => ?_)
    · skip
      refine vv_iconst d_PI_isAtLeast_22 ?_
      exact vp_zret hA hr rfl d_PI_isAtLeast_23 (by decide) (by decide) (by rw [if_neg (by omega)])
    · skip
      refine vv_iconst d_PI_isAtLeast_18 ?_
      refine vv_goto (tgt := 23) d_PI_isAtLeast_19 (by decide) ?_
      exact vp_zret hA hr rfl d_PI_isAtLeast_23 (by decide) (by decide) (by rw [if_pos (by omega)])
/-- a Sheet: width, height, cents, stock, unused -/
abbrev ob_SH (r : pa_T) : va_E := .inr (3, [.int (iI r.1), .int (iI r.2.1), .int (iI r.2.2.1), .int (iI r.2.2.2.1), .int (iI r.2.2.2.2)])
set_option maxHeartbeats 4000000 in
set_option maxRecDepth 100000 in
theorem c_PA_area (l : Launch) (D : va_G) (L : List Nat) (f : Nat → va_E) (a : Nat) (r : pa_T) (hin : a ∈ L) (hat : f a = ob_PA r) : CP l y_PA_area b_PA_area 1 (some .int) rm_0 [.ref a] D [] ([] ++ va_pl L f) (fun v => v = some (.int (iI (r.1 * r.2.1)))) := by
  refine cp_of (by decide) (Nat.le_of_ble_eq_true rfl) ?_
  intro X sz hl hr hD hA
  subst hD
  show VV X (b_PA_area, 1, "SheetTrees$Part", rm_0) _ 0 0 [] [] (va_pl L f) [some (.ref a)] [] 0
  refine vv_aload_n d_PA_area_0 rfl ?_
  refine vv_getP d_PA_area_1 hin hat fl_PA_7 rfl ?_
  refine vv_aload_n d_PA_area_4 rfl ?_
  refine vv_getP d_PA_area_5 hin hat fl_PA_13 rfl ?_
  refine vv_imul d_PA_area_8 ?_
  exact vp_iret hA hr d_PA_area_9 (by decide) (by decide) (by rfl)
set_option maxHeartbeats 4000000 in
set_option maxRecDepth 100000 in
theorem c_SH_area (l : Launch) (D : va_G) (L : List Nat) (f : Nat → va_E) (a : Nat) (r : pa_T) (hin : a ∈ L) (hat : f a = ob_SH r) : CP l y_SH_area b_SH_area 1 (some .int) rm_0 [.ref a] D [] ([] ++ va_pl L f) (fun v => v = some (.int (iI (r.1 * r.2.1)))) := by
  refine cp_of (by decide) (Nat.le_of_ble_eq_true rfl) ?_
  intro X sz hl hr hD hA
  subst hD
  show VV X (b_SH_area, 1, "SheetTrees$Sheet", rm_0) _ 0 0 [] [] (va_pl L f) [some (.ref a)] [] 0
  refine vv_aload_n d_SH_area_0 rfl ?_
  refine vv_getP d_SH_area_1 hin hat fl_SH_7 rfl ?_
  refine vv_aload_n d_SH_area_4 rfl ?_
  refine vv_getP d_SH_area_5 hin hat fl_SH_13 rfl ?_
  refine vv_imul d_SH_area_8 ?_
  exact vp_iret hA hr d_SH_area_9 (by decide) (by decide) (by rfl)
/-- Layout's state: pieces so far, cuts, minutes, the pieces' row, copies -/
abbrev ly_T : Type := Int × Int × Int × (Nat → Int) × (Nat → Int)
abbrev ob_LY (a qt qp qo : Nat) (way : Int) (st : ly_T) : Nat × va_E := (a, .inr (1, [.ref qt, .ref qp, .ref qo, .int (iI st.1), .int (iI way), .int (iI st.2.1), .int (iI st.2.2.1)]))
def ly_add (c q : Int) (st : ly_T) : ly_T := (if st.1 < 256 then st.1 + 1 else st.1, st.2.1, st.2.2.1, (if st.1 < 256 then va_up st.2.2.2.1 st.1.toNat q else st.2.2.2.1), (if 0 ≤ c ∧ c < 8 then va_up st.2.2.2.2 c.toNat (st.2.2.2.2 c.toNat + 1) else st.2.2.2.2))
set_option maxHeartbeats 4000000 in
set_option maxRecDepth 100000 in
theorem c_LY_addPiece (l : Launch) (D : va_G) (cI : ClassId) (a qt qp qo : Nat) (way c q : Int) (st : ly_T) (hN : 0 ≤ st.1 ∧ st.1 ≤ 256) (hc : -2147483648 ≤ c ∧ c < 2147483648) : CM l y_LY_addPiece b_LY_addPiece 3 none rm_0 [.ref a, .int (iI c), .int (iI q)] D [(cI, .int)] ([ob_LY a qt qp qo way st, ar_I qp cI 256 st.2.2.2.1, ar_I qo cI 8 st.2.2.2.2] ++ []) (fun r w1 p1 _ => r = none ∧ w1 = [ob_LY a qt qp qo way (ly_add c q st), ar_I qp cI 256 (ly_add c q st).2.2.2.1, ar_I qo cI 8 (ly_add c q st).2.2.2.2] ∧ p1 = []) := by
  refine cm_of (by decide) (Nat.le_of_ble_eq_true rfl) ?_
  intro X sz hl hr hnm hD hA hw
  subst hD
  obtain ⟨N, C, Mi, ps, co⟩ := st
  dsimp only at hN ⊢
  show VV X (b_LY_addPiece, 3, "SheetTrees$Layout", rm_0) _ 0 0 [(cI, .int)] [ob_LY a qt qp qo way (N, C, Mi, ps, co), ar_I qp cI 256 ps, ar_I qo cI 8 co] [] [some (.ref a), some (.int (iI c)), some (.int (iI q))] [] 0
  refine vv_aload_n d_LY_addPiece_0 rfl ?_
  refine vv_get d_LY_addPiece_1 0 rfl fl_LY_18 rfl ?_
  refine vv_aload_n d_LY_addPiece_4 rfl ?_
  refine vv_get d_LY_addPiece_5 0 rfl fl_LY_9 rfl ?_
  refine vv_alen d_LY_addPiece_8 1 0 rfl rfl (v := 256) rfl ?_
  refine vv_icmp_ge (tgt := 29) d_LY_addPiece_9 (by decide) ⟨by omega, by omega⟩ (fun c9 => ?_) (fun c9 => ?_)
  · skip
    refine vv_iload_n d_LY_addPiece_29 rfl ?_
    refine vv_if_lt (tgt := 52) d_LY_addPiece_30 (by decide) (by omega) (fun c30 => ?_) (fun c30 => ?_)
    · skip
      exact vv_vret hA hw hr d_LY_addPiece_52 (by decide) (by decide) ⟨rfl, by unfold ly_add; dsimp only; rw [if_neg (by omega), if_neg (by omega), if_neg (by omega)], rfl⟩
    · skip
      refine vv_iload_n d_LY_addPiece_33 rfl ?_
      refine vv_aload_n d_LY_addPiece_34 rfl ?_
      refine vv_get d_LY_addPiece_35 0 rfl fl_LY_15 rfl ?_
      refine vv_alen d_LY_addPiece_38 2 0 rfl rfl (v := 8) rfl ?_
      refine vv_icmp_ge (tgt := 52) d_LY_addPiece_39 (by decide) ⟨by omega, by omega⟩ (fun c39 => ?_) (fun c39 => ?_)
      · skip
        exact vv_vret hA hw hr d_LY_addPiece_52 (by decide) (by decide) ⟨rfl, by unfold ly_add; dsimp only; rw [if_neg (by omega), if_neg (by omega), if_neg (by omega)], rfl⟩
      · skip
        refine vv_aload_n d_LY_addPiece_42 rfl ?_
        refine vv_get d_LY_addPiece_43 0 rfl fl_LY_15 rfl ?_
        refine vv_iload_n d_LY_addPiece_46 rfl ?_
        refine vv_dup2 d_LY_addPiece_47 rfl rfl ?_
        refine vv_iald d_LY_addPiece_48 2 0 rfl rfl (by omega) ?_
        refine vv_iconst d_LY_addPiece_49 ?_
        refine vv_iadd d_LY_addPiece_50 ?_
        refine vv_iast hw d_LY_addPiece_51 2 0 rfl rfl (by omega) ?_
        dsimp only [List.set]
        exact vv_vret hA hw hr d_LY_addPiece_52 (by decide) (by decide) ⟨rfl, by unfold ly_add; dsimp only; rw [if_neg (by omega), if_neg (by omega), if_pos (by omega)], rfl⟩
  · skip
    refine vv_aload_n d_LY_addPiece_12 rfl ?_
    refine vv_get d_LY_addPiece_13 0 rfl fl_LY_9 rfl ?_
    refine vv_aload_n d_LY_addPiece_16 rfl ?_
    refine vv_dup d_LY_addPiece_17 rfl ?_
    refine vv_get d_LY_addPiece_18 0 rfl fl_LY_18 rfl ?_
    refine vv_dup_x1 d_LY_addPiece_21 rfl rfl ?_
    refine vv_iconst d_LY_addPiece_22 ?_
    refine vv_iadd d_LY_addPiece_23 ?_
    refine vv_put hw d_LY_addPiece_24 0 rfl fp_LY_18 rfl rfl (Nat.le_of_ble_eq_true rfl) ?_
    dsimp only [List.set]
    refine vv_iload_n d_LY_addPiece_27 rfl ?_
    refine vv_iast hw d_LY_addPiece_28 1 0 rfl rfl (by omega) ?_
    dsimp only [List.set]
    refine vv_iload_n d_LY_addPiece_29 rfl ?_
    refine vv_if_lt (tgt := 52) d_LY_addPiece_30 (by decide) (by omega) (fun c30 => ?_) (fun c30 => ?_)
    · skip
      exact vv_vret hA hw hr d_LY_addPiece_52 (by decide) (by decide) ⟨rfl, by unfold ly_add; dsimp only; rw [if_pos (by omega), if_pos (by omega), if_neg (by omega)], rfl⟩
    · skip
      refine vv_iload_n d_LY_addPiece_33 rfl ?_
      refine vv_aload_n d_LY_addPiece_34 rfl ?_
      refine vv_get d_LY_addPiece_35 0 rfl fl_LY_15 rfl ?_
      refine vv_alen d_LY_addPiece_38 2 0 rfl rfl (v := 8) rfl ?_
      refine vv_icmp_ge (tgt := 52) d_LY_addPiece_39 (by decide) ⟨by omega, by omega⟩ (fun c39 => ?_) (fun c39 => ?_)
      · skip
        exact vv_vret hA hw hr d_LY_addPiece_52 (by decide) (by decide) ⟨rfl, by unfold ly_add; dsimp only; rw [if_pos (by omega), if_pos (by omega), if_neg (by omega)], rfl⟩
      · skip
        refine vv_aload_n d_LY_addPiece_42 rfl ?_
        refine vv_get d_LY_addPiece_43 0 rfl fl_LY_15 rfl ?_
        refine vv_iload_n d_LY_addPiece_46 rfl ?_
        refine vv_dup2 d_LY_addPiece_47 rfl rfl ?_
        refine vv_iald d_LY_addPiece_48 2 0 rfl rfl (by omega) ?_
        refine vv_iconst d_LY_addPiece_49 ?_
        refine vv_iadd d_LY_addPiece_50 ?_
        refine vv_iast hw d_LY_addPiece_51 2 0 rfl rfl (by omega) ?_
        dsimp only [List.set]
        exact vv_vret hA hw hr d_LY_addPiece_52 (by decide) (by decide) ⟨rfl, by unfold ly_add; dsimp only; rw [if_pos (by omega), if_pos (by omega), if_pos (by omega)], rfl⟩
