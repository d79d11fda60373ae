/-! Object's constructor; small constructors; SheetTreesLaw.cell -/
section OI
variable {X : cx_T} {M : ms_T} {Q : State → Prop} {k n : Nat} {tys : List (ClassId × FieldType)} {ws pl : va_W} {lv : List (Option Value)} {st : List Value} {pc : Nat}
theorem vv_oinit {idx a : Nat} (hd : decode M.1 pc = .ok (.invokespecial idx, 3)) (hlk : Cond.methodLink M.2.2.1 idx Lib.objectInit ∈ tb_l) (hR : 1 ≤ M.2.2.2.frames ∧ 32 ≤ M.2.2.2.locals) (hst : (st.map fun v => v.category).sum ≤ 8) (kk : VV X M Q k n tys ws pl lv st (pc + 3)) : VV X M Q k n tys ws pl lv (.ref a :: st) pc := fun C H locs ls hK hP hD hS hl => by
  have hts : ∀ w ∈ tb_l, w.before (cx_a X) (cx_s X) = true := fun w hw => C.2.2.2.2.1 w hw _
  have h1 : Cond.instanceMethod Lib.objectInit ∈ tb_l := tb_at 67 rfl rfl
  have h2 : Cond.code Lib.objectInit ⟨#[0xb1]⟩ 1 none ∈ tb_l := tb_at 68 rfl rfl
  intro T hT X0
  obtain ⟨vm', X', stp⟩ := X0.initObject C.1 C.2.2.2.1 (hts _ hlk) (hts _ h1) (hts _ h2) (g := F0 (cx_m X) pc ls (.ref a :: st)) rfl (by rw [C.2.2.1]; exact hl.1) rfl (by rw [C.2.1]; exact hd) hR.1 (by show 2 * 0 + _ + 12 ≤ _; have := hR.2; omega)
  obtain ⟨t, a1, b1⟩ := kk C H locs ls hK hP hD hS hl (T.setVm vm') hT X'
  exact ⟨t, stp t a1, b1⟩
/-- a new object joins the pool -/
theorem vv_newP (hw : cx_w X) (hAB : ∀ q, cx_A X q → cx_B X q) {L : List Nat} {f : Nat → va_E} {Cn : String} {T : u_T} {N ci idx : Nat} {fs : List Value} (hd : decode M.1 pc = .ok (.new idx, 3)) (hin : ∀ w ∈ u_ws Cn T N, w ∈ tb_l) (ty : Nat → FieldType) (hty : ∀ j, j < N → parseFieldDescriptor (T j).2.2.1 = some (ty j)) (hcl : Cond.classLink M.2.2.1 idx Cn ∈ tb_l) (hinst : Cond.instantiable Cn N ∈ tb_l) (hini : Cond.initialized Cn ∈ tb_l) (hci : classes[ci]? = some (Cn, T, N)) (hfs : ∀ j, j < N → defaultValue (ty j) = vp_V fs j) (hc : k + 1 ≤ M.2.2.2.cells ∧ n + N ≤ M.2.2.2.slots)
    (kk : ∀ q : Nat, q ∉ L → VV X M Q (k + 1) (n + N) tys ws (va_pl (L ++ [q]) (va_up f q (.inr (ci, fs)))) lv (.ref q :: st) (pc + 3)) : VV X M Q k n tys ws (va_pl L f) lv st pc :=
  vv_newo hw hAB hd hin ty hty hcl hinst hini hci hfs hc (fun q C H locs ls hK hP hD hS hl => by
    have hq : q ∉ L := va_pl_fresh2 (by rw [List.append_assoc]; exact hD)
    rw [va_pl_push hq] at hP hD
    exact kk q hq C H locs ls hK hP hD hS hl)
end OI
def cel (g : Nat → Int) (N : Nat) (k : Int) : Int := if k < (N : Int) then g k.toNat else 0
set_option maxHeartbeats 4000000 in
set_option maxRecDepth 100000 in
theorem c_LW_cell (l : Launch) (D : va_G) (cI : ClassId) (q N : Nat) (g : Nat → Int) (k : Int) (hk : 0 ≤ k ∧ k < 100) (hN : N < 2147483648) : CP l y_LW_cell b_LW_cell 2 (some .int) rm_0 [.ref q, .int (iI k)] D [(cI, .int)] ([ar_I q cI N g] ++ []) (fun r => r = some (.int (iI (cel g N k)))) := by
  refine cp_of (by decide) (Nat.le_of_ble_eq_true rfl) ?_
  intro X sz hl hr hD hA
  subst hD
  show VV X (b_LW_cell, 2, "SheetTreesLaw", rm_0) _ 0 0 [(cI, .int)] [ar_I q cI N g] [] [some (.ref q), some (.int (iI k))] [] 0
  refine vv_iload_n d_LW_cell_0 rfl ?_
  refine vv_aload_n d_LW_cell_1 rfl ?_
  refine vv_alen d_LW_cell_2 0 0 rfl rfl (v := (N : Int)) rfl ?_
  refine vv_icmp_ge (tgt := 12) d_LW_cell_3 (by decide) ⟨by omega, by omega⟩ (fun c3 => ?_) (fun c3 => ?_)
  · skip
    refine vv_iconst d_LW_cell_12 ?_
    exact vp_iret hA hr d_LW_cell_13 (by decide) (by decide) (by unfold cel; rw [if_neg (by omega)])
  · skip
    refine vv_aload_n d_LW_cell_6 rfl ?_
    refine vv_iload_n d_LW_cell_7 rfl ?_
    refine vv_iald d_LW_cell_8 0 0 rfl rfl (by omega) ?_
    refine vv_goto (tgt := 13) d_LW_cell_9 (by decide) ?_
    exact vp_iret hA hr d_LW_cell_13 (by decide) (by decide) (by unfold cel; rw [if_pos (by omega)])
set_option maxHeartbeats 4000000 in
set_option maxRecDepth 100000 in
theorem c_SH_init (l : Launch) (D : va_G) (L : List Nat) (f : Nat → va_E) (a : Nat) (r : pa_T) (hin : a ∈ L) (hat : f a = ob_SH r) : CM l y_SH_init b_SH_init 1 none rm_1 [.ref a] D [] ([] ++ va_pl L f) (fun v w1 p1 _ => v = none ∧ w1 = [] ∧ p1 = va_pl L (va_up f a (ob_SH ((0, 0, 0, 0, 0) : pa_T)))) := by
  refine cm_of (by decide) (Nat.le_of_ble_eq_true rfl) ?_
  intro X sz hl hr hnm hD hA hw
  subst hD
  show VV X (b_SH_init, 1, "SheetTrees$Sheet", rm_1) _ 0 0 [] [] (va_pl L f) [some (.ref a)] [] 0
  refine vv_enter hat ?_
  refine vv_aload_n d_SH_init_0 rfl ?_
  refine vv_oinit d_SH_init_1 (tb_at 146 rfl rfl) ⟨by decide, by decide⟩ (by decide) ?_
  refine vv_aload_n d_SH_init_4 rfl ?_
  refine vv_iconst d_SH_init_5 ?_
  refine vv_putU hw d_SH_init_6 hin fp_SH_7 rfl rfl (Nat.le_of_ble_eq_true rfl) ?_
  dsimp only [List.set]
  refine vv_aload_n d_SH_init_9 rfl ?_
  refine vv_iconst d_SH_init_10 ?_
  refine vv_putU hw d_SH_init_11 hin fp_SH_13 rfl rfl (Nat.le_of_ble_eq_true rfl) ?_
  dsimp only [List.set]
  refine vv_aload_n d_SH_init_14 rfl ?_
  refine vv_iconst d_SH_init_15 ?_
  refine vv_putU hw d_SH_init_16 hin fp_SH_16 rfl rfl (Nat.le_of_ble_eq_true rfl) ?_
  dsimp only [List.set]
  refine vv_aload_n d_SH_init_19 rfl ?_
  refine vv_iconst d_SH_init_20 ?_
  refine vv_putU hw d_SH_init_21 hin fp_SH_19 rfl rfl (Nat.le_of_ble_eq_true rfl) ?_
  dsimp only [List.set]
  refine vv_aload_n d_SH_init_24 rfl ?_
  refine vv_iconst d_SH_init_25 ?_
  refine vv_putU hw d_SH_init_26 hin fp_SH_22 rfl rfl (Nat.le_of_ble_eq_true rfl) ?_
  dsimp only [List.set]
  exact vv_vret hA hw hr d_SH_init_29 (by decide) (by decide) (by exact ⟨rfl, rfl, rfl⟩)
set_option maxHeartbeats 4000000 in
set_option maxRecDepth 100000 in
theorem c_PA_init (l : Launch) (D : va_G) (L : List Nat) (f : Nat → va_E) (a : Nat) (r : pa_T) (hin : a ∈ L) (hat : f a = ob_PA r) : CM l y_PA_init b_PA_init 1 none rm_1 [.ref a] D [] ([] ++ va_pl L f) (fun v w1 p1 _ => v = none ∧ w1 = [] ∧ p1 = va_pl L (va_up f a (ob_PA ((0, 0, 0, 0, 0) : pa_T)))) := by
  refine cm_of (by decide) (Nat.le_of_ble_eq_true rfl) ?_
  intro X sz hl hr hnm hD hA hw
  subst hD
  show VV X (b_PA_init, 1, "SheetTrees$Part", rm_1) _ 0 0 [] [] (va_pl L f) [some (.ref a)] [] 0
  refine vv_enter hat ?_
  refine vv_aload_n d_PA_init_0 rfl ?_
  refine vv_oinit d_PA_init_1 (tb_at 175 rfl rfl) ⟨by decide, by decide⟩ (by decide) ?_
  refine vv_aload_n d_PA_init_4 rfl ?_
  refine vv_iconst d_PA_init_5 ?_
  refine vv_putU hw d_PA_init_6 hin fp_PA_7 rfl rfl (Nat.le_of_ble_eq_true rfl) ?_
  dsimp only [List.set]
  refine vv_aload_n d_PA_init_9 rfl ?_
  refine vv_iconst d_PA_init_10 ?_
  refine vv_putU hw d_PA_init_11 hin fp_PA_13 rfl rfl (Nat.le_of_ble_eq_true rfl) ?_
  dsimp only [List.set]
  refine vv_aload_n d_PA_init_14 rfl ?_
  refine vv_iconst d_PA_init_15 ?_
  refine vv_putU hw d_PA_init_16 hin fp_PA_16 rfl rfl (Nat.le_of_ble_eq_true rfl) ?_
  dsimp only [List.set]
  refine vv_aload_n d_PA_init_19 rfl ?_
  refine vv_iconst d_PA_init_20 ?_
  refine vv_putU hw d_PA_init_21 hin fp_PA_20 rfl rfl (Nat.le_of_ble_eq_true rfl) ?_
  dsimp only [List.set]
  refine vv_aload_n d_PA_init_24 rfl ?_
  refine vv_iconst d_PA_init_25 ?_
  refine vv_putU hw d_PA_init_26 hin fp_PA_23 rfl rfl (Nat.le_of_ble_eq_true rfl) ?_
  dsimp only [List.set]
  exact vv_vret hA hw hr d_PA_init_29 (by decide) (by decide) (by exact ⟨rfl, rfl, rfl⟩)
set_option maxHeartbeats 4000000 in
set_option maxRecDepth 100000 in
theorem c_CS_init (l : Launch) (D : va_G) (L : List Nat) (f : Nat → va_E) (a : Nat) (c : Nat → Int) (hin : a ∈ L) (hat : f a = ob_CS c) : CM l y_CS_init b_CS_init 1 none rm_1 [.ref a] D [] ([] ++ va_pl L f) (fun v w1 p1 _ => v = none ∧ w1 = [] ∧ p1 = va_pl L (va_up f a (ob_CS (fun _ => 0)))) := by
  refine cm_of (by decide) (Nat.le_of_ble_eq_true rfl) ?_
  intro X sz hl hr hnm hD hA hw
  subst hD
  show VV X (b_CS_init, 1, "SheetTrees$CutSheet", rm_1) _ 0 0 [] [] (va_pl L f) [some (.ref a)] [] 0
  refine vv_enter hat ?_
  refine vv_aload_n d_CS_init_0 rfl ?_
  refine vv_oinit d_CS_init_1 (tb_at 205 rfl rfl) ⟨by decide, by decide⟩ (by decide) ?_
  refine vv_aload_n d_CS_init_4 rfl ?_
  refine vv_iconst d_CS_init_5 ?_
  refine vv_putU hw d_CS_init_6 hin fp_CS_7 rfl rfl (Nat.le_of_ble_eq_true rfl) ?_
  dsimp only [List.set]
  refine vv_aload_n d_CS_init_9 rfl ?_
  refine vv_iconst d_CS_init_10 ?_
  refine vv_putU hw d_CS_init_11 hin fp_CS_13 rfl rfl (Nat.le_of_ble_eq_true rfl) ?_
  dsimp only [List.set]
  refine vv_aload_n d_CS_init_14 rfl ?_
  refine vv_iconst d_CS_init_15 ?_
  refine vv_putU hw d_CS_init_16 hin fp_CS_16 rfl rfl (Nat.le_of_ble_eq_true rfl) ?_
  dsimp only [List.set]
  refine vv_aload_n d_CS_init_19 rfl ?_
  refine vv_iconst d_CS_init_20 ?_
  refine vv_putU hw d_CS_init_21 hin fp_CS_19 rfl rfl (Nat.le_of_ble_eq_true rfl) ?_
  dsimp only [List.set]
  refine vv_aload_n d_CS_init_24 rfl ?_
  refine vv_iconst d_CS_init_25 ?_
  refine vv_putU hw d_CS_init_26 hin fp_CS_22 rfl rfl (Nat.le_of_ble_eq_true rfl) ?_
  dsimp only [List.set]
  refine vv_aload_n d_CS_init_29 rfl ?_
  refine vv_iconst d_CS_init_30 ?_
  refine vv_putU hw d_CS_init_31 hin fp_CS_25 rfl rfl (Nat.le_of_ble_eq_true rfl) ?_
  dsimp only [List.set]
  refine vv_aload_n d_CS_init_34 rfl ?_
  refine vv_iconst d_CS_init_35 ?_
  refine vv_putU hw d_CS_init_36 hin fp_CS_28 rfl rfl (Nat.le_of_ble_eq_true rfl) ?_
  dsimp only [List.set]
  refine vv_aload_n d_CS_init_39 rfl ?_
  refine vv_iconst d_CS_init_40 ?_
  refine vv_putU hw d_CS_init_41 hin fp_CS_31 rfl rfl (Nat.le_of_ble_eq_true rfl) ?_
  dsimp only [List.set]
  refine vv_aload_n d_CS_init_44 rfl ?_
  refine vv_iconst d_CS_init_45 ?_
  refine vv_putU hw d_CS_init_46 hin fp_CS_34 rfl rfl (Nat.le_of_ble_eq_true rfl) ?_
  dsimp only [List.set]
  refine vv_aload_n d_CS_init_49 rfl ?_
  refine vv_iconst d_CS_init_50 ?_
  refine vv_putU hw d_CS_init_51 hin fp_CS_37 rfl rfl (Nat.le_of_ble_eq_true rfl) ?_
  dsimp only [List.set]
  refine vv_aload_n d_CS_init_54 rfl ?_
  refine vv_iconst d_CS_init_55 ?_
  refine vv_putU hw d_CS_init_56 hin fp_CS_40 rfl rfl (Nat.le_of_ble_eq_true rfl) ?_
  dsimp only [List.set]
  refine vv_aload_n d_CS_init_59 rfl ?_
  refine vv_iconst d_CS_init_60 ?_
  refine vv_putU hw d_CS_init_61 hin fp_CS_43 rfl rfl (Nat.le_of_ble_eq_true rfl) ?_
  dsimp only [List.set]
  refine vv_aload_n d_CS_init_64 rfl ?_
  refine vv_iconst d_CS_init_65 ?_
  refine vv_putU hw d_CS_init_66 hin fp_CS_46 rfl rfl (Nat.le_of_ble_eq_true rfl) ?_
  dsimp only [List.set]
  exact vv_vret hA hw hr d_CS_init_69 (by decide) (by decide) (by exact ⟨rfl, rfl, rfl⟩)
