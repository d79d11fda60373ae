/-! constructors of Tables, Layout -/
section NI
variable {X : cx_T} {M : ms_T} {Q : State → Prop} {k n : Nat} {tys : List (ClassId × FieldType)} {ws pl : va_W} {lv : List (Option Value)} {st : List Value} {pc : Nat}
/-- a new int array; the class of int arrays is known -/
theorem vv_newI (hw : cx_w X) (hAB : ∀ q, cx_A X q → cx_B X q) {cI : ClassId} {z : Int} {N : Nat} (t0 : Nat) (ht : tys[t0]? = some (cI, .int)) (hd : decode M.1 pc = .ok (.newarray .int, 2)) (hz : z = (N : Int) ∧ N < 2147483648) (hby : N * 4 ≤ 536870912) (hc : k + 1 ≤ M.2.2.2.cells ∧ n + N ≤ M.2.2.2.slots)
    (kk : ∀ q : Nat, VV X M Q (k + 1) (n + N) tys ws (pl ++ [ar_I q cI N (fun _ => 0)]) lv (.ref q :: st) (pc + 2)) : VV X M Q k n tys ws pl lv (.int (iI z) :: st) pc :=
  vv_newa (ty := .int) (a0 := (N, .inl (fun _ => iI 0))) hw hAB hd (tb_at 108 rfl rfl) rfl (fun cA => by show arrV cA N (fun _ => .int (iI 0)) = arrV cA N (fun _ => .int 0); rw [iI_0]) hz hby hc (fun q cA C H locs ls hK hP hD hS hl => by
    have h1 : va_RA (cx_s X) cI .int := (hK.2 t0 _ (by rw [List.getElem?_append_left (List.getElem?_eq_some_iff.mp ht).1]; exact ht)).2
    have h2 : va_RA (cx_s X) cA .int := (hK.2 tys.length (cA, .int) (by simp)).2
    have e : cA = cI := Option.some.inj ((show (cx_s X).vm.findClass _ = some cA from h2).symm.trans h1)
    subst e
    exact kk q C H locs ls ⟨hK.1, fun j x hx => hK.2 j x (by rw [List.getElem?_append_left (List.getElem?_eq_some_iff.mp hx).1]; exact hx)⟩ hP hD hS hl)
end NI
abbrev ra_2 : Room := { frames := 1, cells := 2, slots := 4624, locals := 64 }
set_option maxHeartbeats 4000000 in
set_option maxRecDepth 100000 in
theorem c_TB_init (l : Launch) (D : va_G) (cI : ClassId) (a : Nat) (K : Int) : CM l y_TB_init b_TB_init 2 none ra_2 [.ref a, .int (iI K)] D [(cI, .int)] ([(a, .inr (4, [.int (iI 0), .null, .null, .int (iI 0), .int (iI 0)]))] ++ []) (fun v w1 p1 t1 => v = none ∧ (∃ qs qc : Nat, w1 = [ob_TB a qs qc K (-1) 0, ar_I qs cI 2312 (fun _ => 0), ar_I qc cI 2312 (fun _ => 0)]) ∧ p1 = [] ∧ t1 = [(cI, .int)]) := by
  refine cn_of (by decide) (Nat.le_of_ble_eq_true rfl) ?_
  intro X sz hl hr hnm hD hA hw hAB
  subst hD
  show VV X (b_TB_init, 2, "SheetTrees$Tables", ra_2) _ 0 0 [(cI, .int)] [(a, .inr (4, [.int (iI 0), .null, .null, .int (iI 0), .int (iI 0)]))] [] [some (.ref a), some (.int (iI K))] [] 0
  refine vv_aload_n d_TB_init_0 rfl ?_
  refine vv_oinit d_TB_init_1 (tb_at 89 rfl rfl) ⟨by decide, by decide⟩ (by decide) ?_
  refine vv_aload_n d_TB_init_4 rfl ?_
  refine vv_sipush d_TB_init_5 (by decide +kernel) ?_
  refine vv_newI hw hAB (N := 2312) 0 rfl d_TB_init_8 ⟨rfl, by decide⟩ (by decide) ⟨by decide, by decide⟩ (fun q0 => ?_)
  refine vv_toW ?_
  dsimp only [List.cons_append, List.nil_append]
  refine vv_putF hw hnm d_TB_init_10 0 rfl fF_TB_11 rfl rfl (Nat.le_of_ble_eq_true rfl) ?_
  dsimp only [List.set]
  refine vv_aload_n d_TB_init_13 rfl ?_
  refine vv_sipush d_TB_init_14 (by decide +kernel) ?_
  refine vv_newI hw hAB (N := 2312) 0 rfl d_TB_init_17 ⟨rfl, by decide⟩ (by decide) ⟨by decide, by decide⟩ (fun q1 => ?_)
  refine vv_toW ?_
  dsimp only [List.cons_append, List.nil_append]
  refine vv_putF hw hnm d_TB_init_19 0 rfl fF_TB_15 rfl rfl (Nat.le_of_ble_eq_true rfl) ?_
  dsimp only [List.set]
  refine vv_aload_n d_TB_init_22 rfl ?_
  refine vv_iconst d_TB_init_23 ?_
  refine vv_put hw d_TB_init_24 0 rfl fp_TB_18 rfl rfl (Nat.le_of_ble_eq_true rfl) ?_
  dsimp only [List.set]
  refine vv_aload_n d_TB_init_27 rfl ?_
  refine vv_iconst d_TB_init_28 ?_
  refine vv_put hw d_TB_init_29 0 rfl fp_TB_22 rfl rfl (Nat.le_of_ble_eq_true rfl) ?_
  dsimp only [List.set]
  refine vv_aload_n d_TB_init_32 rfl ?_
  refine vv_iload_n d_TB_init_33 rfl ?_
  refine vv_putF hw hnm d_TB_init_34 0 rfl fF_TB_25 rfl rfl (Nat.le_of_ble_eq_true rfl) ?_
  dsimp only [List.set]
  exact vv_vret hA hw hr d_TB_init_37 (by decide) (by decide) (by exact ⟨rfl, ⟨_, _, rfl⟩, rfl, rfl⟩)
set_option maxHeartbeats 4000000 in
set_option maxRecDepth 100000 in
theorem c_LY_init (l : Launch) (D : va_G) (cI : ClassId) (a qt : Nat) : CM l y_LY_init b_LY_init 2 none ra_2 [.ref a, .ref qt] D [(cI, .int)] ([(a, .inr (1, [.null, .null, .null, .int (iI 0), .int (iI 0), .int (iI 0), .int (iI 0)]))] ++ []) (fun v w1 p1 t1 => v = none ∧ (∃ qp qo : Nat, w1 = [ob_LY a qt qp qo 0 (0, 0, 0, (fun _ => 0), (fun _ => 0)), ar_I qp cI 256 (fun _ => 0), ar_I qo cI 8 (fun _ => 0)]) ∧ p1 = [] ∧ t1 = [(cI, .int)]) := by
  refine cn_of (by decide) (Nat.le_of_ble_eq_true rfl) ?_
  intro X sz hl hr hnm hD hA hw hAB
  subst hD
  show VV X (b_LY_init, 2, "SheetTrees$Layout", ra_2) _ 0 0 [(cI, .int)] [(a, .inr (1, [.null, .null, .null, .int (iI 0), .int (iI 0), .int (iI 0), .int (iI 0)]))] [] [some (.ref a), some (.ref qt)] [] 0
  refine vv_aload_n d_LY_init_0 rfl ?_
  refine vv_oinit d_LY_init_1 (tb_at 114 rfl rfl) ⟨by decide, by decide⟩ (by decide) ?_
  refine vv_aload_n d_LY_init_4 rfl ?_
  refine vv_sipush d_LY_init_5 (by decide +kernel) ?_
  refine vv_newI hw hAB (N := 256) 0 rfl d_LY_init_8 ⟨rfl, by decide⟩ (by decide) ⟨by decide, by decide⟩ (fun q0 => ?_)
  refine vv_toW ?_
  dsimp only [List.cons_append, List.nil_append]
  refine vv_putF hw hnm d_LY_init_10 0 rfl fF_LY_9 rfl rfl (Nat.le_of_ble_eq_true rfl) ?_
  dsimp only [List.set]
  refine vv_aload_n d_LY_init_13 rfl ?_
  refine vv_bipush d_LY_init_14 (by decide +kernel) ?_
  refine vv_newI hw hAB (N := 8) 0 rfl d_LY_init_16 ⟨rfl, by decide⟩ (by decide) ⟨by decide, by decide⟩ (fun q1 => ?_)
  refine vv_toW ?_
  dsimp only [List.cons_append, List.nil_append]
  refine vv_putF hw hnm d_LY_init_18 0 rfl fF_LY_15 rfl rfl (Nat.le_of_ble_eq_true rfl) ?_
  dsimp only [List.set]
  refine vv_aload_n d_LY_init_21 rfl ?_
  refine vv_iconst d_LY_init_22 ?_
  refine vv_put hw d_LY_init_23 0 rfl fp_LY_18 rfl rfl (Nat.le_of_ble_eq_true rfl) ?_
  dsimp only [List.set]
  refine vv_aload_n d_LY_init_26 rfl ?_
  refine vv_iconst d_LY_init_27 ?_
  refine vv_put hw d_LY_init_28 0 rfl fp_LY_22 rfl rfl (Nat.le_of_ble_eq_true rfl) ?_
  dsimp only [List.set]
  refine vv_aload_n d_LY_init_31 rfl ?_
  refine vv_iconst d_LY_init_32 ?_
  refine vv_put hw d_LY_init_33 0 rfl fp_LY_25 rfl rfl (Nat.le_of_ble_eq_true rfl) ?_
  dsimp only [List.set]
  refine vv_aload_n d_LY_init_36 rfl ?_
  refine vv_iconst d_LY_init_37 ?_
  refine vv_put hw d_LY_init_38 0 rfl fp_LY_28 rfl rfl (Nat.le_of_ble_eq_true rfl) ?_
  dsimp only [List.set]
  refine vv_aload_n d_LY_init_41 rfl ?_
  refine vv_aload_n d_LY_init_42 rfl ?_
  refine vv_putF hw hnm d_LY_init_43 0 rfl fF_LY_31 rfl rfl (Nat.le_of_ble_eq_true rfl) ?_
  dsimp only [List.set]
  exact vv_vret hA hw hr d_LY_init_46 (by decide) (by decide) (by exact ⟨rfl, ⟨_, _, rfl⟩, rfl, rfl⟩)
