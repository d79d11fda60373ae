/-! Arrays.fill, and Tables: what writes one place. -/
theorem ar_cg {q N : Nat} {cA : ClassId} {g h : Nat → Int} (e : ∀ j, g j = h j) : ar_I q cA N g = ar_I q cA N h := by rw [show g = h from funext e]
set_option maxHeartbeats 4000000 in
set_option maxRecDepth 100000 in
theorem c_AR_fill (l : Launch) (D : va_G) (cI : ClassId) (q N : Nat) (v : Int) (g : Nat → Int) (hN : N < 2147483648) : CM l y_AR_fill b_AR_fill 4 none rm_0 [.ref q, .int (iI v)] D [(cI, .int)] ([ar_I q cI N g] ++ []) (fun r w1 p1 _ => r = none ∧ w1 = [ar_I q cI N (fun j => if j < N then v else g j)] ∧ p1 = []) := by
  refine cm_of (by decide) (Nat.le_of_ble_eq_true rfl) ?_
  intro X sz hl hr hnm hD hA hw
  subst hD
  have loop : ∀ m i : Nat, i + m = N → VV X (b_AR_fill, 4, "java/util/Arrays", rm_0) (cq X ([ar_I q cI N g] ++ []) sz (fun r w1 p1 _ => r = none ∧ w1 = [ar_I q cI N (fun j => if j < N then v else g j)] ∧ p1 = []) rm_0) 0 0 [(cI, .int)] [ar_I q cI N (fun j => if j < i then v else g j)] [] [some (.ref q), some (.int (iI v)), some (.int (iI (i : Int))), some (.int (iI (N : Int)))] [] 5 := by
    intro m
    induction m with
    | zero =>
      intro i hi
      have hiN : i = N := by omega
      subst hiN
      refine vv_iload_n d_AR_fill_5 rfl ?_
      refine vv_iload_n d_AR_fill_6 rfl ?_
      refine vv_icmp_ge (tgt := 20) d_AR_fill_7 (by decide) (by omega) (fun c7 => ?_) (fun c7 => ?_)
      · exact vv_vret hA hw hr d_AR_fill_20 (by decide) (by decide) ⟨rfl, rfl, rfl⟩
      · omega
    | succ m ih =>
      intro i hi
      refine vv_iload_n d_AR_fill_5 rfl ?_
      refine vv_iload_n d_AR_fill_6 rfl ?_
      refine vv_icmp_ge (tgt := 20) d_AR_fill_7 (by decide) (by omega) (fun c7 => ?_) (fun c7 => ?_)
      · omega
      · skip
        refine vv_aload_n d_AR_fill_10 rfl ?_
        refine vv_iload_n d_AR_fill_11 rfl ?_
        refine vv_iload_n d_AR_fill_12 rfl ?_
        refine vv_iast hw d_AR_fill_13 0 0 rfl rfl (by omega) ?_
        dsimp only [List.set]
        refine vv_iinc d_AR_fill_14 rfl rfl (by decide) ?_
        dsimp only [List.set]
        refine vv_goto (tgt := 5) d_AR_fill_17 (by decide) ?_
        refine vv_cast (congrArg (fun x => [x]) (ar_cg (fun j => ?_))) rfl rfl rfl (ih (i + 1) (by omega))
        rw [Int.toNat_natCast]
        by_cases hj : j = i
        · subst hj
          simp [va_up]
        · by_cases hj2 : j < i
          · simp [va_up, hj, hj2, show j < i + 1 by omega]
          · simp [va_up, hj, hj2, show ¬ j < i + 1 by omega]
  show VV X (b_AR_fill, 4, "java/util/Arrays", rm_0) _ 0 0 [(cI, .int)] [ar_I q cI N g] [] [some (.ref q), some (.int (iI v)), none, none] [] 0
  refine vv_iconst d_AR_fill_0 ?_
  refine vv_istore_n d_AR_fill_1 rfl (by decide) ?_
  dsimp only [List.set]
  refine vv_aload_n d_AR_fill_2 rfl ?_
  refine vv_alen d_AR_fill_3 0 0 rfl rfl (v := (N : Int)) rfl ?_
  refine vv_istore_n d_AR_fill_4 rfl (by decide) ?_
  dsimp only [List.set]
  have h0 := loop N 0 (by omega)
  simp only [Nat.not_lt_zero, if_false] at h0
  exact h0
set_option maxHeartbeats 4000000 in
set_option maxRecDepth 100000 in
theorem c_TB_put (l : Launch) (D : va_G) (cI : ClassId) (a qs qc : Nat) (K W F z u x : Int) (sc ch : Nat → Int) (hz : 0 ≤ z ∧ z < 2312) : CM l y_TB_put b_TB_put 4 none rm_0 [.ref a, .int (iI z), .int (iI u), .int (iI x)] D [(cI, .int)] ([ob_TB a qs qc K W F, ar_I qs cI 2312 sc, ar_I qc cI 2312 ch] ++ []) (fun r w1 p1 _ => r = none ∧ w1 = [ob_TB a qs qc K W F, ar_I qs cI 2312 (va_up sc z.toNat u), ar_I qc cI 2312 (va_up ch z.toNat x)] ∧ p1 = []) := by
  refine cm_of (by decide) (Nat.le_of_ble_eq_true rfl) ?_
  intro X sz hl hr hnm hD hA hw
  subst hD
  show VV X (b_TB_put, 4, "SheetTrees$Tables", rm_0) _ 0 0 [(cI, .int)] [ob_TB a qs qc K W F, ar_I qs cI 2312 sc, ar_I qc cI 2312 ch] [] [some (.ref a), some (.int (iI z)), some (.int (iI u)), some (.int (iI x))] [] 0
  refine vv_iload_n d_TB_put_0 rfl ?_
  refine vv_if_lt (tgt := 36) d_TB_put_1 (by decide) (by omega) (fun c1 => ?_) (fun c1 => ?_)
  · omega
  · skip
    refine vv_iload_n d_TB_put_4 rfl ?_
    refine vv_aload_n d_TB_put_5 rfl ?_
    refine vv_get d_TB_put_6 0 rfl fl_TB_11 rfl ?_
    refine vv_alen d_TB_put_9 1 0 rfl rfl (v := 2312) rfl ?_
    refine vv_icmp_ge (tgt := 36) d_TB_put_10 (by decide) (by omega) (fun c10 => ?_) (fun c10 => ?_)
    · omega
    · skip
      refine vv_iload_n d_TB_put_13 rfl ?_
      refine vv_aload_n d_TB_put_14 rfl ?_
      refine vv_get d_TB_put_15 0 rfl fl_TB_15 rfl ?_
      refine vv_alen d_TB_put_18 2 0 rfl rfl (v := 2312) rfl ?_
      refine vv_icmp_ge (tgt := 36) d_TB_put_19 (by decide) (by omega) (fun c19 => ?_) (fun c19 => ?_)
      · omega
      · skip
        refine vv_aload_n d_TB_put_22 rfl ?_
        refine vv_get d_TB_put_23 0 rfl fl_TB_11 rfl ?_
        refine vv_iload_n d_TB_put_26 rfl ?_
        refine vv_iload_n d_TB_put_27 rfl ?_
        refine vv_iast hw d_TB_put_28 1 0 rfl rfl (by omega) ?_
        dsimp only [List.set]
        refine vv_aload_n d_TB_put_29 rfl ?_
        refine vv_get d_TB_put_30 0 rfl fl_TB_15 rfl ?_
        refine vv_iload_n d_TB_put_33 rfl ?_
        refine vv_iload_n d_TB_put_34 rfl ?_
        refine vv_iast hw d_TB_put_35 2 0 rfl rfl (by omega) ?_
        dsimp only [List.set]
        exact vv_vret hA hw hr d_TB_put_36 (by decide) (by decide) (by exact ⟨rfl, rfl, rfl⟩)
