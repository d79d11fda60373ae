/-! Layout.areaToTake, partsUsed -/
def at_sum (co : Nat → Int) (R : Nat → pa_T) : Nat → Int
  | 0 => 0
  | n + 1 => at_sum co R n + min (co n) (R n).2.2.2.2 * ((R n).1 * (R n).2.1)
def pu_m (co : Nat → Int) : Nat → Nat
  | 0 => 0
  | n + 1 => pu_m co n ||| (if 0 < co n then 2 ^ n else 0)
theorem ia_one {p : Nat} (hp : p < 31) : iI 1 <<< (iI (p : Int) &&& 31) = iI ((2 ^ p : Nat) : Int) := by
  rw [iI_nat, iI_nat]
  have h1 : 1 * 2 ^ p < 2 ^ 32 := by rw [Nat.one_mul]; exact Nat.pow_lt_pow_right (by decide) (by omega)
  have h2 := pk_shlN (n := 1) (nI p &&& 31) p (sl_31 p (by omega)) h1
  rw [Nat.one_mul] at h2
  exact h2
set_option maxHeartbeats 4000000 in
set_option maxRecDepth 100000 in
theorem c_LY_areaToTake (l : Launch) (D : va_G) (cI cP : ClassId) (a qt qp qo qa : Nat) (way : Int) (st : ly_T) (fP : Nat → Option Nat) (L : List Nat) (f : Nat → va_E) (aP : Nat → Nat) (R : Nat → pa_T) (hfP : ∀ p : Nat, p < 8 → fP p = some (aP p)) (hPP : PP L f aP R) (hco : ∀ p : Nat, p < 8 → 0 ≤ st.2.2.2.2 p ∧ st.2.2.2.2 p ≤ 1000000) (hlf : ∀ p : Nat, p < 8 → 0 ≤ (R p).2.2.2.2 ∧ (R p).2.2.2.2 ≤ 1000000) : CP l y_LY_areaToTake b_LY_areaToTake 4 (some .int) rm_1 [.ref a, .ref qa] D [(cI, .int), (cP, .object "SheetTrees$Part")] ([ob_LY a qt qp qo way st, ar_I qo cI 8 st.2.2.2.2, ar_Q qa cP 8 fP] ++ va_pl L f) (fun v => v = some (.int (iI (at_sum st.2.2.2.2 R 8)))) := by
  refine cp_of (by decide) (Nat.le_of_ble_eq_true rfl) ?_
  intro X sz hl hr hD hA
  subst hD
  have loop : ∀ m n : Nat, n + m = 8 → VV X (b_LY_areaToTake, 4, "SheetTrees$Layout", rm_1) (cr X sz (fun v => v = some (.int (iI (at_sum st.2.2.2.2 R 8)))) rm_1) 0 0 [(cI, .int), (cP, .object "SheetTrees$Part")] [ob_LY a qt qp qo way st, ar_I qo cI 8 st.2.2.2.2, ar_Q qa cP 8 fP] (va_pl L f) [some (.ref a), some (.ref qa), some (.int (iI (at_sum st.2.2.2.2 R n))), some (.int (iI (n : Int)))] [] 4 := by
    intro m
    induction m with
    | zero =>
      intro n hn
      have hn2 : n = 8 := by omega
      subst hn2
      refine vv_iload_n d_LY_areaToTake_4 rfl ?_
      refine vv_aload_n d_LY_areaToTake_5 rfl ?_
      refine vv_get d_LY_areaToTake_6 0 rfl fl_LY_15 rfl ?_
      refine vv_alen d_LY_areaToTake_9 1 0 rfl rfl (v := 8) rfl ?_
      refine vv_icmp_ge (tgt := 50) d_LY_areaToTake_10 (by decide) ⟨by omega, by omega⟩ (fun c10 => ?_) (fun c10 => ?_)
      · skip
        refine vv_iload_n d_LY_areaToTake_50 rfl ?_
        exact vp_iret hA hr d_LY_areaToTake_51 (by decide) (by decide) rfl
      · exfalso; omega
    | succ m ih =>
      intro n hn
      have hn8 : n < 8 := by omega
      obtain ⟨hin, hat⟩ := hPP n hn8
      have h1 := hco n hn8
      have h2 := hlf n hn8
      refine vv_iload_n d_LY_areaToTake_4 rfl ?_
      refine vv_aload_n d_LY_areaToTake_5 rfl ?_
      refine vv_get d_LY_areaToTake_6 0 rfl fl_LY_15 rfl ?_
      refine vv_alen d_LY_areaToTake_9 1 0 rfl rfl (v := 8) rfl ?_
      refine vv_icmp_ge (tgt := 50) d_LY_areaToTake_10 (by decide) ⟨by omega, by omega⟩ (fun c10 => ?_) (fun c10 => ?_)
      · exfalso; omega
      · skip
        refine vv_iload_n d_LY_areaToTake_13 rfl ?_
        refine vv_aload_n d_LY_areaToTake_14 rfl ?_
        refine vv_alen d_LY_areaToTake_15 2 1 rfl rfl (v := 8) rfl ?_
        refine vv_icmp_ge (tgt := 50) d_LY_areaToTake_16 (by decide) ⟨by omega, by omega⟩ (fun c16 => ?_) (fun c16 => ?_)
        · exfalso; omega
        · skip
          refine vv_iload_n d_LY_areaToTake_19 rfl ?_
          refine vv_aload_n d_LY_areaToTake_20 rfl ?_
          refine vv_get d_LY_areaToTake_21 0 rfl fl_LY_15 rfl ?_
          refine vv_iload_n d_LY_areaToTake_24 rfl ?_
          refine vv_iald d_LY_areaToTake_25 1 0 rfl rfl (by omega) ?_
          rw [Int.toNat_natCast]
          refine vv_aload_n d_LY_areaToTake_26 rfl ?_
          refine vv_iload_n d_LY_areaToTake_27 rfl ?_
          refine vv_aald d_LY_areaToTake_28 2 1 rfl rfl (by omega) (show fP ((n : Int).toNat) = some (aP n) by rw [Int.toNat_natCast]; exact hfP n hn8) ?_
          refine vv_getP d_LY_areaToTake_29 hin hat fl_LY_75 rfl ?_
          refine vv_mmin d_LY_areaToTake_32 lm_LY_80 ⟨by omega, by omega⟩ ⟨by decide, Nat.le_of_ble_eq_true rfl, by decide, by decide⟩ ?_
          refine vv_aload_n d_LY_areaToTake_35 rfl ?_
          refine vv_iload_n d_LY_areaToTake_36 rfl ?_
          refine vv_aald d_LY_areaToTake_37 2 1 rfl rfl (by omega) (show fP ((n : Int).toNat) = some (aP n) by rw [Int.toNat_natCast]; exact hfP n hn8) ?_
          refine vv_pV (wc := []) (plc := va_pl L f) [.int (iI (min (st.2.2.2.2 n) (R n).2.2.2.2)), .int (iI (at_sum st.2.2.2.2 R n))] (c_PA_area (cx_l X) (cx_D X) L f (aP n) (R n) hin hat) lk_LY_86 d_LY_areaToTake_38 rfl (rc_pl hin hat rfl rfl) [] ⟨rfl, rfl, Or.inr rfl⟩ [] rfl ⟨⟨by decide, by decide⟩, ⟨by decide, by decide⟩, Nat.le_of_ble_eq_true rfl⟩ ⟨rfl, rfl⟩ ?_
          intro v hv
          subst hv
          dsimp only [Option.toList, List.cons_append, List.nil_append, List.append_nil]
          refine vv_imul d_LY_areaToTake_41 ?_
          refine vv_iadd d_LY_areaToTake_42 ?_
          refine vv_istore_n d_LY_areaToTake_43 rfl (by decide) ?_
          dsimp only [List.set]
          refine vv_iinc d_LY_areaToTake_44 rfl rfl (by decide) ?_
          dsimp only [List.set]
          refine vv_goto (tgt := 4) d_LY_areaToTake_47 (by decide) ?_
          exact ih (n + 1) (by omega)
  show VV X (b_LY_areaToTake, 4, "SheetTrees$Layout", rm_1) _ 0 0 [(cI, .int), (cP, .object "SheetTrees$Part")] [ob_LY a qt qp qo way st, ar_I qo cI 8 st.2.2.2.2, ar_Q qa cP 8 fP] (va_pl L f) [some (.ref a), some (.ref qa), none, none] [] 0
  refine vv_iconst d_LY_areaToTake_0 ?_
  refine vv_istore_n d_LY_areaToTake_1 rfl (by decide) ?_
  dsimp only [List.set]
  refine vv_iconst d_LY_areaToTake_2 ?_
  refine vv_istore_n d_LY_areaToTake_3 rfl (by decide) ?_
  dsimp only [List.set]
  exact loop 8 0 (by omega)
set_option maxHeartbeats 4000000 in
set_option maxRecDepth 100000 in
theorem c_LY_partsUsed (l : Launch) (D : va_G) (cI : ClassId) (a qt qp qo : Nat) (way : Int) (st : ly_T) (hco : ∀ p : Nat, p < 8 → 0 ≤ st.2.2.2.2 p ∧ st.2.2.2.2 p ≤ 1000000) : CP l y_LY_partsUsed b_LY_partsUsed 3 (some .int) rm_0 [.ref a] D [(cI, .int)] ([ob_LY a qt qp qo way st, ar_I qo cI 8 st.2.2.2.2] ++ []) (fun v => v = some (.int (iI ((pu_m st.2.2.2.2 8 : Nat) : Int)))) := by
  refine cp_of (by decide) (Nat.le_of_ble_eq_true rfl) ?_
  intro X sz hl hr hD hA
  subst hD
  have loop : ∀ m n : Nat, n + m = 8 → VV X (b_LY_partsUsed, 3, "SheetTrees$Layout", rm_0) (cr X sz (fun v => v = some (.int (iI ((pu_m st.2.2.2.2 8 : Nat) : Int)))) rm_0) 0 0 [(cI, .int)] [ob_LY a qt qp qo way st, ar_I qo cI 8 st.2.2.2.2] [] [some (.ref a), some (.int (iI ((pu_m st.2.2.2.2 n : Nat) : Int))), some (.int (iI (n : Int)))] [] 4 := by
    intro m
    induction m with
    | zero =>
      intro n hn
      have hn2 : n = 8 := by omega
      subst hn2
      refine vv_iload_n d_LY_partsUsed_4 rfl ?_
      refine vv_aload_n d_LY_partsUsed_5 rfl ?_
      refine vv_get d_LY_partsUsed_6 0 rfl fl_LY_15 rfl ?_
      refine vv_alen d_LY_partsUsed_9 1 0 rfl rfl (v := 8) rfl ?_
      refine vv_icmp_ge (tgt := 38) d_LY_partsUsed_10 (by decide) ⟨by omega, by omega⟩ (fun c10 => ?_) (fun c10 => ?_)
      · skip
        refine vv_iload_n d_LY_partsUsed_38 rfl ?_
        exact vp_iret hA hr d_LY_partsUsed_39 (by decide) (by decide) (by rfl)
      · exfalso; omega
    | succ m ih =>
      intro n hn
      have h1 := hco n (by omega)
      refine vv_iload_n d_LY_partsUsed_4 rfl ?_
      refine vv_aload_n d_LY_partsUsed_5 rfl ?_
      refine vv_get d_LY_partsUsed_6 0 rfl fl_LY_15 rfl ?_
      refine vv_alen d_LY_partsUsed_9 1 0 rfl rfl (v := 8) rfl ?_
      refine vv_icmp_ge (tgt := 38) d_LY_partsUsed_10 (by decide) ⟨by omega, by omega⟩ (fun c10 => ?_) (fun c10 => ?_)
      · exfalso; omega
      · skip
        refine vv_iload_n d_LY_partsUsed_13 rfl ?_
        refine vv_aload_n d_LY_partsUsed_14 rfl ?_
        refine vv_get d_LY_partsUsed_15 0 rfl fl_LY_15 rfl ?_
        refine vv_iload_n d_LY_partsUsed_18 rfl ?_
        refine vv_iald d_LY_partsUsed_19 1 0 rfl rfl (by omega) ?_
        rw [Int.toNat_natCast]
        refine vv_if_le (tgt := 29) d_LY_partsUsed_20 (by decide) ⟨by omega, by omega⟩ (fun c20 => ?_) (fun c20 => ?_)
        · skip
          refine vv_iconst d_LY_partsUsed_29 ?_
          refine vv_ior d_LY_partsUsed_30 (ia_or (pu_m st.2.2.2.2 n) 0) ?_
          refine vv_istore_n d_LY_partsUsed_31 rfl (by decide) ?_
          dsimp only [List.set]
          refine vv_iinc d_LY_partsUsed_32 rfl rfl (by decide) ?_
          dsimp only [List.set]
          refine vv_goto (tgt := 4) d_LY_partsUsed_35 (by decide) ?_
          have h9 := ih (n + 1) (by omega)
          rw [show pu_m st.2.2.2.2 (n + 1) = pu_m st.2.2.2.2 n ||| 0 by show pu_m st.2.2.2.2 n ||| (if 0 < st.2.2.2.2 n then 2 ^ n else 0) = _; rw [if_neg (by omega)]] at h9
          exact h9
        · skip
          refine vv_iconst d_LY_partsUsed_23 ?_
          refine vv_iload_n d_LY_partsUsed_24 rfl ?_
          refine vv_ishl d_LY_partsUsed_25 (ia_one (by omega)) ?_
          refine vv_goto (tgt := 30) d_LY_partsUsed_26 (by decide) ?_
          refine vv_ior d_LY_partsUsed_30 (ia_or (pu_m st.2.2.2.2 n) (2 ^ n)) ?_
          refine vv_istore_n d_LY_partsUsed_31 rfl (by decide) ?_
          dsimp only [List.set]
          refine vv_iinc d_LY_partsUsed_32 rfl rfl (by decide) ?_
          dsimp only [List.set]
          refine vv_goto (tgt := 4) d_LY_partsUsed_35 (by decide) ?_
          have h9 := ih (n + 1) (by omega)
          rw [show pu_m st.2.2.2.2 (n + 1) = pu_m st.2.2.2.2 n ||| 2 ^ n by show pu_m st.2.2.2.2 n ||| (if 0 < st.2.2.2.2 n then 2 ^ n else 0) = _; rw [if_pos (by omega)]] at h9
          exact h9
  show VV X (b_LY_partsUsed, 3, "SheetTrees$Layout", rm_0) _ 0 0 [(cI, .int)] [ob_LY a qt qp qo way st, ar_I qo cI 8 st.2.2.2.2] [] [some (.ref a), none, none] [] 0
  refine vv_iconst d_LY_partsUsed_0 ?_
  refine vv_istore_n d_LY_partsUsed_1 rfl (by decide) ?_
  dsimp only [List.set]
  refine vv_iconst d_LY_partsUsed_2 ?_
  refine vv_istore_n d_LY_partsUsed_3 rfl (by decide) ?_
  dsimp only [List.set]
  exact loop 8 0 (by omega)
