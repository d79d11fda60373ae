/-! SheetTrees: takePart, keepRest, firstAlike, partsTold, partsStillWanted, startRun -/
set_option maxHeartbeats 4000000 in
set_option maxRecDepth 100000 in
theorem c_ST_takePart_y (l : Launch) (D : va_G) (x qsh qpa qcu qtk qrs qt ql : Nat) (S le nS nP nC nT nR rn : Int) (cI : ClassId) (ac ap : Nat) (q : Int) (tk c : Nat → Int) (r : pa_T) (L : List Nat) (f : Nat → va_E) (hin : ac ∈ L) (hat : f ac = ob_CS c) (hin2 : ap ∈ L) (hat2 : f ap = ob_PA r) (hlf : r.2.2.2.2 ≤ 1000000 ∧ -1000000 ≤ r.2.2.2.2) (hp : 0 < r.2.2.2.2) (hn : 0 ≤ nT ∧ nT < 400) : CM l y_ST_takePart b_ST_takePart 4 none rm_1 [.ref x, .ref ac, .ref ap, .int (iI q)] D [(cI, .int)] ([ob_ST x qsh qpa qcu qtk qrs qt ql S le nS nP nC nT nR rn, ar_I qtk cI 400 tk] ++ va_pl L f) (fun v w1 p1 _ => v = none ∧ w1 = [ob_ST x qsh qpa qcu qtk qrs qt ql S le nS nP nC (nT + 1) nR rn, ar_I qtk cI 400 (va_up tk nT.toNat q)] ∧ p1 = va_pl L (va_up (va_up f ap (ob_PA (r.1, r.2.1, r.2.2.1, r.2.2.2.1, r.2.2.2.2 - 1))) ac (ob_CS (va_up c 9 (c 9 + r.1 * r.2.1))))) := by
  refine cm_of (by decide) (Nat.le_of_ble_eq_true rfl) ?_
  intro X sz hl hr hnm hD hA hw
  subst hD
  have hne : ac ≠ ap := ne_of_f hat hat2 (by decide)
  show VV X (b_ST_takePart, 4, "SheetTrees", rm_1) _ 0 0 [(cI, .int)] [ob_ST x qsh qpa qcu qtk qrs qt ql S le nS nP nC nT nR rn, ar_I qtk cI 400 tk] (va_pl L f) [some (.ref x), some (.ref ac), some (.ref ap), some (.int (iI q))] [] 0
  refine vv_aload_n d_ST_takePart_0 rfl ?_
  refine vv_getP d_ST_takePart_1 hin2 hat2 fl_ST_221 rfl ?_
  refine vv_if_le (tgt := 59) d_ST_takePart_4 (by decide) ⟨by omega, by omega⟩ (fun c4 => ?_) (fun c4 => ?_)
  · exfalso; omega
  · skip
    refine vv_aload_n d_ST_takePart_7 rfl ?_
    refine vv_get d_ST_takePart_8 0 rfl fl_ST_44 rfl ?_
    refine vv_aload_n d_ST_takePart_11 rfl ?_
    refine vv_get d_ST_takePart_12 0 rfl fl_ST_27 rfl ?_
    refine vv_alen d_ST_takePart_15 1 0 rfl rfl (v := 400) rfl ?_
    refine vv_icmp_ge (tgt := 59) d_ST_takePart_16 (by decide) ⟨by omega, by omega⟩ (fun c16 => ?_) (fun c16 => ?_)
    · exfalso; omega
    · skip
      refine vv_enter hat2 ?_
      refine vv_aload_n d_ST_takePart_19 rfl ?_
      refine vv_dup d_ST_takePart_20 rfl ?_
      refine vv_getU d_ST_takePart_21 hin2 fl_ST_221 rfl ?_
      refine vv_iconst d_ST_takePart_24 ?_
      refine vv_isub d_ST_takePart_25 ?_
      refine vv_putU hw d_ST_takePart_26 hin2 fp_ST_221 rfl rfl (Nat.le_of_ble_eq_true rfl) ?_
      dsimp only [List.set]
      refine vv_enter (a := ac) ((va_up_ne _ _ hne).trans hat) ?_
      refine vv_aload_n d_ST_takePart_29 rfl ?_
      refine vv_dup d_ST_takePart_30 rfl ?_
      refine vv_getU d_ST_takePart_31 hin fl_ST_173 rfl ?_
      refine vv_aload_n d_ST_takePart_34 rfl ?_
      refine vv_pV (wc := []) (plc := va_pl L _) [.int (iI (c 9)), .ref ac] (c_PA_area (cx_l X) (cx_D X) L _ ap (r.1, r.2.1, r.2.2.1, r.2.2.2.1, r.2.2.2.2 - 1) hin2 ((va_up_ne _ _ (Ne.symm hne)).trans (va_up_self _ _ _))) lk_ST_237 d_ST_takePart_35 rfl (rc_pl hin2 ((va_up_ne _ _ (Ne.symm hne)).trans (va_up_self _ _ _)) rfl rfl) [] ⟨rfl, rfl, Or.inr rfl⟩ [] rfl ⟨⟨by decide, by decide⟩, ⟨by decide, by decide⟩, Nat.le_of_ble_eq_true rfl⟩ ⟨rfl, rfl⟩ ?_
      intro v hv
      subst hv
      dsimp only [Option.toList, List.cons_append, List.nil_append, List.append_nil]
      refine vv_iadd d_ST_takePart_38 ?_
      refine vv_putU hw d_ST_takePart_39 hin fp_ST_173 rfl rfl (Nat.le_of_ble_eq_true rfl) ?_
      dsimp only [List.set]
      refine vv_aload_n d_ST_takePart_42 rfl ?_
      refine vv_get d_ST_takePart_43 0 rfl fl_ST_27 rfl ?_
      refine vv_aload_n d_ST_takePart_46 rfl ?_
      refine vv_dup d_ST_takePart_47 rfl ?_
      refine vv_get d_ST_takePart_48 0 rfl fl_ST_44 rfl ?_
      refine vv_dup_x1 d_ST_takePart_51 rfl rfl ?_
      refine vv_iconst d_ST_takePart_52 ?_
      refine vv_iadd d_ST_takePart_53 ?_
      refine vv_put hw d_ST_takePart_54 0 rfl fp_ST_44 rfl rfl (Nat.le_of_ble_eq_true rfl) ?_
      dsimp only [List.set]
      refine vv_iload_n d_ST_takePart_57 rfl ?_
      refine vv_iast hw d_ST_takePart_58 1 0 rfl rfl (by omega) ?_
      dsimp only [List.set]
      exact vv_vret hA hw hr d_ST_takePart_59 (by decide) (by decide) (by exact ⟨rfl, rfl, rfl⟩)
set_option maxHeartbeats 4000000 in
set_option maxRecDepth 100000 in
theorem c_ST_takePart_n (l : Launch) (D : va_G) (x qsh qpa qcu qtk qrs qt ql : Nat) (S le nS nP nC nT nR rn : Int) (cI : ClassId) (ac ap : Nat) (q : Int) (tk c : Nat → Int) (r : pa_T) (L : List Nat) (f : Nat → va_E) (hin : ac ∈ L) (hat : f ac = ob_CS c) (hin2 : ap ∈ L) (hat2 : f ap = ob_PA r) (hlf : r.2.2.2.2 ≤ 1000000 ∧ -1000000 ≤ r.2.2.2.2) (hp : r.2.2.2.2 ≤ 0) : CM l y_ST_takePart b_ST_takePart 4 none rm_1 [.ref x, .ref ac, .ref ap, .int (iI q)] D [(cI, .int)] ([ob_ST x qsh qpa qcu qtk qrs qt ql S le nS nP nC nT nR rn, ar_I qtk cI 400 tk] ++ va_pl L f) (fun v w1 p1 _ => v = none ∧ w1 = [ob_ST x qsh qpa qcu qtk qrs qt ql S le nS nP nC nT nR rn, ar_I qtk cI 400 tk] ∧ p1 = va_pl L f) := by
  refine cm_of (by decide) (Nat.le_of_ble_eq_true rfl) ?_
  intro X sz hl hr hnm hD hA hw
  subst hD
  have hne : ac ≠ ap := ne_of_f hat hat2 (by decide)
  show VV X (b_ST_takePart, 4, "SheetTrees", rm_1) _ 0 0 [(cI, .int)] [ob_ST x qsh qpa qcu qtk qrs qt ql S le nS nP nC nT nR rn, ar_I qtk cI 400 tk] (va_pl L f) [some (.ref x), some (.ref ac), some (.ref ap), some (.int (iI q))] [] 0
  refine vv_aload_n d_ST_takePart_0 rfl ?_
  refine vv_getP d_ST_takePart_1 hin2 hat2 fl_ST_221 rfl ?_
  refine vv_if_le (tgt := 59) d_ST_takePart_4 (by decide) ⟨by omega, by omega⟩ (fun c4 => ?_) (fun c4 => ?_)
  · skip
    exact vv_vret hA hw hr d_ST_takePart_59 (by decide) (by decide) (by exact ⟨rfl, rfl, rfl⟩)
  · exfalso; omega
set_option maxHeartbeats 4000000 in
set_option maxRecDepth 100000 in
theorem c_ST_keepRest_y (l : Launch) (D : va_G) (x qsh qpa qcu qtk qrs qt ql : Nat) (S le nS nP nC nT nR rn : Int) (cI : ClassId) (q : Int) (rs : Nat → Int) (hq : 0 ≤ q ∧ q < 2147483648) (hle : 1 ≤ le ∧ le ≤ 16) (hp : le ≤ pf_z q 3 ∧ le ≤ pf_z q 4) (hn : 0 ≤ nR ∧ nR < 5120) : CM l y_ST_keepRest b_ST_keepRest 2 none rm_2 [.ref x, .int (iI q)] D [(cI, .int)] ([ob_ST x qsh qpa qcu qtk qrs qt ql S le nS nP nC nT nR rn, ar_I qrs cI 5120 rs] ++ []) (fun v w1 p1 _ => v = none ∧ w1 = [ob_ST x qsh qpa qcu qtk qrs qt ql S le nS nP nC nT (nR + 1) rn, ar_I qrs cI 5120 (va_up rs nR.toNat q)] ∧ p1 = []) := by
  refine cm_of (by decide) (Nat.le_of_ble_eq_true rfl) ?_
  intro X sz hl hr hnm hD hA hw
  subst hD
  show VV X (b_ST_keepRest, 2, "SheetTrees", rm_2) _ 0 0 [(cI, .int)] [ob_ST x qsh qpa qcu qtk qrs qt ql S le nS nP nC nT nR rn, ar_I qrs cI 5120 rs] [] [some (.ref x), some (.int (iI q))] [] 0
  refine vv_iload_n d_ST_keepRest_0 rfl ?_
  refine vv_aload_n d_ST_keepRest_1 rfl ?_
  refine vv_get d_ST_keepRest_2 0 rfl fl_ST_61 rfl ?_
  refine vv_pS (wc := []) (plc := []) [] (c_PI_isAtLeast (cx_l X) (cx_D X) q le hq hle) lk_ST_282 d_ST_keepRest_5 rfl [] ⟨rfl, rfl, Or.inl rfl⟩ [] rfl ⟨⟨by decide, by decide⟩, ⟨by decide, by decide⟩, Nat.le_of_ble_eq_true rfl⟩ ⟨rfl, rfl⟩ ?_
  intro v hv
  subst hv
  dsimp only [Option.toList, List.cons_append, List.nil_append, List.append_nil]
  rw [if_pos hp]
  refine vv_if_eq (tgt := 40) d_ST_keepRest_8 (by decide) ⟨by omega, by omega⟩ (fun c8 => ?_) (fun c8 => ?_)
  · exfalso; omega
  · skip
    refine vv_aload_n d_ST_keepRest_11 rfl ?_
    refine vv_get d_ST_keepRest_12 0 rfl fl_ST_47 rfl ?_
    refine vv_aload_n d_ST_keepRest_15 rfl ?_
    refine vv_get d_ST_keepRest_16 0 rfl fl_ST_31 rfl ?_
    refine vv_alen d_ST_keepRest_19 1 0 rfl rfl (v := 5120) rfl ?_
    refine vv_icmp_ge (tgt := 40) d_ST_keepRest_20 (by decide) ⟨by omega, by omega⟩ (fun c20 => ?_) (fun c20 => ?_)
    · exfalso; omega
    · skip
      refine vv_aload_n d_ST_keepRest_23 rfl ?_
      refine vv_get d_ST_keepRest_24 0 rfl fl_ST_31 rfl ?_
      refine vv_aload_n d_ST_keepRest_27 rfl ?_
      refine vv_dup d_ST_keepRest_28 rfl ?_
      refine vv_get d_ST_keepRest_29 0 rfl fl_ST_47 rfl ?_
      refine vv_dup_x1 d_ST_keepRest_32 rfl rfl ?_
      refine vv_iconst d_ST_keepRest_33 ?_
      refine vv_iadd d_ST_keepRest_34 ?_
      refine vv_put hw d_ST_keepRest_35 0 rfl fp_ST_47 rfl rfl (Nat.le_of_ble_eq_true rfl) ?_
      dsimp only [List.set]
      refine vv_iload_n d_ST_keepRest_38 rfl ?_
      refine vv_iast hw d_ST_keepRest_39 1 0 rfl rfl (by omega) ?_
      dsimp only [List.set]
      exact vv_vret hA hw hr d_ST_keepRest_40 (by decide) (by decide) (by exact ⟨rfl, rfl, rfl⟩)
set_option maxHeartbeats 4000000 in
set_option maxRecDepth 100000 in
theorem c_ST_keepRest_n (l : Launch) (D : va_G) (x qsh qpa qcu qtk qrs qt ql : Nat) (S le nS nP nC nT nR rn : Int) (cI : ClassId) (q : Int) (rs : Nat → Int) (hq : 0 ≤ q ∧ q < 2147483648) (hle : 1 ≤ le ∧ le ≤ 16) (hp : ¬ (le ≤ pf_z q 3 ∧ le ≤ pf_z q 4)) : CM l y_ST_keepRest b_ST_keepRest 2 none rm_2 [.ref x, .int (iI q)] D [(cI, .int)] ([ob_ST x qsh qpa qcu qtk qrs qt ql S le nS nP nC nT nR rn, ar_I qrs cI 5120 rs] ++ []) (fun v w1 p1 _ => v = none ∧ w1 = [ob_ST x qsh qpa qcu qtk qrs qt ql S le nS nP nC nT nR rn, ar_I qrs cI 5120 rs] ∧ p1 = []) := by
  refine cm_of (by decide) (Nat.le_of_ble_eq_true rfl) ?_
  intro X sz hl hr hnm hD hA hw
  subst hD
  show VV X (b_ST_keepRest, 2, "SheetTrees", rm_2) _ 0 0 [(cI, .int)] [ob_ST x qsh qpa qcu qtk qrs qt ql S le nS nP nC nT nR rn, ar_I qrs cI 5120 rs] [] [some (.ref x), some (.int (iI q))] [] 0
  refine vv_iload_n d_ST_keepRest_0 rfl ?_
  refine vv_aload_n d_ST_keepRest_1 rfl ?_
  refine vv_get d_ST_keepRest_2 0 rfl fl_ST_61 rfl ?_
  refine vv_pS (wc := []) (plc := []) [] (c_PI_isAtLeast (cx_l X) (cx_D X) q le hq hle) lk_ST_282 d_ST_keepRest_5 rfl [] ⟨rfl, rfl, Or.inl rfl⟩ [] rfl ⟨⟨by decide, by decide⟩, ⟨by decide, by decide⟩, Nat.le_of_ble_eq_true rfl⟩ ⟨rfl, rfl⟩ ?_
  intro v hv
  subst hv
  dsimp only [Option.toList, List.cons_append, List.nil_append, List.append_nil]
  rw [if_neg hp]
  refine vv_if_eq (tgt := 40) d_ST_keepRest_8 (by decide) ⟨by omega, by omega⟩ (fun c8 => ?_) (fun c8 => ?_)
  · skip
    exact vv_vret hA hw hr d_ST_keepRest_40 (by decide) (by decide) (by exact ⟨rfl, rfl, rfl⟩)
  · exfalso; omega
def al_z (u m : Int) : Int := (iI u &&& (iI m ^^^ iI (-1))).toInt
def fa_at (Cs : Nat → Nat → Int) (sh W : Int) : Nat → Nat → Nat
  | 0, i => i
  | n + 1, i => if Cs i 0 = sh ∧ al_z (Cs i 6) W = 0 then i else fa_at Cs sh W n (i + 1)
set_option maxHeartbeats 4000000 in
set_option maxRecDepth 100000 in
theorem c_ST_firstAlike (l : Launch) (D : va_G) (x qsh qpa qcu qtk qrs qt ql qs qc nC : Nat) (S le nS nP nT nR rn K W F : Int) (cI cC : ClassId) (fC : Nat → Option Nat) (L : List Nat) (f : Nat → va_E) (aC : Nat → Nat) (Cs : Nat → Nat → Int) (j : Nat) (hj : j < 20) (hnC : nC ≤ 20) (hfC : ∀ i : Nat, i < 20 → fC i = some (aC i)) (hCC : CC L f aC Cs) (hb : ∀ i : Nat, i < 20 → -2147483648 ≤ Cs i 0 ∧ Cs i 0 < 2147483648) : CP l y_ST_firstAlike b_ST_firstAlike 5 (some .int) rm_0 [.ref x, .ref (aC j)] D [(cI, .int), (cC, .object "SheetTrees$CutSheet")] ([ob_ST x qsh qpa qcu qtk qrs qt ql S le nS nP (nC : Int) nT nR rn, ar_Q qcu cC 20 fC, ob_TB qt qs qc K W F] ++ va_pl L f) (fun v => v = some (.int (iI ((fa_at Cs (Cs j 0) W nC 0 : Nat) : Int)))) := by
  refine cp_of (by decide) (Nat.le_of_ble_eq_true rfl) ?_
  intro X sz hl hr hD hA
  subst hD
  obtain ⟨hinj, hatj⟩ := hCC j hj
  have hbj := hb j hj
  have loop : ∀ fin : Nat, fa_at Cs (Cs j 0) W nC 0 = fin → ∀ m i : Nat, i + m = nC → fa_at Cs (Cs j 0) W m i = fin → VV X (b_ST_firstAlike, 5, "SheetTrees", rm_0) (cr X sz (fun v => v = some (.int (iI ((fa_at Cs (Cs j 0) W nC 0 : Nat) : Int)))) rm_0) 0 0 [(cI, .int), (cC, .object "SheetTrees$CutSheet")] [ob_ST x qsh qpa qcu qtk qrs qt ql S le nS nP (nC : Int) nT nR rn, ar_Q qcu cC 20 fC, ob_TB qt qs qc K W F] (va_pl L f) [some (.ref x), some (.ref (aC j)), some (.int (iI W)), some (.int (iI (i : Int))), none] [] 10 := by
    intro fin hfin m
    induction m with
    | zero =>
      intro i hi he
      unfold fa_at at he
      refine vv_iload_n d_ST_firstAlike_10 rfl ?_
      refine vv_aload_n d_ST_firstAlike_11 rfl ?_
      refine vv_get d_ST_firstAlike_12 0 rfl fl_ST_41 rfl ?_
      refine vv_icmp_ge (tgt := 67) d_ST_firstAlike_15 (by decide) ⟨by omega, by omega⟩ (fun c15 => ?_) (fun c15 => ?_)
      · skip
        refine vv_aload_n d_ST_firstAlike_67 rfl ?_
        refine vv_get d_ST_firstAlike_68 0 rfl fl_ST_41 rfl ?_
        exact vp_iret hA hr d_ST_firstAlike_71 (by decide) (by decide) (by rw [hfin, ← he, show i = nC by omega])
      · exfalso; omega
    | succ m ih =>
      intro i hi he
      unfold fa_at at he
      have hi20 : i < 20 := by omega
      obtain ⟨hin, hat⟩ := hCC i hi20
      have hbi := hb i hi20
      have hz1 := iI_lo (iI (Cs i 6) &&& (iI W ^^^ iI (-1)))
      have hz2 := iI_hi (iI (Cs i 6) &&& (iI W ^^^ iI (-1)))
      refine vv_iload_n d_ST_firstAlike_10 rfl ?_
      refine vv_aload_n d_ST_firstAlike_11 rfl ?_
      refine vv_get d_ST_firstAlike_12 0 rfl fl_ST_41 rfl ?_
      refine vv_icmp_ge (tgt := 67) d_ST_firstAlike_15 (by decide) ⟨by omega, by omega⟩ (fun c15 => ?_) (fun c15 => ?_)
      · exfalso; omega
      · skip
        refine vv_iload_n d_ST_firstAlike_18 rfl ?_
        refine vv_aload_n d_ST_firstAlike_19 rfl ?_
        refine vv_get d_ST_firstAlike_20 0 rfl fl_ST_23 rfl ?_
        refine vv_alen d_ST_firstAlike_23 1 1 rfl rfl (v := 20) rfl ?_
        refine vv_icmp_ge (tgt := 67) d_ST_firstAlike_24 (by decide) ⟨by omega, by omega⟩ (fun c24 => ?_) (fun c24 => ?_)
        · exfalso; omega
        · skip
          refine vv_aload_n d_ST_firstAlike_27 rfl ?_
          refine vv_get d_ST_firstAlike_28 0 rfl fl_ST_23 rfl ?_
          refine vv_iload_n d_ST_firstAlike_31 rfl ?_
          refine vv_aald d_ST_firstAlike_32 1 1 rfl rfl (by omega) (show fC ((i : Int).toNat) = some (aC i) by rw [Int.toNat_natCast]; exact hfC i hi20) ?_
          refine vv_astore d_ST_firstAlike_33 rfl (by decide) ?_
          dsimp only [List.set]
          refine vv_aload d_ST_firstAlike_35 rfl ?_
          refine vv_getP d_ST_firstAlike_37 hin hat fl_ST_169 rfl ?_
          refine vv_aload_n d_ST_firstAlike_40 rfl ?_
          refine vv_getP d_ST_firstAlike_41 hinj hatj fl_ST_169 rfl ?_
          refine vv_icmp_ne (tgt := 61) d_ST_firstAlike_44 (by decide) ⟨by omega, by omega⟩ (fun c44 => ?_) (fun c44 => ?_)
          · skip
            refine vv_iinc d_ST_firstAlike_61 rfl rfl (by decide) ?_
            dsimp only [List.set]
            refine vv_goto (tgt := 10) d_ST_firstAlike_64 (by decide) ?_
            rw [if_neg (by omega)] at he
            exact vv_le (by repeat (first | exact lo_le_nil _ | refine lo_le_cons _ ?_ | refine lo_le_none _ ?_)) (ih (i + 1) (by omega) he)
          · skip
            refine vv_aload d_ST_firstAlike_47 rfl ?_
            refine vv_getP d_ST_firstAlike_49 hin hat fl_ST_289 rfl ?_
            refine vv_iload_n d_ST_firstAlike_52 rfl ?_
            refine vv_iconst d_ST_firstAlike_53 ?_
            refine vv_ixor d_ST_firstAlike_54 rfl ?_
            refine vv_iand d_ST_firstAlike_55 (v := iI (al_z (Cs i 6) W)) (iI_self _).symm ?_
            refine vv_if_ne (tgt := 61) d_ST_firstAlike_56 (by decide) ⟨by unfold al_z; omega, by unfold al_z; omega⟩ (fun c56 => ?_) (fun c56 => ?_)
            · skip
              refine vv_iinc d_ST_firstAlike_61 rfl rfl (by decide) ?_
              dsimp only [List.set]
              refine vv_goto (tgt := 10) d_ST_firstAlike_64 (by decide) ?_
              rw [if_neg (by omega)] at he
              exact vv_le (by repeat (first | exact lo_le_nil _ | refine lo_le_cons _ ?_ | refine lo_le_none _ ?_)) (ih (i + 1) (by omega) he)
            · skip
              refine vv_iload_n d_ST_firstAlike_59 rfl ?_
              rw [if_pos ⟨by omega, by omega⟩] at he
              exact vp_iret hA hr d_ST_firstAlike_60 (by decide) (by decide) (by rw [hfin, ← he])
  show VV X (b_ST_firstAlike, 5, "SheetTrees", rm_0) _ 0 0 [(cI, .int), (cC, .object "SheetTrees$CutSheet")] [ob_ST x qsh qpa qcu qtk qrs qt ql S le nS nP (nC : Int) nT nR rn, ar_Q qcu cC 20 fC, ob_TB qt qs qc K W F] (va_pl L f) [some (.ref x), some (.ref (aC j)), none, none, none] [] 0
  refine vv_aload_n d_ST_firstAlike_0 rfl ?_
  refine vv_get d_ST_firstAlike_1 0 rfl fl_ST_69 rfl ?_
  refine vv_get d_ST_firstAlike_4 2 rfl fl_ST_286 rfl ?_
  refine vv_istore_n d_ST_firstAlike_7 rfl (by decide) ?_
  dsimp only [List.set]
  refine vv_iconst d_ST_firstAlike_8 ?_
  refine vv_istore_n d_ST_firstAlike_9 rfl (by decide) ?_
  dsimp only [List.set]
  exact loop _ rfl nC 0 (by omega) rfl
set_option maxHeartbeats 4000000 in
set_option maxRecDepth 100000 in
theorem c_ST_partsTold (l : Launch) (D : va_G) (x qsh qpa qcu qtk qrs qt ql nP : Nat) (S le nS nC nT nR rn : Int) (cP : ClassId) (fP : Nat → Option Nat) (L : List Nat) (f : Nat → va_E) (aP : Nat → Nat) (R : Nat → pa_T) (hnP : nP ≤ 8) (hfP : ∀ i : Nat, i < 8 → fP i = some (aP i)) (hPP : PP L f aP R) (hb : ∀ i : Nat, i < 8 → 0 ≤ (R i).2.2.2.1 ∧ (R i).2.2.2.1 ≤ 1000000) : CP l y_ST_partsTold b_ST_partsTold 3 (some .int) rm_0 [.ref x] D [(cP, .object "SheetTrees$Part")] ([ob_ST x qsh qpa qcu qtk qrs qt ql S le nS (nP : Int) nC nT nR rn, ar_Q qpa cP 8 fP] ++ va_pl L f) (fun v => v = some (.int (iI ((pu_m (fun p => (R p).2.2.2.1) nP : Nat) : Int)))) := by
  refine cp_of (by decide) (Nat.le_of_ble_eq_true rfl) ?_
  intro X sz hl hr hD hA
  subst hD
  have loop : ∀ m i : Nat, i + m = nP → VV X (b_ST_partsTold, 3, "SheetTrees", rm_0) (cr X sz (fun v => v = some (.int (iI ((pu_m (fun p => (R p).2.2.2.1) nP : Nat) : Int)))) rm_0) 0 0 [(cP, .object "SheetTrees$Part")] [ob_ST x qsh qpa qcu qtk qrs qt ql S le nS (nP : Int) nC nT nR rn, ar_Q qpa cP 8 fP] (va_pl L f) [some (.ref x), some (.int (iI ((pu_m (fun p => (R p).2.2.2.1) i : Nat) : Int))), some (.int (iI (i : Int)))] [] 4 := by
    intro m
    induction m with
    | zero =>
      intro i hi
      refine vv_iload_n d_ST_partsTold_4 rfl ?_
      refine vv_aload_n d_ST_partsTold_5 rfl ?_
      refine vv_get d_ST_partsTold_6 0 rfl fl_ST_38 rfl ?_
      refine vv_icmp_ge (tgt := 49) d_ST_partsTold_9 (by decide) ⟨by omega, by omega⟩ (fun c9 => ?_) (fun c9 => ?_)
      · skip
        refine vv_iload_n d_ST_partsTold_49 rfl ?_
        exact vp_iret hA hr d_ST_partsTold_50 (by decide) (by decide) (by rw [show i = nP by omega])
      · exfalso; omega
    | succ m ih =>
      intro i hi
      have hi8 : i < 8 := by omega
      obtain ⟨hin, hat⟩ := hPP i hi8
      have h1 := hb i hi8
      refine vv_iload_n d_ST_partsTold_4 rfl ?_
      refine vv_aload_n d_ST_partsTold_5 rfl ?_
      refine vv_get d_ST_partsTold_6 0 rfl fl_ST_38 rfl ?_
      refine vv_icmp_ge (tgt := 49) d_ST_partsTold_9 (by decide) ⟨by omega, by omega⟩ (fun c9 => ?_) (fun c9 => ?_)
      · exfalso; omega
      · skip
        refine vv_iload_n d_ST_partsTold_12 rfl ?_
        refine vv_aload_n d_ST_partsTold_13 rfl ?_
        refine vv_get d_ST_partsTold_14 0 rfl fl_ST_17 rfl ?_
        refine vv_alen d_ST_partsTold_17 1 0 rfl rfl (v := 8) rfl ?_
        refine vv_icmp_ge (tgt := 49) d_ST_partsTold_18 (by decide) ⟨by omega, by omega⟩ (fun c18 => ?_) (fun c18 => ?_)
        · exfalso; omega
        · skip
          refine vv_iload_n d_ST_partsTold_21 rfl ?_
          refine vv_aload_n d_ST_partsTold_22 rfl ?_
          refine vv_get d_ST_partsTold_23 0 rfl fl_ST_17 rfl ?_
          refine vv_iload_n d_ST_partsTold_26 rfl ?_
          refine vv_aald d_ST_partsTold_27 1 0 rfl rfl (by omega) (show fP ((i : Int).toNat) = some (aP i) by rw [Int.toNat_natCast]; exact hfP i hi8) ?_
          refine vv_getP d_ST_partsTold_28 hin hat fl_ST_130 rfl ?_
          refine vv_if_le (tgt := 40) d_ST_partsTold_31 (by decide) ⟨by omega, by omega⟩ (fun c31 => ?_) (fun c31 => ?_)
          · skip
            refine vv_iconst d_ST_partsTold_40 ?_
            refine vv_ior d_ST_partsTold_41 (ia_or (pu_m (fun p => (R p).2.2.2.1) i) 0) ?_
            refine vv_istore_n d_ST_partsTold_42 rfl (by decide) ?_
            dsimp only [List.set]
            refine vv_iinc d_ST_partsTold_43 rfl rfl (by decide) ?_
            dsimp only [List.set]
            refine vv_goto (tgt := 4) d_ST_partsTold_46 (by decide) ?_
            have h9 := ih (i + 1) (by omega)
            rw [show pu_m (fun p => (R p).2.2.2.1) (i + 1) = pu_m (fun p => (R p).2.2.2.1) i ||| 0 by show pu_m (fun p => (R p).2.2.2.1) i ||| (if 0 < (fun p => (R p).2.2.2.1) i then 2 ^ i else 0) = _; rw [if_neg (by show ¬ 0 < (R i).2.2.2.1; omega)]] at h9
            exact h9
          · skip
            refine vv_iconst d_ST_partsTold_34 ?_
            refine vv_iload_n d_ST_partsTold_35 rfl ?_
            refine vv_ishl d_ST_partsTold_36 (ia_one (by omega)) ?_
            refine vv_goto (tgt := 41) d_ST_partsTold_37 (by decide) ?_
            refine vv_ior d_ST_partsTold_41 (ia_or (pu_m (fun p => (R p).2.2.2.1) i) (2 ^ i)) ?_
            refine vv_istore_n d_ST_partsTold_42 rfl (by decide) ?_
            dsimp only [List.set]
            refine vv_iinc d_ST_partsTold_43 rfl rfl (by decide) ?_
            dsimp only [List.set]
            refine vv_goto (tgt := 4) d_ST_partsTold_46 (by decide) ?_
            have h9 := ih (i + 1) (by omega)
            rw [show pu_m (fun p => (R p).2.2.2.1) (i + 1) = pu_m (fun p => (R p).2.2.2.1) i ||| 2 ^ i by show pu_m (fun p => (R p).2.2.2.1) i ||| (if 0 < (fun p => (R p).2.2.2.1) i then 2 ^ i else 0) = _; rw [if_pos (by show 0 < (R i).2.2.2.1; omega)]] at h9
            exact h9
  show VV X (b_ST_partsTold, 3, "SheetTrees", rm_0) _ 0 0 [(cP, .object "SheetTrees$Part")] [ob_ST x qsh qpa qcu qtk qrs qt ql S le nS (nP : Int) nC nT nR rn, ar_Q qpa cP 8 fP] (va_pl L f) [some (.ref x), none, none] [] 0
  refine vv_iconst d_ST_partsTold_0 ?_
  refine vv_istore_n d_ST_partsTold_1 rfl (by decide) ?_
  dsimp only [List.set]
  refine vv_iconst d_ST_partsTold_2 ?_
  refine vv_istore_n d_ST_partsTold_3 rfl (by decide) ?_
  dsimp only [List.set]
  exact loop nP 0 (by omega)
set_option maxHeartbeats 4000000 in
set_option maxRecDepth 100000 in
theorem c_ST_partsStillWanted (l : Launch) (D : va_G) (x qsh qpa qcu qtk qrs qt ql nP : Nat) (S le nS nC nT nR rn : Int) (cP : ClassId) (fP : Nat → Option Nat) (L : List Nat) (f : Nat → va_E) (aP : Nat → Nat) (R : Nat → pa_T) (hnP : nP ≤ 8) (hfP : ∀ i : Nat, i < 8 → fP i = some (aP i)) (hPP : PP L f aP R) (hb : ∀ i : Nat, i < 8 → 0 ≤ (R i).2.2.2.2 ∧ (R i).2.2.2.2 ≤ 1000000) : CP l y_ST_partsStillWanted b_ST_partsStillWanted 3 (some .int) rm_0 [.ref x] D [(cP, .object "SheetTrees$Part")] ([ob_ST x qsh qpa qcu qtk qrs qt ql S le nS (nP : Int) nC nT nR rn, ar_Q qpa cP 8 fP] ++ va_pl L f) (fun v => v = some (.int (iI ((pu_m (fun p => (R p).2.2.2.2) nP : Nat) : Int)))) := by
  refine cp_of (by decide) (Nat.le_of_ble_eq_true rfl) ?_
  intro X sz hl hr hD hA
  subst hD
  have loop : ∀ m i : Nat, i + m = nP → VV X (b_ST_partsStillWanted, 3, "SheetTrees", rm_0) (cr X sz (fun v => v = some (.int (iI ((pu_m (fun p => (R p).2.2.2.2) nP : Nat) : Int)))) rm_0) 0 0 [(cP, .object "SheetTrees$Part")] [ob_ST x qsh qpa qcu qtk qrs qt ql S le nS (nP : Int) nC nT nR rn, ar_Q qpa cP 8 fP] (va_pl L f) [some (.ref x), some (.int (iI ((pu_m (fun p => (R p).2.2.2.2) i : Nat) : Int))), some (.int (iI (i : Int)))] [] 4 := by
    intro m
    induction m with
    | zero =>
      intro i hi
      refine vv_iload_n d_ST_partsStillWanted_4 rfl ?_
      refine vv_aload_n d_ST_partsStillWanted_5 rfl ?_
      refine vv_get d_ST_partsStillWanted_6 0 rfl fl_ST_38 rfl ?_
      refine vv_icmp_ge (tgt := 49) d_ST_partsStillWanted_9 (by decide) ⟨by omega, by omega⟩ (fun c9 => ?_) (fun c9 => ?_)
      · skip
        refine vv_iload_n d_ST_partsStillWanted_49 rfl ?_
        exact vp_iret hA hr d_ST_partsStillWanted_50 (by decide) (by decide) (by rw [show i = nP by omega])
      · exfalso; omega
    | succ m ih =>
      intro i hi
      have hi8 : i < 8 := by omega
      obtain ⟨hin, hat⟩ := hPP i hi8
      have h1 := hb i hi8
      refine vv_iload_n d_ST_partsStillWanted_4 rfl ?_
      refine vv_aload_n d_ST_partsStillWanted_5 rfl ?_
      refine vv_get d_ST_partsStillWanted_6 0 rfl fl_ST_38 rfl ?_
      refine vv_icmp_ge (tgt := 49) d_ST_partsStillWanted_9 (by decide) ⟨by omega, by omega⟩ (fun c9 => ?_) (fun c9 => ?_)
      · exfalso; omega
      · skip
        refine vv_iload_n d_ST_partsStillWanted_12 rfl ?_
        refine vv_aload_n d_ST_partsStillWanted_13 rfl ?_
        refine vv_get d_ST_partsStillWanted_14 0 rfl fl_ST_17 rfl ?_
        refine vv_alen d_ST_partsStillWanted_17 1 0 rfl rfl (v := 8) rfl ?_
        refine vv_icmp_ge (tgt := 49) d_ST_partsStillWanted_18 (by decide) ⟨by omega, by omega⟩ (fun c18 => ?_) (fun c18 => ?_)
        · exfalso; omega
        · skip
          refine vv_iload_n d_ST_partsStillWanted_21 rfl ?_
          refine vv_aload_n d_ST_partsStillWanted_22 rfl ?_
          refine vv_get d_ST_partsStillWanted_23 0 rfl fl_ST_17 rfl ?_
          refine vv_iload_n d_ST_partsStillWanted_26 rfl ?_
          refine vv_aald d_ST_partsStillWanted_27 1 0 rfl rfl (by omega) (show fP ((i : Int).toNat) = some (aP i) by rw [Int.toNat_natCast]; exact hfP i hi8) ?_
          refine vv_getP d_ST_partsStillWanted_28 hin hat fl_ST_221 rfl ?_
          refine vv_if_le (tgt := 40) d_ST_partsStillWanted_31 (by decide) ⟨by omega, by omega⟩ (fun c31 => ?_) (fun c31 => ?_)
          · skip
            refine vv_iconst d_ST_partsStillWanted_40 ?_
            refine vv_ior d_ST_partsStillWanted_41 (ia_or (pu_m (fun p => (R p).2.2.2.2) i) 0) ?_
            refine vv_istore_n d_ST_partsStillWanted_42 rfl (by decide) ?_
            dsimp only [List.set]
            refine vv_iinc d_ST_partsStillWanted_43 rfl rfl (by decide) ?_
            dsimp only [List.set]
            refine vv_goto (tgt := 4) d_ST_partsStillWanted_46 (by decide) ?_
            have h9 := ih (i + 1) (by omega)
            rw [show pu_m (fun p => (R p).2.2.2.2) (i + 1) = pu_m (fun p => (R p).2.2.2.2) i ||| 0 by show pu_m (fun p => (R p).2.2.2.2) i ||| (if 0 < (fun p => (R p).2.2.2.2) i then 2 ^ i else 0) = _; rw [if_neg (by show ¬ 0 < (R i).2.2.2.2; omega)]] at h9
            exact h9
          · skip
            refine vv_iconst d_ST_partsStillWanted_34 ?_
            refine vv_iload_n d_ST_partsStillWanted_35 rfl ?_
            refine vv_ishl d_ST_partsStillWanted_36 (ia_one (by omega)) ?_
            refine vv_goto (tgt := 41) d_ST_partsStillWanted_37 (by decide) ?_
            refine vv_ior d_ST_partsStillWanted_41 (ia_or (pu_m (fun p => (R p).2.2.2.2) i) (2 ^ i)) ?_
            refine vv_istore_n d_ST_partsStillWanted_42 rfl (by decide) ?_
            dsimp only [List.set]
            refine vv_iinc d_ST_partsStillWanted_43 rfl rfl (by decide) ?_
            dsimp only [List.set]
            refine vv_goto (tgt := 4) d_ST_partsStillWanted_46 (by decide) ?_
            have h9 := ih (i + 1) (by omega)
            rw [show pu_m (fun p => (R p).2.2.2.2) (i + 1) = pu_m (fun p => (R p).2.2.2.2) i ||| 2 ^ i by show pu_m (fun p => (R p).2.2.2.2) i ||| (if 0 < (fun p => (R p).2.2.2.2) i then 2 ^ i else 0) = _; rw [if_pos (by show 0 < (R i).2.2.2.2; omega)]] at h9
            exact h9
  show VV X (b_ST_partsStillWanted, 3, "SheetTrees", rm_0) _ 0 0 [(cP, .object "SheetTrees$Part")] [ob_ST x qsh qpa qcu qtk qrs qt ql S le nS (nP : Int) nC nT nR rn, ar_Q qpa cP 8 fP] (va_pl L f) [some (.ref x), none, none] [] 0
  refine vv_iconst d_ST_partsStillWanted_0 ?_
  refine vv_istore_n d_ST_partsStillWanted_1 rfl (by decide) ?_
  dsimp only [List.set]
  refine vv_iconst d_ST_partsStillWanted_2 ?_
  refine vv_istore_n d_ST_partsStillWanted_3 rfl (by decide) ?_
  dsimp only [List.set]
  exact loop nP 0 (by omega)
