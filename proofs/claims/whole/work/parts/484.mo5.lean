/-! SheetTreesModel: bound, all, worth -/
def mb_s (co pw ph : Nat → Int) : Nat → Int
  | 0 => 0
  | n + 1 => mb_s co pw ph n + co n * pw n * ph n
def mb_m (sw sh : Nat → Int) : Nat → Int
  | 0 => 0
  | n + 1 => if mb_m sw sh n < sw n * sh n then sw n * sh n else mb_m sw sh n
def mb_r (co pw ph sw sh : Nat → Int) (nS nP : Nat) : Int := if mb_m sw sh nS = 0 then 0 else (mb_s co pw ph nP + mb_m sw sh nS - 1).tdiv (mb_m sw sh nS)
theorem mb_m_bd {sw sh : Nat → Int} : ∀ n : Nat, (∀ i : Nat, i < n → (1 ≤ sw i ∧ sw i ≤ 16) ∧ 1 ≤ sh i ∧ sh i ≤ 16) → 0 ≤ mb_m sw sh n ∧ mb_m sw sh n ≤ 256
  | 0, _ => by unfold mb_m; omega
  | n + 1, h => by
    have ih := mb_m_bd n (fun i hi => h i (by omega))
    have h1 := h n (by omega)
    have h2 := wh1 h1.1 h1.2
    unfold mb_m
    split <;> omega
theorem mb_s_bd {co pw ph : Nat → Int} : ∀ n : Nat, (∀ i : Nat, i < n → (0 ≤ co i ∧ co i ≤ 50) ∧ (0 ≤ pw i ∧ pw i ≤ 16) ∧ 0 ≤ ph i ∧ ph i ≤ 16) → 0 ≤ mb_s co pw ph n ∧ mb_s co pw ph n ≤ 12800 * n
  | 0, _ => by unfold mb_s; omega
  | n + 1, h => by
    have ih := mb_s_bd n (fun i hi => h i (by omega))
    have h1 := h n (by omega)
    have e1 := Int.mul_nonneg h1.1.1 h1.2.1.1
    have e2 := Int.mul_le_mul h1.1.2 h1.2.1.2 h1.2.1.1 (by omega)
    have e3 := Int.mul_nonneg e1 h1.2.2.1
    have e4 := Int.mul_le_mul e2 h1.2.2.2 h1.2.2.1 (by omega)
    unfold mb_s
    omega
set_option maxHeartbeats 4000000 in
set_option maxRecDepth 100000 in
theorem c_MO_bound (l : Launch) (D : va_G) (m nS nP : Nat) (q : Nat → Nat) (K S le cd rn dn : Int) (cI : ClassId) (co pw ph sw sh : Nat → Int) (hnS : nS ≤ 4) (hnP : nP ≤ 8) (hp : ∀ i : Nat, i < nP → (0 ≤ co i ∧ co i ≤ 50) ∧ (0 ≤ pw i ∧ pw i ≤ 16) ∧ 0 ≤ ph i ∧ ph i ≤ 16) (hs : ∀ i : Nat, i < nS → (1 ≤ sw i ∧ sw i ≤ 16) ∧ 1 ≤ sh i ∧ sh i ≤ 16) : CM l y_MO_bound b_MO_bound 4 (some .int) rm_0 [.ref m] D [(cI, .int)] ([ob_MO m q K S le cd (nS : Int) (nP : Int) rn dn, ar_I (q 12) cI 8 co, ar_I (q 10) cI 8 pw, ar_I (q 11) cI 8 ph, ar_I (q 5) cI 4 sw, ar_I (q 6) cI 4 sh] ++ []) (fun r w1 p1 _ => r = some (.int (iI (mb_r co pw ph sw sh nS nP))) ∧ w1 = [ob_MO m q K S le 0 (nS : Int) (nP : Int) rn dn, ar_I (q 12) cI 8 co, ar_I (q 10) cI 8 pw, ar_I (q 11) cI 8 ph, ar_I (q 5) cI 4 sw, ar_I (q 6) cI 4 sh] ∧ p1 = []) := by
  refine cm_of (by decide) (Nat.le_of_ble_eq_true rfl) ?_
  intro X sz hl hr hnm hD hA hw
  subst hD
  have hbs := mb_s_bd nP hp
  have hbm := mb_m_bd nS hs
  have loopS : ∀ n i : Nat, i + n = nS → ∀ z : Int, mb_m sw sh i = z → VV X (b_MO_bound, 4, "SheetTreesModel", rm_0) (cq X ([ob_MO m q K S le cd (nS : Int) (nP : Int) rn dn, ar_I (q 12) cI 8 co, ar_I (q 10) cI 8 pw, ar_I (q 11) cI 8 ph, ar_I (q 5) cI 4 sw, ar_I (q 6) cI 4 sh] ++ []) sz (fun r w1 p1 _ => r = some (.int (iI (mb_r co pw ph sw sh nS nP))) ∧ w1 = [ob_MO m q K S le 0 (nS : Int) (nP : Int) rn dn, ar_I (q 12) cI 8 co, ar_I (q 10) cI 8 pw, ar_I (q 11) cI 8 ph, ar_I (q 5) cI 4 sw, ar_I (q 6) cI 4 sh] ∧ p1 = []) rm_0) 0 0 [(cI, .int)] [ob_MO m q K S le 0 (nS : Int) (nP : Int) rn dn, ar_I (q 12) cI 8 co, ar_I (q 10) cI 8 pw, ar_I (q 11) cI 8 ph, ar_I (q 5) cI 4 sw, ar_I (q 6) cI 4 sh] [] [some (.ref m), some (.int (iI (mb_s co pw ph nP))), some (.int (iI z)), some (.int (iI (i : Int)))] [] 50 := by
    intro n
    induction n with
    | zero =>
      intro i hi z hz
      have e : i = nS := by omega
      subst e
      subst hz
      refine vv_iload_n d_MO_bound_50 rfl ?_
      refine vv_aload_n d_MO_bound_51 rfl ?_
      refine vv_get d_MO_bound_52 0 rfl fl_MO_106 rfl ?_
      refine vv_icmp_ge (tgt := 99) d_MO_bound_55 (by decide) ⟨by omega, by omega⟩ (fun c55 => ?_) (fun c55 => ?_)
      · skip
        refine vv_iload_n d_MO_bound_99 rfl ?_
        refine vv_if_ne (tgt := 107) d_MO_bound_100 (by decide) (by omega) (fun c100 => ?_) (fun c100 => ?_)
        · skip
          refine vv_iload_n d_MO_bound_107 rfl ?_
          refine vv_iload_n d_MO_bound_108 rfl ?_
          refine vv_iadd d_MO_bound_109 ?_
          refine vv_iconst d_MO_bound_110 ?_
          refine vv_isub d_MO_bound_111 ?_
          refine vv_iload_n d_MO_bound_112 rfl ?_
          refine vv_idiv d_MO_bound_113 (by omega) ?_
          exact vv_iret hA hw hr d_MO_bound_114 (by decide) (by decide) ⟨by unfold mb_r; rw [if_neg (by omega)], rfl, rfl⟩
        · skip
          refine vv_iconst d_MO_bound_103 ?_
          refine vv_goto (tgt := 114) d_MO_bound_104 (by decide) ?_
          exact vv_iret hA hw hr d_MO_bound_114 (by decide) (by decide) ⟨by unfold mb_r; rw [if_pos (by omega)], rfl, rfl⟩
      · exfalso; omega
    | succ n ih =>
      intro i hi z hz
      have hb1 := mb_m_bd i (fun j hj => hs j (by omega))
      rw [hz] at hb1
      have hsi := hs i (by omega)
      have hwh := wh1 hsi.1 hsi.2
      have hgo : mb_m sw sh (i + 1) = if z < sw i * sh i then sw i * sh i else z := by rw [← hz]; rfl
      refine vv_iload_n d_MO_bound_50 rfl ?_
      refine vv_aload_n d_MO_bound_51 rfl ?_
      refine vv_get d_MO_bound_52 0 rfl fl_MO_106 rfl ?_
      refine vv_icmp_ge (tgt := 99) d_MO_bound_55 (by decide) ⟨by omega, by omega⟩ (fun c55 => ?_) (fun c55 => ?_)
      · exfalso; omega
      · skip
        refine vv_aload_n d_MO_bound_58 rfl ?_
        refine vv_get d_MO_bound_59 0 rfl fl_MO_7 rfl ?_
        refine vv_iload_n d_MO_bound_62 rfl ?_
        refine vv_iald d_MO_bound_63 4 0 rfl rfl (by omega) ?_
        rw [Int.toNat_natCast]
        refine vv_aload_n d_MO_bound_64 rfl ?_
        refine vv_get d_MO_bound_65 0 rfl fl_MO_13 rfl ?_
        refine vv_iload_n d_MO_bound_68 rfl ?_
        refine vv_iald d_MO_bound_69 5 0 rfl rfl (by omega) ?_
        rw [Int.toNat_natCast]
        refine vv_imul d_MO_bound_70 ?_
        refine vv_iload_n d_MO_bound_71 rfl ?_
        refine vv_icmp_le (tgt := 91) d_MO_bound_72 (by decide) ⟨by omega, by omega⟩ (fun c72 => ?_) (fun c72 => ?_)
        · skip
          refine vv_iload_n d_MO_bound_91 rfl ?_
          refine vv_istore_n d_MO_bound_92 rfl (by decide) ?_
          dsimp only [List.set]
          refine vv_iinc d_MO_bound_93 rfl rfl (by decide) ?_
          dsimp only [List.set]
          refine vv_goto (tgt := 50) d_MO_bound_96 (by decide) ?_
          rw [if_neg (by omega)] at hgo
          exact ih (i + 1) (by omega) _ hgo
        · skip
          refine vv_aload_n d_MO_bound_75 rfl ?_
          refine vv_get d_MO_bound_76 0 rfl fl_MO_7 rfl ?_
          refine vv_iload_n d_MO_bound_79 rfl ?_
          refine vv_iald d_MO_bound_80 4 0 rfl rfl (by omega) ?_
          rw [Int.toNat_natCast]
          refine vv_aload_n d_MO_bound_81 rfl ?_
          refine vv_get d_MO_bound_82 0 rfl fl_MO_13 rfl ?_
          refine vv_iload_n d_MO_bound_85 rfl ?_
          refine vv_iald d_MO_bound_86 5 0 rfl rfl (by omega) ?_
          rw [Int.toNat_natCast]
          refine vv_imul d_MO_bound_87 ?_
          refine vv_goto (tgt := 92) d_MO_bound_88 (by decide) ?_
          refine vv_istore_n d_MO_bound_92 rfl (by decide) ?_
          dsimp only [List.set]
          refine vv_iinc d_MO_bound_93 rfl rfl (by decide) ?_
          dsimp only [List.set]
          refine vv_goto (tgt := 50) d_MO_bound_96 (by decide) ?_
          rw [if_pos (by omega)] at hgo
          exact ih (i + 1) (by omega) _ hgo
  have loopP : ∀ n i : Nat, i + n = nP → ∀ z : Int, mb_s co pw ph i = z → VV X (b_MO_bound, 4, "SheetTreesModel", rm_0) (cq X ([ob_MO m q K S le cd (nS : Int) (nP : Int) rn dn, ar_I (q 12) cI 8 co, ar_I (q 10) cI 8 pw, ar_I (q 11) cI 8 ph, ar_I (q 5) cI 4 sw, ar_I (q 6) cI 4 sh] ++ []) sz (fun r w1 p1 _ => r = some (.int (iI (mb_r co pw ph sw sh nS nP))) ∧ w1 = [ob_MO m q K S le 0 (nS : Int) (nP : Int) rn dn, ar_I (q 12) cI 8 co, ar_I (q 10) cI 8 pw, ar_I (q 11) cI 8 ph, ar_I (q 5) cI 4 sw, ar_I (q 6) cI 4 sh] ∧ p1 = []) rm_0) 0 0 [(cI, .int)] [ob_MO m q K S le 0 (nS : Int) (nP : Int) rn dn, ar_I (q 12) cI 8 co, ar_I (q 10) cI 8 pw, ar_I (q 11) cI 8 ph, ar_I (q 5) cI 4 sw, ar_I (q 6) cI 4 sh] [] [some (.ref m), some (.int (iI z)), some (.int (iI (i : Int))), none] [] 9 := by
    intro n
    induction n with
    | zero =>
      intro i hi z hz
      have e : i = nP := by omega
      subst e
      subst hz
      refine vv_iload_n d_MO_bound_9 rfl ?_
      refine vv_aload_n d_MO_bound_10 rfl ?_
      refine vv_get d_MO_bound_11 0 rfl fl_MO_113 rfl ?_
      refine vv_icmp_ge (tgt := 46) d_MO_bound_14 (by decide) ⟨by omega, by omega⟩ (fun c14 => ?_) (fun c14 => ?_)
      · skip
        refine vv_iconst d_MO_bound_46 ?_
        refine vv_istore_n d_MO_bound_47 rfl (by decide) ?_
        dsimp only [List.set]
        refine vv_iconst d_MO_bound_48 ?_
        refine vv_istore_n d_MO_bound_49 rfl (by decide) ?_
        dsimp only [List.set]
        exact loopS nS 0 (by omega) 0 rfl
      · exfalso; omega
    | succ n ih =>
      intro i hi z hz
      have hgo : mb_s co pw ph (i + 1) = z + co i * pw i * ph i := by rw [← hz]; rfl
      refine vv_iload_n d_MO_bound_9 rfl ?_
      refine vv_aload_n d_MO_bound_10 rfl ?_
      refine vv_get d_MO_bound_11 0 rfl fl_MO_113 rfl ?_
      refine vv_icmp_ge (tgt := 46) d_MO_bound_14 (by decide) ⟨by omega, by omega⟩ (fun c14 => ?_) (fun c14 => ?_)
      · exfalso; omega
      · skip
        refine vv_iload_n d_MO_bound_17 rfl ?_
        refine vv_aload_n d_MO_bound_18 rfl ?_
        refine vv_get d_MO_bound_19 0 rfl fl_MO_28 rfl ?_
        refine vv_iload_n d_MO_bound_22 rfl ?_
        refine vv_iald d_MO_bound_23 1 0 rfl rfl (by omega) ?_
        rw [Int.toNat_natCast]
        refine vv_aload_n d_MO_bound_24 rfl ?_
        refine vv_get d_MO_bound_25 0 rfl fl_MO_22 rfl ?_
        refine vv_iload_n d_MO_bound_28 rfl ?_
        refine vv_iald d_MO_bound_29 2 0 rfl rfl (by omega) ?_
        rw [Int.toNat_natCast]
        refine vv_imul d_MO_bound_30 ?_
        refine vv_aload_n d_MO_bound_31 rfl ?_
        refine vv_get d_MO_bound_32 0 rfl fl_MO_25 rfl ?_
        refine vv_iload_n d_MO_bound_35 rfl ?_
        refine vv_iald d_MO_bound_36 3 0 rfl rfl (by omega) ?_
        rw [Int.toNat_natCast]
        refine vv_imul d_MO_bound_37 ?_
        refine vv_iadd d_MO_bound_38 ?_
        refine vv_istore_n d_MO_bound_39 rfl (by decide) ?_
        dsimp only [List.set]
        refine vv_iinc d_MO_bound_40 rfl rfl (by decide) ?_
        dsimp only [List.set]
        refine vv_goto (tgt := 9) d_MO_bound_43 (by decide) ?_
        exact ih (i + 1) (by omega) _ hgo
  show VV X (b_MO_bound, 4, "SheetTreesModel", rm_0) _ 0 0 [(cI, .int)] [ob_MO m q K S le cd (nS : Int) (nP : Int) rn dn, ar_I (q 12) cI 8 co, ar_I (q 10) cI 8 pw, ar_I (q 11) cI 8 ph, ar_I (q 5) cI 4 sw, ar_I (q 6) cI 4 sh] [] [some (.ref m), none, none, none] [] 0
  refine vv_aload_n d_MO_bound_0 rfl ?_
  refine vv_iconst d_MO_bound_1 ?_
  refine vv_put hw d_MO_bound_2 0 rfl fp_MO_99 rfl rfl (Nat.le_of_ble_eq_true rfl) ?_
  dsimp only [List.set]
  refine vv_iconst d_MO_bound_5 ?_
  refine vv_istore_n d_MO_bound_6 rfl (by decide) ?_
  dsimp only [List.set]
  refine vv_iconst d_MO_bound_7 ?_
  refine vv_istore_n d_MO_bound_8 rfl (by decide) ?_
  dsimp only [List.set]
  exact loopP nP 0 (by omega) 0 rfl
def ml_g (w : Int) (of ce sw sh ta : Nat → Int) (i : Nat) : Int := if w = 0 then ce (of i).toNat else if w = 1 then sw (of i).toNat * sh (of i).toNat else ta i
def ml_s (w : Int) (of ce sw sh ta : Nat → Int) : Nat → Int64
  | 0 => 0
  | n + 1 => ml_s w of ce sw sh ta n + (iI (ml_g w of ce sw sh ta n)).toInt64
set_option maxHeartbeats 4000000 in
set_option maxRecDepth 100000 in
theorem c_MO_all_n (l : Launch) (D : va_G) (m : Nat) (q : Nat → Nat) (K S le cd nS nP rn dn : Int) (w e : Int) (h_w : -2147483648 ≤ w ∧ w < 2147483648) (hdn : 0 ≤ dn ∧ dn ≤ 20) (hrn : rn = 0 ∨ rn = 1) (he : (e = 1 ∧ rn = 0) ∨ (e = 2 ∧ rn = 1 ∧ (w < 0 ∨ 2 < w))) : CM l y_MO_all b_MO_all 6 (some .long) rm_1 [.ref m, .int (iI w)] D [] ([ob_MO m q K S le cd nS nP rn dn] ++ []) (fun r w1 p1 _ => r = some (.long 0) ∧ w1 = [ob_MO m q K S le e nS nP rn dn] ∧ p1 = []) := by
  refine cm_of (by decide) (Nat.le_of_ble_eq_true rfl) ?_
  intro X sz hl hr hnm hD hA hw
  subst hD
  show VV X (b_MO_all, 6, "SheetTreesModel", rm_1) _ 0 0 [] [ob_MO m q K S le cd nS nP rn dn] [] [some (.ref m), some (.int (iI w)), none, none, none, none] [] 0
  refine vv_aload_n d_MO_all_0 rfl ?_
  refine vv_aload_n d_MO_all_1 rfl ?_
  refine vv_get d_MO_all_2 0 rfl fl_MO_109 rfl ?_
  refine vv_if_ne (tgt := 12) d_MO_all_5 (by decide) (by omega) (fun c5 => ?_) (fun c5 => ?_)
  · skip
    refine vv_iload_n d_MO_all_12 rfl ?_
    refine vv_iconst d_MO_all_13 ?_
    refine vv_iconst d_MO_all_14 ?_
    refine vv_pS (wc := []) (plc := []) [.ref m] (c_MO_in (cx_l X) (cx_D X) w 0 2 (by omega) (by omega) (by omega)) lk_MO_102 d_MO_all_15 rfl [] ⟨rfl, rfl, Or.inl rfl⟩ [] rfl ⟨⟨by decide, by decide⟩, ⟨by decide, by decide⟩, Nat.le_of_ble_eq_true rfl⟩ ⟨rfl, rfl⟩ ?_
    intro v hv
    subst hv
    dsimp only [Option.toList, List.cons_append, List.nil_append, List.append_nil]
    have hc15 := isW_c w 0 2
    refine vv_if_ne (tgt := 25) d_MO_all_18 (by decide) (by omega) (fun c18 => ?_) (fun c18 => ?_)
    · skip
      refine vv_iconst d_MO_all_25 ?_
      refine vv_put hw d_MO_all_26 0 rfl fp_MO_99 rfl rfl (Nat.le_of_ble_eq_true rfl) ?_
      dsimp only [List.set]
      refine vv_lconst d_MO_all_29 rfl ?_
      refine vv_lstore_n d_MO_all_30 rfl (by decide) ?_
      dsimp only [List.set]
      refine vv_iconst d_MO_all_31 ?_
      refine vv_istore d_MO_all_32 rfl (by decide) ?_
      dsimp only [List.set]
      refine vv_iload d_MO_all_34 rfl ?_
      refine vv_aload_n d_MO_all_36 rfl ?_
      refine vv_get d_MO_all_37 0 rfl fl_MO_152 rfl ?_
      refine vv_icmp_ge (tgt := 115) d_MO_all_40 (by decide) ⟨by omega, by omega⟩ (fun c40 => ?_) (fun c40 => ?_)
      · skip
        refine vv_lload_n d_MO_all_115 rfl ?_
        first | (exfalso; omega) | (have e1 : e = 1 := by omega); subst e1; exact vv_lret hA hw hr d_MO_all_116 (by decide) (by decide) ⟨rfl, rfl, rfl⟩ | (have e1 : e = 2 := by omega); subst e1; exact vv_lret hA hw hr d_MO_all_116 (by decide) (by decide) ⟨rfl, rfl, rfl⟩
      · skip
        refine vv_aload_n d_MO_all_43 rfl ?_
        refine vv_get d_MO_all_44 0 rfl fl_MO_99 rfl ?_
        refine vv_if_ne (tgt := 115) d_MO_all_47 (by decide) (by omega) (fun c47 => ?_) (fun c47 => ?_)
        · skip
          refine vv_lload_n d_MO_all_115 rfl ?_
          first | (exfalso; omega) | (have e1 : e = 1 := by omega); subst e1; exact vv_lret hA hw hr d_MO_all_116 (by decide) (by decide) ⟨rfl, rfl, rfl⟩ | (have e1 : e = 2 := by omega); subst e1; exact vv_lret hA hw hr d_MO_all_116 (by decide) (by decide) ⟨rfl, rfl, rfl⟩
        · skip
          exfalso; omega
    · skip
      refine vv_iconst d_MO_all_21 ?_
      refine vv_goto (tgt := 26) d_MO_all_22 (by decide) ?_
      refine vv_put hw d_MO_all_26 0 rfl fp_MO_99 rfl rfl (Nat.le_of_ble_eq_true rfl) ?_
      dsimp only [List.set]
      refine vv_lconst d_MO_all_29 rfl ?_
      refine vv_lstore_n d_MO_all_30 rfl (by decide) ?_
      dsimp only [List.set]
      refine vv_iconst d_MO_all_31 ?_
      refine vv_istore d_MO_all_32 rfl (by decide) ?_
      dsimp only [List.set]
      refine vv_iload d_MO_all_34 rfl ?_
      refine vv_aload_n d_MO_all_36 rfl ?_
      refine vv_get d_MO_all_37 0 rfl fl_MO_152 rfl ?_
      refine vv_icmp_ge (tgt := 115) d_MO_all_40 (by decide) ⟨by omega, by omega⟩ (fun c40 => ?_) (fun c40 => ?_)
      · skip
        refine vv_lload_n d_MO_all_115 rfl ?_
        first | (exfalso; omega) | (have e1 : e = 1 := by omega); subst e1; exact vv_lret hA hw hr d_MO_all_116 (by decide) (by decide) ⟨rfl, rfl, rfl⟩ | (have e1 : e = 2 := by omega); subst e1; exact vv_lret hA hw hr d_MO_all_116 (by decide) (by decide) ⟨rfl, rfl, rfl⟩
      · skip
        refine vv_aload_n d_MO_all_43 rfl ?_
        refine vv_get d_MO_all_44 0 rfl fl_MO_99 rfl ?_
        refine vv_if_ne (tgt := 115) d_MO_all_47 (by decide) (by omega) (fun c47 => ?_) (fun c47 => ?_)
        · skip
          refine vv_lload_n d_MO_all_115 rfl ?_
          first | (exfalso; omega) | (have e1 : e = 1 := by omega); subst e1; exact vv_lret hA hw hr d_MO_all_116 (by decide) (by decide) ⟨rfl, rfl, rfl⟩ | (have e1 : e = 2 := by omega); subst e1; exact vv_lret hA hw hr d_MO_all_116 (by decide) (by decide) ⟨rfl, rfl, rfl⟩
        · skip
          exfalso; omega
  · skip
    refine vv_iconst d_MO_all_8 ?_
    refine vv_goto (tgt := 26) d_MO_all_9 (by decide) ?_
    refine vv_put hw d_MO_all_26 0 rfl fp_MO_99 rfl rfl (Nat.le_of_ble_eq_true rfl) ?_
    dsimp only [List.set]
    refine vv_lconst d_MO_all_29 rfl ?_
    refine vv_lstore_n d_MO_all_30 rfl (by decide) ?_
    dsimp only [List.set]
    refine vv_iconst d_MO_all_31 ?_
    refine vv_istore d_MO_all_32 rfl (by decide) ?_
    dsimp only [List.set]
    refine vv_iload d_MO_all_34 rfl ?_
    refine vv_aload_n d_MO_all_36 rfl ?_
    refine vv_get d_MO_all_37 0 rfl fl_MO_152 rfl ?_
    refine vv_icmp_ge (tgt := 115) d_MO_all_40 (by decide) ⟨by omega, by omega⟩ (fun c40 => ?_) (fun c40 => ?_)
    · skip
      refine vv_lload_n d_MO_all_115 rfl ?_
      first | (exfalso; omega) | (have e1 : e = 1 := by omega); subst e1; exact vv_lret hA hw hr d_MO_all_116 (by decide) (by decide) ⟨rfl, rfl, rfl⟩ | (have e1 : e = 2 := by omega); subst e1; exact vv_lret hA hw hr d_MO_all_116 (by decide) (by decide) ⟨rfl, rfl, rfl⟩
    · skip
      refine vv_aload_n d_MO_all_43 rfl ?_
      refine vv_get d_MO_all_44 0 rfl fl_MO_99 rfl ?_
      refine vv_if_ne (tgt := 115) d_MO_all_47 (by decide) (by omega) (fun c47 => ?_) (fun c47 => ?_)
      · skip
        refine vv_lload_n d_MO_all_115 rfl ?_
        first | (exfalso; omega) | (have e1 : e = 1 := by omega); subst e1; exact vv_lret hA hw hr d_MO_all_116 (by decide) (by decide) ⟨rfl, rfl, rfl⟩ | (have e1 : e = 2 := by omega); subst e1; exact vv_lret hA hw hr d_MO_all_116 (by decide) (by decide) ⟨rfl, rfl, rfl⟩
      · skip
        exfalso; omega
set_option maxHeartbeats 4000000 in
set_option maxRecDepth 100000 in
theorem c_MO_all_y (l : Launch) (D : va_G) (m dn : Nat) (q : Nat → Nat) (K S le cd nS nP : Int) (cI : ClassId) (of ce sw sh ta : Nat → Int) (w : Int) (hw1 : 0 ≤ w ∧ w ≤ 2) (hdn : dn ≤ 20) (hof : ∀ i : Nat, i < dn → 0 ≤ of i ∧ of i < 4) : CM l y_MO_all b_MO_all 6 (some .long) rm_1 [.ref m, .int (iI w)] D [(cI, .int)] ([ob_MO m q K S le cd nS nP 1 (dn : Int), ar_I (q 23) cI 20 of, ar_I (q 7) cI 4 ce, ar_I (q 5) cI 4 sw, ar_I (q 6) cI 4 sh, ar_I (q 28) cI 20 ta] ++ []) (fun r w1 p1 _ => r = some (.long (ml_s w of ce sw sh ta dn)) ∧ w1 = [ob_MO m q K S le 0 nS nP 1 (dn : Int), ar_I (q 23) cI 20 of, ar_I (q 7) cI 4 ce, ar_I (q 5) cI 4 sw, ar_I (q 6) cI 4 sh, ar_I (q 28) cI 20 ta] ∧ p1 = []) := by
  refine cm_of (by decide) (Nat.le_of_ble_eq_true rfl) ?_
  intro X sz hl hr hnm hD hA hw
  subst hD
  have loop : ∀ n i : Nat, i + n = dn → ∀ (z : Int64) (v5 : Option Value), ml_s w of ce sw sh ta i = z → VV X (b_MO_all, 6, "SheetTreesModel", rm_1) (cq X ([ob_MO m q K S le cd nS nP 1 (dn : Int), ar_I (q 23) cI 20 of, ar_I (q 7) cI 4 ce, ar_I (q 5) cI 4 sw, ar_I (q 6) cI 4 sh, ar_I (q 28) cI 20 ta] ++ []) sz (fun r w1 p1 _ => r = some (.long (ml_s w of ce sw sh ta dn)) ∧ w1 = [ob_MO m q K S le 0 nS nP 1 (dn : Int), ar_I (q 23) cI 20 of, ar_I (q 7) cI 4 ce, ar_I (q 5) cI 4 sw, ar_I (q 6) cI 4 sh, ar_I (q 28) cI 20 ta] ∧ p1 = []) rm_1) 0 0 [(cI, .int)] [ob_MO m q K S le 0 nS nP 1 (dn : Int), ar_I (q 23) cI 20 of, ar_I (q 7) cI 4 ce, ar_I (q 5) cI 4 sw, ar_I (q 6) cI 4 sh, ar_I (q 28) cI 20 ta] [] [some (.ref m), some (.int (iI w)), some (.long z), none, some (.int (iI (i : Int))), v5] [] 34 := by
    intro n
    induction n with
    | zero =>
      intro i hi z v5 hz
      have e : i = dn := by omega
      subst e
      subst hz
      refine vv_iload d_MO_all_34 rfl ?_
      refine vv_aload_n d_MO_all_36 rfl ?_
      refine vv_get d_MO_all_37 0 rfl fl_MO_152 rfl ?_
      refine vv_icmp_ge (tgt := 115) d_MO_all_40 (by decide) ⟨by omega, by omega⟩ (fun c40 => ?_) (fun c40 => ?_)
      · skip
        refine vv_lload_n d_MO_all_115 rfl ?_
        exact vv_lret hA hw hr d_MO_all_116 (by decide) (by decide) ⟨rfl, rfl, rfl⟩
      · exfalso; omega
    | succ n ih =>
      intro i hi z v5 hz
      have hofi := hof i (by omega)
      have h9 := ih (i + 1) (by omega)
      have hs : ml_s w of ce sw sh ta (i + 1) = z + (iI (ml_g w of ce sw sh ta i)).toInt64 := by rw [← hz]; rfl
      refine vv_iload d_MO_all_34 rfl ?_
      refine vv_aload_n d_MO_all_36 rfl ?_
      refine vv_get d_MO_all_37 0 rfl fl_MO_152 rfl ?_
      refine vv_icmp_ge (tgt := 115) d_MO_all_40 (by decide) ⟨by omega, by omega⟩ (fun c40 => ?_) (fun c40 => ?_)
      · exfalso; omega
      · skip
        refine vv_aload_n d_MO_all_43 rfl ?_
        refine vv_get d_MO_all_44 0 rfl fl_MO_99 rfl ?_
        refine vv_if_ne (tgt := 115) d_MO_all_47 (by decide) (by omega) (fun c47 => ?_) (fun c47 => ?_)
        · exfalso; omega
        · skip
          refine vv_aload_n d_MO_all_50 rfl ?_
          refine vv_get d_MO_all_51 0 rfl fl_MO_56 rfl ?_
          refine vv_iload d_MO_all_54 rfl ?_
          refine vv_iald d_MO_all_56 1 0 rfl rfl (by omega) ?_
          rw [Int.toNat_natCast]
          refine vv_istore d_MO_all_57 rfl (by decide) ?_
          dsimp only [List.set]
          refine vv_lload_n d_MO_all_59 rfl ?_
          refine vv_iload_n d_MO_all_60 rfl ?_
          refine vv_if_ne (tgt := 75) d_MO_all_61 (by decide) (by omega) (fun c61 => ?_) (fun c61 => ?_)
          · skip
            refine vv_iload_n d_MO_all_75 rfl ?_
            refine vv_iconst d_MO_all_76 ?_
            refine vv_icmp_ne (tgt := 99) d_MO_all_77 (by decide) ⟨by omega, by omega⟩ (fun c77 => ?_) (fun c77 => ?_)
            · skip
              refine vv_aload_n d_MO_all_99 rfl ?_
              refine vv_get d_MO_all_100 0 rfl fl_MO_71 rfl ?_
              refine vv_iload d_MO_all_103 rfl ?_
              refine vv_iald d_MO_all_105 5 0 rfl rfl (by omega) ?_
              rw [Int.toNat_natCast]
              refine vv_i2l d_MO_all_106 rfl ?_
              rw [show ml_g w of ce sw sh ta i = _ from (by unfold ml_g; rw [if_neg c61, if_neg c77])] at hs
              refine vv_ladd d_MO_all_107 rfl ?_
              refine vv_lstore_n d_MO_all_108 rfl (by decide) ?_
              dsimp only [List.set]
              refine vv_iinc d_MO_all_109 rfl rfl (by decide) ?_
              dsimp only [List.set]
              refine vv_goto (tgt := 34) d_MO_all_112 (by decide) ?_
              exact h9 _ _ hs
            · skip
              refine vv_aload_n d_MO_all_80 rfl ?_
              refine vv_get d_MO_all_81 0 rfl fl_MO_7 rfl ?_
              refine vv_iload d_MO_all_84 rfl ?_
              refine vv_iald d_MO_all_86 3 0 rfl rfl (by omega) ?_
              refine vv_aload_n d_MO_all_87 rfl ?_
              refine vv_get d_MO_all_88 0 rfl fl_MO_13 rfl ?_
              refine vv_iload d_MO_all_91 rfl ?_
              refine vv_iald d_MO_all_93 4 0 rfl rfl (by omega) ?_
              refine vv_imul d_MO_all_94 ?_
              refine vv_i2l d_MO_all_95 rfl ?_
              refine vv_goto (tgt := 107) d_MO_all_96 (by decide) ?_
              rw [show ml_g w of ce sw sh ta i = _ from (by unfold ml_g; rw [if_neg c61, if_pos c77])] at hs
              refine vv_ladd d_MO_all_107 rfl ?_
              refine vv_lstore_n d_MO_all_108 rfl (by decide) ?_
              dsimp only [List.set]
              refine vv_iinc d_MO_all_109 rfl rfl (by decide) ?_
              dsimp only [List.set]
              refine vv_goto (tgt := 34) d_MO_all_112 (by decide) ?_
              exact h9 _ _ hs
          · skip
            refine vv_aload_n d_MO_all_64 rfl ?_
            refine vv_get d_MO_all_65 0 rfl fl_MO_16 rfl ?_
            refine vv_iload d_MO_all_68 rfl ?_
            refine vv_iald d_MO_all_70 2 0 rfl rfl (by omega) ?_
            refine vv_i2l d_MO_all_71 rfl ?_
            refine vv_goto (tgt := 107) d_MO_all_72 (by decide) ?_
            rw [show ml_g w of ce sw sh ta i = _ from (by unfold ml_g; rw [if_pos c61])] at hs
            refine vv_ladd d_MO_all_107 rfl ?_
            refine vv_lstore_n d_MO_all_108 rfl (by decide) ?_
            dsimp only [List.set]
            refine vv_iinc d_MO_all_109 rfl rfl (by decide) ?_
            dsimp only [List.set]
            refine vv_goto (tgt := 34) d_MO_all_112 (by decide) ?_
            exact h9 _ _ hs
  show VV X (b_MO_all, 6, "SheetTreesModel", rm_1) _ 0 0 [(cI, .int)] [ob_MO m q K S le cd nS nP 1 (dn : Int), ar_I (q 23) cI 20 of, ar_I (q 7) cI 4 ce, ar_I (q 5) cI 4 sw, ar_I (q 6) cI 4 sh, ar_I (q 28) cI 20 ta] [] [some (.ref m), some (.int (iI w)), none, none, none, none] [] 0
  refine vv_aload_n d_MO_all_0 rfl ?_
  refine vv_aload_n d_MO_all_1 rfl ?_
  refine vv_get d_MO_all_2 0 rfl fl_MO_109 rfl ?_
  refine vv_if_ne (tgt := 12) d_MO_all_5 (by decide) (by omega) (fun c5 => ?_) (fun c5 => ?_)
  · skip
    refine vv_iload_n d_MO_all_12 rfl ?_
    refine vv_iconst d_MO_all_13 ?_
    refine vv_iconst d_MO_all_14 ?_
    refine vv_pS (wc := []) (plc := []) [.ref m] (c_MO_in (cx_l X) (cx_D X) w 0 2 (by omega) (by omega) (by omega)) lk_MO_102 d_MO_all_15 rfl [] ⟨rfl, rfl, Or.inl rfl⟩ [] rfl ⟨⟨by decide, by decide⟩, ⟨by decide, by decide⟩, Nat.le_of_ble_eq_true rfl⟩ ⟨rfl, rfl⟩ ?_
    intro v hv
    subst hv
    dsimp only [Option.toList, List.cons_append, List.nil_append, List.append_nil]
    have hc15 := isW_c w 0 2
    refine vv_if_ne (tgt := 25) d_MO_all_18 (by decide) (by omega) (fun c18 => ?_) (fun c18 => ?_)
    · skip
      refine vv_iconst d_MO_all_25 ?_
      refine vv_put hw d_MO_all_26 0 rfl fp_MO_99 rfl rfl (Nat.le_of_ble_eq_true rfl) ?_
      dsimp only [List.set]
      refine vv_lconst d_MO_all_29 rfl ?_
      refine vv_lstore_n d_MO_all_30 rfl (by decide) ?_
      dsimp only [List.set]
      refine vv_iconst d_MO_all_31 ?_
      refine vv_istore d_MO_all_32 rfl (by decide) ?_
      dsimp only [List.set]
      exact loop dn 0 (by omega) 0 _ rfl
    · skip
      exfalso; omega
  · skip
    exfalso; omega
def cp (g src : Nat → Int) : Nat → Nat → Int
  | 0 => g
  | n + 1 => va_up (cp g src n) n (src n)
theorem cp_at {g src : Nat → Int} : ∀ (n k : Nat), cp g src n k = if k < n then src k else g k
  | 0, k => by rw [if_neg (by omega)]; rfl
  | n + 1, k => by
    unfold cp
    by_cases e : k = n
    · subst e
      rw [va_up_self, if_pos (show k < k + 1 by omega)]
    · rw [va_up_ne _ _ e, cp_at n k]
      by_cases e2 : k < n
      · rw [if_pos e2, if_pos (show k < n + 1 by omega)]
      · rw [if_neg e2, if_neg (show ¬ k < n + 1 by omega)]
set_option maxHeartbeats 4000000 in
set_option maxRecDepth 100000 in
theorem c_MO_worth_n (l : Launch) (D : va_G) (m : Nat) (q : Nat → Nat) (K S le cd nS nP rn dn : Int) (w h d s : Int) (h_w : -2147483648 ≤ w ∧ w < 2147483648) (h_h : -2147483648 ≤ h ∧ h < 2147483648) (h_d : -2147483648 ≤ d ∧ d < 2147483648) (h_s : -2147483648 ≤ s ∧ s < 2147483648) (hb : ¬ ((1 ≤ w ∧ w ≤ 16) ∧ (1 ≤ h ∧ h ≤ 16) ∧ (0 ≤ d ∧ d ≤ 1) ∧ 0 ≤ s ∧ s ≤ 3)) : CM l y_MO_worth b_MO_worth 6 (some .int) rm_1 [.ref m, .int (iI w), .int (iI h), .int (iI d), .int (iI s)] D [] ([ob_MO m q K S le cd nS nP rn dn] ++ []) (fun r w1 p1 _ => r = some (.int (iI 0)) ∧ w1 = [ob_MO m q K S le 1 nS nP rn dn] ∧ p1 = []) := by
  refine cm_of (by decide) (Nat.le_of_ble_eq_true rfl) ?_
  intro X sz hl hr hnm hD hA hw
  subst hD
  show VV X (b_MO_worth, 6, "SheetTreesModel", rm_1) _ 0 0 [] [ob_MO m q K S le cd nS nP rn dn] [] [some (.ref m), some (.int (iI w)), some (.int (iI h)), some (.int (iI d)), some (.int (iI s)), none] [] 0
  refine vv_aload_n d_MO_worth_0 rfl ?_
  refine vv_iload_n d_MO_worth_1 rfl ?_
  refine vv_iconst d_MO_worth_2 ?_
  refine vv_bipush d_MO_worth_3 (by decide +kernel) ?_
  refine vv_pS (wc := []) (plc := []) [.ref m] (c_MO_in (cx_l X) (cx_D X) w 1 16 (by omega) (by omega) (by omega)) lk_MO_102 d_MO_worth_5 rfl [] ⟨rfl, rfl, Or.inl rfl⟩ [] rfl ⟨⟨by decide, by decide⟩, ⟨by decide, by decide⟩, Nat.le_of_ble_eq_true rfl⟩ ⟨rfl, rfl⟩ ?_
  intro v hv
  subst hv
  dsimp only [Option.toList, List.cons_append, List.nil_append, List.append_nil]
  have hc5 := isW_c w 1 16
  refine vv_if_eq (tgt := 44) d_MO_worth_8 (by decide) (by omega) (fun c8 => ?_) (fun c8 => ?_)
  · skip
    refine vv_iconst d_MO_worth_44 ?_
    refine vv_put hw d_MO_worth_45 0 rfl fp_MO_99 rfl rfl (Nat.le_of_ble_eq_true rfl) ?_
    dsimp only [List.set]
    refine vv_aload_n d_MO_worth_48 rfl ?_
    refine vv_get d_MO_worth_49 0 rfl fl_MO_99 rfl ?_
    refine vv_if_le (tgt := 57) d_MO_worth_52 (by decide) (by omega) (fun c52 => ?_) (fun c52 => ?_)
    · skip
      exfalso; omega
    · skip
      refine vv_iconst d_MO_worth_55 ?_
      exact vv_iret hA hw hr d_MO_worth_56 (by decide) (by decide) (by exact ⟨rfl, rfl, rfl⟩)
  · skip
    refine vv_iload_n d_MO_worth_11 rfl ?_
    refine vv_iconst d_MO_worth_12 ?_
    refine vv_bipush d_MO_worth_13 (by decide +kernel) ?_
    refine vv_pS (wc := []) (plc := []) [.ref m] (c_MO_in (cx_l X) (cx_D X) h 1 16 (by omega) (by omega) (by omega)) lk_MO_102 d_MO_worth_15 rfl [] ⟨rfl, rfl, Or.inl rfl⟩ [] rfl ⟨⟨by decide, by decide⟩, ⟨by decide, by decide⟩, Nat.le_of_ble_eq_true rfl⟩ ⟨rfl, rfl⟩ ?_
    intro v hv
    subst hv
    dsimp only [Option.toList, List.cons_append, List.nil_append, List.append_nil]
    have hc15 := isW_c h 1 16
    refine vv_if_eq (tgt := 44) d_MO_worth_18 (by decide) (by omega) (fun c18 => ?_) (fun c18 => ?_)
    · skip
      refine vv_iconst d_MO_worth_44 ?_
      refine vv_put hw d_MO_worth_45 0 rfl fp_MO_99 rfl rfl (Nat.le_of_ble_eq_true rfl) ?_
      dsimp only [List.set]
      refine vv_aload_n d_MO_worth_48 rfl ?_
      refine vv_get d_MO_worth_49 0 rfl fl_MO_99 rfl ?_
      refine vv_if_le (tgt := 57) d_MO_worth_52 (by decide) (by omega) (fun c52 => ?_) (fun c52 => ?_)
      · skip
        exfalso; omega
      · skip
        refine vv_iconst d_MO_worth_55 ?_
        exact vv_iret hA hw hr d_MO_worth_56 (by decide) (by decide) (by exact ⟨rfl, rfl, rfl⟩)
    · skip
      refine vv_iload_n d_MO_worth_21 rfl ?_
      refine vv_iconst d_MO_worth_22 ?_
      refine vv_iconst d_MO_worth_23 ?_
      refine vv_pS (wc := []) (plc := []) [.ref m] (c_MO_in (cx_l X) (cx_D X) d 0 1 (by omega) (by omega) (by omega)) lk_MO_102 d_MO_worth_24 rfl [] ⟨rfl, rfl, Or.inl rfl⟩ [] rfl ⟨⟨by decide, by decide⟩, ⟨by decide, by decide⟩, Nat.le_of_ble_eq_true rfl⟩ ⟨rfl, rfl⟩ ?_
      intro v hv
      subst hv
      dsimp only [Option.toList, List.cons_append, List.nil_append, List.append_nil]
      have hc24 := isW_c d 0 1
      refine vv_if_eq (tgt := 44) d_MO_worth_27 (by decide) (by omega) (fun c27 => ?_) (fun c27 => ?_)
      · skip
        refine vv_iconst d_MO_worth_44 ?_
        refine vv_put hw d_MO_worth_45 0 rfl fp_MO_99 rfl rfl (Nat.le_of_ble_eq_true rfl) ?_
        dsimp only [List.set]
        refine vv_aload_n d_MO_worth_48 rfl ?_
        refine vv_get d_MO_worth_49 0 rfl fl_MO_99 rfl ?_
        refine vv_if_le (tgt := 57) d_MO_worth_52 (by decide) (by omega) (fun c52 => ?_) (fun c52 => ?_)
        · skip
          exfalso; omega
        · skip
          refine vv_iconst d_MO_worth_55 ?_
          exact vv_iret hA hw hr d_MO_worth_56 (by decide) (by decide) (by exact ⟨rfl, rfl, rfl⟩)
      · skip
        refine vv_iload d_MO_worth_30 rfl ?_
        refine vv_iconst d_MO_worth_32 ?_
        refine vv_iconst d_MO_worth_33 ?_
        refine vv_pS (wc := []) (plc := []) [.ref m] (c_MO_in (cx_l X) (cx_D X) s 0 3 (by omega) (by omega) (by omega)) lk_MO_102 d_MO_worth_34 rfl [] ⟨rfl, rfl, Or.inl rfl⟩ [] rfl ⟨⟨by decide, by decide⟩, ⟨by decide, by decide⟩, Nat.le_of_ble_eq_true rfl⟩ ⟨rfl, rfl⟩ ?_
        intro v hv
        subst hv
        dsimp only [Option.toList, List.cons_append, List.nil_append, List.append_nil]
        have hc34 := isW_c s 0 3
        refine vv_if_eq (tgt := 44) d_MO_worth_37 (by decide) (by omega) (fun c37 => ?_) (fun c37 => ?_)
        · skip
          refine vv_iconst d_MO_worth_44 ?_
          refine vv_put hw d_MO_worth_45 0 rfl fp_MO_99 rfl rfl (Nat.le_of_ble_eq_true rfl) ?_
          dsimp only [List.set]
          refine vv_aload_n d_MO_worth_48 rfl ?_
          refine vv_get d_MO_worth_49 0 rfl fl_MO_99 rfl ?_
          refine vv_if_le (tgt := 57) d_MO_worth_52 (by decide) (by omega) (fun c52 => ?_) (fun c52 => ?_)
          · skip
            exfalso; omega
          · skip
            refine vv_iconst d_MO_worth_55 ?_
            exact vv_iret hA hw hr d_MO_worth_56 (by decide) (by decide) (by exact ⟨rfl, rfl, rfl⟩)
        · skip
          exfalso; omega
set_option maxHeartbeats 4000000 in
set_option maxRecDepth 100000 in
theorem c_MO_worth_y (l : Launch) (D : va_G) (m nP : Nat) (q : Nat → Nat) (K S le cd nS rn dn : Int) (cI cZ : ClassId) (pw ph tu wa co st : Nat → Int) (T : mt_T) (w h d s : Int) (hok : (1 ≤ w ∧ w ≤ 16) ∧ (1 ≤ h ∧ h ≤ 16) ∧ (0 ≤ d ∧ d ≤ 1) ∧ 0 ≤ s ∧ s ≤ 3) (hnP : nP ≤ 8) (hK : 0 ≤ K ∧ K ≤ 3) (hb : ∀ i : Nat, i < 8 → (0 ≤ pw i ∧ pw i ≤ 16) ∧ (0 ≤ ph i ∧ ph i ≤ 16) ∧ 0 ≤ tu i ∧ tu i ≤ 1) (hco : ∀ i : Nat, i < 8 → 0 ≤ co i ∧ co i ≤ 50) (hT : MI T) : CM l y_MO_worth b_MO_worth 6 (some .int) rm_3 [.ref m, .int (iI w), .int (iI h), .int (iI d), .int (iI s)] D [(cI, .int), (cZ, .boolean)] ([ob_MO m q K S le cd nS (nP : Int) rn dn, ar_I (q 10) cI 8 pw, ar_I (q 11) cI 8 ph, ar_I (q 13) cZ 8 tu, ar_I (q 14) cI 8 wa, ar_I (q 17) cI 2312 T.1, ar_I (q 18) cI 2312 T.2.1, ar_I (q 19) cI 2312 T.2.2, ar_I (q 12) cI 8 co, ar_I (q 16) cI 8 st] ++ []) (fun r w1 p1 _ => r = some (.int (iI ((fi_s pw ph tu (wl co nP wa 8) nP K T 4).1 (mp s d w h).toNat))) ∧ w1 = [ob_MO m q K S le 0 nS (nP : Int) rn dn, ar_I (q 10) cI 8 pw, ar_I (q 11) cI 8 ph, ar_I (q 13) cZ 8 tu, ar_I (q 14) cI 8 (cp (wl co nP wa 8) (cp st wa 8) 8), ar_I (q 17) cI 2312 (fi_s pw ph tu (wl co nP wa 8) nP K T 4).1, ar_I (q 18) cI 2312 (fi_s pw ph tu (wl co nP wa 8) nP K T 4).2.1, ar_I (q 19) cI 2312 (fi_s pw ph tu (wl co nP wa 8) nP K T 4).2.2, ar_I (q 12) cI 8 co, ar_I (q 16) cI 8 (cp st wa 8)] ∧ p1 = []) := by
  refine cm_of (by decide) (Nat.le_of_ble_eq_true rfl) ?_
  intro X sz hl hr hnm hD hA hw
  subst hD
  have hmp := mp_bd (s := s) (d := d) (w := w) (h := h) (by omega) (by omega) (by omega) (by omega)
  have hwl : ∀ i : Nat, i < 8 → 0 ≤ (wl co nP wa 8) i ∧ (wl co nP wa 8) i ≤ 1000000 := fun i hi => by
    rw [wl_at 8 i, if_pos hi]
    have := hco i hi
    split <;> omega
  have loop2 : ∀ n k : Nat, k + n = 8 → ∀ g : Nat → Int, cp (wl co nP wa 8) (cp st wa 8) k = g → VV X (b_MO_worth, 6, "SheetTreesModel", rm_3) (cq X ([ob_MO m q K S le cd nS (nP : Int) rn dn, ar_I (q 10) cI 8 pw, ar_I (q 11) cI 8 ph, ar_I (q 13) cZ 8 tu, ar_I (q 14) cI 8 wa, ar_I (q 17) cI 2312 T.1, ar_I (q 18) cI 2312 T.2.1, ar_I (q 19) cI 2312 T.2.2, ar_I (q 12) cI 8 co, ar_I (q 16) cI 8 st] ++ []) sz (fun r w1 p1 _ => r = some (.int (iI ((fi_s pw ph tu (wl co nP wa 8) nP K T 4).1 (mp s d w h).toNat))) ∧ w1 = [ob_MO m q K S le 0 nS (nP : Int) rn dn, ar_I (q 10) cI 8 pw, ar_I (q 11) cI 8 ph, ar_I (q 13) cZ 8 tu, ar_I (q 14) cI 8 (cp (wl co nP wa 8) (cp st wa 8) 8), ar_I (q 17) cI 2312 (fi_s pw ph tu (wl co nP wa 8) nP K T 4).1, ar_I (q 18) cI 2312 (fi_s pw ph tu (wl co nP wa 8) nP K T 4).2.1, ar_I (q 19) cI 2312 (fi_s pw ph tu (wl co nP wa 8) nP K T 4).2.2, ar_I (q 12) cI 8 co, ar_I (q 16) cI 8 (cp st wa 8)] ∧ p1 = []) rm_3) 0 0 [(cI, .int), (cZ, .boolean)] [ob_MO m q K S le 0 nS (nP : Int) rn dn, ar_I (q 10) cI 8 pw, ar_I (q 11) cI 8 ph, ar_I (q 13) cZ 8 tu, ar_I (q 14) cI 8 g, ar_I (q 17) cI 2312 (fi_s pw ph tu (wl co nP wa 8) nP K T 4).1, ar_I (q 18) cI 2312 (fi_s pw ph tu (wl co nP wa 8) nP K T 4).2.1, ar_I (q 19) cI 2312 (fi_s pw ph tu (wl co nP wa 8) nP K T 4).2.2, ar_I (q 12) cI 8 co, ar_I (q 16) cI 8 (cp st wa 8)] [] [some (.ref m), some (.int (iI w)), some (.int (iI h)), some (.int (iI d)), some (.int (iI s)), some (.int (iI (k : Int)))] [] 98 := by
    intro n
    induction n with
    | zero =>
      intro k hk g hg
      have e : k = 8 := by omega
      subst e
      subst hg
      refine vv_iload d_MO_worth_98 rfl ?_
      refine vv_bipush d_MO_worth_100 (by decide +kernel) ?_
      refine vv_icmp_ge (tgt := 125) d_MO_worth_102 (by decide) ⟨by omega, by omega⟩ (fun c102 => ?_) (fun c102 => ?_)
      · skip
        refine vv_aload_n d_MO_worth_125 rfl ?_
        refine vv_get d_MO_worth_126 0 rfl fl_MO_44 rfl ?_
        refine vv_iload d_MO_worth_129 rfl ?_
        refine vv_iload_n d_MO_worth_131 rfl ?_
        refine vv_iload_n d_MO_worth_132 rfl ?_
        refine vv_iload_n d_MO_worth_133 rfl ?_
        refine vv_pS (wc := []) (plc := []) [.ref (q 17)] (c_MO_place (cx_l X) (cx_D X) s d w h) lk_MO_116 d_MO_worth_134 rfl [] ⟨rfl, rfl, Or.inl rfl⟩ [] rfl ⟨⟨by decide, by decide⟩, ⟨by decide, by decide⟩, Nat.le_of_ble_eq_true rfl⟩ ⟨rfl, rfl⟩ ?_
        intro v hv
        subst hv
        dsimp only [Option.toList, List.cons_append, List.nil_append, List.append_nil]
        refine vv_iald d_MO_worth_137 5 0 rfl rfl (by omega) ?_
        exact vv_iret hA hw hr d_MO_worth_138 (by decide) (by decide) (by exact ⟨rfl, rfl, rfl⟩)
      · exfalso; omega
    | succ n ih =>
      intro k hk g hg
      have h9 := ih (k + 1) (by omega) (va_up g k ((cp st wa 8) k)) (by rw [← hg]; rfl)
      refine vv_iload d_MO_worth_98 rfl ?_
      refine vv_bipush d_MO_worth_100 (by decide +kernel) ?_
      refine vv_icmp_ge (tgt := 125) d_MO_worth_102 (by decide) ⟨by omega, by omega⟩ (fun c102 => ?_) (fun c102 => ?_)
      · exfalso; omega
      · skip
        refine vv_aload_n d_MO_worth_105 rfl ?_
        refine vv_get d_MO_worth_106 0 rfl fl_MO_35 rfl ?_
        refine vv_iload d_MO_worth_109 rfl ?_
        refine vv_aload_n d_MO_worth_111 rfl ?_
        refine vv_get d_MO_worth_112 0 rfl fl_MO_41 rfl ?_
        refine vv_iload d_MO_worth_115 rfl ?_
        refine vv_iald d_MO_worth_117 9 0 rfl rfl (by omega) ?_
        refine vv_iast hw d_MO_worth_118 4 0 rfl rfl (by omega) ?_
        dsimp only [List.set]
        refine vv_iinc d_MO_worth_119 rfl rfl (by decide) ?_
        dsimp only [List.set]
        refine vv_goto (tgt := 98) d_MO_worth_122 (by decide) ?_
        simp only [Int.toNat_natCast]
        exact h9
  have loop1 : ∀ n k : Nat, k + n = 8 → ∀ g : Nat → Int, cp st wa k = g → VV X (b_MO_worth, 6, "SheetTreesModel", rm_3) (cq X ([ob_MO m q K S le cd nS (nP : Int) rn dn, ar_I (q 10) cI 8 pw, ar_I (q 11) cI 8 ph, ar_I (q 13) cZ 8 tu, ar_I (q 14) cI 8 wa, ar_I (q 17) cI 2312 T.1, ar_I (q 18) cI 2312 T.2.1, ar_I (q 19) cI 2312 T.2.2, ar_I (q 12) cI 8 co, ar_I (q 16) cI 8 st] ++ []) sz (fun r w1 p1 _ => r = some (.int (iI ((fi_s pw ph tu (wl co nP wa 8) nP K T 4).1 (mp s d w h).toNat))) ∧ w1 = [ob_MO m q K S le 0 nS (nP : Int) rn dn, ar_I (q 10) cI 8 pw, ar_I (q 11) cI 8 ph, ar_I (q 13) cZ 8 tu, ar_I (q 14) cI 8 (cp (wl co nP wa 8) (cp st wa 8) 8), ar_I (q 17) cI 2312 (fi_s pw ph tu (wl co nP wa 8) nP K T 4).1, ar_I (q 18) cI 2312 (fi_s pw ph tu (wl co nP wa 8) nP K T 4).2.1, ar_I (q 19) cI 2312 (fi_s pw ph tu (wl co nP wa 8) nP K T 4).2.2, ar_I (q 12) cI 8 co, ar_I (q 16) cI 8 (cp st wa 8)] ∧ p1 = []) rm_3) 0 0 [(cI, .int), (cZ, .boolean)] [ob_MO m q K S le 0 nS (nP : Int) rn dn, ar_I (q 10) cI 8 pw, ar_I (q 11) cI 8 ph, ar_I (q 13) cZ 8 tu, ar_I (q 14) cI 8 wa, ar_I (q 17) cI 2312 T.1, ar_I (q 18) cI 2312 T.2.1, ar_I (q 19) cI 2312 T.2.2, ar_I (q 12) cI 8 co, ar_I (q 16) cI 8 g] [] [some (.ref m), some (.int (iI w)), some (.int (iI h)), some (.int (iI d)), some (.int (iI s)), some (.int (iI (k : Int)))] [] 60 := by
    intro n
    induction n with
    | zero =>
      intro k hk g hg
      have e : k = 8 := by omega
      subst e
      subst hg
      refine vv_iload d_MO_worth_60 rfl ?_
      refine vv_bipush d_MO_worth_62 (by decide +kernel) ?_
      refine vv_icmp_ge (tgt := 87) d_MO_worth_64 (by decide) ⟨by omega, by omega⟩ (fun c64 => ?_) (fun c64 => ?_)
      · skip
        refine vv_aload_n d_MO_worth_87 rfl ?_
        refine vv_nV hw (wc := [ob_MO m q K S le 0 nS (nP : Int) rn dn, ar_I (q 12) cI 8 co, ar_I (q 14) cI 8 wa]) (wr := [ar_I (q 10) cI 8 pw, ar_I (q 11) cI 8 ph, ar_I (q 13) cZ 8 tu, ar_I (q 17) cI 2312 T.1, ar_I (q 18) cI 2312 T.2.1, ar_I (q 19) cI 2312 T.2.2, ar_I (q 16) cI 8 (cp st wa 8)]) [] (c_MO_wantAll (cx_l X) (cx_D X) m nP q K S le 0 nS rn dn cI co wa hnP) lk_MO_130 d_MO_worth_88 rfl (rc_at 0 rfl rfl rfl) [0, 8, 4] [1, 2, 3, 5, 6, 7, 9] ⟨rfl, rfl⟩ ⟨rfl, rfl, by decide⟩ [0] rfl ⟨⟨by decide, by decide⟩, ⟨by decide, by decide⟩, Nat.le_of_ble_eq_true rfl⟩ ⟨rfl, rfl⟩ ?_
        rintro v w1 p1 t1 ⟨rfl, rfl, rfl⟩
        dsimp only [Option.toList, List.cons_append, List.nil_append, List.append_nil]
        refine vv_sub (ws' := [ob_MO m q K S le 0 nS (nP : Int) rn dn, ar_I (q 10) cI 8 pw, ar_I (q 11) cI 8 ph, ar_I (q 13) cZ 8 tu, ar_I (q 14) cI 8 (wl co nP wa 8), ar_I (q 17) cI 2312 T.1, ar_I (q 18) cI 2312 T.2.1, ar_I (q 19) cI 2312 T.2.2, ar_I (q 12) cI 8 co, ar_I (q 16) cI 8 (cp st wa 8)]) [7, 0, 1, 2, 9, 3, 4, 5, 8, 6] rfl rfl ?_
        refine vv_aload_n d_MO_worth_91 rfl ?_
        refine vv_nV hw (wc := [ob_MO m q K S le 0 nS (nP : Int) rn dn, ar_I (q 10) cI 8 pw, ar_I (q 11) cI 8 ph, ar_I (q 13) cZ 8 tu, ar_I (q 14) cI 8 (wl co nP wa 8), ar_I (q 17) cI 2312 T.1, ar_I (q 18) cI 2312 T.2.1, ar_I (q 19) cI 2312 T.2.2]) (wr := [ar_I (q 12) cI 8 co, ar_I (q 16) cI 8 (cp st wa 8)]) [] (c_MO_fill (cx_l X) (cx_D X) m nP q K S le 0 nS rn dn cI cZ pw ph tu (wl co nP wa 8) T hnP hK hb hwl hT) lk_MO_133 d_MO_worth_92 rfl (rc_at 0 rfl rfl rfl) [0, 1, 2, 3, 4, 5, 6, 7] [8, 9] ⟨rfl, rfl⟩ ⟨rfl, rfl, by decide⟩ [0, 1] rfl ⟨⟨by decide, by decide⟩, ⟨by decide, by decide⟩, Nat.le_of_ble_eq_true rfl⟩ ⟨rfl, rfl⟩ ?_
        rintro v w1 p1 t1 ⟨rfl, rfl, rfl⟩
        dsimp only [Option.toList, List.cons_append, List.nil_append, List.append_nil]
        refine vv_sub (ws' := [ob_MO m q K S le 0 nS (nP : Int) rn dn, ar_I (q 10) cI 8 pw, ar_I (q 11) cI 8 ph, ar_I (q 13) cZ 8 tu, ar_I (q 14) cI 8 (wl co nP wa 8), ar_I (q 17) cI 2312 (fi_s pw ph tu (wl co nP wa 8) nP K T 4).1, ar_I (q 18) cI 2312 (fi_s pw ph tu (wl co nP wa 8) nP K T 4).2.1, ar_I (q 19) cI 2312 (fi_s pw ph tu (wl co nP wa 8) nP K T 4).2.2, ar_I (q 12) cI 8 co, ar_I (q 16) cI 8 (cp st wa 8)]) [2, 3, 4, 5, 6, 7, 8, 9, 0, 1] rfl rfl ?_
        refine vv_iconst d_MO_worth_95 ?_
        refine vv_istore d_MO_worth_96 rfl (by decide) ?_
        dsimp only [List.set]
        exact loop2 8 0 (by omega) _ rfl
      · exfalso; omega
    | succ n ih =>
      intro k hk g hg
      have h9 := ih (k + 1) (by omega) (va_up g k (wa k)) (by rw [← hg]; rfl)
      refine vv_iload d_MO_worth_60 rfl ?_
      refine vv_bipush d_MO_worth_62 (by decide +kernel) ?_
      refine vv_icmp_ge (tgt := 87) d_MO_worth_64 (by decide) ⟨by omega, by omega⟩ (fun c64 => ?_) (fun c64 => ?_)
      · exfalso; omega
      · skip
        refine vv_aload_n d_MO_worth_67 rfl ?_
        refine vv_get d_MO_worth_68 0 rfl fl_MO_41 rfl ?_
        refine vv_iload d_MO_worth_71 rfl ?_
        refine vv_aload_n d_MO_worth_73 rfl ?_
        refine vv_get d_MO_worth_74 0 rfl fl_MO_35 rfl ?_
        refine vv_iload d_MO_worth_77 rfl ?_
        refine vv_iald d_MO_worth_79 4 0 rfl rfl (by omega) ?_
        refine vv_iast hw d_MO_worth_80 9 0 rfl rfl (by omega) ?_
        dsimp only [List.set]
        refine vv_iinc d_MO_worth_81 rfl rfl (by decide) ?_
        dsimp only [List.set]
        refine vv_goto (tgt := 60) d_MO_worth_84 (by decide) ?_
        simp only [Int.toNat_natCast]
        exact h9
  show VV X (b_MO_worth, 6, "SheetTreesModel", rm_3) _ 0 0 [(cI, .int), (cZ, .boolean)] [ob_MO m q K S le cd nS (nP : Int) rn dn, ar_I (q 10) cI 8 pw, ar_I (q 11) cI 8 ph, ar_I (q 13) cZ 8 tu, ar_I (q 14) cI 8 wa, ar_I (q 17) cI 2312 T.1, ar_I (q 18) cI 2312 T.2.1, ar_I (q 19) cI 2312 T.2.2, ar_I (q 12) cI 8 co, ar_I (q 16) cI 8 st] [] [some (.ref m), some (.int (iI w)), some (.int (iI h)), some (.int (iI d)), some (.int (iI s)), none] [] 0
  refine vv_aload_n d_MO_worth_0 rfl ?_
  refine vv_iload_n d_MO_worth_1 rfl ?_
  refine vv_iconst d_MO_worth_2 ?_
  refine vv_bipush d_MO_worth_3 (by decide +kernel) ?_
  refine vv_pS (wc := []) (plc := []) [.ref m] (c_MO_in (cx_l X) (cx_D X) w 1 16 (by omega) (by omega) (by omega)) lk_MO_102 d_MO_worth_5 rfl [] ⟨rfl, rfl, Or.inl rfl⟩ [] rfl ⟨⟨by decide, by decide⟩, ⟨by decide, by decide⟩, Nat.le_of_ble_eq_true rfl⟩ ⟨rfl, rfl⟩ ?_
  intro v hv
  subst hv
  dsimp only [Option.toList, List.cons_append, List.nil_append, List.append_nil]
  have hc5 := isW_c w 1 16
  refine vv_if_eq (tgt := 44) d_MO_worth_8 (by decide) (by omega) (fun c8 => ?_) (fun c8 => ?_)
  · skip
    exfalso; omega
  · skip
    refine vv_iload_n d_MO_worth_11 rfl ?_
    refine vv_iconst d_MO_worth_12 ?_
    refine vv_bipush d_MO_worth_13 (by decide +kernel) ?_
    refine vv_pS (wc := []) (plc := []) [.ref m] (c_MO_in (cx_l X) (cx_D X) h 1 16 (by omega) (by omega) (by omega)) lk_MO_102 d_MO_worth_15 rfl [] ⟨rfl, rfl, Or.inl rfl⟩ [] rfl ⟨⟨by decide, by decide⟩, ⟨by decide, by decide⟩, Nat.le_of_ble_eq_true rfl⟩ ⟨rfl, rfl⟩ ?_
    intro v hv
    subst hv
    dsimp only [Option.toList, List.cons_append, List.nil_append, List.append_nil]
    have hc15 := isW_c h 1 16
    refine vv_if_eq (tgt := 44) d_MO_worth_18 (by decide) (by omega) (fun c18 => ?_) (fun c18 => ?_)
    · skip
      exfalso; omega
    · skip
      refine vv_iload_n d_MO_worth_21 rfl ?_
      refine vv_iconst d_MO_worth_22 ?_
      refine vv_iconst d_MO_worth_23 ?_
      refine vv_pS (wc := []) (plc := []) [.ref m] (c_MO_in (cx_l X) (cx_D X) d 0 1 (by omega) (by omega) (by omega)) lk_MO_102 d_MO_worth_24 rfl [] ⟨rfl, rfl, Or.inl rfl⟩ [] rfl ⟨⟨by decide, by decide⟩, ⟨by decide, by decide⟩, Nat.le_of_ble_eq_true rfl⟩ ⟨rfl, rfl⟩ ?_
      intro v hv
      subst hv
      dsimp only [Option.toList, List.cons_append, List.nil_append, List.append_nil]
      have hc24 := isW_c d 0 1
      refine vv_if_eq (tgt := 44) d_MO_worth_27 (by decide) (by omega) (fun c27 => ?_) (fun c27 => ?_)
      · skip
        exfalso; omega
      · skip
        refine vv_iload d_MO_worth_30 rfl ?_
        refine vv_iconst d_MO_worth_32 ?_
        refine vv_iconst d_MO_worth_33 ?_
        refine vv_pS (wc := []) (plc := []) [.ref m] (c_MO_in (cx_l X) (cx_D X) s 0 3 (by omega) (by omega) (by omega)) lk_MO_102 d_MO_worth_34 rfl [] ⟨rfl, rfl, Or.inl rfl⟩ [] rfl ⟨⟨by decide, by decide⟩, ⟨by decide, by decide⟩, Nat.le_of_ble_eq_true rfl⟩ ⟨rfl, rfl⟩ ?_
        intro v hv
        subst hv
        dsimp only [Option.toList, List.cons_append, List.nil_append, List.append_nil]
        have hc34 := isW_c s 0 3
        refine vv_if_eq (tgt := 44) d_MO_worth_37 (by decide) (by omega) (fun c37 => ?_) (fun c37 => ?_)
        · skip
          exfalso; omega
        · skip
          refine vv_iconst d_MO_worth_40 ?_
          refine vv_goto (tgt := 45) d_MO_worth_41 (by decide) ?_
          refine vv_put hw d_MO_worth_45 0 rfl fp_MO_99 rfl rfl (Nat.le_of_ble_eq_true rfl) ?_
          dsimp only [List.set]
          refine vv_aload_n d_MO_worth_48 rfl ?_
          refine vv_get d_MO_worth_49 0 rfl fl_MO_99 rfl ?_
          refine vv_if_le (tgt := 57) d_MO_worth_52 (by decide) (by omega) (fun c52 => ?_) (fun c52 => ?_)
          · skip
            refine vv_iconst d_MO_worth_57 ?_
            refine vv_istore d_MO_worth_58 rfl (by decide) ?_
            dsimp only [List.set]
            exact loop1 8 0 (by omega) st rfl
          · skip
            exfalso; omega
