/-! SheetTreesLaw: the methods that catch -/
abbrev ar_J (q : Nat) (cA : ClassId) (N : Nat) (g : Nat → Int64) : Nat × va_E := (q, .inl (cA, N, .inr (.inl g)))
section LAST
variable {X : cx_T} {M : ms_T} {Q : State → Prop} {k n : Nat} {tys : List (ClassId × FieldType)} {ws pl : va_W} {lv : List (Option Value)} {st : List Value} {pc : Nat}
theorem vv_last (hw : cx_w X) {a N : Nat} {cA : ClassId} {g : Nat → Int64} {z : Int} {x : Int64} (hd : decode M.1 pc = .ok (.lastore, 1)) (q0 t0 : Nat) (ha : ws[q0]? = some (a, .inl (cA, N, .inr (.inl g)))) (ht : tys[t0]? = some (cA, .long)) (hz : 0 ≤ z ∧ z < (N : Int) ∧ N < 2147483648) (kk : VV X M Q k n tys (ws.set q0 (a, .inl (cA, N, .inr (.inl (vp_updL g z.toNat x))))) pl lv st (pc + 1)) : VV X M Q k n tys ws pl lv (.long x :: .int (iI z) :: .ref a :: st) pc := fun C H locs ls hK hP hD hS hl =>
  va_last C.1 C.2.1 hK hP (hD.weaken (fun _ _ _ h => hw _ h)) hS q0 t0 (vv_at ha) ht (iI_in hz.1 hz.2.1 hz.2.2) hd (fun H1 locs1 hP1 hD1 hS1 => by
    rw [iI_cl hz.1 (by omega)] at hP1 hD1
    have e2 : (ws ++ pl).set q0 (a, .inl (cA, N, .inr (.inl (vp_updL g z.toNat x)))) = ws.set q0 (a, .inl (cA, N, .inr (.inl (vp_updL g z.toNat x)))) ++ pl := List.set_append_left _ _ (List.getElem?_eq_some_iff.mp ha).1
    rw [e2] at hP1 hD1
    refine kk C H1 locs1 ls hK hP1 ?_ hS1 hl
    rw [← e2]
    exact hD.set (vv_at ha))
end LAST
abbrev hh_sheet : hd_T := [(0, 14, 17, 13), (0, 14, 21, 15)]
abbrev hh_part : hd_T := [(0, 14, 17, 13), (0, 14, 21, 15)]
abbrev hh_count : hd_T := [(0, 10, 13, 25), (0, 10, 17, 13)]
abbrev hh_worth : hd_T := [(0, 14, 17, 13)]
abbrev hh_cut : hd_T := [(0, 10, 13, 15), (0, 10, 17, 25)]
abbrev hh_taken : hd_T := [(0, 12, 15, 15), (0, 12, 19, 25)]
abbrev hh_rest : hd_T := [(0, 12, 15, 15), (0, 12, 19, 25)]
abbrev hh_left : hd_T := [(0, 9, 12, 15), (0, 9, 15, 25)]
abbrev hh_all : hd_T := [(0, 8, 11, 15), (0, 8, 14, 25)]
set_option maxHeartbeats 4000000 in
set_option maxRecDepth 100000 in
theorem w_sheet_y (l : Launch) (D : va_G) (x qsh qpa qcu qtk qrs qt ql nS : Nat) (S le nP nC nT nR rn w h c n : Int) (cS : ClassId) (fS : Nat → Option Nat) (L : List Nat) (f : Nat → va_E) (aS aP aC : Nat → Nat) (Sh R : Nat → pa_T) (Cs : Nat → Nat → Int) (hnS : nS < 4) (hw1 : 1 ≤ w ∧ w ≤ 16) (hh1 : 1 ≤ h ∧ h ≤ 16) (hc1 : 1 ≤ c ∧ c ≤ 10000) (hn1 : 0 ≤ n ∧ n ≤ 20) (hfS : ∀ i : Nat, i < 4 → fS i = some (aS i)) (hPL : PL L f aS aP aC Sh R Cs) (hAD : AD aS aP aC) (qo : Nat) (cJ : ClassId) (g : Nat → Int64) : CMW l y_LW_sheet b_LW_sheet 7 (some .int) hh_sheet rm_3 [.ref x, .int (iI w), .int (iI h), .int (iI c), .int (iI n), .ref qo] D [(cJ, .long), (cS, .object "SheetTrees$Sheet")] ((ar_J qo cJ 1 g :: [ob_ST x qsh qpa qcu qtk qrs qt ql S le (nS : Int) nP nC nT nR rn, ar_Q qsh cS 4 fS]) ++ va_pl L f) (fun v w1 p1 _ => v = some (.int (iI 0)) ∧ w1 = ar_J qo cJ 1 (vp_updL g 0 ((iI (nS : Int))).toInt64) :: [ob_ST x qsh qpa qcu qtk qrs qt ql S le ((nS : Int) + 1) nP nC nT nR 0, ar_Q qsh cS 4 fS] ∧ ∃ f9, p1 = va_pl L f9 ∧ PL L f9 aS aP aC (va_up Sh nS ((w, h, c, n, (Sh nS).2.2.2.2) : pa_T)) R Cs) := by
  refine cmw_of (by decide) (Nat.le_of_ble_eq_true rfl) ?_
  intro X sz hl hr hnm hDD hAA hww
  subst hDD
  show VV X (b_LW_sheet, 7, "SheetTreesLaw", rm_3) _ 0 0 [(cJ, .long), (cS, .object "SheetTrees$Sheet")] (ar_J qo cJ 1 g :: [ob_ST x qsh qpa qcu qtk qrs qt ql S le (nS : Int) nP nC nT nR rn, ar_Q qsh cS 4 fS]) (va_pl L f) [some (.ref x), some (.int (iI w)), some (.int (iI h)), some (.int (iI c)), some (.int (iI n)), some (.ref qo), none] [] 0
  refine vv_aload d_LW_sheet_0 rfl ?_
  refine vv_iconst d_LW_sheet_2 ?_
  refine vv_aload_n d_LW_sheet_3 rfl ?_
  refine vv_iload_n d_LW_sheet_4 rfl ?_
  refine vv_iload_n d_LW_sheet_5 rfl ?_
  refine vv_iload_n d_LW_sheet_6 rfl ?_
  refine vv_iload d_LW_sheet_7 rfl ?_
  refine vv_mV hww (wc := [ob_ST x qsh qpa qcu qtk qrs qt ql S le (nS : Int) nP nC nT nR rn, ar_Q qsh cS 4 fS]) (wr := [ar_J qo cJ 1 g]) [.int (iI 0), .ref qo] (c_ST_sheet_y (cx_l X) (cx_D X) x qsh qpa qcu qtk qrs qt ql nS S le nP nC nT nR rn w h c n cS fS L f aS aP aC Sh R Cs hnS hw1 hh1 hc1 hn1 hfS hPL hAD) lk_LW_7 d_LW_sheet_9 rfl (rc_at 1 rfl rfl rfl) [1, 2] [0] ⟨rfl, rfl⟩ ⟨rfl, rfl, by decide⟩ [1] rfl ⟨⟨by decide, by decide⟩, ⟨by decide, by decide⟩, Nat.le_of_ble_eq_true rfl⟩ ⟨rfl, rfl⟩ ?_
  rintro v w1 p1 t1 ⟨rfl, rfl, hq⟩
  dsimp only [Option.toList, List.cons_append, List.nil_append, List.append_nil]
  refine vv_i2l d_LW_sheet_12 rfl ?_
  refine vv_last hww d_LW_sheet_13 0 0 rfl rfl ⟨by decide, by decide, by decide⟩ ?_
  dsimp only [List.set]
  refine vv_goto (tgt := 25) d_LW_sheet_14 (by decide) ?_
  refine vv_iconst d_LW_sheet_25 ?_
  exact vv_iret hAA hww hr d_LW_sheet_26 (by decide) (by decide) (by exact ⟨rfl, rfl, hq⟩)
set_option maxHeartbeats 4000000 in
set_option maxRecDepth 100000 in
theorem w_sheet_n1 (l : Launch) (D : va_G) (x qsh qpa qcu qtk qrs qt ql : Nat) (nS : Nat) (S le nP nC nT nR rn w h c n : Int) (cS : ClassId) (fS : Nat → Option Nat) (hfl : l.flags = flags0) (h_w : -2147483648 ≤ w ∧ w < 2147483648) (h_h : -2147483648 ≤ h ∧ h < 2147483648) (h_c : -2147483648 ≤ c ∧ c < 2147483648) (h_n : -2147483648 ≤ n ∧ n < 2147483648) (hb : (w < 1 ∨ 16 < w) ∨ (h < 1 ∨ 16 < h) ∨ (c < 1 ∨ 10000 < c) ∨ n < 0 ∨ 20 < n) (qo : Nat) : CPW l y_LW_sheet b_LW_sheet 7 (some .int) hh_sheet rx_2 [.ref x, .int (iI w), .int (iI h), .int (iI c), .int (iI n), .ref qo] D [(cS, .object "SheetTrees$Sheet")] ([ob_ST x qsh qpa qcu qtk qrs qt ql S le (nS : Int) nP nC nT nR rn, ar_Q qsh cS 4 fS] ++ []) (fun v => v = some (.int (iI 1))) := by
  refine cpw_of (by decide) (Nat.le_of_ble_eq_true rfl) ?_
  intro X sz hl hr hDD hAA ht
  subst hDD
  show VV X (b_LW_sheet, 7, "SheetTreesLaw", rx_2) _ 0 0 [(cS, .object "SheetTrees$Sheet")] [ob_ST x qsh qpa qcu qtk qrs qt ql S le (nS : Int) nP nC nT nR rn, ar_Q qsh cS 4 fS] [] [some (.ref x), some (.int (iI w)), some (.int (iI h)), some (.int (iI c)), some (.int (iI n)), some (.ref qo), none] [] 0
  refine vv_aload d_LW_sheet_0 rfl ?_
  refine vv_iconst d_LW_sheet_2 ?_
  refine vv_aload_n d_LW_sheet_3 rfl ?_
  refine vv_iload_n d_LW_sheet_4 rfl ?_
  refine vv_iload_n d_LW_sheet_5 rfl ?_
  refine vv_iload_n d_LW_sheet_6 rfl ?_
  refine vv_iload d_LW_sheet_7 rfl ?_
  refine vv_catch1 [.int (iI 0), .ref qo] ht rfl ⟨by decide, by decide, by decide⟩ (tb_at 444 rfl rfl) (wc := [ob_ST x qsh qpa qcu qtk qrs qt ql S le (nS : Int) nP nC nT nR rn, ar_Q qsh cS 4 fS]) (plc := []) (c_ST_sheet_n1 (cx_l X) (cx_D X) x qsh qpa qcu qtk qrs qt ql nS S le nP nC nT nR rn w h c n cS fS (hl ▸ hfl) h_w h_h h_c h_n hb) lk_LW_7 (tb_at 446 rfl rfl) d_LW_sheet_9 rfl (rc_at 0 rfl rfl rfl) [0, 1] ⟨rfl, rfl, Or.inl rfl⟩ [0] rfl ⟨⟨by decide, by decide⟩, ⟨by decide, by decide⟩, Nat.le_of_ble_eq_true rfl⟩ (fun v => ?_)
  refine vv_astore d_LW_sheet_17 rfl (by decide) ?_
  dsimp only [List.set]
  refine vv_iconst d_LW_sheet_19 ?_
  exact vp_iret hAA hr d_LW_sheet_20 (by decide) (by decide) rfl
set_option maxHeartbeats 4000000 in
set_option maxRecDepth 100000 in
theorem w_sheet_n2 (l : Launch) (D : va_G) (x qsh qpa qcu qtk qrs qt ql : Nat) (nS : Nat) (S le nP nC nT nR rn w h c n : Int) (cS : ClassId) (fS : Nat → Option Nat) (hfl : l.flags = flags0) (hnS : nS = 4) (hb : (1 ≤ w ∧ w ≤ 16) ∧ (1 ≤ h ∧ h ≤ 16) ∧ (1 ≤ c ∧ c ≤ 10000) ∧ 0 ≤ n ∧ n ≤ 20) (qo : Nat) : CPW l y_LW_sheet b_LW_sheet 7 (some .int) hh_sheet rx_2 [.ref x, .int (iI w), .int (iI h), .int (iI c), .int (iI n), .ref qo] D [(cS, .object "SheetTrees$Sheet")] ([ob_ST x qsh qpa qcu qtk qrs qt ql S le (nS : Int) nP nC nT nR rn, ar_Q qsh cS 4 fS] ++ []) (fun v => v = some (.int (iI 2))) := by
  refine cpw_of (by decide) (Nat.le_of_ble_eq_true rfl) ?_
  intro X sz hl hr hDD hAA ht
  subst hDD
  show VV X (b_LW_sheet, 7, "SheetTreesLaw", rx_2) _ 0 0 [(cS, .object "SheetTrees$Sheet")] [ob_ST x qsh qpa qcu qtk qrs qt ql S le (nS : Int) nP nC nT nR rn, ar_Q qsh cS 4 fS] [] [some (.ref x), some (.int (iI w)), some (.int (iI h)), some (.int (iI c)), some (.int (iI n)), some (.ref qo), none] [] 0
  refine vv_aload d_LW_sheet_0 rfl ?_
  refine vv_iconst d_LW_sheet_2 ?_
  refine vv_aload_n d_LW_sheet_3 rfl ?_
  refine vv_iload_n d_LW_sheet_4 rfl ?_
  refine vv_iload_n d_LW_sheet_5 rfl ?_
  refine vv_iload_n d_LW_sheet_6 rfl ?_
  refine vv_iload d_LW_sheet_7 rfl ?_
  refine vv_catch2 [.int (iI 0), .ref qo] (xo := n_IAE) ht rfl ⟨by decide, by decide, by decide⟩ ⟨by decide, by decide, by decide⟩ (tb_at 444 rfl rfl) (tb_at 445 rfl rfl) (by decide +kernel) (wc := [ob_ST x qsh qpa qcu qtk qrs qt ql S le (nS : Int) nP nC nT nR rn, ar_Q qsh cS 4 fS]) (plc := []) (c_ST_sheet_n2 (cx_l X) (cx_D X) x qsh qpa qcu qtk qrs qt ql nS S le nP nC nT nR rn w h c n cS fS (hl ▸ hfl) hnS hb) lk_LW_7 (tb_at 446 rfl rfl) d_LW_sheet_9 rfl (rc_at 0 rfl rfl rfl) [0, 1] ⟨rfl, rfl, Or.inl rfl⟩ [0] rfl ⟨⟨by decide, by decide⟩, ⟨by decide, by decide⟩, Nat.le_of_ble_eq_true rfl⟩ (fun v => ?_)
  refine vv_astore d_LW_sheet_21 rfl (by decide) ?_
  dsimp only [List.set]
  refine vv_iconst d_LW_sheet_23 ?_
  exact vp_iret hAA hr d_LW_sheet_24 (by decide) (by decide) rfl
set_option maxHeartbeats 4000000 in
set_option maxRecDepth 100000 in
theorem w_part_y (l : Launch) (D : va_G) (x qsh qpa qcu qtk qrs qt ql nP : Nat) (S le nS nC nT nR rn w h n t : Int) (cP : ClassId) (fP : Nat → Option Nat) (L : List Nat) (f : Nat → va_E) (aS aP aC : Nat → Nat) (Sh R : Nat → pa_T) (Cs : Nat → Nat → Int) (hnP : nP < 8) (hw1 : 1 ≤ w ∧ w ≤ 16) (hh1 : 1 ≤ h ∧ h ≤ 16) (hn1 : 0 ≤ n ∧ n ≤ 50) (ht1 : t = 0 ∨ t = 1) (hfP : ∀ i : Nat, i < 8 → fP i = some (aP i)) (hPL : PL L f aS aP aC Sh R Cs) (hAD : AD aS aP aC) (qo : Nat) (cJ : ClassId) (g : Nat → Int64) : CMW l y_LW_part b_LW_part 7 (some .int) hh_part rm_3 [.ref x, .int (iI w), .int (iI h), .int (iI n), .int (iI t), .ref qo] D [(cJ, .long), (cP, .object "SheetTrees$Part")] ((ar_J qo cJ 1 g :: [ob_ST x qsh qpa qcu qtk qrs qt ql S le nS (nP : Int) nC nT nR rn, ar_Q qpa cP 8 fP]) ++ va_pl L f) (fun v w1 p1 _ => v = some (.int (iI 0)) ∧ w1 = ar_J qo cJ 1 (vp_updL g 0 ((iI (nP : Int))).toInt64) :: [ob_ST x qsh qpa qcu qtk qrs qt ql S le nS ((nP : Int) + 1) nC nT nR 0, ar_Q qpa cP 8 fP] ∧ ∃ f9, p1 = va_pl L f9 ∧ PL L f9 aS aP aC Sh (va_up R nP ((w, h, t, n, (R nP).2.2.2.2) : pa_T)) Cs) := by
  refine cmw_of (by decide) (Nat.le_of_ble_eq_true rfl) ?_
  intro X sz hl hr hnm hDD hAA hww
  subst hDD
  show VV X (b_LW_part, 7, "SheetTreesLaw", rm_3) _ 0 0 [(cJ, .long), (cP, .object "SheetTrees$Part")] (ar_J qo cJ 1 g :: [ob_ST x qsh qpa qcu qtk qrs qt ql S le nS (nP : Int) nC nT nR rn, ar_Q qpa cP 8 fP]) (va_pl L f) [some (.ref x), some (.int (iI w)), some (.int (iI h)), some (.int (iI n)), some (.int (iI t)), some (.ref qo), none] [] 0
  refine vv_aload d_LW_part_0 rfl ?_
  refine vv_iconst d_LW_part_2 ?_
  refine vv_aload_n d_LW_part_3 rfl ?_
  refine vv_iload_n d_LW_part_4 rfl ?_
  refine vv_iload_n d_LW_part_5 rfl ?_
  refine vv_iload_n d_LW_part_6 rfl ?_
  refine vv_iload d_LW_part_7 rfl ?_
  refine vv_mV hww (wc := [ob_ST x qsh qpa qcu qtk qrs qt ql S le nS (nP : Int) nC nT nR rn, ar_Q qpa cP 8 fP]) (wr := [ar_J qo cJ 1 g]) [.int (iI 0), .ref qo] (c_ST_part_y (cx_l X) (cx_D X) x qsh qpa qcu qtk qrs qt ql nP S le nS nC nT nR rn w h n t cP fP L f aS aP aC Sh R Cs hnP hw1 hh1 hn1 ht1 hfP hPL hAD) lk_LW_17 d_LW_part_9 rfl (rc_at 1 rfl rfl rfl) [1, 2] [0] ⟨rfl, rfl⟩ ⟨rfl, rfl, by decide⟩ [1] rfl ⟨⟨by decide, by decide⟩, ⟨by decide, by decide⟩, Nat.le_of_ble_eq_true rfl⟩ ⟨rfl, rfl⟩ ?_
  rintro v w1 p1 t1 ⟨rfl, rfl, hq⟩
  dsimp only [Option.toList, List.cons_append, List.nil_append, List.append_nil]
  refine vv_i2l d_LW_part_12 rfl ?_
  refine vv_last hww d_LW_part_13 0 0 rfl rfl ⟨by decide, by decide, by decide⟩ ?_
  dsimp only [List.set]
  refine vv_goto (tgt := 25) d_LW_part_14 (by decide) ?_
  refine vv_iconst d_LW_part_25 ?_
  exact vv_iret hAA hww hr d_LW_part_26 (by decide) (by decide) (by exact ⟨rfl, rfl, hq⟩)
set_option maxHeartbeats 4000000 in
set_option maxRecDepth 100000 in
theorem w_part_n1 (l : Launch) (D : va_G) (x qsh qpa qcu qtk qrs qt ql : Nat) (nP : Nat) (S le nS nC nT nR rn w h n t : Int) (cP : ClassId) (fP : Nat → Option Nat) (hfl : l.flags = flags0) (h_w : -2147483648 ≤ w ∧ w < 2147483648) (h_h : -2147483648 ≤ h ∧ h < 2147483648) (h_n : -2147483648 ≤ n ∧ n < 2147483648) (hb : (w < 1 ∨ 16 < w) ∨ (h < 1 ∨ 16 < h) ∨ n < 0 ∨ 50 < n) (qo : Nat) : CPW l y_LW_part b_LW_part 7 (some .int) hh_part rx_2 [.ref x, .int (iI w), .int (iI h), .int (iI n), .int (iI t), .ref qo] D [(cP, .object "SheetTrees$Part")] ([ob_ST x qsh qpa qcu qtk qrs qt ql S le nS (nP : Int) nC nT nR rn, ar_Q qpa cP 8 fP] ++ []) (fun v => v = some (.int (iI 1))) := by
  refine cpw_of (by decide) (Nat.le_of_ble_eq_true rfl) ?_
  intro X sz hl hr hDD hAA ht
  subst hDD
  show VV X (b_LW_part, 7, "SheetTreesLaw", rx_2) _ 0 0 [(cP, .object "SheetTrees$Part")] [ob_ST x qsh qpa qcu qtk qrs qt ql S le nS (nP : Int) nC nT nR rn, ar_Q qpa cP 8 fP] [] [some (.ref x), some (.int (iI w)), some (.int (iI h)), some (.int (iI n)), some (.int (iI t)), some (.ref qo), none] [] 0
  refine vv_aload d_LW_part_0 rfl ?_
  refine vv_iconst d_LW_part_2 ?_
  refine vv_aload_n d_LW_part_3 rfl ?_
  refine vv_iload_n d_LW_part_4 rfl ?_
  refine vv_iload_n d_LW_part_5 rfl ?_
  refine vv_iload_n d_LW_part_6 rfl ?_
  refine vv_iload d_LW_part_7 rfl ?_
  refine vv_catch1 [.int (iI 0), .ref qo] ht rfl ⟨by decide, by decide, by decide⟩ (tb_at 444 rfl rfl) (wc := [ob_ST x qsh qpa qcu qtk qrs qt ql S le nS (nP : Int) nC nT nR rn, ar_Q qpa cP 8 fP]) (plc := []) (c_ST_part_n1 (cx_l X) (cx_D X) x qsh qpa qcu qtk qrs qt ql nP S le nS nC nT nR rn w h n t cP fP (hl ▸ hfl) h_w h_h h_n hb) lk_LW_17 (tb_at 545 rfl rfl) d_LW_part_9 rfl (rc_at 0 rfl rfl rfl) [0, 1] ⟨rfl, rfl, Or.inl rfl⟩ [0] rfl ⟨⟨by decide, by decide⟩, ⟨by decide, by decide⟩, Nat.le_of_ble_eq_true rfl⟩ (fun v => ?_)
  refine vv_astore d_LW_part_17 rfl (by decide) ?_
  dsimp only [List.set]
  refine vv_iconst d_LW_part_19 ?_
  exact vp_iret hAA hr d_LW_part_20 (by decide) (by decide) rfl
set_option maxHeartbeats 4000000 in
set_option maxRecDepth 100000 in
theorem w_part_n2 (l : Launch) (D : va_G) (x qsh qpa qcu qtk qrs qt ql : Nat) (nP : Nat) (S le nS nC nT nR rn w h n t : Int) (cP : ClassId) (fP : Nat → Option Nat) (hfl : l.flags = flags0) (hnP : nP = 8) (hb : (1 ≤ w ∧ w ≤ 16) ∧ (1 ≤ h ∧ h ≤ 16) ∧ 0 ≤ n ∧ n ≤ 50) (qo : Nat) : CPW l y_LW_part b_LW_part 7 (some .int) hh_part rx_2 [.ref x, .int (iI w), .int (iI h), .int (iI n), .int (iI t), .ref qo] D [(cP, .object "SheetTrees$Part")] ([ob_ST x qsh qpa qcu qtk qrs qt ql S le nS (nP : Int) nC nT nR rn, ar_Q qpa cP 8 fP] ++ []) (fun v => v = some (.int (iI 2))) := by
  refine cpw_of (by decide) (Nat.le_of_ble_eq_true rfl) ?_
  intro X sz hl hr hDD hAA ht
  subst hDD
  show VV X (b_LW_part, 7, "SheetTreesLaw", rx_2) _ 0 0 [(cP, .object "SheetTrees$Part")] [ob_ST x qsh qpa qcu qtk qrs qt ql S le nS (nP : Int) nC nT nR rn, ar_Q qpa cP 8 fP] [] [some (.ref x), some (.int (iI w)), some (.int (iI h)), some (.int (iI n)), some (.int (iI t)), some (.ref qo), none] [] 0
  refine vv_aload d_LW_part_0 rfl ?_
  refine vv_iconst d_LW_part_2 ?_
  refine vv_aload_n d_LW_part_3 rfl ?_
  refine vv_iload_n d_LW_part_4 rfl ?_
  refine vv_iload_n d_LW_part_5 rfl ?_
  refine vv_iload_n d_LW_part_6 rfl ?_
  refine vv_iload d_LW_part_7 rfl ?_
  refine vv_catch2 [.int (iI 0), .ref qo] (xo := n_IAE) ht rfl ⟨by decide, by decide, by decide⟩ ⟨by decide, by decide, by decide⟩ (tb_at 444 rfl rfl) (tb_at 445 rfl rfl) (by decide +kernel) (wc := [ob_ST x qsh qpa qcu qtk qrs qt ql S le nS (nP : Int) nC nT nR rn, ar_Q qpa cP 8 fP]) (plc := []) (c_ST_part_n2 (cx_l X) (cx_D X) x qsh qpa qcu qtk qrs qt ql nP S le nS nC nT nR rn w h n t cP fP (hl ▸ hfl) hnP hb) lk_LW_17 (tb_at 545 rfl rfl) d_LW_part_9 rfl (rc_at 0 rfl rfl rfl) [0, 1] ⟨rfl, rfl, Or.inl rfl⟩ [0] rfl ⟨⟨by decide, by decide⟩, ⟨by decide, by decide⟩, Nat.le_of_ble_eq_true rfl⟩ (fun v => ?_)
  refine vv_astore d_LW_part_21 rfl (by decide) ?_
  dsimp only [List.set]
  refine vv_iconst d_LW_part_23 ?_
  exact vp_iret hAA hr d_LW_part_24 (by decide) (by decide) rfl
set_option maxHeartbeats 4000000 in
set_option maxRecDepth 100000 in
theorem w_count_y (l : Launch) (D : va_G) (x qsh qpa qcu qtk qrs qt ql nP k : Nat) (S le nS nC nT nR rn n : Int) (cP : ClassId) (fP : Nat → Option Nat) (L : List Nat) (f : Nat → va_E) (aS aP aC : Nat → Nat) (Sh R : Nat → pa_T) (Cs : Nat → Nat → Int) (hnP : nP ≤ 8) (hk : k < nP) (hn1 : 0 ≤ n ∧ n ≤ 50) (hfP : ∀ i : Nat, i < 8 → fP i = some (aP i)) (hPL : PL L f aS aP aC Sh R Cs) (hAD : AD aS aP aC) (qo : Nat) (cJ : ClassId) (g : Nat → Int64) : CMW l y_LW_count b_LW_count 5 (some .int) hh_count rm_3 [.ref x, .int (iI (k : Int)), .int (iI n), .ref qo] D [(cJ, .long), (cP, .object "SheetTrees$Part")] ((ar_J qo cJ 1 g :: [ob_ST x qsh qpa qcu qtk qrs qt ql S le nS (nP : Int) nC nT nR rn, ar_Q qpa cP 8 fP]) ++ va_pl L f) (fun v w1 p1 _ => v = some (.int (iI 0)) ∧ w1 = ar_J qo cJ 1 (vp_updL g 0 ((iI (R k).2.2.2.1)).toInt64) :: [ob_ST x qsh qpa qcu qtk qrs qt ql S le nS (nP : Int) nC nT nR 0, ar_Q qpa cP 8 fP] ∧ ∃ f9, p1 = va_pl L f9 ∧ PL L f9 aS aP aC Sh (va_up R k (((R k).1, (R k).2.1, (R k).2.2.1, n, (R k).2.2.2.2) : pa_T)) Cs) := by
  refine cmw_of (by decide) (Nat.le_of_ble_eq_true rfl) ?_
  intro X sz hl hr hnm hDD hAA hww
  subst hDD
  show VV X (b_LW_count, 5, "SheetTreesLaw", rm_3) _ 0 0 [(cJ, .long), (cP, .object "SheetTrees$Part")] (ar_J qo cJ 1 g :: [ob_ST x qsh qpa qcu qtk qrs qt ql S le nS (nP : Int) nC nT nR rn, ar_Q qpa cP 8 fP]) (va_pl L f) [some (.ref x), some (.int (iI (k : Int))), some (.int (iI n)), some (.ref qo), none] [] 0
  refine vv_aload_n d_LW_count_0 rfl ?_
  refine vv_iconst d_LW_count_1 ?_
  refine vv_aload_n d_LW_count_2 rfl ?_
  refine vv_iload_n d_LW_count_3 rfl ?_
  refine vv_iload_n d_LW_count_4 rfl ?_
  refine vv_mV hww (wc := [ob_ST x qsh qpa qcu qtk qrs qt ql S le nS (nP : Int) nC nT nR rn, ar_Q qpa cP 8 fP]) (wr := [ar_J qo cJ 1 g]) [.int (iI 0), .ref qo] (c_ST_count_y (cx_l X) (cx_D X) x qsh qpa qcu qtk qrs qt ql nP k S le nS nC nT nR rn n cP fP L f aS aP aC Sh R Cs hnP hk hn1 hfP hPL hAD) lk_LW_21 d_LW_count_5 rfl (rc_at 1 rfl rfl rfl) [1, 2] [0] ⟨rfl, rfl⟩ ⟨rfl, rfl, by decide⟩ [1] rfl ⟨⟨by decide, by decide⟩, ⟨by decide, by decide⟩, Nat.le_of_ble_eq_true rfl⟩ ⟨rfl, rfl⟩ ?_
  rintro v w1 p1 t1 ⟨rfl, rfl, hq⟩
  dsimp only [Option.toList, List.cons_append, List.nil_append, List.append_nil]
  refine vv_i2l d_LW_count_8 rfl ?_
  refine vv_last hww d_LW_count_9 0 0 rfl rfl ⟨by decide, by decide, by decide⟩ ?_
  dsimp only [List.set]
  refine vv_goto (tgt := 21) d_LW_count_10 (by decide) ?_
  refine vv_iconst d_LW_count_21 ?_
  exact vv_iret hAA hww hr d_LW_count_22 (by decide) (by decide) (by exact ⟨rfl, rfl, hq⟩)
set_option maxHeartbeats 4000000 in
set_option maxRecDepth 100000 in
theorem w_count_n1 (l : Launch) (D : va_G) (x qsh qpa qcu qtk qrs qt ql : Nat) (nP : Nat) (S le nS nC nT nR rn k n : Int) (cP : ClassId) (fP : Nat → Option Nat) (hfl : l.flags = flags0) (hnP : nP ≤ 8) (h_k : -2147483648 ≤ k ∧ k < 2147483648) (hk : k < 0 ∨ (nP : Int) ≤ k) (qo : Nat) : CPW l y_LW_count b_LW_count 5 (some .int) hh_count rx_2 [.ref x, .int (iI k), .int (iI n), .ref qo] D [(cP, .object "SheetTrees$Part")] ([ob_ST x qsh qpa qcu qtk qrs qt ql S le nS (nP : Int) nC nT nR rn, ar_Q qpa cP 8 fP] ++ []) (fun v => v = some (.int (iI 1))) := by
  refine cpw_of (by decide) (Nat.le_of_ble_eq_true rfl) ?_
  intro X sz hl hr hDD hAA ht
  subst hDD
  show VV X (b_LW_count, 5, "SheetTreesLaw", rx_2) _ 0 0 [(cP, .object "SheetTrees$Part")] [ob_ST x qsh qpa qcu qtk qrs qt ql S le nS (nP : Int) nC nT nR rn, ar_Q qpa cP 8 fP] [] [some (.ref x), some (.int (iI k)), some (.int (iI n)), some (.ref qo), none] [] 0
  refine vv_aload_n d_LW_count_0 rfl ?_
  refine vv_iconst d_LW_count_1 ?_
  refine vv_aload_n d_LW_count_2 rfl ?_
  refine vv_iload_n d_LW_count_3 rfl ?_
  refine vv_iload_n d_LW_count_4 rfl ?_
  refine vv_catch1 [.int (iI 0), .ref qo] ht rfl ⟨by decide, by decide, by decide⟩ (tb_at 554 rfl rfl) (wc := [ob_ST x qsh qpa qcu qtk qrs qt ql S le nS (nP : Int) nC nT nR rn, ar_Q qpa cP 8 fP]) (plc := []) (c_ST_count_n1 (cx_l X) (cx_D X) x qsh qpa qcu qtk qrs qt ql nP S le nS nC nT nR rn k n cP fP (hl ▸ hfl) hnP h_k hk) lk_LW_21 (tb_at 555 rfl rfl) d_LW_count_5 rfl (rc_at 0 rfl rfl rfl) [0, 1] ⟨rfl, rfl, Or.inl rfl⟩ [0] rfl ⟨⟨by decide, by decide⟩, ⟨by decide, by decide⟩, Nat.le_of_ble_eq_true rfl⟩ (fun v => ?_)
  refine vv_astore d_LW_count_13 rfl (by decide) ?_
  dsimp only [List.set]
  refine vv_iconst d_LW_count_15 ?_
  exact vp_iret hAA hr d_LW_count_16 (by decide) (by decide) rfl
set_option maxHeartbeats 4000000 in
set_option maxRecDepth 100000 in
theorem w_count_n2 (l : Launch) (D : va_G) (x qsh qpa qcu qtk qrs qt ql : Nat) (nP k : Nat) (S le nS nC nT nR rn n : Int) (cP : ClassId) (fP : Nat → Option Nat) (aP : Nat → Nat) (hfl : l.flags = flags0) (hnP : nP ≤ 8) (hk : k < nP) (hfP : ∀ i : Nat, i < 8 → fP i = some (aP i)) (h_n : -2147483648 ≤ n ∧ n < 2147483648) (hn : n < 0 ∨ 50 < n) (qo : Nat) : CPW l y_LW_count b_LW_count 5 (some .int) hh_count rx_2 [.ref x, .int (iI (k : Int)), .int (iI n), .ref qo] D [(cP, .object "SheetTrees$Part")] ([ob_ST x qsh qpa qcu qtk qrs qt ql S le nS (nP : Int) nC nT nR rn, ar_Q qpa cP 8 fP] ++ []) (fun v => v = some (.int (iI 2))) := by
  refine cpw_of (by decide) (Nat.le_of_ble_eq_true rfl) ?_
  intro X sz hl hr hDD hAA ht
  subst hDD
  show VV X (b_LW_count, 5, "SheetTreesLaw", rx_2) _ 0 0 [(cP, .object "SheetTrees$Part")] [ob_ST x qsh qpa qcu qtk qrs qt ql S le nS (nP : Int) nC nT nR rn, ar_Q qpa cP 8 fP] [] [some (.ref x), some (.int (iI (k : Int))), some (.int (iI n)), some (.ref qo), none] [] 0
  refine vv_aload_n d_LW_count_0 rfl ?_
  refine vv_iconst d_LW_count_1 ?_
  refine vv_aload_n d_LW_count_2 rfl ?_
  refine vv_iload_n d_LW_count_3 rfl ?_
  refine vv_iload_n d_LW_count_4 rfl ?_
  refine vv_catch2 [.int (iI 0), .ref qo] (xo := n_IOB) ht rfl ⟨by decide, by decide, by decide⟩ ⟨by decide, by decide, by decide⟩ (tb_at 554 rfl rfl) (tb_at 444 rfl rfl) (by decide +kernel) (wc := [ob_ST x qsh qpa qcu qtk qrs qt ql S le nS (nP : Int) nC nT nR rn, ar_Q qpa cP 8 fP]) (plc := []) (c_ST_count_n2 (cx_l X) (cx_D X) x qsh qpa qcu qtk qrs qt ql nP k S le nS nC nT nR rn n cP fP aP (hl ▸ hfl) hnP hk hfP h_n hn) lk_LW_21 (tb_at 555 rfl rfl) d_LW_count_5 rfl (rc_at 0 rfl rfl rfl) [0, 1] ⟨rfl, rfl, Or.inl rfl⟩ [0] rfl ⟨⟨by decide, by decide⟩, ⟨by decide, by decide⟩, Nat.le_of_ble_eq_true rfl⟩ (fun v => ?_)
  refine vv_astore d_LW_count_17 rfl (by decide) ?_
  dsimp only [List.set]
  refine vv_iconst d_LW_count_19 ?_
  exact vp_iret hAA hr d_LW_count_20 (by decide) (by decide) rfl
set_option maxHeartbeats 4000000 in
set_option maxRecDepth 100000 in
theorem w_worth_y (l : Launch) (D : va_G) (x qsh qpa qcu qtk qrs qt ql qs qc nP : Nat) (S le nS nC nT nR rn K W F w h d s : Int) (T : tp_T) (cI cP : ClassId) (fP : Nat → Option Nat) (L : List Nat) (f : Nat → va_E) (aP : Nat → Nat) (R : Nat → pa_T) (hnP : nP ≤ 8) (hw1 : 1 ≤ w ∧ w ≤ 16) (hh1 : 1 ≤ h ∧ h ≤ 16) (hd1 : 0 ≤ d ∧ d ≤ 1) (hs1 : 0 ≤ s ∧ s ≤ 3) (hK : 0 ≤ K ∧ K ≤ 3) (hF : 0 ≤ F ∧ F ≤ 3) (hW : -1 ≤ W ∧ W < 256) (hT : HT (ar_of R) W T) (hPO : ∀ p : Nat, p < 8 → PO (R p)) (hPZ : PZ R) (hpw : ∀ p : Nat, p < nP → 1 ≤ (R p).1 ∧ 1 ≤ (R p).2.1) (hfP : ∀ i : Nat, i < 8 → fP i = some (aP i)) (hPP : PP L f aP R) (qo : Nat) (cJ : ClassId) (g : Nat → Int64) : CMW l y_LW_worth b_LW_worth 7 (some .int) hh_worth rm_5 [.ref x, .int (iI w), .int (iI h), .int (iI d), .int (iI s), .ref qo] D [(cJ, .long), (cI, .int), (cP, .object "SheetTrees$Part")] ((ar_J qo cJ 1 g :: [ob_ST x qsh qpa qcu qtk qrs qt ql S le nS (nP : Int) nC nT nR rn, ar_Q qpa cP 8 fP, ob_TB qt qs qc K W F, ar_I qs cI 2312 T.1, ar_I qc cI 2312 T.2]) ++ va_pl L f) (fun v w1 p1 _ => v = some (.int (iI 0)) ∧ w1 = ar_J qo cJ 1 (vp_updL g 0 ((iI ((rd_scoreAt (fl_T K R (pu_m (fun p => (R p).2.2.2.1) nP) s W F T).1 (pl_at s d w h) + 1024 - 1).tdiv 1024))).toInt64) :: [ob_ST x qsh qpa qcu qtk qrs qt ql S le nS (nP : Int) nC nT nR rn, ar_Q qpa cP 8 fP, ob_TB qt qs qc K (((pu_m (fun p => (R p).2.2.2.1) nP) : Nat) : Int) (fl_G (pu_m (fun p => (R p).2.2.2.1) nP) s W F), ar_I qs cI 2312 (fl_T K R (pu_m (fun p => (R p).2.2.2.1) nP) s W F T).1, ar_I qc cI 2312 (fl_T K R (pu_m (fun p => (R p).2.2.2.1) nP) s W F T).2] ∧ p1 = va_pl L f) := by
  refine cmw_of (by decide) (Nat.le_of_ble_eq_true rfl) ?_
  intro X sz hl hr hnm hDD hAA hww
  subst hDD
  show VV X (b_LW_worth, 7, "SheetTreesLaw", rm_5) _ 0 0 [(cJ, .long), (cI, .int), (cP, .object "SheetTrees$Part")] (ar_J qo cJ 1 g :: [ob_ST x qsh qpa qcu qtk qrs qt ql S le nS (nP : Int) nC nT nR rn, ar_Q qpa cP 8 fP, ob_TB qt qs qc K W F, ar_I qs cI 2312 T.1, ar_I qc cI 2312 T.2]) (va_pl L f) [some (.ref x), some (.int (iI w)), some (.int (iI h)), some (.int (iI d)), some (.int (iI s)), some (.ref qo), none] [] 0
  refine vv_aload d_LW_worth_0 rfl ?_
  refine vv_iconst d_LW_worth_2 ?_
  refine vv_aload_n d_LW_worth_3 rfl ?_
  refine vv_iload_n d_LW_worth_4 rfl ?_
  refine vv_iload_n d_LW_worth_5 rfl ?_
  refine vv_iload_n d_LW_worth_6 rfl ?_
  refine vv_iload d_LW_worth_7 rfl ?_
  refine vv_mV hww (wc := [ob_ST x qsh qpa qcu qtk qrs qt ql S le nS (nP : Int) nC nT nR rn, ar_Q qpa cP 8 fP, ob_TB qt qs qc K W F, ar_I qs cI 2312 T.1, ar_I qc cI 2312 T.2]) (wr := [ar_J qo cJ 1 g]) [.int (iI 0), .ref qo] (c_ST_worth_y (cx_l X) (cx_D X) x qsh qpa qcu qtk qrs qt ql qs qc nP S le nS nC nT nR rn K W F w h d s T cI cP fP L f aP R hnP hw1 hh1 hd1 hs1 hK hF hW hT hPO hPZ hpw hfP hPP) lk_LW_27 d_LW_worth_9 rfl (rc_at 1 rfl rfl rfl) [1, 2, 3, 4, 5] [0] ⟨rfl, rfl⟩ ⟨rfl, rfl, by decide⟩ [1, 2] rfl ⟨⟨by decide, by decide⟩, ⟨by decide, by decide⟩, Nat.le_of_ble_eq_true rfl⟩ ⟨rfl, rfl⟩ ?_
  rintro v w1 p1 t1 ⟨rfl, rfl, hq⟩
  dsimp only [Option.toList, List.cons_append, List.nil_append, List.append_nil]
  refine vv_i2l d_LW_worth_12 rfl ?_
  refine vv_last hww d_LW_worth_13 0 0 rfl rfl ⟨by decide, by decide, by decide⟩ ?_
  dsimp only [List.set]
  refine vv_goto (tgt := 21) d_LW_worth_14 (by decide) ?_
  refine vv_iconst d_LW_worth_21 ?_
  exact vv_iret hAA hww hr d_LW_worth_22 (by decide) (by decide) (by exact ⟨rfl, rfl, hq⟩)
set_option maxHeartbeats 4000000 in
set_option maxRecDepth 100000 in
theorem w_worth_n (l : Launch) (D : va_G) (x qsh qpa qcu qtk qrs qt ql : Nat) (S le nS nP nC nT nR rn w h d s : Int) (hfl : l.flags = flags0) (h_w : -2147483648 ≤ w ∧ w < 2147483648) (h_h : -2147483648 ≤ h ∧ h < 2147483648) (h_d : -2147483648 ≤ d ∧ d < 2147483648) (h_s : -2147483648 ≤ s ∧ s < 2147483648) (hb : (w < 1 ∨ 16 < w) ∨ (h < 1 ∨ 16 < h) ∨ (d < 0 ∨ 1 < d) ∨ s < 0 ∨ 3 < s) (qo : Nat) : CPW l y_LW_worth b_LW_worth 7 (some .int) hh_worth rx_2 [.ref x, .int (iI w), .int (iI h), .int (iI d), .int (iI s), .ref qo] D [] ([ob_ST x qsh qpa qcu qtk qrs qt ql S le nS nP nC nT nR rn] ++ []) (fun v => v = some (.int (iI 1))) := by
  refine cpw_of (by decide) (Nat.le_of_ble_eq_true rfl) ?_
  intro X sz hl hr hDD hAA ht
  subst hDD
  show VV X (b_LW_worth, 7, "SheetTreesLaw", rx_2) _ 0 0 [] [ob_ST x qsh qpa qcu qtk qrs qt ql S le nS nP nC nT nR rn] [] [some (.ref x), some (.int (iI w)), some (.int (iI h)), some (.int (iI d)), some (.int (iI s)), some (.ref qo), none] [] 0
  refine vv_aload d_LW_worth_0 rfl ?_
  refine vv_iconst d_LW_worth_2 ?_
  refine vv_aload_n d_LW_worth_3 rfl ?_
  refine vv_iload_n d_LW_worth_4 rfl ?_
  refine vv_iload_n d_LW_worth_5 rfl ?_
  refine vv_iload_n d_LW_worth_6 rfl ?_
  refine vv_iload d_LW_worth_7 rfl ?_
  refine vv_catch1 [.int (iI 0), .ref qo] ht rfl ⟨by decide, by decide, by decide⟩ (tb_at 444 rfl rfl) (wc := [ob_ST x qsh qpa qcu qtk qrs qt ql S le nS nP nC nT nR rn]) (plc := []) (c_ST_worth_n (cx_l X) (cx_D X) x qsh qpa qcu qtk qrs qt ql S le nS nP nC nT nR rn w h d s (hl ▸ hfl) h_w h_h h_d h_s hb) lk_LW_27 (tb_at 582 rfl rfl) d_LW_worth_9 rfl (rc_at 0 rfl rfl rfl) [0] ⟨rfl, rfl, Or.inl rfl⟩ [] rfl ⟨⟨by decide, by decide⟩, ⟨by decide, by decide⟩, Nat.le_of_ble_eq_true rfl⟩ (fun v => ?_)
  refine vv_astore d_LW_worth_17 rfl (by decide) ?_
  dsimp only [List.set]
  refine vv_iconst d_LW_worth_19 ?_
  exact vp_iret hAA hr d_LW_worth_20 (by decide) (by decide) rfl
set_option maxHeartbeats 4000000 in
set_option maxRecDepth 100000 in
theorem w_cut_y (l : Launch) (D : va_G) (x qsh qpa qcu qtk qrs qt ql nC k : Nat) (S le nS nP nT nR w : Int) (cC : ClassId) (fC : Nat → Option Nat) (L : List Nat) (f : Nat → va_E) (aC : Nat → Nat) (Cs : Nat → Nat → Int) (hnC : nC ≤ 20) (hk : k < nC) (hfC : ∀ i : Nat, i < 20 → fC i = some (aC i)) (hCC : CC L f aC Cs) (hw : 0 ≤ w ∧ w ≤ 7) (qo : Nat) (cJ : ClassId) (g : Nat → Int64) : CMW l y_LW_cut b_LW_cut 5 (some .int) hh_cut rm_4 [.ref x, .int (iI (k : Int)), .int (iI w), .ref qo] D [(cJ, .long), (cC, .object "SheetTrees$CutSheet")] ((ar_J qo cJ 1 g :: [ob_ST x qsh qpa qcu qtk qrs qt ql S le nS nP (nC : Int) nT nR 1, ar_Q qcu cC 20 fC]) ++ va_pl L f) (fun v w1 p1 _ => v = some (.int (iI 0)) ∧ w1 = ar_J qo cJ 1 (vp_updL g 0 ((iI (Cs k (ct_k w)))).toInt64) :: [ob_ST x qsh qpa qcu qtk qrs qt ql S le nS nP (nC : Int) nT nR 1, ar_Q qcu cC 20 fC] ∧ p1 = va_pl L f) := by
  refine cmw_of (by decide) (Nat.le_of_ble_eq_true rfl) ?_
  intro X sz hl hr hnm hDD hAA hww
  subst hDD
  show VV X (b_LW_cut, 5, "SheetTreesLaw", rm_4) _ 0 0 [(cJ, .long), (cC, .object "SheetTrees$CutSheet")] (ar_J qo cJ 1 g :: [ob_ST x qsh qpa qcu qtk qrs qt ql S le nS nP (nC : Int) nT nR 1, ar_Q qcu cC 20 fC]) (va_pl L f) [some (.ref x), some (.int (iI (k : Int))), some (.int (iI w)), some (.ref qo), none] [] 0
  refine vv_aload_n d_LW_cut_0 rfl ?_
  refine vv_iconst d_LW_cut_1 ?_
  refine vv_aload_n d_LW_cut_2 rfl ?_
  refine vv_iload_n d_LW_cut_3 rfl ?_
  refine vv_iload_n d_LW_cut_4 rfl ?_
  refine vv_pV (wc := [ob_ST x qsh qpa qcu qtk qrs qt ql S le nS nP (nC : Int) nT nR 1, ar_Q qcu cC 20 fC]) (plc := va_pl L f) [.int (iI 0), .ref qo] (c_ST_cut_y (cx_l X) (cx_D X) x qsh qpa qcu qtk qrs qt ql nC k S le nS nP nT nR w cC fC L f aC Cs hnC hk hfC hCC hw) lk_LW_30 d_LW_cut_5 rfl (rc_at 1 rfl rfl rfl) [1, 2] ⟨rfl, rfl, Or.inr rfl⟩ [1] rfl ⟨⟨by decide, by decide⟩, ⟨by decide, by decide⟩, Nat.le_of_ble_eq_true rfl⟩ ⟨rfl, rfl⟩ ?_
  intro v hv
  subst hv
  dsimp only [Option.toList, List.cons_append, List.nil_append, List.append_nil]
  refine vv_i2l d_LW_cut_8 rfl ?_
  refine vv_last hww d_LW_cut_9 0 0 rfl rfl ⟨by decide, by decide, by decide⟩ ?_
  dsimp only [List.set]
  refine vv_goto (tgt := 21) d_LW_cut_10 (by decide) ?_
  refine vv_iconst d_LW_cut_21 ?_
  exact vv_iret hAA hww hr d_LW_cut_22 (by decide) (by decide) (by exact ⟨rfl, rfl, rfl⟩)
set_option maxHeartbeats 4000000 in
set_option maxRecDepth 100000 in
theorem w_cut_n1 (l : Launch) (D : va_G) (x qsh qpa qcu qtk qrs qt ql : Nat) (nC : Nat) (S le nS nP nT nR k w : Int) (cC : ClassId) (fC : Nat → Option Nat) (hfl : l.flags = flags0) (qo : Nat) : CPW l y_LW_cut b_LW_cut 5 (some .int) hh_cut rx_3 [.ref x, .int (iI k), .int (iI w), .ref qo] D [(cC, .object "SheetTrees$CutSheet")] ([ob_ST x qsh qpa qcu qtk qrs qt ql S le nS nP (nC : Int) nT nR 0, ar_Q qcu cC 20 fC] ++ []) (fun v => v = some (.int (iI 1))) := by
  refine cpw_of (by decide) (Nat.le_of_ble_eq_true rfl) ?_
  intro X sz hl hr hDD hAA ht
  subst hDD
  show VV X (b_LW_cut, 5, "SheetTreesLaw", rx_3) _ 0 0 [(cC, .object "SheetTrees$CutSheet")] [ob_ST x qsh qpa qcu qtk qrs qt ql S le nS nP (nC : Int) nT nR 0, ar_Q qcu cC 20 fC] [] [some (.ref x), some (.int (iI k)), some (.int (iI w)), some (.ref qo), none] [] 0
  refine vv_aload_n d_LW_cut_0 rfl ?_
  refine vv_iconst d_LW_cut_1 ?_
  refine vv_aload_n d_LW_cut_2 rfl ?_
  refine vv_iload_n d_LW_cut_3 rfl ?_
  refine vv_iload_n d_LW_cut_4 rfl ?_
  refine vv_catch1 [.int (iI 0), .ref qo] ht rfl ⟨by decide, by decide, by decide⟩ (tb_at 445 rfl rfl) (wc := [ob_ST x qsh qpa qcu qtk qrs qt ql S le nS nP (nC : Int) nT nR 0, ar_Q qcu cC 20 fC]) (plc := []) (c_ST_cut_n1 (cx_l X) (cx_D X) x qsh qpa qcu qtk qrs qt ql nC S le nS nP nT nR k w cC fC (hl ▸ hfl)) lk_LW_30 (tb_at 600 rfl rfl) d_LW_cut_5 rfl (rc_at 0 rfl rfl rfl) [0, 1] ⟨rfl, rfl, Or.inl rfl⟩ [0] rfl ⟨⟨by decide, by decide⟩, ⟨by decide, by decide⟩, Nat.le_of_ble_eq_true rfl⟩ (fun v => ?_)
  refine vv_astore d_LW_cut_13 rfl (by decide) ?_
  dsimp only [List.set]
  refine vv_iconst d_LW_cut_15 ?_
  exact vp_iret hAA hr d_LW_cut_16 (by decide) (by decide) rfl
set_option maxHeartbeats 4000000 in
set_option maxRecDepth 100000 in
theorem w_cut_n2 (l : Launch) (D : va_G) (x qsh qpa qcu qtk qrs qt ql : Nat) (nC : Nat) (S le nS nP nT nR k w : Int) (cC : ClassId) (fC : Nat → Option Nat) (hfl : l.flags = flags0) (hnC : nC ≤ 20) (h_k : -2147483648 ≤ k ∧ k < 2147483648) (hk : k < 0 ∨ (nC : Int) ≤ k) (qo : Nat) : CPW l y_LW_cut b_LW_cut 5 (some .int) hh_cut rx_3 [.ref x, .int (iI k), .int (iI w), .ref qo] D [(cC, .object "SheetTrees$CutSheet")] ([ob_ST x qsh qpa qcu qtk qrs qt ql S le nS nP (nC : Int) nT nR 1, ar_Q qcu cC 20 fC] ++ []) (fun v => v = some (.int (iI 2))) := by
  refine cpw_of (by decide) (Nat.le_of_ble_eq_true rfl) ?_
  intro X sz hl hr hDD hAA ht
  subst hDD
  show VV X (b_LW_cut, 5, "SheetTreesLaw", rx_3) _ 0 0 [(cC, .object "SheetTrees$CutSheet")] [ob_ST x qsh qpa qcu qtk qrs qt ql S le nS nP (nC : Int) nT nR 1, ar_Q qcu cC 20 fC] [] [some (.ref x), some (.int (iI k)), some (.int (iI w)), some (.ref qo), none] [] 0
  refine vv_aload_n d_LW_cut_0 rfl ?_
  refine vv_iconst d_LW_cut_1 ?_
  refine vv_aload_n d_LW_cut_2 rfl ?_
  refine vv_iload_n d_LW_cut_3 rfl ?_
  refine vv_iload_n d_LW_cut_4 rfl ?_
  refine vv_catch2 [.int (iI 0), .ref qo] (xo := n_ISE) ht rfl ⟨by decide, by decide, by decide⟩ ⟨by decide, by decide, by decide⟩ (tb_at 445 rfl rfl) (tb_at 554 rfl rfl) (by decide +kernel) (wc := [ob_ST x qsh qpa qcu qtk qrs qt ql S le nS nP (nC : Int) nT nR 1, ar_Q qcu cC 20 fC]) (plc := []) (c_ST_cut_n2 (cx_l X) (cx_D X) x qsh qpa qcu qtk qrs qt ql nC S le nS nP nT nR k w cC fC (hl ▸ hfl) hnC h_k hk) lk_LW_30 (tb_at 600 rfl rfl) d_LW_cut_5 rfl (rc_at 0 rfl rfl rfl) [0, 1] ⟨rfl, rfl, Or.inl rfl⟩ [0] rfl ⟨⟨by decide, by decide⟩, ⟨by decide, by decide⟩, Nat.le_of_ble_eq_true rfl⟩ (fun v => ?_)
  refine vv_astore d_LW_cut_17 rfl (by decide) ?_
  dsimp only [List.set]
  refine vv_iconst d_LW_cut_19 ?_
  exact vp_iret hAA hr d_LW_cut_20 (by decide) (by decide) rfl
set_option maxHeartbeats 4000000 in
set_option maxRecDepth 100000 in
theorem w_cut_n3 (l : Launch) (D : va_G) (x qsh qpa qcu qtk qrs qt ql : Nat) (nC k : Nat) (S le nS nP nT nR w : Int) (cC : ClassId) (fC : Nat → Option Nat) (aC : Nat → Nat) (hfl : l.flags = flags0) (hnC : nC ≤ 20) (hk : k < nC) (hfC : ∀ i : Nat, i < 20 → fC i = some (aC i)) (h_w : -2147483648 ≤ w ∧ w < 2147483648) (hw : w < 0 ∨ 7 < w) (qo : Nat) : CPW l y_LW_cut b_LW_cut 5 (some .int) hh_cut rx_3 [.ref x, .int (iI (k : Int)), .int (iI w), .ref qo] D [(cC, .object "SheetTrees$CutSheet")] ([ob_ST x qsh qpa qcu qtk qrs qt ql S le nS nP (nC : Int) nT nR 1, ar_Q qcu cC 20 fC] ++ []) (fun v => v = some (.int (iI 2))) := by
  refine cpw_of (by decide) (Nat.le_of_ble_eq_true rfl) ?_
  intro X sz hl hr hDD hAA ht
  subst hDD
  show VV X (b_LW_cut, 5, "SheetTreesLaw", rx_3) _ 0 0 [(cC, .object "SheetTrees$CutSheet")] [ob_ST x qsh qpa qcu qtk qrs qt ql S le nS nP (nC : Int) nT nR 1, ar_Q qcu cC 20 fC] [] [some (.ref x), some (.int (iI (k : Int))), some (.int (iI w)), some (.ref qo), none] [] 0
  refine vv_aload_n d_LW_cut_0 rfl ?_
  refine vv_iconst d_LW_cut_1 ?_
  refine vv_aload_n d_LW_cut_2 rfl ?_
  refine vv_iload_n d_LW_cut_3 rfl ?_
  refine vv_iload_n d_LW_cut_4 rfl ?_
  refine vv_catch2 [.int (iI 0), .ref qo] (xo := n_ISE) ht rfl ⟨by decide, by decide, by decide⟩ ⟨by decide, by decide, by decide⟩ (tb_at 445 rfl rfl) (tb_at 554 rfl rfl) (by decide +kernel) (wc := [ob_ST x qsh qpa qcu qtk qrs qt ql S le nS nP (nC : Int) nT nR 1, ar_Q qcu cC 20 fC]) (plc := []) (c_ST_cut_n3 (cx_l X) (cx_D X) x qsh qpa qcu qtk qrs qt ql nC k S le nS nP nT nR w cC fC aC (hl ▸ hfl) hnC hk hfC h_w hw) lk_LW_30 (tb_at 600 rfl rfl) d_LW_cut_5 rfl (rc_at 0 rfl rfl rfl) [0, 1] ⟨rfl, rfl, Or.inl rfl⟩ [0] rfl ⟨⟨by decide, by decide⟩, ⟨by decide, by decide⟩, Nat.le_of_ble_eq_true rfl⟩ (fun v => ?_)
  refine vv_astore d_LW_cut_17 rfl (by decide) ?_
  dsimp only [List.set]
  refine vv_iconst d_LW_cut_19 ?_
  exact vp_iret hAA hr d_LW_cut_20 (by decide) (by decide) rfl
set_option maxHeartbeats 4000000 in
set_option maxRecDepth 100000 in
theorem w_taken_y (l : Launch) (D : va_G) (x qsh qpa qcu qtk qrs qt ql nC k : Nat) (S le nS nP nT nR j w : Int) (cI cC : ClassId) (tk : Nat → Int) (fC : Nat → Option Nat) (L : List Nat) (f : Nat → va_E) (aC : Nat → Nat) (Cs : Nat → Nat → Int) (hnC : nC ≤ 20) (hk : k < nC) (hfC : ∀ i : Nat, i < 20 → fC i = some (aC i)) (hCC : CC L f aC Cs) (hw : 0 ≤ w ∧ w ≤ 4) (hj : 0 ≤ j ∧ j ≤ Cs k 8 - 1) (hc1 : 0 ≤ Cs k 8 ∧ Cs k 8 ≤ 1000000) (hz : 0 ≤ (Cs k 7 + j) ∧ (Cs k 7 + j) < 400) (hq : 0 ≤ tk (Cs k 7 + j).toNat ∧ tk (Cs k 7 + j).toNat < 2147483648) (qo : Nat) (cJ : ClassId) (g : Nat → Int64) : CMW l y_LW_taken b_LW_taken 6 (some .int) hh_taken rm_4 [.ref x, .int (iI (k : Int)), .int (iI j), .int (iI w), .ref qo] D [(cJ, .long), (cI, .int), (cC, .object "SheetTrees$CutSheet")] ((ar_J qo cJ 1 g :: [ob_ST x qsh qpa qcu qtk qrs qt ql S le nS nP (nC : Int) nT nR 1, ar_Q qcu cC 20 fC, ar_I qtk cI 400 tk]) ++ va_pl L f) (fun v w1 p1 _ => v = some (.int (iI 0)) ∧ w1 = ar_J qo cJ 1 (vp_updL g 0 ((iI (pf_z (tk (Cs k 7 + j).toNat) w))).toInt64) :: [ob_ST x qsh qpa qcu qtk qrs qt ql S le nS nP (nC : Int) nT nR 1, ar_Q qcu cC 20 fC, ar_I qtk cI 400 tk] ∧ p1 = va_pl L f) := by
  refine cmw_of (by decide) (Nat.le_of_ble_eq_true rfl) ?_
  intro X sz hl hr hnm hDD hAA hww
  subst hDD
  show VV X (b_LW_taken, 6, "SheetTreesLaw", rm_4) _ 0 0 [(cJ, .long), (cI, .int), (cC, .object "SheetTrees$CutSheet")] (ar_J qo cJ 1 g :: [ob_ST x qsh qpa qcu qtk qrs qt ql S le nS nP (nC : Int) nT nR 1, ar_Q qcu cC 20 fC, ar_I qtk cI 400 tk]) (va_pl L f) [some (.ref x), some (.int (iI (k : Int))), some (.int (iI j)), some (.int (iI w)), some (.ref qo), none] [] 0
  refine vv_aload d_LW_taken_0 rfl ?_
  refine vv_iconst d_LW_taken_2 ?_
  refine vv_aload_n d_LW_taken_3 rfl ?_
  refine vv_iload_n d_LW_taken_4 rfl ?_
  refine vv_iload_n d_LW_taken_5 rfl ?_
  refine vv_iload_n d_LW_taken_6 rfl ?_
  refine vv_pV (wc := [ob_ST x qsh qpa qcu qtk qrs qt ql S le nS nP (nC : Int) nT nR 1, ar_Q qcu cC 20 fC, ar_I qtk cI 400 tk]) (plc := va_pl L f) [.int (iI 0), .ref qo] (c_ST_taken_y (cx_l X) (cx_D X) x qsh qpa qcu qtk qrs qt ql nC k S le nS nP nT nR j w cI cC tk fC L f aC Cs hnC hk hfC hCC hw hj hc1 hz hq) lk_LW_33 d_LW_taken_7 rfl (rc_at 1 rfl rfl rfl) [1, 2, 3] ⟨rfl, rfl, Or.inr rfl⟩ [1, 2] rfl ⟨⟨by decide, by decide⟩, ⟨by decide, by decide⟩, Nat.le_of_ble_eq_true rfl⟩ ⟨rfl, rfl⟩ ?_
  intro v hv
  subst hv
  dsimp only [Option.toList, List.cons_append, List.nil_append, List.append_nil]
  refine vv_i2l d_LW_taken_10 rfl ?_
  refine vv_last hww d_LW_taken_11 0 0 rfl rfl ⟨by decide, by decide, by decide⟩ ?_
  dsimp only [List.set]
  refine vv_goto (tgt := 23) d_LW_taken_12 (by decide) ?_
  refine vv_iconst d_LW_taken_23 ?_
  exact vv_iret hAA hww hr d_LW_taken_24 (by decide) (by decide) (by exact ⟨rfl, rfl, rfl⟩)
set_option maxHeartbeats 4000000 in
set_option maxRecDepth 100000 in
theorem w_taken_n1 (l : Launch) (D : va_G) (x qsh qpa qcu qtk qrs qt ql : Nat) (nC : Nat) (S le nS nP nT nR k j w : Int) (cC : ClassId) (fC : Nat → Option Nat) (hfl : l.flags = flags0) (qo : Nat) : CPW l y_LW_taken b_LW_taken 6 (some .int) hh_taken rx_3 [.ref x, .int (iI k), .int (iI j), .int (iI w), .ref qo] D [(cC, .object "SheetTrees$CutSheet")] ([ob_ST x qsh qpa qcu qtk qrs qt ql S le nS nP (nC : Int) nT nR 0, ar_Q qcu cC 20 fC] ++ []) (fun v => v = some (.int (iI 1))) := by
  refine cpw_of (by decide) (Nat.le_of_ble_eq_true rfl) ?_
  intro X sz hl hr hDD hAA ht
  subst hDD
  show VV X (b_LW_taken, 6, "SheetTreesLaw", rx_3) _ 0 0 [(cC, .object "SheetTrees$CutSheet")] [ob_ST x qsh qpa qcu qtk qrs qt ql S le nS nP (nC : Int) nT nR 0, ar_Q qcu cC 20 fC] [] [some (.ref x), some (.int (iI k)), some (.int (iI j)), some (.int (iI w)), some (.ref qo), none] [] 0
  refine vv_aload d_LW_taken_0 rfl ?_
  refine vv_iconst d_LW_taken_2 ?_
  refine vv_aload_n d_LW_taken_3 rfl ?_
  refine vv_iload_n d_LW_taken_4 rfl ?_
  refine vv_iload_n d_LW_taken_5 rfl ?_
  refine vv_iload_n d_LW_taken_6 rfl ?_
  refine vv_catch1 [.int (iI 0), .ref qo] ht rfl ⟨by decide, by decide, by decide⟩ (tb_at 445 rfl rfl) (wc := [ob_ST x qsh qpa qcu qtk qrs qt ql S le nS nP (nC : Int) nT nR 0, ar_Q qcu cC 20 fC]) (plc := []) (c_ST_taken_n1 (cx_l X) (cx_D X) x qsh qpa qcu qtk qrs qt ql nC S le nS nP nT nR k j w cC fC (hl ▸ hfl)) lk_LW_33 (tb_at 618 rfl rfl) d_LW_taken_7 rfl (rc_at 0 rfl rfl rfl) [0, 1] ⟨rfl, rfl, Or.inl rfl⟩ [0] rfl ⟨⟨by decide, by decide⟩, ⟨by decide, by decide⟩, Nat.le_of_ble_eq_true rfl⟩ (fun v => ?_)
  refine vv_astore d_LW_taken_15 rfl (by decide) ?_
  dsimp only [List.set]
  refine vv_iconst d_LW_taken_17 ?_
  exact vp_iret hAA hr d_LW_taken_18 (by decide) (by decide) rfl
set_option maxHeartbeats 4000000 in
set_option maxRecDepth 100000 in
theorem w_taken_n2 (l : Launch) (D : va_G) (x qsh qpa qcu qtk qrs qt ql : Nat) (nC : Nat) (S le nS nP nT nR k j w : Int) (cC : ClassId) (fC : Nat → Option Nat) (hfl : l.flags = flags0) (hnC : nC ≤ 20) (h_k : -2147483648 ≤ k ∧ k < 2147483648) (hk : k < 0 ∨ (nC : Int) ≤ k) (qo : Nat) : CPW l y_LW_taken b_LW_taken 6 (some .int) hh_taken rx_3 [.ref x, .int (iI k), .int (iI j), .int (iI w), .ref qo] D [(cC, .object "SheetTrees$CutSheet")] ([ob_ST x qsh qpa qcu qtk qrs qt ql S le nS nP (nC : Int) nT nR 1, ar_Q qcu cC 20 fC] ++ []) (fun v => v = some (.int (iI 2))) := by
  refine cpw_of (by decide) (Nat.le_of_ble_eq_true rfl) ?_
  intro X sz hl hr hDD hAA ht
  subst hDD
  show VV X (b_LW_taken, 6, "SheetTreesLaw", rx_3) _ 0 0 [(cC, .object "SheetTrees$CutSheet")] [ob_ST x qsh qpa qcu qtk qrs qt ql S le nS nP (nC : Int) nT nR 1, ar_Q qcu cC 20 fC] [] [some (.ref x), some (.int (iI k)), some (.int (iI j)), some (.int (iI w)), some (.ref qo), none] [] 0
  refine vv_aload d_LW_taken_0 rfl ?_
  refine vv_iconst d_LW_taken_2 ?_
  refine vv_aload_n d_LW_taken_3 rfl ?_
  refine vv_iload_n d_LW_taken_4 rfl ?_
  refine vv_iload_n d_LW_taken_5 rfl ?_
  refine vv_iload_n d_LW_taken_6 rfl ?_
  refine vv_catch2 [.int (iI 0), .ref qo] (xo := n_ISE) ht rfl ⟨by decide, by decide, by decide⟩ ⟨by decide, by decide, by decide⟩ (tb_at 445 rfl rfl) (tb_at 554 rfl rfl) (by decide +kernel) (wc := [ob_ST x qsh qpa qcu qtk qrs qt ql S le nS nP (nC : Int) nT nR 1, ar_Q qcu cC 20 fC]) (plc := []) (c_ST_taken_n2 (cx_l X) (cx_D X) x qsh qpa qcu qtk qrs qt ql nC S le nS nP nT nR k j w cC fC (hl ▸ hfl) hnC h_k hk) lk_LW_33 (tb_at 618 rfl rfl) d_LW_taken_7 rfl (rc_at 0 rfl rfl rfl) [0, 1] ⟨rfl, rfl, Or.inl rfl⟩ [0] rfl ⟨⟨by decide, by decide⟩, ⟨by decide, by decide⟩, Nat.le_of_ble_eq_true rfl⟩ (fun v => ?_)
  refine vv_astore d_LW_taken_19 rfl (by decide) ?_
  dsimp only [List.set]
  refine vv_iconst d_LW_taken_21 ?_
  exact vp_iret hAA hr d_LW_taken_22 (by decide) (by decide) rfl
set_option maxHeartbeats 4000000 in
set_option maxRecDepth 100000 in
theorem w_taken_n3 (l : Launch) (D : va_G) (x qsh qpa qcu qtk qrs qt ql : Nat) (nC k : Nat) (S le nS nP nT nR j w : Int) (cC : ClassId) (fC : Nat → Option Nat) (L : List Nat) (f : Nat → va_E) (aC : Nat → Nat) (Cs : Nat → Nat → Int) (hfl : l.flags = flags0) (hnC : nC ≤ 20) (hk : k < nC) (hfC : ∀ i : Nat, i < 20 → fC i = some (aC i)) (hCC : CC L f aC Cs) (h_j : -2147483648 ≤ j ∧ j < 2147483648) (h_w : -2147483648 ≤ w ∧ w < 2147483648) (hc1 : 0 ≤ Cs k 8 ∧ Cs k 8 ≤ 1000000) (hw : (j < 0 ∨ Cs k 8 ≤ j) ∨ w < 0 ∨ 4 < w) (qo : Nat) : CPW l y_LW_taken b_LW_taken 6 (some .int) hh_taken rx_3 [.ref x, .int (iI (k : Int)), .int (iI j), .int (iI w), .ref qo] D [(cC, .object "SheetTrees$CutSheet")] ([ob_ST x qsh qpa qcu qtk qrs qt ql S le nS nP (nC : Int) nT nR 1, ar_Q qcu cC 20 fC] ++ va_pl L f) (fun v => v = some (.int (iI 2))) := by
  refine cpw_of (by decide) (Nat.le_of_ble_eq_true rfl) ?_
  intro X sz hl hr hDD hAA ht
  subst hDD
  show VV X (b_LW_taken, 6, "SheetTreesLaw", rx_3) _ 0 0 [(cC, .object "SheetTrees$CutSheet")] [ob_ST x qsh qpa qcu qtk qrs qt ql S le nS nP (nC : Int) nT nR 1, ar_Q qcu cC 20 fC] (va_pl L f) [some (.ref x), some (.int (iI (k : Int))), some (.int (iI j)), some (.int (iI w)), some (.ref qo), none] [] 0
  refine vv_aload d_LW_taken_0 rfl ?_
  refine vv_iconst d_LW_taken_2 ?_
  refine vv_aload_n d_LW_taken_3 rfl ?_
  refine vv_iload_n d_LW_taken_4 rfl ?_
  refine vv_iload_n d_LW_taken_5 rfl ?_
  refine vv_iload_n d_LW_taken_6 rfl ?_
  refine vv_catch2 [.int (iI 0), .ref qo] (xo := n_ISE) ht rfl ⟨by decide, by decide, by decide⟩ ⟨by decide, by decide, by decide⟩ (tb_at 445 rfl rfl) (tb_at 554 rfl rfl) (by decide +kernel) (wc := [ob_ST x qsh qpa qcu qtk qrs qt ql S le nS nP (nC : Int) nT nR 1, ar_Q qcu cC 20 fC]) (plc := va_pl L f) (c_ST_taken_n3 (cx_l X) (cx_D X) x qsh qpa qcu qtk qrs qt ql nC k S le nS nP nT nR j w cC fC L f aC Cs (hl ▸ hfl) hnC hk hfC hCC h_j h_w hc1 hw) lk_LW_33 (tb_at 618 rfl rfl) d_LW_taken_7 rfl (rc_at 0 rfl rfl rfl) [0, 1] ⟨rfl, rfl, Or.inr rfl⟩ [0] rfl ⟨⟨by decide, by decide⟩, ⟨by decide, by decide⟩, Nat.le_of_ble_eq_true rfl⟩ (fun v => ?_)
  refine vv_astore d_LW_taken_19 rfl (by decide) ?_
  dsimp only [List.set]
  refine vv_iconst d_LW_taken_21 ?_
  exact vp_iret hAA hr d_LW_taken_22 (by decide) (by decide) rfl
set_option maxHeartbeats 4000000 in
set_option maxRecDepth 100000 in
theorem w_rest_y (l : Launch) (D : va_G) (x qsh qpa qcu qtk qrs qt ql nC k : Nat) (S le nS nP nT nR j w : Int) (cI cC : ClassId) (tk : Nat → Int) (fC : Nat → Option Nat) (L : List Nat) (f : Nat → va_E) (aC : Nat → Nat) (Cs : Nat → Nat → Int) (hnC : nC ≤ 20) (hk : k < nC) (hfC : ∀ i : Nat, i < 20 → fC i = some (aC i)) (hCC : CC L f aC Cs) (hw : 0 ≤ w ∧ w ≤ 3) (hj : 0 ≤ j ∧ j ≤ Cs k 11 - 1) (hc1 : 0 ≤ Cs k 11 ∧ Cs k 11 ≤ 1000000) (hz : 0 ≤ (Cs k 10 + j) ∧ (Cs k 10 + j) < 5120) (hq : 0 ≤ tk (Cs k 10 + j).toNat ∧ tk (Cs k 10 + j).toNat < 2147483648) (qo : Nat) (cJ : ClassId) (g : Nat → Int64) : CMW l y_LW_rest b_LW_rest 6 (some .int) hh_rest rm_4 [.ref x, .int (iI (k : Int)), .int (iI j), .int (iI w), .ref qo] D [(cJ, .long), (cI, .int), (cC, .object "SheetTrees$CutSheet")] ((ar_J qo cJ 1 g :: [ob_ST x qsh qpa qcu qtk qrs qt ql S le nS nP (nC : Int) nT nR 1, ar_Q qcu cC 20 fC, ar_I qrs cI 5120 tk]) ++ va_pl L f) (fun v w1 p1 _ => v = some (.int (iI 0)) ∧ w1 = ar_J qo cJ 1 (vp_updL g 0 ((iI (pf_z (tk (Cs k 10 + j).toNat) (1 + w)))).toInt64) :: [ob_ST x qsh qpa qcu qtk qrs qt ql S le nS nP (nC : Int) nT nR 1, ar_Q qcu cC 20 fC, ar_I qrs cI 5120 tk] ∧ p1 = va_pl L f) := by
  refine cmw_of (by decide) (Nat.le_of_ble_eq_true rfl) ?_
  intro X sz hl hr hnm hDD hAA hww
  subst hDD
  show VV X (b_LW_rest, 6, "SheetTreesLaw", rm_4) _ 0 0 [(cJ, .long), (cI, .int), (cC, .object "SheetTrees$CutSheet")] (ar_J qo cJ 1 g :: [ob_ST x qsh qpa qcu qtk qrs qt ql S le nS nP (nC : Int) nT nR 1, ar_Q qcu cC 20 fC, ar_I qrs cI 5120 tk]) (va_pl L f) [some (.ref x), some (.int (iI (k : Int))), some (.int (iI j)), some (.int (iI w)), some (.ref qo), none] [] 0
  refine vv_aload d_LW_rest_0 rfl ?_
  refine vv_iconst d_LW_rest_2 ?_
  refine vv_aload_n d_LW_rest_3 rfl ?_
  refine vv_iload_n d_LW_rest_4 rfl ?_
  refine vv_iload_n d_LW_rest_5 rfl ?_
  refine vv_iload_n d_LW_rest_6 rfl ?_
  refine vv_pV (wc := [ob_ST x qsh qpa qcu qtk qrs qt ql S le nS nP (nC : Int) nT nR 1, ar_Q qcu cC 20 fC, ar_I qrs cI 5120 tk]) (plc := va_pl L f) [.int (iI 0), .ref qo] (c_ST_rest_y (cx_l X) (cx_D X) x qsh qpa qcu qtk qrs qt ql nC k S le nS nP nT nR j w cI cC tk fC L f aC Cs hnC hk hfC hCC hw hj hc1 hz hq) lk_LW_37 d_LW_rest_7 rfl (rc_at 1 rfl rfl rfl) [1, 2, 3] ⟨rfl, rfl, Or.inr rfl⟩ [1, 2] rfl ⟨⟨by decide, by decide⟩, ⟨by decide, by decide⟩, Nat.le_of_ble_eq_true rfl⟩ ⟨rfl, rfl⟩ ?_
  intro v hv
  subst hv
  dsimp only [Option.toList, List.cons_append, List.nil_append, List.append_nil]
  refine vv_i2l d_LW_rest_10 rfl ?_
  refine vv_last hww d_LW_rest_11 0 0 rfl rfl ⟨by decide, by decide, by decide⟩ ?_
  dsimp only [List.set]
  refine vv_goto (tgt := 23) d_LW_rest_12 (by decide) ?_
  refine vv_iconst d_LW_rest_23 ?_
  exact vv_iret hAA hww hr d_LW_rest_24 (by decide) (by decide) (by exact ⟨rfl, rfl, rfl⟩)
set_option maxHeartbeats 4000000 in
set_option maxRecDepth 100000 in
theorem w_rest_n1 (l : Launch) (D : va_G) (x qsh qpa qcu qtk qrs qt ql : Nat) (nC : Nat) (S le nS nP nT nR k j w : Int) (cC : ClassId) (fC : Nat → Option Nat) (hfl : l.flags = flags0) (qo : Nat) : CPW l y_LW_rest b_LW_rest 6 (some .int) hh_rest rx_3 [.ref x, .int (iI k), .int (iI j), .int (iI w), .ref qo] D [(cC, .object "SheetTrees$CutSheet")] ([ob_ST x qsh qpa qcu qtk qrs qt ql S le nS nP (nC : Int) nT nR 0, ar_Q qcu cC 20 fC] ++ []) (fun v => v = some (.int (iI 1))) := by
  refine cpw_of (by decide) (Nat.le_of_ble_eq_true rfl) ?_
  intro X sz hl hr hDD hAA ht
  subst hDD
  show VV X (b_LW_rest, 6, "SheetTreesLaw", rx_3) _ 0 0 [(cC, .object "SheetTrees$CutSheet")] [ob_ST x qsh qpa qcu qtk qrs qt ql S le nS nP (nC : Int) nT nR 0, ar_Q qcu cC 20 fC] [] [some (.ref x), some (.int (iI k)), some (.int (iI j)), some (.int (iI w)), some (.ref qo), none] [] 0
  refine vv_aload d_LW_rest_0 rfl ?_
  refine vv_iconst d_LW_rest_2 ?_
  refine vv_aload_n d_LW_rest_3 rfl ?_
  refine vv_iload_n d_LW_rest_4 rfl ?_
  refine vv_iload_n d_LW_rest_5 rfl ?_
  refine vv_iload_n d_LW_rest_6 rfl ?_
  refine vv_catch1 [.int (iI 0), .ref qo] ht rfl ⟨by decide, by decide, by decide⟩ (tb_at 445 rfl rfl) (wc := [ob_ST x qsh qpa qcu qtk qrs qt ql S le nS nP (nC : Int) nT nR 0, ar_Q qcu cC 20 fC]) (plc := []) (c_ST_rest_n1 (cx_l X) (cx_D X) x qsh qpa qcu qtk qrs qt ql nC S le nS nP nT nR k j w cC fC (hl ▸ hfl)) lk_LW_37 (tb_at 630 rfl rfl) d_LW_rest_7 rfl (rc_at 0 rfl rfl rfl) [0, 1] ⟨rfl, rfl, Or.inl rfl⟩ [0] rfl ⟨⟨by decide, by decide⟩, ⟨by decide, by decide⟩, Nat.le_of_ble_eq_true rfl⟩ (fun v => ?_)
  refine vv_astore d_LW_rest_15 rfl (by decide) ?_
  dsimp only [List.set]
  refine vv_iconst d_LW_rest_17 ?_
  exact vp_iret hAA hr d_LW_rest_18 (by decide) (by decide) rfl
set_option maxHeartbeats 4000000 in
set_option maxRecDepth 100000 in
theorem w_rest_n2 (l : Launch) (D : va_G) (x qsh qpa qcu qtk qrs qt ql : Nat) (nC : Nat) (S le nS nP nT nR k j w : Int) (cC : ClassId) (fC : Nat → Option Nat) (hfl : l.flags = flags0) (hnC : nC ≤ 20) (h_k : -2147483648 ≤ k ∧ k < 2147483648) (hk : k < 0 ∨ (nC : Int) ≤ k) (qo : Nat) : CPW l y_LW_rest b_LW_rest 6 (some .int) hh_rest rx_3 [.ref x, .int (iI k), .int (iI j), .int (iI w), .ref qo] D [(cC, .object "SheetTrees$CutSheet")] ([ob_ST x qsh qpa qcu qtk qrs qt ql S le nS nP (nC : Int) nT nR 1, ar_Q qcu cC 20 fC] ++ []) (fun v => v = some (.int (iI 2))) := by
  refine cpw_of (by decide) (Nat.le_of_ble_eq_true rfl) ?_
  intro X sz hl hr hDD hAA ht
  subst hDD
  show VV X (b_LW_rest, 6, "SheetTreesLaw", rx_3) _ 0 0 [(cC, .object "SheetTrees$CutSheet")] [ob_ST x qsh qpa qcu qtk qrs qt ql S le nS nP (nC : Int) nT nR 1, ar_Q qcu cC 20 fC] [] [some (.ref x), some (.int (iI k)), some (.int (iI j)), some (.int (iI w)), some (.ref qo), none] [] 0
  refine vv_aload d_LW_rest_0 rfl ?_
  refine vv_iconst d_LW_rest_2 ?_
  refine vv_aload_n d_LW_rest_3 rfl ?_
  refine vv_iload_n d_LW_rest_4 rfl ?_
  refine vv_iload_n d_LW_rest_5 rfl ?_
  refine vv_iload_n d_LW_rest_6 rfl ?_
  refine vv_catch2 [.int (iI 0), .ref qo] (xo := n_ISE) ht rfl ⟨by decide, by decide, by decide⟩ ⟨by decide, by decide, by decide⟩ (tb_at 445 rfl rfl) (tb_at 554 rfl rfl) (by decide +kernel) (wc := [ob_ST x qsh qpa qcu qtk qrs qt ql S le nS nP (nC : Int) nT nR 1, ar_Q qcu cC 20 fC]) (plc := []) (c_ST_rest_n2 (cx_l X) (cx_D X) x qsh qpa qcu qtk qrs qt ql nC S le nS nP nT nR k j w cC fC (hl ▸ hfl) hnC h_k hk) lk_LW_37 (tb_at 630 rfl rfl) d_LW_rest_7 rfl (rc_at 0 rfl rfl rfl) [0, 1] ⟨rfl, rfl, Or.inl rfl⟩ [0] rfl ⟨⟨by decide, by decide⟩, ⟨by decide, by decide⟩, Nat.le_of_ble_eq_true rfl⟩ (fun v => ?_)
  refine vv_astore d_LW_rest_19 rfl (by decide) ?_
  dsimp only [List.set]
  refine vv_iconst d_LW_rest_21 ?_
  exact vp_iret hAA hr d_LW_rest_22 (by decide) (by decide) rfl
set_option maxHeartbeats 4000000 in
set_option maxRecDepth 100000 in
theorem w_rest_n3 (l : Launch) (D : va_G) (x qsh qpa qcu qtk qrs qt ql : Nat) (nC k : Nat) (S le nS nP nT nR j w : Int) (cC : ClassId) (fC : Nat → Option Nat) (L : List Nat) (f : Nat → va_E) (aC : Nat → Nat) (Cs : Nat → Nat → Int) (hfl : l.flags = flags0) (hnC : nC ≤ 20) (hk : k < nC) (hfC : ∀ i : Nat, i < 20 → fC i = some (aC i)) (hCC : CC L f aC Cs) (h_j : -2147483648 ≤ j ∧ j < 2147483648) (h_w : -2147483648 ≤ w ∧ w < 2147483648) (hc1 : 0 ≤ Cs k 11 ∧ Cs k 11 ≤ 1000000) (hw : (j < 0 ∨ Cs k 11 ≤ j) ∨ w < 0 ∨ 3 < w) (qo : Nat) : CPW l y_LW_rest b_LW_rest 6 (some .int) hh_rest rx_3 [.ref x, .int (iI (k : Int)), .int (iI j), .int (iI w), .ref qo] D [(cC, .object "SheetTrees$CutSheet")] ([ob_ST x qsh qpa qcu qtk qrs qt ql S le nS nP (nC : Int) nT nR 1, ar_Q qcu cC 20 fC] ++ va_pl L f) (fun v => v = some (.int (iI 2))) := by
  refine cpw_of (by decide) (Nat.le_of_ble_eq_true rfl) ?_
  intro X sz hl hr hDD hAA ht
  subst hDD
  show VV X (b_LW_rest, 6, "SheetTreesLaw", rx_3) _ 0 0 [(cC, .object "SheetTrees$CutSheet")] [ob_ST x qsh qpa qcu qtk qrs qt ql S le nS nP (nC : Int) nT nR 1, ar_Q qcu cC 20 fC] (va_pl L f) [some (.ref x), some (.int (iI (k : Int))), some (.int (iI j)), some (.int (iI w)), some (.ref qo), none] [] 0
  refine vv_aload d_LW_rest_0 rfl ?_
  refine vv_iconst d_LW_rest_2 ?_
  refine vv_aload_n d_LW_rest_3 rfl ?_
  refine vv_iload_n d_LW_rest_4 rfl ?_
  refine vv_iload_n d_LW_rest_5 rfl ?_
  refine vv_iload_n d_LW_rest_6 rfl ?_
  refine vv_catch2 [.int (iI 0), .ref qo] (xo := n_ISE) ht rfl ⟨by decide, by decide, by decide⟩ ⟨by decide, by decide, by decide⟩ (tb_at 445 rfl rfl) (tb_at 554 rfl rfl) (by decide +kernel) (wc := [ob_ST x qsh qpa qcu qtk qrs qt ql S le nS nP (nC : Int) nT nR 1, ar_Q qcu cC 20 fC]) (plc := va_pl L f) (c_ST_rest_n3 (cx_l X) (cx_D X) x qsh qpa qcu qtk qrs qt ql nC k S le nS nP nT nR j w cC fC L f aC Cs (hl ▸ hfl) hnC hk hfC hCC h_j h_w hc1 hw) lk_LW_37 (tb_at 630 rfl rfl) d_LW_rest_7 rfl (rc_at 0 rfl rfl rfl) [0, 1] ⟨rfl, rfl, Or.inr rfl⟩ [0] rfl ⟨⟨by decide, by decide⟩, ⟨by decide, by decide⟩, Nat.le_of_ble_eq_true rfl⟩ (fun v => ?_)
  refine vv_astore d_LW_rest_19 rfl (by decide) ?_
  dsimp only [List.set]
  refine vv_iconst d_LW_rest_21 ?_
  exact vp_iret hAA hr d_LW_rest_22 (by decide) (by decide) rfl
set_option maxHeartbeats 4000000 in
set_option maxRecDepth 100000 in
theorem w_left_y (l : Launch) (D : va_G) (x qsh qpa qcu qtk qrs qt ql nP k : Nat) (S le nS nC nT nR : Int) (cP : ClassId) (fP : Nat → Option Nat) (L : List Nat) (f : Nat → va_E) (aP : Nat → Nat) (R : Nat → pa_T) (hnP : nP ≤ 8) (hk : k < nP) (hfP : ∀ i : Nat, i < 8 → fP i = some (aP i)) (hPP : PP L f aP R) (qo : Nat) (cJ : ClassId) (g : Nat → Int64) : CMW l y_LW_left b_LW_left 4 (some .int) hh_left rm_3 [.ref x, .int (iI (k : Int)), .ref qo] D [(cJ, .long), (cP, .object "SheetTrees$Part")] ((ar_J qo cJ 1 g :: [ob_ST x qsh qpa qcu qtk qrs qt ql S le nS (nP : Int) nC nT nR 1, ar_Q qpa cP 8 fP]) ++ va_pl L f) (fun v w1 p1 _ => v = some (.int (iI 0)) ∧ w1 = ar_J qo cJ 1 (vp_updL g 0 ((iI (R k).2.2.2.2)).toInt64) :: [ob_ST x qsh qpa qcu qtk qrs qt ql S le nS (nP : Int) nC nT nR 1, ar_Q qpa cP 8 fP] ∧ p1 = va_pl L f) := by
  refine cmw_of (by decide) (Nat.le_of_ble_eq_true rfl) ?_
  intro X sz hl hr hnm hDD hAA hww
  subst hDD
  show VV X (b_LW_left, 4, "SheetTreesLaw", rm_3) _ 0 0 [(cJ, .long), (cP, .object "SheetTrees$Part")] (ar_J qo cJ 1 g :: [ob_ST x qsh qpa qcu qtk qrs qt ql S le nS (nP : Int) nC nT nR 1, ar_Q qpa cP 8 fP]) (va_pl L f) [some (.ref x), some (.int (iI (k : Int))), some (.ref qo), none] [] 0
  refine vv_aload_n d_LW_left_0 rfl ?_
  refine vv_iconst d_LW_left_1 ?_
  refine vv_aload_n d_LW_left_2 rfl ?_
  refine vv_iload_n d_LW_left_3 rfl ?_
  refine vv_pV (wc := [ob_ST x qsh qpa qcu qtk qrs qt ql S le nS (nP : Int) nC nT nR 1, ar_Q qpa cP 8 fP]) (plc := va_pl L f) [.int (iI 0), .ref qo] (c_ST_left_y (cx_l X) (cx_D X) x qsh qpa qcu qtk qrs qt ql nP k S le nS nC nT nR cP fP L f aP R hnP hk hfP hPP) lk_LW_40 d_LW_left_4 rfl (rc_at 1 rfl rfl rfl) [1, 2] ⟨rfl, rfl, Or.inr rfl⟩ [1] rfl ⟨⟨by decide, by decide⟩, ⟨by decide, by decide⟩, Nat.le_of_ble_eq_true rfl⟩ ⟨rfl, rfl⟩ ?_
  intro v hv
  subst hv
  dsimp only [Option.toList, List.cons_append, List.nil_append, List.append_nil]
  refine vv_i2l d_LW_left_7 rfl ?_
  refine vv_last hww d_LW_left_8 0 0 rfl rfl ⟨by decide, by decide, by decide⟩ ?_
  dsimp only [List.set]
  refine vv_goto (tgt := 18) d_LW_left_9 (by decide) ?_
  refine vv_iconst d_LW_left_18 ?_
  exact vv_iret hAA hww hr d_LW_left_19 (by decide) (by decide) (by exact ⟨rfl, rfl, rfl⟩)
set_option maxHeartbeats 4000000 in
set_option maxRecDepth 100000 in
theorem w_left_n1 (l : Launch) (D : va_G) (x qsh qpa qcu qtk qrs qt ql : Nat) (nP : Nat) (S le nS nC nT nR k : Int) (cP : ClassId) (fP : Nat → Option Nat) (hfl : l.flags = flags0) (qo : Nat) : CPW l y_LW_left b_LW_left 4 (some .int) hh_left rx_2 [.ref x, .int (iI k), .ref qo] D [(cP, .object "SheetTrees$Part")] ([ob_ST x qsh qpa qcu qtk qrs qt ql S le nS (nP : Int) nC nT nR 0, ar_Q qpa cP 8 fP] ++ []) (fun v => v = some (.int (iI 1))) := by
  refine cpw_of (by decide) (Nat.le_of_ble_eq_true rfl) ?_
  intro X sz hl hr hDD hAA ht
  subst hDD
  show VV X (b_LW_left, 4, "SheetTreesLaw", rx_2) _ 0 0 [(cP, .object "SheetTrees$Part")] [ob_ST x qsh qpa qcu qtk qrs qt ql S le nS (nP : Int) nC nT nR 0, ar_Q qpa cP 8 fP] [] [some (.ref x), some (.int (iI k)), some (.ref qo), none] [] 0
  refine vv_aload_n d_LW_left_0 rfl ?_
  refine vv_iconst d_LW_left_1 ?_
  refine vv_aload_n d_LW_left_2 rfl ?_
  refine vv_iload_n d_LW_left_3 rfl ?_
  refine vv_catch1 [.int (iI 0), .ref qo] ht rfl ⟨by decide, by decide, by decide⟩ (tb_at 445 rfl rfl) (wc := [ob_ST x qsh qpa qcu qtk qrs qt ql S le nS (nP : Int) nC nT nR 0, ar_Q qpa cP 8 fP]) (plc := []) (c_ST_left_n1 (cx_l X) (cx_D X) x qsh qpa qcu qtk qrs qt ql nP S le nS nC nT nR k cP fP (hl ▸ hfl)) lk_LW_40 (tb_at 639 rfl rfl) d_LW_left_4 rfl (rc_at 0 rfl rfl rfl) [0, 1] ⟨rfl, rfl, Or.inl rfl⟩ [0] rfl ⟨⟨by decide, by decide⟩, ⟨by decide, by decide⟩, Nat.le_of_ble_eq_true rfl⟩ (fun v => ?_)
  refine vv_astore_n d_LW_left_12 rfl (by decide) ?_
  dsimp only [List.set]
  refine vv_iconst d_LW_left_13 ?_
  exact vp_iret hAA hr d_LW_left_14 (by decide) (by decide) rfl
set_option maxHeartbeats 4000000 in
set_option maxRecDepth 100000 in
theorem w_left_n2 (l : Launch) (D : va_G) (x qsh qpa qcu qtk qrs qt ql : Nat) (nP : Nat) (S le nS nC nT nR k : Int) (cP : ClassId) (fP : Nat → Option Nat) (hfl : l.flags = flags0) (hnP : nP ≤ 8) (h_k : -2147483648 ≤ k ∧ k < 2147483648) (hk : k < 0 ∨ (nP : Int) ≤ k) (qo : Nat) : CPW l y_LW_left b_LW_left 4 (some .int) hh_left rx_2 [.ref x, .int (iI k), .ref qo] D [(cP, .object "SheetTrees$Part")] ([ob_ST x qsh qpa qcu qtk qrs qt ql S le nS (nP : Int) nC nT nR 1, ar_Q qpa cP 8 fP] ++ []) (fun v => v = some (.int (iI 2))) := by
  refine cpw_of (by decide) (Nat.le_of_ble_eq_true rfl) ?_
  intro X sz hl hr hDD hAA ht
  subst hDD
  show VV X (b_LW_left, 4, "SheetTreesLaw", rx_2) _ 0 0 [(cP, .object "SheetTrees$Part")] [ob_ST x qsh qpa qcu qtk qrs qt ql S le nS (nP : Int) nC nT nR 1, ar_Q qpa cP 8 fP] [] [some (.ref x), some (.int (iI k)), some (.ref qo), none] [] 0
  refine vv_aload_n d_LW_left_0 rfl ?_
  refine vv_iconst d_LW_left_1 ?_
  refine vv_aload_n d_LW_left_2 rfl ?_
  refine vv_iload_n d_LW_left_3 rfl ?_
  refine vv_catch2 [.int (iI 0), .ref qo] (xo := n_ISE) ht rfl ⟨by decide, by decide, by decide⟩ ⟨by decide, by decide, by decide⟩ (tb_at 445 rfl rfl) (tb_at 554 rfl rfl) (by decide +kernel) (wc := [ob_ST x qsh qpa qcu qtk qrs qt ql S le nS (nP : Int) nC nT nR 1, ar_Q qpa cP 8 fP]) (plc := []) (c_ST_left_n2 (cx_l X) (cx_D X) x qsh qpa qcu qtk qrs qt ql nP S le nS nC nT nR k cP fP (hl ▸ hfl) hnP h_k hk) lk_LW_40 (tb_at 639 rfl rfl) d_LW_left_4 rfl (rc_at 0 rfl rfl rfl) [0, 1] ⟨rfl, rfl, Or.inl rfl⟩ [0] rfl ⟨⟨by decide, by decide⟩, ⟨by decide, by decide⟩, Nat.le_of_ble_eq_true rfl⟩ (fun v => ?_)
  refine vv_astore_n d_LW_left_15 rfl (by decide) ?_
  dsimp only [List.set]
  refine vv_iconst d_LW_left_16 ?_
  exact vp_iret hAA hr d_LW_left_17 (by decide) (by decide) rfl
set_option maxHeartbeats 4000000 in
set_option maxRecDepth 100000 in
theorem w_all_y (l : Launch) (D : va_G) (x qsh qpa qcu qtk qrs qt ql nC : Nat) (S le nS nP nT nR w : Int) (cC : ClassId) (fC : Nat → Option Nat) (L : List Nat) (f : Nat → va_E) (aC : Nat → Nat) (Cs : Nat → Nat → Int) (hnC : nC ≤ 20) (hw : 0 ≤ w ∧ w ≤ 2) (hfC : ∀ i : Nat, i < 20 → fC i = some (aC i)) (hCC : CC L f aC Cs) (qo : Nat) (cJ : ClassId) (g : Nat → Int64) : CMW l y_LW_all b_LW_all 4 (some .int) hh_all rm_3 [.ref x, .int (iI w), .ref qo] D [(cJ, .long), (cC, .object "SheetTrees$CutSheet")] ((ar_J qo cJ 1 g :: [ob_ST x qsh qpa qcu qtk qrs qt ql S le nS nP (nC : Int) nT nR 1, ar_Q qcu cC 20 fC]) ++ va_pl L f) (fun v w1 p1 _ => v = some (.int (iI 0)) ∧ w1 = ar_J qo cJ 1 (vp_updL g 0 (al_s w Cs nC)) :: [ob_ST x qsh qpa qcu qtk qrs qt ql S le nS nP (nC : Int) nT nR 1, ar_Q qcu cC 20 fC] ∧ p1 = va_pl L f) := by
  refine cmw_of (by decide) (Nat.le_of_ble_eq_true rfl) ?_
  intro X sz hl hr hnm hDD hAA hww
  subst hDD
  show VV X (b_LW_all, 4, "SheetTreesLaw", rm_3) _ 0 0 [(cJ, .long), (cC, .object "SheetTrees$CutSheet")] (ar_J qo cJ 1 g :: [ob_ST x qsh qpa qcu qtk qrs qt ql S le nS nP (nC : Int) nT nR 1, ar_Q qcu cC 20 fC]) (va_pl L f) [some (.ref x), some (.int (iI w)), some (.ref qo), none] [] 0
  refine vv_aload_n d_LW_all_0 rfl ?_
  refine vv_iconst d_LW_all_1 ?_
  refine vv_aload_n d_LW_all_2 rfl ?_
  refine vv_iload_n d_LW_all_3 rfl ?_
  refine vv_pV (wc := [ob_ST x qsh qpa qcu qtk qrs qt ql S le nS nP (nC : Int) nT nR 1, ar_Q qcu cC 20 fC]) (plc := va_pl L f) [.int (iI 0), .ref qo] (c_ST_all_y (cx_l X) (cx_D X) x qsh qpa qcu qtk qrs qt ql nC S le nS nP nT nR w cC fC L f aC Cs hnC hw hfC hCC) lk_LW_44 d_LW_all_4 rfl (rc_at 1 rfl rfl rfl) [1, 2] ⟨rfl, rfl, Or.inr rfl⟩ [1] rfl ⟨⟨by decide, by decide⟩, ⟨by decide, by decide⟩, Nat.le_of_ble_eq_true rfl⟩ ⟨rfl, rfl⟩ ?_
  intro v hv
  subst hv
  dsimp only [Option.toList, List.cons_append, List.nil_append, List.append_nil]
  refine vv_last hww d_LW_all_7 0 0 rfl rfl ⟨by decide, by decide, by decide⟩ ?_
  dsimp only [List.set]
  refine vv_goto (tgt := 17) d_LW_all_8 (by decide) ?_
  refine vv_iconst d_LW_all_17 ?_
  exact vv_iret hAA hww hr d_LW_all_18 (by decide) (by decide) (by exact ⟨rfl, rfl, rfl⟩)
set_option maxHeartbeats 4000000 in
set_option maxRecDepth 100000 in
theorem w_all_n1 (l : Launch) (D : va_G) (x qsh qpa qcu qtk qrs qt ql : Nat) (S le nS nP nC nT nR w : Int) (hfl : l.flags = flags0) (qo : Nat) : CPW l y_LW_all b_LW_all 4 (some .int) hh_all rx_2 [.ref x, .int (iI w), .ref qo] D [] ([ob_ST x qsh qpa qcu qtk qrs qt ql S le nS nP nC nT nR 0] ++ []) (fun v => v = some (.int (iI 1))) := by
  refine cpw_of (by decide) (Nat.le_of_ble_eq_true rfl) ?_
  intro X sz hl hr hDD hAA ht
  subst hDD
  show VV X (b_LW_all, 4, "SheetTreesLaw", rx_2) _ 0 0 [] [ob_ST x qsh qpa qcu qtk qrs qt ql S le nS nP nC nT nR 0] [] [some (.ref x), some (.int (iI w)), some (.ref qo), none] [] 0
  refine vv_aload_n d_LW_all_0 rfl ?_
  refine vv_iconst d_LW_all_1 ?_
  refine vv_aload_n d_LW_all_2 rfl ?_
  refine vv_iload_n d_LW_all_3 rfl ?_
  refine vv_catch1 [.int (iI 0), .ref qo] ht rfl ⟨by decide, by decide, by decide⟩ (tb_at 445 rfl rfl) (wc := [ob_ST x qsh qpa qcu qtk qrs qt ql S le nS nP nC nT nR 0]) (plc := []) (c_ST_all_n1 (cx_l X) (cx_D X) x qsh qpa qcu qtk qrs qt ql S le nS nP nC nT nR w (hl ▸ hfl)) lk_LW_44 (tb_at 646 rfl rfl) d_LW_all_4 rfl (rc_at 0 rfl rfl rfl) [0] ⟨rfl, rfl, Or.inl rfl⟩ [] rfl ⟨⟨by decide, by decide⟩, ⟨by decide, by decide⟩, Nat.le_of_ble_eq_true rfl⟩ (fun v => ?_)
  refine vv_astore_n d_LW_all_11 rfl (by decide) ?_
  dsimp only [List.set]
  refine vv_iconst d_LW_all_12 ?_
  exact vp_iret hAA hr d_LW_all_13 (by decide) (by decide) rfl
set_option maxHeartbeats 4000000 in
set_option maxRecDepth 100000 in
theorem w_all_n2 (l : Launch) (D : va_G) (x qsh qpa qcu qtk qrs qt ql : Nat) (S le nS nP nC nT nR w : Int) (hfl : l.flags = flags0) (h_w : -2147483648 ≤ w ∧ w < 2147483648) (hw : w < 0 ∨ 2 < w) (qo : Nat) : CPW l y_LW_all b_LW_all 4 (some .int) hh_all rx_2 [.ref x, .int (iI w), .ref qo] D [] ([ob_ST x qsh qpa qcu qtk qrs qt ql S le nS nP nC nT nR 1] ++ []) (fun v => v = some (.int (iI 2))) := by
  refine cpw_of (by decide) (Nat.le_of_ble_eq_true rfl) ?_
  intro X sz hl hr hDD hAA ht
  subst hDD
  show VV X (b_LW_all, 4, "SheetTreesLaw", rx_2) _ 0 0 [] [ob_ST x qsh qpa qcu qtk qrs qt ql S le nS nP nC nT nR 1] [] [some (.ref x), some (.int (iI w)), some (.ref qo), none] [] 0
  refine vv_aload_n d_LW_all_0 rfl ?_
  refine vv_iconst d_LW_all_1 ?_
  refine vv_aload_n d_LW_all_2 rfl ?_
  refine vv_iload_n d_LW_all_3 rfl ?_
  refine vv_catch2 [.int (iI 0), .ref qo] (xo := n_ISE) ht rfl ⟨by decide, by decide, by decide⟩ ⟨by decide, by decide, by decide⟩ (tb_at 445 rfl rfl) (tb_at 554 rfl rfl) (by decide +kernel) (wc := [ob_ST x qsh qpa qcu qtk qrs qt ql S le nS nP nC nT nR 1]) (plc := []) (c_ST_all_n2 (cx_l X) (cx_D X) x qsh qpa qcu qtk qrs qt ql S le nS nP nC nT nR w (hl ▸ hfl) h_w hw) lk_LW_44 (tb_at 646 rfl rfl) d_LW_all_4 rfl (rc_at 0 rfl rfl rfl) [0] ⟨rfl, rfl, Or.inl rfl⟩ [] rfl ⟨⟨by decide, by decide⟩, ⟨by decide, by decide⟩, Nat.le_of_ble_eq_true rfl⟩ (fun v => ?_)
  refine vv_astore_n d_LW_all_14 rfl (by decide) ?_
  dsimp only [List.set]
  refine vv_iconst d_LW_all_15 ?_
  exact vp_iret hAA hr d_LW_all_16 (by decide) (by decide) rfl
