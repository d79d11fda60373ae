/-! SheetTreesModel: sheet, part, count, left, taken, rest, bound, all -/
section ZS2
variable {X : cx_T} {M : ms_T} {Q : State → Prop} {k n : Nat} {tys : List (ClassId × FieldType)} {ws pl : va_W} {lv : List (Option Value)} {st : List Value} {pc : Nat}
theorem vv_zast (hw : cx_w X) {a N : Nat} {cA : ClassId} {g : Nat → Int} {z v : Int} (hv : vp_nar .boolean (iI v) = iI v) (hd : decode M.1 pc = .ok (.bastore, 1)) (q0 t0 : Nat) (ha : ws[q0]? = some (a, .inl (cA, N, .inl (fun j => iI (g j))))) (ht : tys[t0]? = some (cA, .boolean)) (hz : 0 ≤ z ∧ z < (N : Int) ∧ N < 2147483648) (kk : VV X M Q k n tys (ws.set q0 (a, .inl (cA, N, .inl (fun j => iI (va_up g z.toNat v j))))) pl lv st (pc + 1)) : VV X M Q k n tys ws pl lv (.int (iI v) :: .int (iI z) :: .ref a :: st) pc := fun C H locs ls hK hP hD hS hl =>
  va_zast C.1 C.2.1 hK hP (hD.weaken (fun _ _ _ h => hw _ h)) hS q0 t0 (vv_at ha) ht (iI_in hz.1 hz.2.1 hz.2.2) hd (fun H1 locs1 hP1 hD1 hS1 => by
    rw [hv] at hP1 hD1
    have e1 : upd (fun j => iI (g j)) (iI z).toNatClampNeg (iI v) = fun j => iI (va_up g z.toNat v j) := by
      rw [iI_cl hz.1 (by omega)]
      funext j
      unfold upd va_up
      split <;> rfl
    rw [e1] at hP1 hD1
    have e2 : (ws ++ pl).set q0 (a, .inl (cA, N, .inl (fun j => iI (va_up g z.toNat v j)))) = ws.set q0 (a, .inl (cA, N, .inl (fun j => iI (va_up g z.toNat v j)))) ++ pl := List.set_append_left _ _ (List.getElem?_eq_some_iff.mp ha).1
    rw [e2] at hP1 hD1
    refine kk C H1 locs1 ls hK hP1 ?_ hS1 hl
    rw [← e2]
    exact hD.set (vv_at ha))
end ZS2
set_option maxHeartbeats 4000000 in
set_option maxRecDepth 100000 in
theorem c_MO_sheet_n (l : Launch) (D : va_G) (m : Nat) (q : Nat → Nat) (K S le cd nS nP rn dn : Int) (w h c n e : Int) (h_w : -2147483648 ≤ w ∧ w < 2147483648) (h_h : -2147483648 ≤ h ∧ h < 2147483648) (h_c : -2147483648 ≤ c ∧ c < 2147483648) (h_n : -2147483648 ≤ n ∧ n < 2147483648) (hnS : 0 ≤ nS ∧ nS ≤ 4) (he : (e = 1 ∧ ¬ ((1 ≤ w ∧ w ≤ 16) ∧ (1 ≤ h ∧ h ≤ 16) ∧ (1 ≤ c ∧ c ≤ 10000) ∧ 0 ≤ n ∧ n ≤ 20)) ∨ (e = 2 ∧ ((1 ≤ w ∧ w ≤ 16) ∧ (1 ≤ h ∧ h ≤ 16) ∧ (1 ≤ c ∧ c ≤ 10000) ∧ 0 ≤ n ∧ n ≤ 20) ∧ nS = 4)) : CM l y_MO_sheet b_MO_sheet 5 (some .int) rm_1 [.ref m, .int (iI w), .int (iI h), .int (iI c), .int (iI n)] D [] ([ob_MO m q K S le cd nS nP rn dn] ++ []) (fun r w1 p1 _ => r = (some (.int (iI 0))) ∧ w1 = [ob_MO m q K S le e nS nP rn dn] ∧ p1 = []) := by
  refine cm_of (by decide) (Nat.le_of_ble_eq_true rfl) ?_
  intro X sz hl hr hnm hD hA hw
  subst hD
  show VV X (b_MO_sheet, 5, "SheetTreesModel", rm_1) _ 0 0 [] [ob_MO m q K S le cd nS nP rn dn] [] [some (.ref m), some (.int (iI w)), some (.int (iI h)), some (.int (iI c)), some (.int (iI n))] [] 0
  refine vv_aload_n d_MO_sheet_0 rfl ?_
  refine vv_iload_n d_MO_sheet_1 rfl ?_
  refine vv_iconst d_MO_sheet_2 ?_
  refine vv_bipush d_MO_sheet_3 (by decide +kernel) ?_
  refine vv_pS (wc := []) (plc := []) [.ref m] (c_MO_in (cx_l X) (cx_D X) w 1 16 (by omega) (by omega) (by omega)) lk_MO_102 d_MO_sheet_5 rfl [] ⟨rfl, rfl, Or.inl rfl⟩ [] rfl ⟨⟨by decide, by decide⟩, ⟨by decide, by decide⟩, Nat.le_of_ble_eq_true rfl⟩ ⟨rfl, rfl⟩ ?_
  intro v hv
  subst hv
  dsimp only [Option.toList, List.cons_append, List.nil_append, List.append_nil]
  have hc5 := isW_c w 1 16
  refine vv_if_eq (tgt := 43) d_MO_sheet_8 (by decide) (by omega) (fun c8 => ?_) (fun c8 => ?_)
  · skip
    refine vv_iconst d_MO_sheet_43 ?_
    refine vv_goto (tgt := 60) d_MO_sheet_44 (by decide) ?_
    refine vv_put hw d_MO_sheet_60 0 rfl fp_MO_99 rfl rfl (Nat.le_of_ble_eq_true rfl) ?_
    dsimp only [List.set]
    refine vv_aload_n d_MO_sheet_63 rfl ?_
    refine vv_get d_MO_sheet_64 0 rfl fl_MO_99 rfl ?_
    refine vv_if_le (tgt := 72) d_MO_sheet_67 (by decide) (by omega) (fun c67 => ?_) (fun c67 => ?_)
    · skip
      exfalso; omega
    · skip
      refine vv_iconst d_MO_sheet_70 ?_
      first | (exfalso; omega) | (have e1 : e = 1 := by omega); subst e1; exact vv_iret hA hw hr d_MO_sheet_71 (by decide) (by decide) ⟨rfl, rfl, rfl⟩ | (have e1 : e = 2 := by omega); subst e1; exact vv_iret hA hw hr d_MO_sheet_71 (by decide) (by decide) ⟨rfl, rfl, rfl⟩
  · skip
    refine vv_iload_n d_MO_sheet_11 rfl ?_
    refine vv_iconst d_MO_sheet_12 ?_
    refine vv_bipush d_MO_sheet_13 (by decide +kernel) ?_
    refine vv_pS (wc := []) (plc := []) [.ref m] (c_MO_in (cx_l X) (cx_D X) h 1 16 (by omega) (by omega) (by omega)) lk_MO_102 d_MO_sheet_15 rfl [] ⟨rfl, rfl, Or.inl rfl⟩ [] rfl ⟨⟨by decide, by decide⟩, ⟨by decide, by decide⟩, Nat.le_of_ble_eq_true rfl⟩ ⟨rfl, rfl⟩ ?_
    intro v hv
    subst hv
    dsimp only [Option.toList, List.cons_append, List.nil_append, List.append_nil]
    have hc15 := isW_c h 1 16
    refine vv_if_eq (tgt := 43) d_MO_sheet_18 (by decide) (by omega) (fun c18 => ?_) (fun c18 => ?_)
    · skip
      refine vv_iconst d_MO_sheet_43 ?_
      refine vv_goto (tgt := 60) d_MO_sheet_44 (by decide) ?_
      refine vv_put hw d_MO_sheet_60 0 rfl fp_MO_99 rfl rfl (Nat.le_of_ble_eq_true rfl) ?_
      dsimp only [List.set]
      refine vv_aload_n d_MO_sheet_63 rfl ?_
      refine vv_get d_MO_sheet_64 0 rfl fl_MO_99 rfl ?_
      refine vv_if_le (tgt := 72) d_MO_sheet_67 (by decide) (by omega) (fun c67 => ?_) (fun c67 => ?_)
      · skip
        exfalso; omega
      · skip
        refine vv_iconst d_MO_sheet_70 ?_
        first | (exfalso; omega) | (have e1 : e = 1 := by omega); subst e1; exact vv_iret hA hw hr d_MO_sheet_71 (by decide) (by decide) ⟨rfl, rfl, rfl⟩ | (have e1 : e = 2 := by omega); subst e1; exact vv_iret hA hw hr d_MO_sheet_71 (by decide) (by decide) ⟨rfl, rfl, rfl⟩
    · skip
      refine vv_iload_n d_MO_sheet_21 rfl ?_
      refine vv_iconst d_MO_sheet_22 ?_
      refine vv_sipush d_MO_sheet_23 (by decide +kernel) ?_
      refine vv_pS (wc := []) (plc := []) [.ref m] (c_MO_in (cx_l X) (cx_D X) c 1 10000 (by omega) (by omega) (by omega)) lk_MO_102 d_MO_sheet_26 rfl [] ⟨rfl, rfl, Or.inl rfl⟩ [] rfl ⟨⟨by decide, by decide⟩, ⟨by decide, by decide⟩, Nat.le_of_ble_eq_true rfl⟩ ⟨rfl, rfl⟩ ?_
      intro v hv
      subst hv
      dsimp only [Option.toList, List.cons_append, List.nil_append, List.append_nil]
      have hc26 := isW_c c 1 10000
      refine vv_if_eq (tgt := 43) d_MO_sheet_29 (by decide) (by omega) (fun c29 => ?_) (fun c29 => ?_)
      · skip
        refine vv_iconst d_MO_sheet_43 ?_
        refine vv_goto (tgt := 60) d_MO_sheet_44 (by decide) ?_
        refine vv_put hw d_MO_sheet_60 0 rfl fp_MO_99 rfl rfl (Nat.le_of_ble_eq_true rfl) ?_
        dsimp only [List.set]
        refine vv_aload_n d_MO_sheet_63 rfl ?_
        refine vv_get d_MO_sheet_64 0 rfl fl_MO_99 rfl ?_
        refine vv_if_le (tgt := 72) d_MO_sheet_67 (by decide) (by omega) (fun c67 => ?_) (fun c67 => ?_)
        · skip
          exfalso; omega
        · skip
          refine vv_iconst d_MO_sheet_70 ?_
          first | (exfalso; omega) | (have e1 : e = 1 := by omega); subst e1; exact vv_iret hA hw hr d_MO_sheet_71 (by decide) (by decide) ⟨rfl, rfl, rfl⟩ | (have e1 : e = 2 := by omega); subst e1; exact vv_iret hA hw hr d_MO_sheet_71 (by decide) (by decide) ⟨rfl, rfl, rfl⟩
      · skip
        refine vv_iload d_MO_sheet_32 rfl ?_
        refine vv_iconst d_MO_sheet_34 ?_
        refine vv_bipush d_MO_sheet_35 (by decide +kernel) ?_
        refine vv_pS (wc := []) (plc := []) [.ref m] (c_MO_in (cx_l X) (cx_D X) n 0 20 (by omega) (by omega) (by omega)) lk_MO_102 d_MO_sheet_37 rfl [] ⟨rfl, rfl, Or.inl rfl⟩ [] rfl ⟨⟨by decide, by decide⟩, ⟨by decide, by decide⟩, Nat.le_of_ble_eq_true rfl⟩ ⟨rfl, rfl⟩ ?_
        intro v hv
        subst hv
        dsimp only [Option.toList, List.cons_append, List.nil_append, List.append_nil]
        have hc37 := isW_c n 0 20
        refine vv_if_ne (tgt := 47) d_MO_sheet_40 (by decide) (by omega) (fun c40 => ?_) (fun c40 => ?_)
        · skip
          refine vv_aload_n d_MO_sheet_47 rfl ?_
          refine vv_get d_MO_sheet_48 0 rfl fl_MO_106 rfl ?_
          refine vv_iconst d_MO_sheet_51 ?_
          refine vv_icmp_ne (tgt := 59) d_MO_sheet_52 (by decide) ⟨by omega, by omega⟩ (fun c52 => ?_) (fun c52 => ?_)
          · skip
            refine vv_iconst d_MO_sheet_59 ?_
            refine vv_put hw d_MO_sheet_60 0 rfl fp_MO_99 rfl rfl (Nat.le_of_ble_eq_true rfl) ?_
            dsimp only [List.set]
            refine vv_aload_n d_MO_sheet_63 rfl ?_
            refine vv_get d_MO_sheet_64 0 rfl fl_MO_99 rfl ?_
            refine vv_if_le (tgt := 72) d_MO_sheet_67 (by decide) (by omega) (fun c67 => ?_) (fun c67 => ?_)
            · skip
              exfalso; omega
            · skip
              refine vv_iconst d_MO_sheet_70 ?_
              first | (exfalso; omega) | (have e1 : e = 1 := by omega); subst e1; exact vv_iret hA hw hr d_MO_sheet_71 (by decide) (by decide) ⟨rfl, rfl, rfl⟩ | (have e1 : e = 2 := by omega); subst e1; exact vv_iret hA hw hr d_MO_sheet_71 (by decide) (by decide) ⟨rfl, rfl, rfl⟩
          · skip
            refine vv_iconst d_MO_sheet_55 ?_
            refine vv_goto (tgt := 60) d_MO_sheet_56 (by decide) ?_
            refine vv_put hw d_MO_sheet_60 0 rfl fp_MO_99 rfl rfl (Nat.le_of_ble_eq_true rfl) ?_
            dsimp only [List.set]
            refine vv_aload_n d_MO_sheet_63 rfl ?_
            refine vv_get d_MO_sheet_64 0 rfl fl_MO_99 rfl ?_
            refine vv_if_le (tgt := 72) d_MO_sheet_67 (by decide) (by omega) (fun c67 => ?_) (fun c67 => ?_)
            · skip
              exfalso; omega
            · skip
              refine vv_iconst d_MO_sheet_70 ?_
              first | (exfalso; omega) | (have e1 : e = 1 := by omega); subst e1; exact vv_iret hA hw hr d_MO_sheet_71 (by decide) (by decide) ⟨rfl, rfl, rfl⟩ | (have e1 : e = 2 := by omega); subst e1; exact vv_iret hA hw hr d_MO_sheet_71 (by decide) (by decide) ⟨rfl, rfl, rfl⟩
        · skip
          refine vv_iconst d_MO_sheet_43 ?_
          refine vv_goto (tgt := 60) d_MO_sheet_44 (by decide) ?_
          refine vv_put hw d_MO_sheet_60 0 rfl fp_MO_99 rfl rfl (Nat.le_of_ble_eq_true rfl) ?_
          dsimp only [List.set]
          refine vv_aload_n d_MO_sheet_63 rfl ?_
          refine vv_get d_MO_sheet_64 0 rfl fl_MO_99 rfl ?_
          refine vv_if_le (tgt := 72) d_MO_sheet_67 (by decide) (by omega) (fun c67 => ?_) (fun c67 => ?_)
          · skip
            exfalso; omega
          · skip
            refine vv_iconst d_MO_sheet_70 ?_
            first | (exfalso; omega) | (have e1 : e = 1 := by omega); subst e1; exact vv_iret hA hw hr d_MO_sheet_71 (by decide) (by decide) ⟨rfl, rfl, rfl⟩ | (have e1 : e = 2 := by omega); subst e1; exact vv_iret hA hw hr d_MO_sheet_71 (by decide) (by decide) ⟨rfl, rfl, rfl⟩
set_option maxHeartbeats 4000000 in
set_option maxRecDepth 100000 in
theorem c_MO_sheet_y (l : Launch) (D : va_G) (m : Nat) (q : Nat → Nat) (K S le cd nS nP rn dn : Int) (cI : ClassId) (sw sh ce sk : Nat → Int) (w h c n : Int) (hnS : 0 ≤ nS ∧ nS < 4) (hok : (1 ≤ w ∧ w ≤ 16) ∧ (1 ≤ h ∧ h ≤ 16) ∧ (1 ≤ c ∧ c ≤ 10000) ∧ 0 ≤ n ∧ n ≤ 20) : CM l y_MO_sheet b_MO_sheet 5 (some .int) rm_1 [.ref m, .int (iI w), .int (iI h), .int (iI c), .int (iI n)] D [(cI, .int)] ([ob_MO m q K S le cd nS nP rn dn, ar_I (q 5) cI 4 sw, ar_I (q 6) cI 4 sh, ar_I (q 7) cI 4 ce, ar_I (q 8) cI 4 sk] ++ []) (fun r w1 p1 _ => r = some (.int (iI (nS + 1 - 1))) ∧ w1 = [ob_MO m q K S le 0 (nS + 1) nP 0 dn, ar_I (q 5) cI 4 (va_up sw nS.toNat w), ar_I (q 6) cI 4 (va_up sh nS.toNat h), ar_I (q 7) cI 4 (va_up ce nS.toNat c), ar_I (q 8) cI 4 (va_up sk nS.toNat n)] ∧ p1 = []) := by
  refine cm_of (by decide) (Nat.le_of_ble_eq_true rfl) ?_
  intro X sz hl hr hnm hD hA hw
  subst hD
  show VV X (b_MO_sheet, 5, "SheetTreesModel", rm_1) _ 0 0 [(cI, .int)] [ob_MO m q K S le cd nS nP rn dn, ar_I (q 5) cI 4 sw, ar_I (q 6) cI 4 sh, ar_I (q 7) cI 4 ce, ar_I (q 8) cI 4 sk] [] [some (.ref m), some (.int (iI w)), some (.int (iI h)), some (.int (iI c)), some (.int (iI n))] [] 0
  refine vv_aload_n d_MO_sheet_0 rfl ?_
  refine vv_iload_n d_MO_sheet_1 rfl ?_
  refine vv_iconst d_MO_sheet_2 ?_
  refine vv_bipush d_MO_sheet_3 (by decide +kernel) ?_
  refine vv_pS (wc := []) (plc := []) [.ref m] (c_MO_in (cx_l X) (cx_D X) w 1 16 (by omega) (by omega) (by omega)) lk_MO_102 d_MO_sheet_5 rfl [] ⟨rfl, rfl, Or.inl rfl⟩ [] rfl ⟨⟨by decide, by decide⟩, ⟨by decide, by decide⟩, Nat.le_of_ble_eq_true rfl⟩ ⟨rfl, rfl⟩ ?_
  intro v hv
  subst hv
  dsimp only [Option.toList, List.cons_append, List.nil_append, List.append_nil]
  have hc5 := isW_c w 1 16
  refine vv_if_eq (tgt := 43) d_MO_sheet_8 (by decide) (by omega) (fun c8 => ?_) (fun c8 => ?_)
  · skip
    exfalso; omega
  · skip
    refine vv_iload_n d_MO_sheet_11 rfl ?_
    refine vv_iconst d_MO_sheet_12 ?_
    refine vv_bipush d_MO_sheet_13 (by decide +kernel) ?_
    refine vv_pS (wc := []) (plc := []) [.ref m] (c_MO_in (cx_l X) (cx_D X) h 1 16 (by omega) (by omega) (by omega)) lk_MO_102 d_MO_sheet_15 rfl [] ⟨rfl, rfl, Or.inl rfl⟩ [] rfl ⟨⟨by decide, by decide⟩, ⟨by decide, by decide⟩, Nat.le_of_ble_eq_true rfl⟩ ⟨rfl, rfl⟩ ?_
    intro v hv
    subst hv
    dsimp only [Option.toList, List.cons_append, List.nil_append, List.append_nil]
    have hc15 := isW_c h 1 16
    refine vv_if_eq (tgt := 43) d_MO_sheet_18 (by decide) (by omega) (fun c18 => ?_) (fun c18 => ?_)
    · skip
      exfalso; omega
    · skip
      refine vv_iload_n d_MO_sheet_21 rfl ?_
      refine vv_iconst d_MO_sheet_22 ?_
      refine vv_sipush d_MO_sheet_23 (by decide +kernel) ?_
      refine vv_pS (wc := []) (plc := []) [.ref m] (c_MO_in (cx_l X) (cx_D X) c 1 10000 (by omega) (by omega) (by omega)) lk_MO_102 d_MO_sheet_26 rfl [] ⟨rfl, rfl, Or.inl rfl⟩ [] rfl ⟨⟨by decide, by decide⟩, ⟨by decide, by decide⟩, Nat.le_of_ble_eq_true rfl⟩ ⟨rfl, rfl⟩ ?_
      intro v hv
      subst hv
      dsimp only [Option.toList, List.cons_append, List.nil_append, List.append_nil]
      have hc26 := isW_c c 1 10000
      refine vv_if_eq (tgt := 43) d_MO_sheet_29 (by decide) (by omega) (fun c29 => ?_) (fun c29 => ?_)
      · skip
        exfalso; omega
      · skip
        refine vv_iload d_MO_sheet_32 rfl ?_
        refine vv_iconst d_MO_sheet_34 ?_
        refine vv_bipush d_MO_sheet_35 (by decide +kernel) ?_
        refine vv_pS (wc := []) (plc := []) [.ref m] (c_MO_in (cx_l X) (cx_D X) n 0 20 (by omega) (by omega) (by omega)) lk_MO_102 d_MO_sheet_37 rfl [] ⟨rfl, rfl, Or.inl rfl⟩ [] rfl ⟨⟨by decide, by decide⟩, ⟨by decide, by decide⟩, Nat.le_of_ble_eq_true rfl⟩ ⟨rfl, rfl⟩ ?_
        intro v hv
        subst hv
        dsimp only [Option.toList, List.cons_append, List.nil_append, List.append_nil]
        have hc37 := isW_c n 0 20
        refine vv_if_ne (tgt := 47) d_MO_sheet_40 (by decide) (by omega) (fun c40 => ?_) (fun c40 => ?_)
        · skip
          refine vv_aload_n d_MO_sheet_47 rfl ?_
          refine vv_get d_MO_sheet_48 0 rfl fl_MO_106 rfl ?_
          refine vv_iconst d_MO_sheet_51 ?_
          refine vv_icmp_ne (tgt := 59) d_MO_sheet_52 (by decide) ⟨by omega, by omega⟩ (fun c52 => ?_) (fun c52 => ?_)
          · skip
            refine vv_iconst d_MO_sheet_59 ?_
            refine vv_put hw d_MO_sheet_60 0 rfl fp_MO_99 rfl rfl (Nat.le_of_ble_eq_true rfl) ?_
            dsimp only [List.set]
            refine vv_aload_n d_MO_sheet_63 rfl ?_
            refine vv_get d_MO_sheet_64 0 rfl fl_MO_99 rfl ?_
            refine vv_if_le (tgt := 72) d_MO_sheet_67 (by decide) (by omega) (fun c67 => ?_) (fun c67 => ?_)
            · skip
              refine vv_aload_n d_MO_sheet_72 rfl ?_
              refine vv_get d_MO_sheet_73 0 rfl fl_MO_7 rfl ?_
              refine vv_aload_n d_MO_sheet_76 rfl ?_
              refine vv_get d_MO_sheet_77 0 rfl fl_MO_106 rfl ?_
              refine vv_iload_n d_MO_sheet_80 rfl ?_
              refine vv_iast hw d_MO_sheet_81 1 0 rfl rfl (by omega) ?_
              dsimp only [List.set]
              refine vv_aload_n d_MO_sheet_82 rfl ?_
              refine vv_get d_MO_sheet_83 0 rfl fl_MO_13 rfl ?_
              refine vv_aload_n d_MO_sheet_86 rfl ?_
              refine vv_get d_MO_sheet_87 0 rfl fl_MO_106 rfl ?_
              refine vv_iload_n d_MO_sheet_90 rfl ?_
              refine vv_iast hw d_MO_sheet_91 2 0 rfl rfl (by omega) ?_
              dsimp only [List.set]
              refine vv_aload_n d_MO_sheet_92 rfl ?_
              refine vv_get d_MO_sheet_93 0 rfl fl_MO_16 rfl ?_
              refine vv_aload_n d_MO_sheet_96 rfl ?_
              refine vv_get d_MO_sheet_97 0 rfl fl_MO_106 rfl ?_
              refine vv_iload_n d_MO_sheet_100 rfl ?_
              refine vv_iast hw d_MO_sheet_101 3 0 rfl rfl (by omega) ?_
              dsimp only [List.set]
              refine vv_aload_n d_MO_sheet_102 rfl ?_
              refine vv_get d_MO_sheet_103 0 rfl fl_MO_19 rfl ?_
              refine vv_aload_n d_MO_sheet_106 rfl ?_
              refine vv_get d_MO_sheet_107 0 rfl fl_MO_106 rfl ?_
              refine vv_iload d_MO_sheet_110 rfl ?_
              refine vv_iast hw d_MO_sheet_112 4 0 rfl rfl (by omega) ?_
              dsimp only [List.set]
              refine vv_aload_n d_MO_sheet_113 rfl ?_
              refine vv_dup d_MO_sheet_114 rfl ?_
              refine vv_get d_MO_sheet_115 0 rfl fl_MO_106 rfl ?_
              refine vv_iconst d_MO_sheet_118 ?_
              refine vv_iadd d_MO_sheet_119 ?_
              refine vv_put hw d_MO_sheet_120 0 rfl fp_MO_106 rfl rfl (Nat.le_of_ble_eq_true rfl) ?_
              dsimp only [List.set]
              refine vv_aload_n d_MO_sheet_123 rfl ?_
              refine vv_iconst d_MO_sheet_124 ?_
              refine vv_put hw d_MO_sheet_125 0 rfl fp_MO_109 rfl rfl (Nat.le_of_ble_eq_true rfl) ?_
              dsimp only [List.set]
              refine vv_aload_n d_MO_sheet_128 rfl ?_
              refine vv_get d_MO_sheet_129 0 rfl fl_MO_106 rfl ?_
              refine vv_iconst d_MO_sheet_132 ?_
              refine vv_isub d_MO_sheet_133 ?_
              exact vv_iret hA hw hr d_MO_sheet_134 (by decide) (by decide) (by exact ⟨rfl, rfl, rfl⟩)
            · skip
              exfalso; omega
          · skip
            exfalso; omega
        · skip
          exfalso; omega
set_option maxHeartbeats 4000000 in
set_option maxRecDepth 100000 in
theorem c_MO_part_n (l : Launch) (D : va_G) (m : Nat) (q : Nat → Nat) (K S le cd nS nP rn dn : Int) (w h n t e : Int) (h_w : -2147483648 ≤ w ∧ w < 2147483648) (h_h : -2147483648 ≤ h ∧ h < 2147483648) (h_n : -2147483648 ≤ n ∧ n < 2147483648) (hnP : 0 ≤ nP ∧ nP ≤ 8) (he : (e = 1 ∧ ¬ ((1 ≤ w ∧ w ≤ 16) ∧ (1 ≤ h ∧ h ≤ 16) ∧ 0 ≤ n ∧ n ≤ 50)) ∨ (e = 2 ∧ ((1 ≤ w ∧ w ≤ 16) ∧ (1 ≤ h ∧ h ≤ 16) ∧ 0 ≤ n ∧ n ≤ 50) ∧ nP = 8)) : CM l y_MO_part b_MO_part 5 (some .int) rm_1 [.ref m, .int (iI w), .int (iI h), .int (iI n), .int (iI t)] D [] ([ob_MO m q K S le cd nS nP rn dn] ++ []) (fun r w1 p1 _ => r = (some (.int (iI 0))) ∧ w1 = [ob_MO m q K S le e nS nP rn dn] ∧ p1 = []) := by
  refine cm_of (by decide) (Nat.le_of_ble_eq_true rfl) ?_
  intro X sz hl hr hnm hD hA hw
  subst hD
  show VV X (b_MO_part, 5, "SheetTreesModel", rm_1) _ 0 0 [] [ob_MO m q K S le cd nS nP rn dn] [] [some (.ref m), some (.int (iI w)), some (.int (iI h)), some (.int (iI n)), some (.int (iI t))] [] 0
  refine vv_aload_n d_MO_part_0 rfl ?_
  refine vv_iload_n d_MO_part_1 rfl ?_
  refine vv_iconst d_MO_part_2 ?_
  refine vv_bipush d_MO_part_3 (by decide +kernel) ?_
  refine vv_pS (wc := []) (plc := []) [.ref m] (c_MO_in (cx_l X) (cx_D X) w 1 16 (by omega) (by omega) (by omega)) lk_MO_102 d_MO_part_5 rfl [] ⟨rfl, rfl, Or.inl rfl⟩ [] rfl ⟨⟨by decide, by decide⟩, ⟨by decide, by decide⟩, Nat.le_of_ble_eq_true rfl⟩ ⟨rfl, rfl⟩ ?_
  intro v hv
  subst hv
  dsimp only [Option.toList, List.cons_append, List.nil_append, List.append_nil]
  have hc5 := isW_c w 1 16
  refine vv_if_eq (tgt := 31) d_MO_part_8 (by decide) (by omega) (fun c8 => ?_) (fun c8 => ?_)
  · skip
    refine vv_iconst d_MO_part_31 ?_
    refine vv_goto (tgt := 49) d_MO_part_32 (by decide) ?_
    refine vv_put hw d_MO_part_49 0 rfl fp_MO_99 rfl rfl (Nat.le_of_ble_eq_true rfl) ?_
    dsimp only [List.set]
    refine vv_aload_n d_MO_part_52 rfl ?_
    refine vv_get d_MO_part_53 0 rfl fl_MO_99 rfl ?_
    refine vv_if_le (tgt := 61) d_MO_part_56 (by decide) (by omega) (fun c56 => ?_) (fun c56 => ?_)
    · skip
      exfalso; omega
    · skip
      refine vv_iconst d_MO_part_59 ?_
      first | (exfalso; omega) | (have e1 : e = 1 := by omega); subst e1; exact vv_iret hA hw hr d_MO_part_60 (by decide) (by decide) ⟨rfl, rfl, rfl⟩ | (have e1 : e = 2 := by omega); subst e1; exact vv_iret hA hw hr d_MO_part_60 (by decide) (by decide) ⟨rfl, rfl, rfl⟩
  · skip
    refine vv_iload_n d_MO_part_11 rfl ?_
    refine vv_iconst d_MO_part_12 ?_
    refine vv_bipush d_MO_part_13 (by decide +kernel) ?_
    refine vv_pS (wc := []) (plc := []) [.ref m] (c_MO_in (cx_l X) (cx_D X) h 1 16 (by omega) (by omega) (by omega)) lk_MO_102 d_MO_part_15 rfl [] ⟨rfl, rfl, Or.inl rfl⟩ [] rfl ⟨⟨by decide, by decide⟩, ⟨by decide, by decide⟩, Nat.le_of_ble_eq_true rfl⟩ ⟨rfl, rfl⟩ ?_
    intro v hv
    subst hv
    dsimp only [Option.toList, List.cons_append, List.nil_append, List.append_nil]
    have hc15 := isW_c h 1 16
    refine vv_if_eq (tgt := 31) d_MO_part_18 (by decide) (by omega) (fun c18 => ?_) (fun c18 => ?_)
    · skip
      refine vv_iconst d_MO_part_31 ?_
      refine vv_goto (tgt := 49) d_MO_part_32 (by decide) ?_
      refine vv_put hw d_MO_part_49 0 rfl fp_MO_99 rfl rfl (Nat.le_of_ble_eq_true rfl) ?_
      dsimp only [List.set]
      refine vv_aload_n d_MO_part_52 rfl ?_
      refine vv_get d_MO_part_53 0 rfl fl_MO_99 rfl ?_
      refine vv_if_le (tgt := 61) d_MO_part_56 (by decide) (by omega) (fun c56 => ?_) (fun c56 => ?_)
      · skip
        exfalso; omega
      · skip
        refine vv_iconst d_MO_part_59 ?_
        first | (exfalso; omega) | (have e1 : e = 1 := by omega); subst e1; exact vv_iret hA hw hr d_MO_part_60 (by decide) (by decide) ⟨rfl, rfl, rfl⟩ | (have e1 : e = 2 := by omega); subst e1; exact vv_iret hA hw hr d_MO_part_60 (by decide) (by decide) ⟨rfl, rfl, rfl⟩
    · skip
      refine vv_iload_n d_MO_part_21 rfl ?_
      refine vv_iconst d_MO_part_22 ?_
      refine vv_bipush d_MO_part_23 (by decide +kernel) ?_
      refine vv_pS (wc := []) (plc := []) [.ref m] (c_MO_in (cx_l X) (cx_D X) n 0 50 (by omega) (by omega) (by omega)) lk_MO_102 d_MO_part_25 rfl [] ⟨rfl, rfl, Or.inl rfl⟩ [] rfl ⟨⟨by decide, by decide⟩, ⟨by decide, by decide⟩, Nat.le_of_ble_eq_true rfl⟩ ⟨rfl, rfl⟩ ?_
      intro v hv
      subst hv
      dsimp only [Option.toList, List.cons_append, List.nil_append, List.append_nil]
      have hc25 := isW_c n 0 50
      refine vv_if_ne (tgt := 35) d_MO_part_28 (by decide) (by omega) (fun c28 => ?_) (fun c28 => ?_)
      · skip
        refine vv_aload_n d_MO_part_35 rfl ?_
        refine vv_get d_MO_part_36 0 rfl fl_MO_113 rfl ?_
        refine vv_bipush d_MO_part_39 (by decide +kernel) ?_
        refine vv_icmp_ne (tgt := 48) d_MO_part_41 (by decide) ⟨by omega, by omega⟩ (fun c41 => ?_) (fun c41 => ?_)
        · skip
          refine vv_iconst d_MO_part_48 ?_
          refine vv_put hw d_MO_part_49 0 rfl fp_MO_99 rfl rfl (Nat.le_of_ble_eq_true rfl) ?_
          dsimp only [List.set]
          refine vv_aload_n d_MO_part_52 rfl ?_
          refine vv_get d_MO_part_53 0 rfl fl_MO_99 rfl ?_
          refine vv_if_le (tgt := 61) d_MO_part_56 (by decide) (by omega) (fun c56 => ?_) (fun c56 => ?_)
          · skip
            exfalso; omega
          · skip
            refine vv_iconst d_MO_part_59 ?_
            first | (exfalso; omega) | (have e1 : e = 1 := by omega); subst e1; exact vv_iret hA hw hr d_MO_part_60 (by decide) (by decide) ⟨rfl, rfl, rfl⟩ | (have e1 : e = 2 := by omega); subst e1; exact vv_iret hA hw hr d_MO_part_60 (by decide) (by decide) ⟨rfl, rfl, rfl⟩
        · skip
          refine vv_iconst d_MO_part_44 ?_
          refine vv_goto (tgt := 49) d_MO_part_45 (by decide) ?_
          refine vv_put hw d_MO_part_49 0 rfl fp_MO_99 rfl rfl (Nat.le_of_ble_eq_true rfl) ?_
          dsimp only [List.set]
          refine vv_aload_n d_MO_part_52 rfl ?_
          refine vv_get d_MO_part_53 0 rfl fl_MO_99 rfl ?_
          refine vv_if_le (tgt := 61) d_MO_part_56 (by decide) (by omega) (fun c56 => ?_) (fun c56 => ?_)
          · skip
            exfalso; omega
          · skip
            refine vv_iconst d_MO_part_59 ?_
            first | (exfalso; omega) | (have e1 : e = 1 := by omega); subst e1; exact vv_iret hA hw hr d_MO_part_60 (by decide) (by decide) ⟨rfl, rfl, rfl⟩ | (have e1 : e = 2 := by omega); subst e1; exact vv_iret hA hw hr d_MO_part_60 (by decide) (by decide) ⟨rfl, rfl, rfl⟩
      · skip
        refine vv_iconst d_MO_part_31 ?_
        refine vv_goto (tgt := 49) d_MO_part_32 (by decide) ?_
        refine vv_put hw d_MO_part_49 0 rfl fp_MO_99 rfl rfl (Nat.le_of_ble_eq_true rfl) ?_
        dsimp only [List.set]
        refine vv_aload_n d_MO_part_52 rfl ?_
        refine vv_get d_MO_part_53 0 rfl fl_MO_99 rfl ?_
        refine vv_if_le (tgt := 61) d_MO_part_56 (by decide) (by omega) (fun c56 => ?_) (fun c56 => ?_)
        · skip
          exfalso; omega
        · skip
          refine vv_iconst d_MO_part_59 ?_
          first | (exfalso; omega) | (have e1 : e = 1 := by omega); subst e1; exact vv_iret hA hw hr d_MO_part_60 (by decide) (by decide) ⟨rfl, rfl, rfl⟩ | (have e1 : e = 2 := by omega); subst e1; exact vv_iret hA hw hr d_MO_part_60 (by decide) (by decide) ⟨rfl, rfl, rfl⟩
set_option maxHeartbeats 4000000 in
set_option maxRecDepth 100000 in
theorem c_MO_part_y (l : Launch) (D : va_G) (m : Nat) (q : Nat → Nat) (K S le cd nS nP rn dn : Int) (cI cZ : ClassId) (pw ph co tu : Nat → Int) (w h n t : Int) (hnP : 0 ≤ nP ∧ nP < 8) (hok : (1 ≤ w ∧ w ≤ 16) ∧ (1 ≤ h ∧ h ≤ 16) ∧ 0 ≤ n ∧ n ≤ 50) (ht : t = 0 ∨ t = 1) : CM l y_MO_part b_MO_part 5 (some .int) rm_1 [.ref m, .int (iI w), .int (iI h), .int (iI n), .int (iI t)] D [(cI, .int), (cZ, .boolean)] ([ob_MO m q K S le cd nS nP rn dn, ar_I (q 10) cI 8 pw, ar_I (q 11) cI 8 ph, ar_I (q 12) cI 8 co, ar_I (q 13) cZ 8 tu] ++ []) (fun r w1 p1 _ => r = some (.int (iI (nP + 1 - 1))) ∧ w1 = [ob_MO m q K S le 0 nS (nP + 1) 0 dn, ar_I (q 10) cI 8 (va_up pw nP.toNat w), ar_I (q 11) cI 8 (va_up ph nP.toNat h), ar_I (q 12) cI 8 (va_up co nP.toNat n), ar_I (q 13) cZ 8 (va_up tu nP.toNat t)] ∧ p1 = []) := by
  refine cm_of (by decide) (Nat.le_of_ble_eq_true rfl) ?_
  intro X sz hl hr hnm hD hA hw
  subst hD
  have hnar : vp_nar .boolean (iI t) = iI t := by rcases ht with rfl | rfl <;> decide +kernel
  show VV X (b_MO_part, 5, "SheetTreesModel", rm_1) _ 0 0 [(cI, .int), (cZ, .boolean)] [ob_MO m q K S le cd nS nP rn dn, ar_I (q 10) cI 8 pw, ar_I (q 11) cI 8 ph, ar_I (q 12) cI 8 co, ar_I (q 13) cZ 8 tu] [] [some (.ref m), some (.int (iI w)), some (.int (iI h)), some (.int (iI n)), some (.int (iI t))] [] 0
  refine vv_aload_n d_MO_part_0 rfl ?_
  refine vv_iload_n d_MO_part_1 rfl ?_
  refine vv_iconst d_MO_part_2 ?_
  refine vv_bipush d_MO_part_3 (by decide +kernel) ?_
  refine vv_pS (wc := []) (plc := []) [.ref m] (c_MO_in (cx_l X) (cx_D X) w 1 16 (by omega) (by omega) (by omega)) lk_MO_102 d_MO_part_5 rfl [] ⟨rfl, rfl, Or.inl rfl⟩ [] rfl ⟨⟨by decide, by decide⟩, ⟨by decide, by decide⟩, Nat.le_of_ble_eq_true rfl⟩ ⟨rfl, rfl⟩ ?_
  intro v hv
  subst hv
  dsimp only [Option.toList, List.cons_append, List.nil_append, List.append_nil]
  have hc5 := isW_c w 1 16
  refine vv_if_eq (tgt := 31) d_MO_part_8 (by decide) (by omega) (fun c8 => ?_) (fun c8 => ?_)
  · skip
    exfalso; omega
  · skip
    refine vv_iload_n d_MO_part_11 rfl ?_
    refine vv_iconst d_MO_part_12 ?_
    refine vv_bipush d_MO_part_13 (by decide +kernel) ?_
    refine vv_pS (wc := []) (plc := []) [.ref m] (c_MO_in (cx_l X) (cx_D X) h 1 16 (by omega) (by omega) (by omega)) lk_MO_102 d_MO_part_15 rfl [] ⟨rfl, rfl, Or.inl rfl⟩ [] rfl ⟨⟨by decide, by decide⟩, ⟨by decide, by decide⟩, Nat.le_of_ble_eq_true rfl⟩ ⟨rfl, rfl⟩ ?_
    intro v hv
    subst hv
    dsimp only [Option.toList, List.cons_append, List.nil_append, List.append_nil]
    have hc15 := isW_c h 1 16
    refine vv_if_eq (tgt := 31) d_MO_part_18 (by decide) (by omega) (fun c18 => ?_) (fun c18 => ?_)
    · skip
      exfalso; omega
    · skip
      refine vv_iload_n d_MO_part_21 rfl ?_
      refine vv_iconst d_MO_part_22 ?_
      refine vv_bipush d_MO_part_23 (by decide +kernel) ?_
      refine vv_pS (wc := []) (plc := []) [.ref m] (c_MO_in (cx_l X) (cx_D X) n 0 50 (by omega) (by omega) (by omega)) lk_MO_102 d_MO_part_25 rfl [] ⟨rfl, rfl, Or.inl rfl⟩ [] rfl ⟨⟨by decide, by decide⟩, ⟨by decide, by decide⟩, Nat.le_of_ble_eq_true rfl⟩ ⟨rfl, rfl⟩ ?_
      intro v hv
      subst hv
      dsimp only [Option.toList, List.cons_append, List.nil_append, List.append_nil]
      have hc25 := isW_c n 0 50
      refine vv_if_ne (tgt := 35) d_MO_part_28 (by decide) (by omega) (fun c28 => ?_) (fun c28 => ?_)
      · skip
        refine vv_aload_n d_MO_part_35 rfl ?_
        refine vv_get d_MO_part_36 0 rfl fl_MO_113 rfl ?_
        refine vv_bipush d_MO_part_39 (by decide +kernel) ?_
        refine vv_icmp_ne (tgt := 48) d_MO_part_41 (by decide) ⟨by omega, by omega⟩ (fun c41 => ?_) (fun c41 => ?_)
        · skip
          refine vv_iconst d_MO_part_48 ?_
          refine vv_put hw d_MO_part_49 0 rfl fp_MO_99 rfl rfl (Nat.le_of_ble_eq_true rfl) ?_
          dsimp only [List.set]
          refine vv_aload_n d_MO_part_52 rfl ?_
          refine vv_get d_MO_part_53 0 rfl fl_MO_99 rfl ?_
          refine vv_if_le (tgt := 61) d_MO_part_56 (by decide) (by omega) (fun c56 => ?_) (fun c56 => ?_)
          · skip
            refine vv_aload_n d_MO_part_61 rfl ?_
            refine vv_get d_MO_part_62 0 rfl fl_MO_22 rfl ?_
            refine vv_aload_n d_MO_part_65 rfl ?_
            refine vv_get d_MO_part_66 0 rfl fl_MO_113 rfl ?_
            refine vv_iload_n d_MO_part_69 rfl ?_
            refine vv_iast hw d_MO_part_70 1 0 rfl rfl (by omega) ?_
            dsimp only [List.set]
            refine vv_aload_n d_MO_part_71 rfl ?_
            refine vv_get d_MO_part_72 0 rfl fl_MO_25 rfl ?_
            refine vv_aload_n d_MO_part_75 rfl ?_
            refine vv_get d_MO_part_76 0 rfl fl_MO_113 rfl ?_
            refine vv_iload_n d_MO_part_79 rfl ?_
            refine vv_iast hw d_MO_part_80 2 0 rfl rfl (by omega) ?_
            dsimp only [List.set]
            refine vv_aload_n d_MO_part_81 rfl ?_
            refine vv_get d_MO_part_82 0 rfl fl_MO_28 rfl ?_
            refine vv_aload_n d_MO_part_85 rfl ?_
            refine vv_get d_MO_part_86 0 rfl fl_MO_113 rfl ?_
            refine vv_iload_n d_MO_part_89 rfl ?_
            refine vv_iast hw d_MO_part_90 3 0 rfl rfl (by omega) ?_
            dsimp only [List.set]
            refine vv_aload_n d_MO_part_91 rfl ?_
            refine vv_get d_MO_part_92 0 rfl fl_MO_31 rfl ?_
            refine vv_aload_n d_MO_part_95 rfl ?_
            refine vv_get d_MO_part_96 0 rfl fl_MO_113 rfl ?_
            refine vv_iload d_MO_part_99 rfl ?_
            refine vv_zast hw hnar d_MO_part_101 4 1 rfl rfl (by omega) ?_
            dsimp only [List.set]
            refine vv_aload_n d_MO_part_102 rfl ?_
            refine vv_dup d_MO_part_103 rfl ?_
            refine vv_get d_MO_part_104 0 rfl fl_MO_113 rfl ?_
            refine vv_iconst d_MO_part_107 ?_
            refine vv_iadd d_MO_part_108 ?_
            refine vv_put hw d_MO_part_109 0 rfl fp_MO_113 rfl rfl (Nat.le_of_ble_eq_true rfl) ?_
            dsimp only [List.set]
            refine vv_aload_n d_MO_part_112 rfl ?_
            refine vv_iconst d_MO_part_113 ?_
            refine vv_put hw d_MO_part_114 0 rfl fp_MO_109 rfl rfl (Nat.le_of_ble_eq_true rfl) ?_
            dsimp only [List.set]
            refine vv_aload_n d_MO_part_117 rfl ?_
            refine vv_get d_MO_part_118 0 rfl fl_MO_113 rfl ?_
            refine vv_iconst d_MO_part_121 ?_
            refine vv_isub d_MO_part_122 ?_
            exact vv_iret hA hw hr d_MO_part_123 (by decide) (by decide) (by exact ⟨rfl, rfl, rfl⟩)
          · skip
            exfalso; omega
        · skip
          exfalso; omega
      · skip
        exfalso; omega
set_option maxHeartbeats 4000000 in
set_option maxRecDepth 100000 in
theorem c_MO_count_n (l : Launch) (D : va_G) (m : Nat) (q : Nat → Nat) (K S le cd nS nP rn dn : Int) (k n e : Int) (h_k : -2147483648 ≤ k ∧ k < 2147483648) (h_n : -2147483648 ≤ n ∧ n < 2147483648) (hnP : 0 ≤ nP ∧ nP ≤ 8) (he : (e = 1 ∧ (k < 0 ∨ nP ≤ k)) ∨ (e = 2 ∧ (0 ≤ k ∧ k < nP) ∧ (n < 0 ∨ 50 < n))) : CM l y_MO_count b_MO_count 4 (some .int) rm_1 [.ref m, .int (iI k), .int (iI n)] D [] ([ob_MO m q K S le cd nS nP rn dn] ++ []) (fun r w1 p1 _ => r = (some (.int (iI 0))) ∧ w1 = [ob_MO m q K S le e nS nP rn dn] ∧ p1 = []) := by
  refine cm_of (by decide) (Nat.le_of_ble_eq_true rfl) ?_
  intro X sz hl hr hnm hD hA hw
  subst hD
  show VV X (b_MO_count, 4, "SheetTreesModel", rm_1) _ 0 0 [] [ob_MO m q K S le cd nS nP rn dn] [] [some (.ref m), some (.int (iI k)), some (.int (iI n)), none] [] 0
  refine vv_aload_n d_MO_count_0 rfl ?_
  refine vv_iload_n d_MO_count_1 rfl ?_
  refine vv_iconst d_MO_count_2 ?_
  refine vv_aload_n d_MO_count_3 rfl ?_
  refine vv_get d_MO_count_4 0 rfl fl_MO_113 rfl ?_
  refine vv_iconst d_MO_count_7 ?_
  refine vv_isub d_MO_count_8 ?_
  refine vv_pS (wc := []) (plc := []) [.ref m] (c_MO_in (cx_l X) (cx_D X) k 0 (nP - 1) (by omega) (by omega) (by omega)) lk_MO_102 d_MO_count_9 rfl [] ⟨rfl, rfl, Or.inl rfl⟩ [] rfl ⟨⟨by decide, by decide⟩, ⟨by decide, by decide⟩, Nat.le_of_ble_eq_true rfl⟩ ⟨rfl, rfl⟩ ?_
  intro v hv
  subst hv
  dsimp only [Option.toList, List.cons_append, List.nil_append, List.append_nil]
  have hc9 := isW_c k 0 (nP - 1)
  refine vv_if_ne (tgt := 19) d_MO_count_12 (by decide) (by omega) (fun c12 => ?_) (fun c12 => ?_)
  · skip
    refine vv_iload_n d_MO_count_19 rfl ?_
    refine vv_iconst d_MO_count_20 ?_
    refine vv_bipush d_MO_count_21 (by decide +kernel) ?_
    refine vv_pS (wc := []) (plc := []) [.ref m] (c_MO_in (cx_l X) (cx_D X) n 0 50 (by omega) (by omega) (by omega)) lk_MO_102 d_MO_count_23 rfl [] ⟨rfl, rfl, Or.inl rfl⟩ [] rfl ⟨⟨by decide, by decide⟩, ⟨by decide, by decide⟩, Nat.le_of_ble_eq_true rfl⟩ ⟨rfl, rfl⟩ ?_
    intro v hv
    subst hv
    dsimp only [Option.toList, List.cons_append, List.nil_append, List.append_nil]
    have hc23 := isW_c n 0 50
    refine vv_if_ne (tgt := 33) d_MO_count_26 (by decide) (by omega) (fun c26 => ?_) (fun c26 => ?_)
    · skip
      refine vv_iconst d_MO_count_33 ?_
      refine vv_put hw d_MO_count_34 0 rfl fp_MO_99 rfl rfl (Nat.le_of_ble_eq_true rfl) ?_
      dsimp only [List.set]
      refine vv_aload_n d_MO_count_37 rfl ?_
      refine vv_get d_MO_count_38 0 rfl fl_MO_99 rfl ?_
      refine vv_if_le (tgt := 46) d_MO_count_41 (by decide) (by omega) (fun c41 => ?_) (fun c41 => ?_)
      · skip
        exfalso; omega
      · skip
        refine vv_iconst d_MO_count_44 ?_
        first | (exfalso; omega) | (have e1 : e = 1 := by omega); subst e1; exact vv_iret hA hw hr d_MO_count_45 (by decide) (by decide) ⟨rfl, rfl, rfl⟩ | (have e1 : e = 2 := by omega); subst e1; exact vv_iret hA hw hr d_MO_count_45 (by decide) (by decide) ⟨rfl, rfl, rfl⟩
    · skip
      refine vv_iconst d_MO_count_29 ?_
      refine vv_goto (tgt := 34) d_MO_count_30 (by decide) ?_
      refine vv_put hw d_MO_count_34 0 rfl fp_MO_99 rfl rfl (Nat.le_of_ble_eq_true rfl) ?_
      dsimp only [List.set]
      refine vv_aload_n d_MO_count_37 rfl ?_
      refine vv_get d_MO_count_38 0 rfl fl_MO_99 rfl ?_
      refine vv_if_le (tgt := 46) d_MO_count_41 (by decide) (by omega) (fun c41 => ?_) (fun c41 => ?_)
      · skip
        exfalso; omega
      · skip
        refine vv_iconst d_MO_count_44 ?_
        first | (exfalso; omega) | (have e1 : e = 1 := by omega); subst e1; exact vv_iret hA hw hr d_MO_count_45 (by decide) (by decide) ⟨rfl, rfl, rfl⟩ | (have e1 : e = 2 := by omega); subst e1; exact vv_iret hA hw hr d_MO_count_45 (by decide) (by decide) ⟨rfl, rfl, rfl⟩
  · skip
    refine vv_iconst d_MO_count_15 ?_
    refine vv_goto (tgt := 34) d_MO_count_16 (by decide) ?_
    refine vv_put hw d_MO_count_34 0 rfl fp_MO_99 rfl rfl (Nat.le_of_ble_eq_true rfl) ?_
    dsimp only [List.set]
    refine vv_aload_n d_MO_count_37 rfl ?_
    refine vv_get d_MO_count_38 0 rfl fl_MO_99 rfl ?_
    refine vv_if_le (tgt := 46) d_MO_count_41 (by decide) (by omega) (fun c41 => ?_) (fun c41 => ?_)
    · skip
      exfalso; omega
    · skip
      refine vv_iconst d_MO_count_44 ?_
      first | (exfalso; omega) | (have e1 : e = 1 := by omega); subst e1; exact vv_iret hA hw hr d_MO_count_45 (by decide) (by decide) ⟨rfl, rfl, rfl⟩ | (have e1 : e = 2 := by omega); subst e1; exact vv_iret hA hw hr d_MO_count_45 (by decide) (by decide) ⟨rfl, rfl, rfl⟩
set_option maxHeartbeats 4000000 in
set_option maxRecDepth 100000 in
theorem c_MO_count_y (l : Launch) (D : va_G) (m : Nat) (q : Nat → Nat) (K S le cd nS nP rn dn : Int) (cI : ClassId) (co : Nat → Int) (k n : Int) (hnP : 0 ≤ nP ∧ nP ≤ 8) (hk : 0 ≤ k ∧ k < nP) (hn : 0 ≤ n ∧ n ≤ 50) : CM l y_MO_count b_MO_count 4 (some .int) rm_1 [.ref m, .int (iI k), .int (iI n)] D [(cI, .int)] ([ob_MO m q K S le cd nS nP rn dn, ar_I (q 12) cI 8 co] ++ []) (fun r w1 p1 _ => r = some (.int (iI (co k.toNat))) ∧ w1 = [ob_MO m q K S le 0 nS nP 0 dn, ar_I (q 12) cI 8 (va_up co k.toNat n)] ∧ p1 = []) := by
  refine cm_of (by decide) (Nat.le_of_ble_eq_true rfl) ?_
  intro X sz hl hr hnm hD hA hw
  subst hD
  show VV X (b_MO_count, 4, "SheetTreesModel", rm_1) _ 0 0 [(cI, .int)] [ob_MO m q K S le cd nS nP rn dn, ar_I (q 12) cI 8 co] [] [some (.ref m), some (.int (iI k)), some (.int (iI n)), none] [] 0
  refine vv_aload_n d_MO_count_0 rfl ?_
  refine vv_iload_n d_MO_count_1 rfl ?_
  refine vv_iconst d_MO_count_2 ?_
  refine vv_aload_n d_MO_count_3 rfl ?_
  refine vv_get d_MO_count_4 0 rfl fl_MO_113 rfl ?_
  refine vv_iconst d_MO_count_7 ?_
  refine vv_isub d_MO_count_8 ?_
  refine vv_pS (wc := []) (plc := []) [.ref m] (c_MO_in (cx_l X) (cx_D X) k 0 (nP - 1) (by omega) (by omega) (by omega)) lk_MO_102 d_MO_count_9 rfl [] ⟨rfl, rfl, Or.inl rfl⟩ [] rfl ⟨⟨by decide, by decide⟩, ⟨by decide, by decide⟩, Nat.le_of_ble_eq_true rfl⟩ ⟨rfl, rfl⟩ ?_
  intro v hv
  subst hv
  dsimp only [Option.toList, List.cons_append, List.nil_append, List.append_nil]
  have hc9 := isW_c k 0 (nP - 1)
  refine vv_if_ne (tgt := 19) d_MO_count_12 (by decide) (by omega) (fun c12 => ?_) (fun c12 => ?_)
  · skip
    refine vv_iload_n d_MO_count_19 rfl ?_
    refine vv_iconst d_MO_count_20 ?_
    refine vv_bipush d_MO_count_21 (by decide +kernel) ?_
    refine vv_pS (wc := []) (plc := []) [.ref m] (c_MO_in (cx_l X) (cx_D X) n 0 50 (by omega) (by omega) (by omega)) lk_MO_102 d_MO_count_23 rfl [] ⟨rfl, rfl, Or.inl rfl⟩ [] rfl ⟨⟨by decide, by decide⟩, ⟨by decide, by decide⟩, Nat.le_of_ble_eq_true rfl⟩ ⟨rfl, rfl⟩ ?_
    intro v hv
    subst hv
    dsimp only [Option.toList, List.cons_append, List.nil_append, List.append_nil]
    have hc23 := isW_c n 0 50
    refine vv_if_ne (tgt := 33) d_MO_count_26 (by decide) (by omega) (fun c26 => ?_) (fun c26 => ?_)
    · skip
      refine vv_iconst d_MO_count_33 ?_
      refine vv_put hw d_MO_count_34 0 rfl fp_MO_99 rfl rfl (Nat.le_of_ble_eq_true rfl) ?_
      dsimp only [List.set]
      refine vv_aload_n d_MO_count_37 rfl ?_
      refine vv_get d_MO_count_38 0 rfl fl_MO_99 rfl ?_
      refine vv_if_le (tgt := 46) d_MO_count_41 (by decide) (by omega) (fun c41 => ?_) (fun c41 => ?_)
      · skip
        refine vv_aload_n d_MO_count_46 rfl ?_
        refine vv_get d_MO_count_47 0 rfl fl_MO_28 rfl ?_
        refine vv_iload_n d_MO_count_50 rfl ?_
        refine vv_iald d_MO_count_51 1 0 rfl rfl (by omega) ?_
        refine vv_istore_n d_MO_count_52 rfl (by decide) ?_
        dsimp only [List.set]
        refine vv_aload_n d_MO_count_53 rfl ?_
        refine vv_get d_MO_count_54 0 rfl fl_MO_28 rfl ?_
        refine vv_iload_n d_MO_count_57 rfl ?_
        refine vv_iload_n d_MO_count_58 rfl ?_
        refine vv_iast hw d_MO_count_59 1 0 rfl rfl (by omega) ?_
        dsimp only [List.set]
        refine vv_aload_n d_MO_count_60 rfl ?_
        refine vv_iconst d_MO_count_61 ?_
        refine vv_put hw d_MO_count_62 0 rfl fp_MO_109 rfl rfl (Nat.le_of_ble_eq_true rfl) ?_
        dsimp only [List.set]
        refine vv_iload_n d_MO_count_65 rfl ?_
        exact vv_iret hA hw hr d_MO_count_66 (by decide) (by decide) (by exact ⟨rfl, rfl, rfl⟩)
      · skip
        exfalso; omega
    · skip
      exfalso; omega
  · skip
    exfalso; omega
set_option maxHeartbeats 4000000 in
set_option maxRecDepth 100000 in
theorem c_MO_left_n (l : Launch) (D : va_G) (m : Nat) (q : Nat → Nat) (K S le cd nS nP rn dn : Int) (k e : Int) (h_k : -2147483648 ≤ k ∧ k < 2147483648) (hnP : 0 ≤ nP ∧ nP ≤ 8) (hrn : rn = 0 ∨ rn = 1) (he : (e = 1 ∧ rn = 0) ∨ (e = 2 ∧ rn = 1 ∧ (k < 0 ∨ nP ≤ k))) : CM l y_MO_left b_MO_left 2 (some .int) rm_1 [.ref m, .int (iI k)] D [] ([ob_MO m q K S le cd nS nP rn dn] ++ []) (fun r w1 p1 _ => r = some (.int (iI 0)) ∧ w1 = [ob_MO m q K S le e nS nP rn dn] ∧ p1 = []) := by
  refine cm_of (by decide) (Nat.le_of_ble_eq_true rfl) ?_
  intro X sz hl hr hnm hD hA hw
  subst hD
  show VV X (b_MO_left, 2, "SheetTreesModel", rm_1) _ 0 0 [] [ob_MO m q K S le cd nS nP rn dn] [] [some (.ref m), some (.int (iI k))] [] 0
  refine vv_aload_n d_MO_left_0 rfl ?_
  refine vv_aload_n d_MO_left_1 rfl ?_
  refine vv_get d_MO_left_2 0 rfl fl_MO_109 rfl ?_
  refine vv_if_ne (tgt := 12) d_MO_left_5 (by decide) (by omega) (fun c5 => ?_) (fun c5 => ?_)
  · skip
    refine vv_iload_n d_MO_left_12 rfl ?_
    refine vv_iconst d_MO_left_13 ?_
    refine vv_aload_n d_MO_left_14 rfl ?_
    refine vv_get d_MO_left_15 0 rfl fl_MO_113 rfl ?_
    refine vv_iconst d_MO_left_18 ?_
    refine vv_isub d_MO_left_19 ?_
    refine vv_pS (wc := []) (plc := []) [.ref m] (c_MO_in (cx_l X) (cx_D X) k 0 (nP - 1) (by omega) (by omega) (by omega)) lk_MO_102 d_MO_left_20 rfl [] ⟨rfl, rfl, Or.inl rfl⟩ [] rfl ⟨⟨by decide, by decide⟩, ⟨by decide, by decide⟩, Nat.le_of_ble_eq_true rfl⟩ ⟨rfl, rfl⟩ ?_
    intro v hv
    subst hv
    dsimp only [Option.toList, List.cons_append, List.nil_append, List.append_nil]
    have hc20 := isW_c k 0 (nP - 1)
    refine vv_if_ne (tgt := 30) d_MO_left_23 (by decide) (by omega) (fun c23 => ?_) (fun c23 => ?_)
    · skip
      refine vv_iconst d_MO_left_30 ?_
      refine vv_put hw d_MO_left_31 0 rfl fp_MO_99 rfl rfl (Nat.le_of_ble_eq_true rfl) ?_
      dsimp only [List.set]
      refine vv_aload_n d_MO_left_34 rfl ?_
      refine vv_get d_MO_left_35 0 rfl fl_MO_99 rfl ?_
      refine vv_if_le (tgt := 45) d_MO_left_38 (by decide) (by omega) (fun c38 => ?_) (fun c38 => ?_)
      · skip
        exfalso; omega
      · skip
        refine vv_iconst d_MO_left_41 ?_
        refine vv_goto (tgt := 51) d_MO_left_42 (by decide) ?_
        first | (exfalso; omega) | (have e1 : e = 1 := by omega); subst e1; exact vv_iret hA hw hr d_MO_left_51 (by decide) (by decide) ⟨rfl, rfl, rfl⟩ | (have e1 : e = 2 := by omega); subst e1; exact vv_iret hA hw hr d_MO_left_51 (by decide) (by decide) ⟨rfl, rfl, rfl⟩
    · skip
      refine vv_iconst d_MO_left_26 ?_
      refine vv_goto (tgt := 31) d_MO_left_27 (by decide) ?_
      refine vv_put hw d_MO_left_31 0 rfl fp_MO_99 rfl rfl (Nat.le_of_ble_eq_true rfl) ?_
      dsimp only [List.set]
      refine vv_aload_n d_MO_left_34 rfl ?_
      refine vv_get d_MO_left_35 0 rfl fl_MO_99 rfl ?_
      refine vv_if_le (tgt := 45) d_MO_left_38 (by decide) (by omega) (fun c38 => ?_) (fun c38 => ?_)
      · skip
        exfalso; omega
      · skip
        refine vv_iconst d_MO_left_41 ?_
        refine vv_goto (tgt := 51) d_MO_left_42 (by decide) ?_
        first | (exfalso; omega) | (have e1 : e = 1 := by omega); subst e1; exact vv_iret hA hw hr d_MO_left_51 (by decide) (by decide) ⟨rfl, rfl, rfl⟩ | (have e1 : e = 2 := by omega); subst e1; exact vv_iret hA hw hr d_MO_left_51 (by decide) (by decide) ⟨rfl, rfl, rfl⟩
  · skip
    refine vv_iconst d_MO_left_8 ?_
    refine vv_goto (tgt := 31) d_MO_left_9 (by decide) ?_
    refine vv_put hw d_MO_left_31 0 rfl fp_MO_99 rfl rfl (Nat.le_of_ble_eq_true rfl) ?_
    dsimp only [List.set]
    refine vv_aload_n d_MO_left_34 rfl ?_
    refine vv_get d_MO_left_35 0 rfl fl_MO_99 rfl ?_
    refine vv_if_le (tgt := 45) d_MO_left_38 (by decide) (by omega) (fun c38 => ?_) (fun c38 => ?_)
    · skip
      exfalso; omega
    · skip
      refine vv_iconst d_MO_left_41 ?_
      refine vv_goto (tgt := 51) d_MO_left_42 (by decide) ?_
      first | (exfalso; omega) | (have e1 : e = 1 := by omega); subst e1; exact vv_iret hA hw hr d_MO_left_51 (by decide) (by decide) ⟨rfl, rfl, rfl⟩ | (have e1 : e = 2 := by omega); subst e1; exact vv_iret hA hw hr d_MO_left_51 (by decide) (by decide) ⟨rfl, rfl, rfl⟩
set_option maxHeartbeats 4000000 in
set_option maxRecDepth 100000 in
theorem c_MO_left_y (l : Launch) (D : va_G) (m : Nat) (q : Nat → Nat) (K S le cd nS nP dn : Int) (cI : ClassId) (wa : Nat → Int) (k : Int) (hnP : 0 ≤ nP ∧ nP ≤ 8) (hk : 0 ≤ k ∧ k < nP) : CM l y_MO_left b_MO_left 2 (some .int) rm_1 [.ref m, .int (iI k)] D [(cI, .int)] ([ob_MO m q K S le cd nS nP 1 dn, ar_I (q 14) cI 8 wa] ++ []) (fun r w1 p1 _ => r = some (.int (iI (wa k.toNat))) ∧ w1 = [ob_MO m q K S le 0 nS nP 1 dn, ar_I (q 14) cI 8 wa] ∧ p1 = []) := by
  refine cm_of (by decide) (Nat.le_of_ble_eq_true rfl) ?_
  intro X sz hl hr hnm hD hA hw
  subst hD
  show VV X (b_MO_left, 2, "SheetTreesModel", rm_1) _ 0 0 [(cI, .int)] [ob_MO m q K S le cd nS nP 1 dn, ar_I (q 14) cI 8 wa] [] [some (.ref m), some (.int (iI k))] [] 0
  refine vv_aload_n d_MO_left_0 rfl ?_
  refine vv_aload_n d_MO_left_1 rfl ?_
  refine vv_get d_MO_left_2 0 rfl fl_MO_109 rfl ?_
  refine vv_if_ne (tgt := 12) d_MO_left_5 (by decide) (by omega) (fun c5 => ?_) (fun c5 => ?_)
  · skip
    refine vv_iload_n d_MO_left_12 rfl ?_
    refine vv_iconst d_MO_left_13 ?_
    refine vv_aload_n d_MO_left_14 rfl ?_
    refine vv_get d_MO_left_15 0 rfl fl_MO_113 rfl ?_
    refine vv_iconst d_MO_left_18 ?_
    refine vv_isub d_MO_left_19 ?_
    refine vv_pS (wc := []) (plc := []) [.ref m] (c_MO_in (cx_l X) (cx_D X) k 0 (nP - 1) (by omega) (by omega) (by omega)) lk_MO_102 d_MO_left_20 rfl [] ⟨rfl, rfl, Or.inl rfl⟩ [] rfl ⟨⟨by decide, by decide⟩, ⟨by decide, by decide⟩, Nat.le_of_ble_eq_true rfl⟩ ⟨rfl, rfl⟩ ?_
    intro v hv
    subst hv
    dsimp only [Option.toList, List.cons_append, List.nil_append, List.append_nil]
    have hc20 := isW_c k 0 (nP - 1)
    refine vv_if_ne (tgt := 30) d_MO_left_23 (by decide) (by omega) (fun c23 => ?_) (fun c23 => ?_)
    · skip
      refine vv_iconst d_MO_left_30 ?_
      refine vv_put hw d_MO_left_31 0 rfl fp_MO_99 rfl rfl (Nat.le_of_ble_eq_true rfl) ?_
      dsimp only [List.set]
      refine vv_aload_n d_MO_left_34 rfl ?_
      refine vv_get d_MO_left_35 0 rfl fl_MO_99 rfl ?_
      refine vv_if_le (tgt := 45) d_MO_left_38 (by decide) (by omega) (fun c38 => ?_) (fun c38 => ?_)
      · skip
        refine vv_aload_n d_MO_left_45 rfl ?_
        refine vv_get d_MO_left_46 0 rfl fl_MO_35 rfl ?_
        refine vv_iload_n d_MO_left_49 rfl ?_
        refine vv_iald d_MO_left_50 1 0 rfl rfl (by omega) ?_
        exact vv_iret hA hw hr d_MO_left_51 (by decide) (by decide) (by exact ⟨rfl, rfl, rfl⟩)
      · skip
        exfalso; omega
    · skip
      exfalso; omega
  · skip
    exfalso; omega
set_option maxHeartbeats 4000000 in
set_option maxRecDepth 100000 in
theorem c_MO_taken_n1 (l : Launch) (D : va_G) (m : Nat) (q : Nat → Nat) (K S le cd nS nP rn dn : Int) (k j w e : Int) (h_k : -2147483648 ≤ k ∧ k < 2147483648) (h_j : -2147483648 ≤ j ∧ j < 2147483648) (h_w : -2147483648 ≤ w ∧ w < 2147483648) (hdn : 0 ≤ dn ∧ dn ≤ 20) (hrn : rn = 0 ∨ rn = 1) (he : 0 < e ∧ e ≤ 2) (hlc : lkc rn dn k w 4 = e) : CM l y_MO_taken b_MO_taken 4 (some .int) rm_2 [.ref m, .int (iI k), .int (iI j), .int (iI w)] D [] ([ob_MO m q K S le cd nS nP rn dn] ++ []) (fun r w1 p1 _ => r = some (.int (iI 0)) ∧ w1 = [ob_MO m q K S le e nS nP rn dn] ∧ p1 = []) := by
  refine cm_of (by decide) (Nat.le_of_ble_eq_true rfl) ?_
  intro X sz hl hr hnm hD hA hw
  subst hD
  show VV X (b_MO_taken, 4, "SheetTreesModel", rm_2) _ 0 0 [] [ob_MO m q K S le cd nS nP rn dn] [] [some (.ref m), some (.int (iI k)), some (.int (iI j)), some (.int (iI w))] [] 0
  refine vv_aload_n d_MO_taken_0 rfl ?_
  refine vv_iload_n d_MO_taken_1 rfl ?_
  refine vv_iload_n d_MO_taken_2 rfl ?_
  refine vv_iconst d_MO_taken_3 ?_
  refine vv_nV hw (wc := [ob_MO m q K S le cd nS nP rn dn]) (wr := []) [] (c_MO_look (cx_l X) (cx_D X) m q K S le cd nS nP rn dn k w 4 h_k h_w (by omega) hdn hrn) lk_MO_159 d_MO_taken_4 rfl (rc_at 0 rfl rfl rfl) [0] [] ⟨rfl, rfl⟩ ⟨rfl, rfl, by decide⟩ [] rfl ⟨⟨by decide, by decide⟩, ⟨by decide, by decide⟩, Nat.le_of_ble_eq_true rfl⟩ ⟨rfl, rfl⟩ ?_
  rintro v w1 p1 t1 ⟨rfl, rfl, rfl⟩
  dsimp only [Option.toList, List.cons_append, List.nil_append, List.append_nil]
  rw [hlc]
  refine vv_aload_n d_MO_taken_7 rfl ?_
  refine vv_aload_n d_MO_taken_8 rfl ?_
  refine vv_get d_MO_taken_9 0 rfl fl_MO_99 rfl ?_
  refine vv_if_ne (tgt := 35) d_MO_taken_12 (by decide) (by omega) (fun c12 => ?_) (fun c12 => ?_)
  · skip
    refine vv_aload_n d_MO_taken_35 rfl ?_
    refine vv_get d_MO_taken_36 0 rfl fl_MO_99 rfl ?_
    refine vv_put hw d_MO_taken_39 0 rfl fp_MO_99 rfl rfl (Nat.le_of_ble_eq_true rfl) ?_
    dsimp only [List.set]
    refine vv_aload_n d_MO_taken_42 rfl ?_
    refine vv_get d_MO_taken_43 0 rfl fl_MO_99 rfl ?_
    refine vv_if_le (tgt := 53) d_MO_taken_46 (by decide) (by omega) (fun c46 => ?_) (fun c46 => ?_)
    · skip
      exfalso; omega
    · skip
      refine vv_iconst d_MO_taken_49 ?_
      refine vv_goto (tgt := 69) d_MO_taken_50 (by decide) ?_
      exact vv_iret hA hw hr d_MO_taken_69 (by decide) (by decide) (by exact ⟨rfl, rfl, rfl⟩)
  · skip
    exfalso; omega
set_option maxHeartbeats 4000000 in
set_option maxRecDepth 100000 in
theorem c_MO_taken_n2 (l : Launch) (D : va_G) (m : Nat) (q : Nat → Nat) (K S le cd nS nP rn dn : Int) (cI : ClassId) (tc tk : Nat → Int) (k j w : Int) (h_k : -2147483648 ≤ k ∧ k < 2147483648) (h_j : -2147483648 ≤ j ∧ j < 2147483648) (h_w : -2147483648 ≤ w ∧ w < 2147483648) (hdn : 0 ≤ dn ∧ dn ≤ 20) (hrn : rn = 0 ∨ rn = 1) (hlc : lkc rn dn k w 4 = 0) (hk : 0 ≤ k ∧ k < 20) (hw1 : 0 ≤ w ∧ w ≤ 4) (htc : 0 ≤ tc k.toNat ∧ tc k.toNat ≤ 256) (hj : j < 0 ∨ tc k.toNat ≤ j) : CM l y_MO_taken b_MO_taken 4 (some .int) rm_2 [.ref m, .int (iI k), .int (iI j), .int (iI w)] D [(cI, .int)] ([ob_MO m q K S le cd nS nP rn dn, ar_I (q 27) cI 20 tc, ar_I (q 32) cI 25600 tk] ++ []) (fun r w1 p1 _ => r = some (.int (iI 0)) ∧ w1 = [ob_MO m q K S le 2 nS nP rn dn, ar_I (q 27) cI 20 tc, ar_I (q 32) cI 25600 tk] ∧ p1 = []) := by
  refine cm_of (by decide) (Nat.le_of_ble_eq_true rfl) ?_
  intro X sz hl hr hnm hD hA hw
  subst hD
  show VV X (b_MO_taken, 4, "SheetTreesModel", rm_2) _ 0 0 [(cI, .int)] [ob_MO m q K S le cd nS nP rn dn, ar_I (q 27) cI 20 tc, ar_I (q 32) cI 25600 tk] [] [some (.ref m), some (.int (iI k)), some (.int (iI j)), some (.int (iI w))] [] 0
  refine vv_aload_n d_MO_taken_0 rfl ?_
  refine vv_iload_n d_MO_taken_1 rfl ?_
  refine vv_iload_n d_MO_taken_2 rfl ?_
  refine vv_iconst d_MO_taken_3 ?_
  refine vv_nV hw (wc := [ob_MO m q K S le cd nS nP rn dn]) (wr := [ar_I (q 27) cI 20 tc, ar_I (q 32) cI 25600 tk]) [] (c_MO_look (cx_l X) (cx_D X) m q K S le cd nS nP rn dn k w 4 h_k h_w (by omega) hdn hrn) lk_MO_159 d_MO_taken_4 rfl (rc_at 0 rfl rfl rfl) [0] [1, 2] ⟨rfl, rfl⟩ ⟨rfl, rfl, by decide⟩ [] rfl ⟨⟨by decide, by decide⟩, ⟨by decide, by decide⟩, Nat.le_of_ble_eq_true rfl⟩ ⟨rfl, rfl⟩ ?_
  rintro v w1 p1 t1 ⟨rfl, rfl, rfl⟩
  dsimp only [Option.toList, List.cons_append, List.nil_append, List.append_nil]
  rw [hlc]
  refine vv_sub (ws' := [ob_MO m q K S le 0 nS nP rn dn, ar_I (q 27) cI 20 tc, ar_I (q 32) cI 25600 tk]) [2, 0, 1] rfl rfl ?_
  refine vv_aload_n d_MO_taken_7 rfl ?_
  refine vv_aload_n d_MO_taken_8 rfl ?_
  refine vv_get d_MO_taken_9 0 rfl fl_MO_99 rfl ?_
  refine vv_if_ne (tgt := 35) d_MO_taken_12 (by decide) (by omega) (fun c12 => ?_) (fun c12 => ?_)
  · skip
    exfalso; omega
  · skip
    refine vv_iload_n d_MO_taken_15 rfl ?_
    refine vv_iconst d_MO_taken_16 ?_
    refine vv_aload_n d_MO_taken_17 rfl ?_
    refine vv_get d_MO_taken_18 0 rfl fl_MO_68 rfl ?_
    refine vv_iload_n d_MO_taken_21 rfl ?_
    refine vv_iald d_MO_taken_22 1 0 rfl rfl (by omega) ?_
    refine vv_iconst d_MO_taken_23 ?_
    refine vv_isub d_MO_taken_24 ?_
    refine vv_pS (wc := []) (plc := []) [.ref m] (c_MO_in (cx_l X) (cx_D X) j 0 (tc k.toNat - 1) (by omega) (by omega) (by omega)) lk_MO_102 d_MO_taken_25 rfl [] ⟨rfl, rfl, Or.inl rfl⟩ [] rfl ⟨⟨by decide, by decide⟩, ⟨by decide, by decide⟩, Nat.le_of_ble_eq_true rfl⟩ ⟨rfl, rfl⟩ ?_
    intro v hv
    subst hv
    dsimp only [Option.toList, List.cons_append, List.nil_append, List.append_nil]
    have hc25 := isW_c j 0 (tc k.toNat - 1)
    refine vv_if_ne (tgt := 35) d_MO_taken_28 (by decide) (by omega) (fun c28 => ?_) (fun c28 => ?_)
    · skip
      exfalso; omega
    · skip
      refine vv_iconst d_MO_taken_31 ?_
      refine vv_goto (tgt := 39) d_MO_taken_32 (by decide) ?_
      refine vv_put hw d_MO_taken_39 0 rfl fp_MO_99 rfl rfl (Nat.le_of_ble_eq_true rfl) ?_
      dsimp only [List.set]
      refine vv_aload_n d_MO_taken_42 rfl ?_
      refine vv_get d_MO_taken_43 0 rfl fl_MO_99 rfl ?_
      refine vv_if_le (tgt := 53) d_MO_taken_46 (by decide) (by omega) (fun c46 => ?_) (fun c46 => ?_)
      · skip
        exfalso; omega
      · skip
        refine vv_iconst d_MO_taken_49 ?_
        refine vv_goto (tgt := 69) d_MO_taken_50 (by decide) ?_
        exact vv_iret hA hw hr d_MO_taken_69 (by decide) (by decide) (by exact ⟨rfl, rfl, rfl⟩)
set_option maxHeartbeats 4000000 in
set_option maxRecDepth 100000 in
theorem c_MO_taken_y (l : Launch) (D : va_G) (m : Nat) (q : Nat → Nat) (K S le cd nS nP rn dn : Int) (cI : ClassId) (tc tk : Nat → Int) (k j w : Int) (h_k : -2147483648 ≤ k ∧ k < 2147483648) (h_j : -2147483648 ≤ j ∧ j < 2147483648) (h_w : -2147483648 ≤ w ∧ w < 2147483648) (hdn : 0 ≤ dn ∧ dn ≤ 20) (hrn : rn = 0 ∨ rn = 1) (hlc : lkc rn dn k w 4 = 0) (hk : 0 ≤ k ∧ k < 20) (hw1 : 0 ≤ w ∧ w ≤ 4) (htc : 0 ≤ tc k.toNat ∧ tc k.toNat ≤ 256) (hj : 0 ≤ j ∧ j < tc k.toNat) : CM l y_MO_taken b_MO_taken 4 (some .int) rm_2 [.ref m, .int (iI k), .int (iI j), .int (iI w)] D [(cI, .int)] ([ob_MO m q K S le cd nS nP rn dn, ar_I (q 27) cI 20 tc, ar_I (q 32) cI 25600 tk] ++ []) (fun r w1 p1 _ => r = some (.int (iI (tk (5 * (256 * k + j) + w).toNat))) ∧ w1 = [ob_MO m q K S le 0 nS nP rn dn, ar_I (q 27) cI 20 tc, ar_I (q 32) cI 25600 tk] ∧ p1 = []) := by
  refine cm_of (by decide) (Nat.le_of_ble_eq_true rfl) ?_
  intro X sz hl hr hnm hD hA hw
  subst hD
  show VV X (b_MO_taken, 4, "SheetTreesModel", rm_2) _ 0 0 [(cI, .int)] [ob_MO m q K S le cd nS nP rn dn, ar_I (q 27) cI 20 tc, ar_I (q 32) cI 25600 tk] [] [some (.ref m), some (.int (iI k)), some (.int (iI j)), some (.int (iI w))] [] 0
  refine vv_aload_n d_MO_taken_0 rfl ?_
  refine vv_iload_n d_MO_taken_1 rfl ?_
  refine vv_iload_n d_MO_taken_2 rfl ?_
  refine vv_iconst d_MO_taken_3 ?_
  refine vv_nV hw (wc := [ob_MO m q K S le cd nS nP rn dn]) (wr := [ar_I (q 27) cI 20 tc, ar_I (q 32) cI 25600 tk]) [] (c_MO_look (cx_l X) (cx_D X) m q K S le cd nS nP rn dn k w 4 h_k h_w (by omega) hdn hrn) lk_MO_159 d_MO_taken_4 rfl (rc_at 0 rfl rfl rfl) [0] [1, 2] ⟨rfl, rfl⟩ ⟨rfl, rfl, by decide⟩ [] rfl ⟨⟨by decide, by decide⟩, ⟨by decide, by decide⟩, Nat.le_of_ble_eq_true rfl⟩ ⟨rfl, rfl⟩ ?_
  rintro v w1 p1 t1 ⟨rfl, rfl, rfl⟩
  dsimp only [Option.toList, List.cons_append, List.nil_append, List.append_nil]
  rw [hlc]
  refine vv_sub (ws' := [ob_MO m q K S le 0 nS nP rn dn, ar_I (q 27) cI 20 tc, ar_I (q 32) cI 25600 tk]) [2, 0, 1] rfl rfl ?_
  refine vv_aload_n d_MO_taken_7 rfl ?_
  refine vv_aload_n d_MO_taken_8 rfl ?_
  refine vv_get d_MO_taken_9 0 rfl fl_MO_99 rfl ?_
  refine vv_if_ne (tgt := 35) d_MO_taken_12 (by decide) (by omega) (fun c12 => ?_) (fun c12 => ?_)
  · skip
    refine vv_aload_n d_MO_taken_35 rfl ?_
    refine vv_get d_MO_taken_36 0 rfl fl_MO_99 rfl ?_
    refine vv_put hw d_MO_taken_39 0 rfl fp_MO_99 rfl rfl (Nat.le_of_ble_eq_true rfl) ?_
    dsimp only [List.set]
    refine vv_aload_n d_MO_taken_42 rfl ?_
    refine vv_get d_MO_taken_43 0 rfl fl_MO_99 rfl ?_
    refine vv_if_le (tgt := 53) d_MO_taken_46 (by decide) (by omega) (fun c46 => ?_) (fun c46 => ?_)
    · skip
      refine vv_aload_n d_MO_taken_53 rfl ?_
      refine vv_get d_MO_taken_54 0 rfl fl_MO_83 rfl ?_
      refine vv_iconst d_MO_taken_57 ?_
      refine vv_sipush d_MO_taken_58 (by decide +kernel) ?_
      refine vv_iload_n d_MO_taken_61 rfl ?_
      refine vv_imul d_MO_taken_62 ?_
      refine vv_iload_n d_MO_taken_63 rfl ?_
      refine vv_iadd d_MO_taken_64 ?_
      refine vv_imul d_MO_taken_65 ?_
      refine vv_iload_n d_MO_taken_66 rfl ?_
      refine vv_iadd d_MO_taken_67 ?_
      refine vv_iald d_MO_taken_68 2 0 rfl rfl (by omega) ?_
      exact vv_iret hA hw hr d_MO_taken_69 (by decide) (by decide) (by exact ⟨rfl, rfl, rfl⟩)
    · skip
      exfalso; omega
  · skip
    refine vv_iload_n d_MO_taken_15 rfl ?_
    refine vv_iconst d_MO_taken_16 ?_
    refine vv_aload_n d_MO_taken_17 rfl ?_
    refine vv_get d_MO_taken_18 0 rfl fl_MO_68 rfl ?_
    refine vv_iload_n d_MO_taken_21 rfl ?_
    refine vv_iald d_MO_taken_22 1 0 rfl rfl (by omega) ?_
    refine vv_iconst d_MO_taken_23 ?_
    refine vv_isub d_MO_taken_24 ?_
    refine vv_pS (wc := []) (plc := []) [.ref m] (c_MO_in (cx_l X) (cx_D X) j 0 (tc k.toNat - 1) (by omega) (by omega) (by omega)) lk_MO_102 d_MO_taken_25 rfl [] ⟨rfl, rfl, Or.inl rfl⟩ [] rfl ⟨⟨by decide, by decide⟩, ⟨by decide, by decide⟩, Nat.le_of_ble_eq_true rfl⟩ ⟨rfl, rfl⟩ ?_
    intro v hv
    subst hv
    dsimp only [Option.toList, List.cons_append, List.nil_append, List.append_nil]
    have hc25 := isW_c j 0 (tc k.toNat - 1)
    refine vv_if_ne (tgt := 35) d_MO_taken_28 (by decide) (by omega) (fun c28 => ?_) (fun c28 => ?_)
    · skip
      refine vv_aload_n d_MO_taken_35 rfl ?_
      refine vv_get d_MO_taken_36 0 rfl fl_MO_99 rfl ?_
      refine vv_put hw d_MO_taken_39 0 rfl fp_MO_99 rfl rfl (Nat.le_of_ble_eq_true rfl) ?_
      dsimp only [List.set]
      refine vv_aload_n d_MO_taken_42 rfl ?_
      refine vv_get d_MO_taken_43 0 rfl fl_MO_99 rfl ?_
      refine vv_if_le (tgt := 53) d_MO_taken_46 (by decide) (by omega) (fun c46 => ?_) (fun c46 => ?_)
      · skip
        refine vv_aload_n d_MO_taken_53 rfl ?_
        refine vv_get d_MO_taken_54 0 rfl fl_MO_83 rfl ?_
        refine vv_iconst d_MO_taken_57 ?_
        refine vv_sipush d_MO_taken_58 (by decide +kernel) ?_
        refine vv_iload_n d_MO_taken_61 rfl ?_
        refine vv_imul d_MO_taken_62 ?_
        refine vv_iload_n d_MO_taken_63 rfl ?_
        refine vv_iadd d_MO_taken_64 ?_
        refine vv_imul d_MO_taken_65 ?_
        refine vv_iload_n d_MO_taken_66 rfl ?_
        refine vv_iadd d_MO_taken_67 ?_
        refine vv_iald d_MO_taken_68 2 0 rfl rfl (by omega) ?_
        exact vv_iret hA hw hr d_MO_taken_69 (by decide) (by decide) (by exact ⟨rfl, rfl, rfl⟩)
      · skip
        exfalso; omega
    · skip
      exfalso; omega
set_option maxHeartbeats 4000000 in
set_option maxRecDepth 100000 in
theorem c_MO_rest_n1 (l : Launch) (D : va_G) (m : Nat) (q : Nat → Nat) (K S le cd nS nP rn dn : Int) (k j w e : Int) (h_k : -2147483648 ≤ k ∧ k < 2147483648) (h_j : -2147483648 ≤ j ∧ j < 2147483648) (h_w : -2147483648 ≤ w ∧ w < 2147483648) (hdn : 0 ≤ dn ∧ dn ≤ 20) (hrn : rn = 0 ∨ rn = 1) (he : 0 < e ∧ e ≤ 2) (hlc : lkc rn dn k w 3 = e) : CM l y_MO_rest b_MO_rest 4 (some .int) rm_2 [.ref m, .int (iI k), .int (iI j), .int (iI w)] D [] ([ob_MO m q K S le cd nS nP rn dn] ++ []) (fun r w1 p1 _ => r = some (.int (iI 0)) ∧ w1 = [ob_MO m q K S le e nS nP rn dn] ∧ p1 = []) := by
  refine cm_of (by decide) (Nat.le_of_ble_eq_true rfl) ?_
  intro X sz hl hr hnm hD hA hw
  subst hD
  show VV X (b_MO_rest, 4, "SheetTreesModel", rm_2) _ 0 0 [] [ob_MO m q K S le cd nS nP rn dn] [] [some (.ref m), some (.int (iI k)), some (.int (iI j)), some (.int (iI w))] [] 0
  refine vv_aload_n d_MO_rest_0 rfl ?_
  refine vv_iload_n d_MO_rest_1 rfl ?_
  refine vv_iload_n d_MO_rest_2 rfl ?_
  refine vv_iconst d_MO_rest_3 ?_
  refine vv_nV hw (wc := [ob_MO m q K S le cd nS nP rn dn]) (wr := []) [] (c_MO_look (cx_l X) (cx_D X) m q K S le cd nS nP rn dn k w 3 h_k h_w (by omega) hdn hrn) lk_MO_159 d_MO_rest_4 rfl (rc_at 0 rfl rfl rfl) [0] [] ⟨rfl, rfl⟩ ⟨rfl, rfl, by decide⟩ [] rfl ⟨⟨by decide, by decide⟩, ⟨by decide, by decide⟩, Nat.le_of_ble_eq_true rfl⟩ ⟨rfl, rfl⟩ ?_
  rintro v w1 p1 t1 ⟨rfl, rfl, rfl⟩
  dsimp only [Option.toList, List.cons_append, List.nil_append, List.append_nil]
  rw [hlc]
  refine vv_aload_n d_MO_rest_7 rfl ?_
  refine vv_aload_n d_MO_rest_8 rfl ?_
  refine vv_get d_MO_rest_9 0 rfl fl_MO_99 rfl ?_
  refine vv_if_ne (tgt := 35) d_MO_rest_12 (by decide) (by omega) (fun c12 => ?_) (fun c12 => ?_)
  · skip
    refine vv_aload_n d_MO_rest_35 rfl ?_
    refine vv_get d_MO_rest_36 0 rfl fl_MO_99 rfl ?_
    refine vv_put hw d_MO_rest_39 0 rfl fp_MO_99 rfl rfl (Nat.le_of_ble_eq_true rfl) ?_
    dsimp only [List.set]
    refine vv_aload_n d_MO_rest_42 rfl ?_
    refine vv_get d_MO_rest_43 0 rfl fl_MO_99 rfl ?_
    refine vv_if_le (tgt := 53) d_MO_rest_46 (by decide) (by omega) (fun c46 => ?_) (fun c46 => ?_)
    · skip
      exfalso; omega
    · skip
      refine vv_iconst d_MO_rest_49 ?_
      refine vv_goto (tgt := 69) d_MO_rest_50 (by decide) ?_
      exact vv_iret hA hw hr d_MO_rest_69 (by decide) (by decide) (by exact ⟨rfl, rfl, rfl⟩)
  · skip
    exfalso; omega
set_option maxHeartbeats 4000000 in
set_option maxRecDepth 100000 in
theorem c_MO_rest_n2 (l : Launch) (D : va_G) (m : Nat) (q : Nat → Nat) (K S le cd nS nP rn dn : Int) (cI : ClassId) (tc tk : Nat → Int) (k j w : Int) (h_k : -2147483648 ≤ k ∧ k < 2147483648) (h_j : -2147483648 ≤ j ∧ j < 2147483648) (h_w : -2147483648 ≤ w ∧ w < 2147483648) (hdn : 0 ≤ dn ∧ dn ≤ 20) (hrn : rn = 0 ∨ rn = 1) (hlc : lkc rn dn k w 3 = 0) (hk : 0 ≤ k ∧ k < 20) (hw1 : 0 ≤ w ∧ w ≤ 3) (htc : 0 ≤ tc k.toNat ∧ tc k.toNat ≤ 256) (hj : j < 0 ∨ tc k.toNat ≤ j) : CM l y_MO_rest b_MO_rest 4 (some .int) rm_2 [.ref m, .int (iI k), .int (iI j), .int (iI w)] D [(cI, .int)] ([ob_MO m q K S le cd nS nP rn dn, ar_I (q 29) cI 20 tc, ar_I (q 33) cI 20480 tk] ++ []) (fun r w1 p1 _ => r = some (.int (iI 0)) ∧ w1 = [ob_MO m q K S le 2 nS nP rn dn, ar_I (q 29) cI 20 tc, ar_I (q 33) cI 20480 tk] ∧ p1 = []) := by
  refine cm_of (by decide) (Nat.le_of_ble_eq_true rfl) ?_
  intro X sz hl hr hnm hD hA hw
  subst hD
  show VV X (b_MO_rest, 4, "SheetTreesModel", rm_2) _ 0 0 [(cI, .int)] [ob_MO m q K S le cd nS nP rn dn, ar_I (q 29) cI 20 tc, ar_I (q 33) cI 20480 tk] [] [some (.ref m), some (.int (iI k)), some (.int (iI j)), some (.int (iI w))] [] 0
  refine vv_aload_n d_MO_rest_0 rfl ?_
  refine vv_iload_n d_MO_rest_1 rfl ?_
  refine vv_iload_n d_MO_rest_2 rfl ?_
  refine vv_iconst d_MO_rest_3 ?_
  refine vv_nV hw (wc := [ob_MO m q K S le cd nS nP rn dn]) (wr := [ar_I (q 29) cI 20 tc, ar_I (q 33) cI 20480 tk]) [] (c_MO_look (cx_l X) (cx_D X) m q K S le cd nS nP rn dn k w 3 h_k h_w (by omega) hdn hrn) lk_MO_159 d_MO_rest_4 rfl (rc_at 0 rfl rfl rfl) [0] [1, 2] ⟨rfl, rfl⟩ ⟨rfl, rfl, by decide⟩ [] rfl ⟨⟨by decide, by decide⟩, ⟨by decide, by decide⟩, Nat.le_of_ble_eq_true rfl⟩ ⟨rfl, rfl⟩ ?_
  rintro v w1 p1 t1 ⟨rfl, rfl, rfl⟩
  dsimp only [Option.toList, List.cons_append, List.nil_append, List.append_nil]
  rw [hlc]
  refine vv_sub (ws' := [ob_MO m q K S le 0 nS nP rn dn, ar_I (q 29) cI 20 tc, ar_I (q 33) cI 20480 tk]) [2, 0, 1] rfl rfl ?_
  refine vv_aload_n d_MO_rest_7 rfl ?_
  refine vv_aload_n d_MO_rest_8 rfl ?_
  refine vv_get d_MO_rest_9 0 rfl fl_MO_99 rfl ?_
  refine vv_if_ne (tgt := 35) d_MO_rest_12 (by decide) (by omega) (fun c12 => ?_) (fun c12 => ?_)
  · skip
    exfalso; omega
  · skip
    refine vv_iload_n d_MO_rest_15 rfl ?_
    refine vv_iconst d_MO_rest_16 ?_
    refine vv_aload_n d_MO_rest_17 rfl ?_
    refine vv_get d_MO_rest_18 0 rfl fl_MO_74 rfl ?_
    refine vv_iload_n d_MO_rest_21 rfl ?_
    refine vv_iald d_MO_rest_22 1 0 rfl rfl (by omega) ?_
    refine vv_iconst d_MO_rest_23 ?_
    refine vv_isub d_MO_rest_24 ?_
    refine vv_pS (wc := []) (plc := []) [.ref m] (c_MO_in (cx_l X) (cx_D X) j 0 (tc k.toNat - 1) (by omega) (by omega) (by omega)) lk_MO_102 d_MO_rest_25 rfl [] ⟨rfl, rfl, Or.inl rfl⟩ [] rfl ⟨⟨by decide, by decide⟩, ⟨by decide, by decide⟩, Nat.le_of_ble_eq_true rfl⟩ ⟨rfl, rfl⟩ ?_
    intro v hv
    subst hv
    dsimp only [Option.toList, List.cons_append, List.nil_append, List.append_nil]
    have hc25 := isW_c j 0 (tc k.toNat - 1)
    refine vv_if_ne (tgt := 35) d_MO_rest_28 (by decide) (by omega) (fun c28 => ?_) (fun c28 => ?_)
    · skip
      exfalso; omega
    · skip
      refine vv_iconst d_MO_rest_31 ?_
      refine vv_goto (tgt := 39) d_MO_rest_32 (by decide) ?_
      refine vv_put hw d_MO_rest_39 0 rfl fp_MO_99 rfl rfl (Nat.le_of_ble_eq_true rfl) ?_
      dsimp only [List.set]
      refine vv_aload_n d_MO_rest_42 rfl ?_
      refine vv_get d_MO_rest_43 0 rfl fl_MO_99 rfl ?_
      refine vv_if_le (tgt := 53) d_MO_rest_46 (by decide) (by omega) (fun c46 => ?_) (fun c46 => ?_)
      · skip
        exfalso; omega
      · skip
        refine vv_iconst d_MO_rest_49 ?_
        refine vv_goto (tgt := 69) d_MO_rest_50 (by decide) ?_
        exact vv_iret hA hw hr d_MO_rest_69 (by decide) (by decide) (by exact ⟨rfl, rfl, rfl⟩)
set_option maxHeartbeats 4000000 in
set_option maxRecDepth 100000 in
theorem c_MO_rest_y (l : Launch) (D : va_G) (m : Nat) (q : Nat → Nat) (K S le cd nS nP rn dn : Int) (cI : ClassId) (tc tk : Nat → Int) (k j w : Int) (h_k : -2147483648 ≤ k ∧ k < 2147483648) (h_j : -2147483648 ≤ j ∧ j < 2147483648) (h_w : -2147483648 ≤ w ∧ w < 2147483648) (hdn : 0 ≤ dn ∧ dn ≤ 20) (hrn : rn = 0 ∨ rn = 1) (hlc : lkc rn dn k w 3 = 0) (hk : 0 ≤ k ∧ k < 20) (hw1 : 0 ≤ w ∧ w ≤ 3) (htc : 0 ≤ tc k.toNat ∧ tc k.toNat ≤ 256) (hj : 0 ≤ j ∧ j < tc k.toNat) : CM l y_MO_rest b_MO_rest 4 (some .int) rm_2 [.ref m, .int (iI k), .int (iI j), .int (iI w)] D [(cI, .int)] ([ob_MO m q K S le cd nS nP rn dn, ar_I (q 29) cI 20 tc, ar_I (q 33) cI 20480 tk] ++ []) (fun r w1 p1 _ => r = some (.int (iI (tk (4 * (256 * k + j) + w).toNat))) ∧ w1 = [ob_MO m q K S le 0 nS nP rn dn, ar_I (q 29) cI 20 tc, ar_I (q 33) cI 20480 tk] ∧ p1 = []) := by
  refine cm_of (by decide) (Nat.le_of_ble_eq_true rfl) ?_
  intro X sz hl hr hnm hD hA hw
  subst hD
  show VV X (b_MO_rest, 4, "SheetTreesModel", rm_2) _ 0 0 [(cI, .int)] [ob_MO m q K S le cd nS nP rn dn, ar_I (q 29) cI 20 tc, ar_I (q 33) cI 20480 tk] [] [some (.ref m), some (.int (iI k)), some (.int (iI j)), some (.int (iI w))] [] 0
  refine vv_aload_n d_MO_rest_0 rfl ?_
  refine vv_iload_n d_MO_rest_1 rfl ?_
  refine vv_iload_n d_MO_rest_2 rfl ?_
  refine vv_iconst d_MO_rest_3 ?_
  refine vv_nV hw (wc := [ob_MO m q K S le cd nS nP rn dn]) (wr := [ar_I (q 29) cI 20 tc, ar_I (q 33) cI 20480 tk]) [] (c_MO_look (cx_l X) (cx_D X) m q K S le cd nS nP rn dn k w 3 h_k h_w (by omega) hdn hrn) lk_MO_159 d_MO_rest_4 rfl (rc_at 0 rfl rfl rfl) [0] [1, 2] ⟨rfl, rfl⟩ ⟨rfl, rfl, by decide⟩ [] rfl ⟨⟨by decide, by decide⟩, ⟨by decide, by decide⟩, Nat.le_of_ble_eq_true rfl⟩ ⟨rfl, rfl⟩ ?_
  rintro v w1 p1 t1 ⟨rfl, rfl, rfl⟩
  dsimp only [Option.toList, List.cons_append, List.nil_append, List.append_nil]
  rw [hlc]
  refine vv_sub (ws' := [ob_MO m q K S le 0 nS nP rn dn, ar_I (q 29) cI 20 tc, ar_I (q 33) cI 20480 tk]) [2, 0, 1] rfl rfl ?_
  refine vv_aload_n d_MO_rest_7 rfl ?_
  refine vv_aload_n d_MO_rest_8 rfl ?_
  refine vv_get d_MO_rest_9 0 rfl fl_MO_99 rfl ?_
  refine vv_if_ne (tgt := 35) d_MO_rest_12 (by decide) (by omega) (fun c12 => ?_) (fun c12 => ?_)
  · skip
    refine vv_aload_n d_MO_rest_35 rfl ?_
    refine vv_get d_MO_rest_36 0 rfl fl_MO_99 rfl ?_
    refine vv_put hw d_MO_rest_39 0 rfl fp_MO_99 rfl rfl (Nat.le_of_ble_eq_true rfl) ?_
    dsimp only [List.set]
    refine vv_aload_n d_MO_rest_42 rfl ?_
    refine vv_get d_MO_rest_43 0 rfl fl_MO_99 rfl ?_
    refine vv_if_le (tgt := 53) d_MO_rest_46 (by decide) (by omega) (fun c46 => ?_) (fun c46 => ?_)
    · skip
      refine vv_aload_n d_MO_rest_53 rfl ?_
      refine vv_get d_MO_rest_54 0 rfl fl_MO_86 rfl ?_
      refine vv_iconst d_MO_rest_57 ?_
      refine vv_sipush d_MO_rest_58 (by decide +kernel) ?_
      refine vv_iload_n d_MO_rest_61 rfl ?_
      refine vv_imul d_MO_rest_62 ?_
      refine vv_iload_n d_MO_rest_63 rfl ?_
      refine vv_iadd d_MO_rest_64 ?_
      refine vv_imul d_MO_rest_65 ?_
      refine vv_iload_n d_MO_rest_66 rfl ?_
      refine vv_iadd d_MO_rest_67 ?_
      refine vv_iald d_MO_rest_68 2 0 rfl rfl (by omega) ?_
      exact vv_iret hA hw hr d_MO_rest_69 (by decide) (by decide) (by exact ⟨rfl, rfl, rfl⟩)
    · skip
      exfalso; omega
  · skip
    refine vv_iload_n d_MO_rest_15 rfl ?_
    refine vv_iconst d_MO_rest_16 ?_
    refine vv_aload_n d_MO_rest_17 rfl ?_
    refine vv_get d_MO_rest_18 0 rfl fl_MO_74 rfl ?_
    refine vv_iload_n d_MO_rest_21 rfl ?_
    refine vv_iald d_MO_rest_22 1 0 rfl rfl (by omega) ?_
    refine vv_iconst d_MO_rest_23 ?_
    refine vv_isub d_MO_rest_24 ?_
    refine vv_pS (wc := []) (plc := []) [.ref m] (c_MO_in (cx_l X) (cx_D X) j 0 (tc k.toNat - 1) (by omega) (by omega) (by omega)) lk_MO_102 d_MO_rest_25 rfl [] ⟨rfl, rfl, Or.inl rfl⟩ [] rfl ⟨⟨by decide, by decide⟩, ⟨by decide, by decide⟩, Nat.le_of_ble_eq_true rfl⟩ ⟨rfl, rfl⟩ ?_
    intro v hv
    subst hv
    dsimp only [Option.toList, List.cons_append, List.nil_append, List.append_nil]
    have hc25 := isW_c j 0 (tc k.toNat - 1)
    refine vv_if_ne (tgt := 35) d_MO_rest_28 (by decide) (by omega) (fun c28 => ?_) (fun c28 => ?_)
    · skip
      refine vv_aload_n d_MO_rest_35 rfl ?_
      refine vv_get d_MO_rest_36 0 rfl fl_MO_99 rfl ?_
      refine vv_put hw d_MO_rest_39 0 rfl fp_MO_99 rfl rfl (Nat.le_of_ble_eq_true rfl) ?_
      dsimp only [List.set]
      refine vv_aload_n d_MO_rest_42 rfl ?_
      refine vv_get d_MO_rest_43 0 rfl fl_MO_99 rfl ?_
      refine vv_if_le (tgt := 53) d_MO_rest_46 (by decide) (by omega) (fun c46 => ?_) (fun c46 => ?_)
      · skip
        refine vv_aload_n d_MO_rest_53 rfl ?_
        refine vv_get d_MO_rest_54 0 rfl fl_MO_86 rfl ?_
        refine vv_iconst d_MO_rest_57 ?_
        refine vv_sipush d_MO_rest_58 (by decide +kernel) ?_
        refine vv_iload_n d_MO_rest_61 rfl ?_
        refine vv_imul d_MO_rest_62 ?_
        refine vv_iload_n d_MO_rest_63 rfl ?_
        refine vv_iadd d_MO_rest_64 ?_
        refine vv_imul d_MO_rest_65 ?_
        refine vv_iload_n d_MO_rest_66 rfl ?_
        refine vv_iadd d_MO_rest_67 ?_
        refine vv_iald d_MO_rest_68 2 0 rfl rfl (by omega) ?_
        exact vv_iret hA hw hr d_MO_rest_69 (by decide) (by decide) (by exact ⟨rfl, rfl, rfl⟩)
      · skip
        exfalso; omega
    · skip
      exfalso; omega
