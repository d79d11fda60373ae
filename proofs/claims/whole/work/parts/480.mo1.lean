/-! SheetTreesModel: in, place, isJust, better, fillOne -/
abbrev ob_MO (m : Nat) (q : Nat → Nat) (K S le cd nS nP rn dn : Int) : Nat × va_E := (m, .inr (6, [.int (iI cd), .int (iI K), .int (iI S), .int (iI le), .int (iI nS), .ref (q 5), .ref (q 6), .ref (q 7), .ref (q 8), .int (iI nP), .ref (q 10), .ref (q 11), .ref (q 12), .ref (q 13), .ref (q 14), .ref (q 15), .ref (q 16), .ref (q 17), .ref (q 18), .ref (q 19), .ref (q 20), .int (iI rn), .int (iI dn), .ref (q 23), .ref (q 24), .ref (q 25), .ref (q 26), .ref (q 27), .ref (q 28), .ref (q 29), .ref (q 30), .ref (q 31), .ref (q 32), .ref (q 33)]))
section ZA
variable {X : cx_T} {M : ms_T} {Q : State → Prop} {k n : Nat} {tys : List (ClassId × FieldType)} {ws pl : va_W} {lv : List (Option Value)} {st : List Value} {pc : Nat}
theorem vv_zald {a N : Nat} {cA : ClassId} {g : Nat → Int} {z : Int} (hd : decode M.1 pc = .ok (.baload, 1)) (q0 t0 : Nat) (ha : ws[q0]? = some (a, .inl (cA, N, .inl (fun j => iI (g j))))) (ht : tys[t0]? = some (cA, .boolean)) (hz : 0 ≤ z ∧ z < (N : Int) ∧ N < 2147483648) (kk : VV X M Q k n tys ws pl lv (.int (iI (g z.toNat)) :: st) (pc + 1)) : VV X M Q k n tys ws pl lv (.int (iI z) :: .ref a :: st) pc := fun C H locs ls hK hP hD hS hl =>
  va_zald C.1 C.2.1 hK hP q0 t0 (vv_at ha) ht (iI_in hz.1 hz.2.1 hz.2.2) hd (by rw [iI_cl hz.1 (by omega)]; exact kk C H locs ls hK hP hD hS hl)
end ZA
def mp (s d w h : Int) : Int := 289 * (2 * s + d) + 17 * h + w
theorem mp_bd {s d w h : Int} (hs : 0 ≤ s ∧ s ≤ 3) (hd : 0 ≤ d ∧ d ≤ 1) (hw : 0 ≤ w ∧ w ≤ 16) (hh : 0 ≤ h ∧ h ≤ 16) : 0 ≤ mp s d w h ∧ mp s d w h < 2312 := by unfold mp; omega
theorem mp_ne {s d w h s' d' w' h' : Int} (hs : 0 ≤ s ∧ s ≤ 3) (hd : 0 ≤ d ∧ d ≤ 1) (hw : 0 ≤ w ∧ w ≤ 16) (hh : 0 ≤ h ∧ h ≤ 16) (hs' : 0 ≤ s' ∧ s' ≤ 3) (hd' : 0 ≤ d' ∧ d' ≤ 1) (hw' : 0 ≤ w' ∧ w' ≤ 16) (hh' : 0 ≤ h' ∧ h' ≤ 16) (e : (mp s d w h).toNat = (mp s' d' w' h').toNat) : s = s' ∧ d = d' ∧ w = w' ∧ h = h' := by
  unfold mp at e
  omega
set_option maxHeartbeats 4000000 in
set_option maxRecDepth 100000 in
theorem c_MO_in (l : Launch) (D : va_G) (v lo hi : Int) (hv : -2147483648 ≤ v ∧ v < 2147483648) (h1 : -2147483648 ≤ lo ∧ lo < 2147483648) (h2 : -2147483648 ≤ hi ∧ hi < 2147483648) : CP l y_MO_in b_MO_in 3 (some .boolean) rm_0 [.int (iI v), .int (iI lo), .int (iI hi)] D [] ([] ++ []) (fun r => r = some (.int (iI (isW v lo hi)))) := by
  refine cp_of (by decide) (Nat.le_of_ble_eq_true rfl) ?_
  intro X sz hl hr hD hA
  subst hD
  show VV X (b_MO_in, 3, "SheetTreesModel", rm_0) _ 0 0 [] [] [] [some (.int (iI v)), some (.int (iI lo)), some (.int (iI hi))] [] 0
  refine vv_iload_n d_MO_in_0 rfl ?_
  refine vv_iload_n d_MO_in_1 rfl ?_
  refine vv_icmp_lt (tgt := 14) d_MO_in_2 (by decide) ⟨by omega, by omega⟩ (fun c2 => ?_) (fun c2 => ?_)
  · skip
    refine vv_iconst d_MO_in_14 ?_
    exact vp_zret hA hr (by decide) d_MO_in_15 (by decide) (by decide) (by unfold isW; rw [if_neg (by omega)])
  · skip
    refine vv_iload_n d_MO_in_5 rfl ?_
    refine vv_iload_n d_MO_in_6 rfl ?_
    refine vv_icmp_gt (tgt := 14) d_MO_in_7 (by decide) ⟨by omega, by omega⟩ (fun c7 => ?_) (fun c7 => ?_)
    · skip
      refine vv_iconst d_MO_in_14 ?_
      exact vp_zret hA hr (by decide) d_MO_in_15 (by decide) (by decide) (by unfold isW; rw [if_neg (by omega)])
    · skip
      refine vv_iconst d_MO_in_10 ?_
      refine vv_goto (tgt := 15) d_MO_in_11 (by decide) ?_
      exact vp_zret hA hr (by decide) d_MO_in_15 (by decide) (by decide) (by unfold isW; rw [if_pos (by omega)])
set_option maxHeartbeats 4000000 in
set_option maxRecDepth 100000 in
theorem c_MO_place (l : Launch) (D : va_G) (s d w h : Int) : CP l y_MO_place b_MO_place 4 (some .int) rm_0 [.int (iI s), .int (iI d), .int (iI w), .int (iI h)] D [] ([] ++ []) (fun r => r = some (.int (iI (mp s d w h)))) := by
  refine cp_of (by decide) (Nat.le_of_ble_eq_true rfl) ?_
  intro X sz hl hr hD hA
  subst hD
  show VV X (b_MO_place, 4, "SheetTreesModel", rm_0) _ 0 0 [] [] [] [some (.int (iI s)), some (.int (iI d)), some (.int (iI w)), some (.int (iI h))] [] 0
  refine vv_sipush d_MO_place_0 (by decide +kernel) ?_
  refine vv_iconst d_MO_place_3 ?_
  refine vv_iload_n d_MO_place_4 rfl ?_
  refine vv_imul d_MO_place_5 ?_
  refine vv_iload_n d_MO_place_6 rfl ?_
  refine vv_iadd d_MO_place_7 ?_
  refine vv_imul d_MO_place_8 ?_
  refine vv_bipush d_MO_place_9 (by decide +kernel) ?_
  refine vv_iload_n d_MO_place_11 rfl ?_
  refine vv_imul d_MO_place_12 ?_
  refine vv_iadd d_MO_place_13 ?_
  refine vv_iload_n d_MO_place_14 rfl ?_
  refine vv_iadd d_MO_place_15 ?_
  exact vp_iret hA hr d_MO_place_16 (by decide) (by decide) (by rfl)
def jst (pw ph tu : Nat → Int) (k : Nat) (w h : Int) : Int := if (pw k = w ∧ ph k = h) ∨ (¬ tu k = 0 ∧ pw k = h ∧ ph k = w) then 1 else 0
set_option maxHeartbeats 4000000 in
set_option maxRecDepth 100000 in
theorem c_MO_isJust (l : Launch) (D : va_G) (m : Nat) (q : Nat → Nat) (K S le cd nS nP rn dn : Int) (cI cZ : ClassId) (pw ph tu : Nat → Int) (k : Nat) (w h : Int) (hk : k < 8) (hw1 : -2147483648 ≤ w ∧ w < 2147483648) (hh1 : -2147483648 ≤ h ∧ h < 2147483648) (hb : ∀ i : Nat, i < 8 → (0 ≤ pw i ∧ pw i ≤ 16) ∧ (0 ≤ ph i ∧ ph i ≤ 16) ∧ 0 ≤ tu i ∧ tu i ≤ 1) : CP l y_MO_isJust b_MO_isJust 4 (some .boolean) rm_0 [.ref m, .int (iI (k : Int)), .int (iI w), .int (iI h)] D [(cI, .int), (cZ, .boolean)] ([ob_MO m q K S le cd nS nP rn dn, ar_I (q 10) cI 8 pw, ar_I (q 11) cI 8 ph, ar_I (q 13) cZ 8 tu] ++ []) (fun r => r = some (.int (iI (jst pw ph tu k w h)))) := by
  refine cp_of (by decide) (Nat.le_of_ble_eq_true rfl) ?_
  intro X sz hl hr hD hA
  subst hD
  have hb1 := hb k hk
  show VV X (b_MO_isJust, 4, "SheetTreesModel", rm_0) _ 0 0 [(cI, .int), (cZ, .boolean)] [ob_MO m q K S le cd nS nP rn dn, ar_I (q 10) cI 8 pw, ar_I (q 11) cI 8 ph, ar_I (q 13) cZ 8 tu] [] [some (.ref m), some (.int (iI (k : Int))), some (.int (iI w)), some (.int (iI h))] [] 0
  refine vv_aload_n d_MO_isJust_0 rfl ?_
  refine vv_get d_MO_isJust_1 0 rfl fl_MO_22 rfl ?_
  refine vv_iload_n d_MO_isJust_4 rfl ?_
  refine vv_iald d_MO_isJust_5 1 0 rfl rfl (by omega) ?_
  rw [Int.toNat_natCast]
  refine vv_iload_n d_MO_isJust_6 rfl ?_
  refine vv_icmp_ne (tgt := 20) d_MO_isJust_7 (by decide) ⟨by omega, by omega⟩ (fun c7 => ?_) (fun c7 => ?_)
  · skip
    refine vv_aload_n d_MO_isJust_20 rfl ?_
    refine vv_get d_MO_isJust_21 0 rfl fl_MO_31 rfl ?_
    refine vv_iload_n d_MO_isJust_24 rfl ?_
    refine vv_zald d_MO_isJust_25 3 1 rfl rfl (by omega) ?_
    rw [Int.toNat_natCast]
    refine vv_if_eq (tgt := 53) d_MO_isJust_26 (by decide) (by omega) (fun c26 => ?_) (fun c26 => ?_)
    · skip
      refine vv_iconst d_MO_isJust_53 ?_
      exact vp_zret hA hr (by decide) d_MO_isJust_54 (by decide) (by decide) (by unfold jst; rw [if_neg (by omega)])
    · skip
      refine vv_aload_n d_MO_isJust_29 rfl ?_
      refine vv_get d_MO_isJust_30 0 rfl fl_MO_22 rfl ?_
      refine vv_iload_n d_MO_isJust_33 rfl ?_
      refine vv_iald d_MO_isJust_34 1 0 rfl rfl (by omega) ?_
      rw [Int.toNat_natCast]
      refine vv_iload_n d_MO_isJust_35 rfl ?_
      refine vv_icmp_ne (tgt := 53) d_MO_isJust_36 (by decide) ⟨by omega, by omega⟩ (fun c36 => ?_) (fun c36 => ?_)
      · skip
        refine vv_iconst d_MO_isJust_53 ?_
        exact vp_zret hA hr (by decide) d_MO_isJust_54 (by decide) (by decide) (by unfold jst; rw [if_neg (by omega)])
      · skip
        refine vv_aload_n d_MO_isJust_39 rfl ?_
        refine vv_get d_MO_isJust_40 0 rfl fl_MO_25 rfl ?_
        refine vv_iload_n d_MO_isJust_43 rfl ?_
        refine vv_iald d_MO_isJust_44 2 0 rfl rfl (by omega) ?_
        rw [Int.toNat_natCast]
        refine vv_iload_n d_MO_isJust_45 rfl ?_
        refine vv_icmp_ne (tgt := 53) d_MO_isJust_46 (by decide) ⟨by omega, by omega⟩ (fun c46 => ?_) (fun c46 => ?_)
        · skip
          refine vv_iconst d_MO_isJust_53 ?_
          exact vp_zret hA hr (by decide) d_MO_isJust_54 (by decide) (by decide) (by unfold jst; rw [if_neg (by omega)])
        · skip
          refine vv_iconst d_MO_isJust_49 ?_
          refine vv_goto (tgt := 54) d_MO_isJust_50 (by decide) ?_
          exact vp_zret hA hr (by decide) d_MO_isJust_54 (by decide) (by decide) (by unfold jst; rw [if_pos (by omega)])
  · skip
    refine vv_aload_n d_MO_isJust_10 rfl ?_
    refine vv_get d_MO_isJust_11 0 rfl fl_MO_25 rfl ?_
    refine vv_iload_n d_MO_isJust_14 rfl ?_
    refine vv_iald d_MO_isJust_15 2 0 rfl rfl (by omega) ?_
    rw [Int.toNat_natCast]
    refine vv_iload_n d_MO_isJust_16 rfl ?_
    refine vv_icmp_eq (tgt := 49) d_MO_isJust_17 (by decide) ⟨by omega, by omega⟩ (fun c17 => ?_) (fun c17 => ?_)
    · skip
      refine vv_iconst d_MO_isJust_49 ?_
      refine vv_goto (tgt := 54) d_MO_isJust_50 (by decide) ?_
      exact vp_zret hA hr (by decide) d_MO_isJust_54 (by decide) (by decide) (by unfold jst; rw [if_pos (by omega)])
    · skip
      refine vv_aload_n d_MO_isJust_20 rfl ?_
      refine vv_get d_MO_isJust_21 0 rfl fl_MO_31 rfl ?_
      refine vv_iload_n d_MO_isJust_24 rfl ?_
      refine vv_zald d_MO_isJust_25 3 1 rfl rfl (by omega) ?_
      rw [Int.toNat_natCast]
      refine vv_if_eq (tgt := 53) d_MO_isJust_26 (by decide) (by omega) (fun c26 => ?_) (fun c26 => ?_)
      · skip
        refine vv_iconst d_MO_isJust_53 ?_
        exact vp_zret hA hr (by decide) d_MO_isJust_54 (by decide) (by decide) (by unfold jst; rw [if_neg (by omega)])
      · skip
        refine vv_aload_n d_MO_isJust_29 rfl ?_
        refine vv_get d_MO_isJust_30 0 rfl fl_MO_22 rfl ?_
        refine vv_iload_n d_MO_isJust_33 rfl ?_
        refine vv_iald d_MO_isJust_34 1 0 rfl rfl (by omega) ?_
        rw [Int.toNat_natCast]
        refine vv_iload_n d_MO_isJust_35 rfl ?_
        refine vv_icmp_ne (tgt := 53) d_MO_isJust_36 (by decide) ⟨by omega, by omega⟩ (fun c36 => ?_) (fun c36 => ?_)
        · skip
          refine vv_iconst d_MO_isJust_53 ?_
          exact vp_zret hA hr (by decide) d_MO_isJust_54 (by decide) (by decide) (by unfold jst; rw [if_neg (by omega)])
        · skip
          refine vv_aload_n d_MO_isJust_39 rfl ?_
          refine vv_get d_MO_isJust_40 0 rfl fl_MO_25 rfl ?_
          refine vv_iload_n d_MO_isJust_43 rfl ?_
          refine vv_iald d_MO_isJust_44 2 0 rfl rfl (by omega) ?_
          rw [Int.toNat_natCast]
          refine vv_iload_n d_MO_isJust_45 rfl ?_
          refine vv_icmp_ne (tgt := 53) d_MO_isJust_46 (by decide) ⟨by omega, by omega⟩ (fun c46 => ?_) (fun c46 => ?_)
          · skip
            refine vv_iconst d_MO_isJust_53 ?_
            exact vp_zret hA hr (by decide) d_MO_isJust_54 (by decide) (by decide) (by unfold jst; rw [if_neg (by omega)])
          · skip
            refine vv_iconst d_MO_isJust_49 ?_
            refine vv_goto (tgt := 54) d_MO_isJust_50 (by decide) ?_
            exact vp_zret hA hr (by decide) d_MO_isJust_54 (by decide) (by decide) (by unfold jst; rw [if_pos (by omega)])
/-- values, cuts, choices -/
abbrev mt_T : Type := (Nat → Int) × (Nat → Int) × (Nat → Int)
def bt_up (at_ : Nat) (v c x : Int) (T : mt_T) : mt_T := (va_up T.1 at_ v, va_up T.2.1 at_ c, va_up T.2.2 at_ x)
def bt (at_ : Nat) (v c x : Int) (T : mt_T) : mt_T := if T.1 at_ < v ∨ (v = T.1 at_ ∧ c < T.2.1 at_) then bt_up at_ v c x T else T
set_option maxHeartbeats 4000000 in
set_option maxRecDepth 100000 in
theorem c_MO_better (l : Launch) (D : va_G) (m : Nat) (q : Nat → Nat) (K S le cd nS nP rn dn : Int) (cI : ClassId) (T : mt_T) (z v c x : Int) (hz : 0 ≤ z ∧ z < 2312) (hv : -2147483648 ≤ v ∧ v < 2147483648) (hc : -2147483648 ≤ c ∧ c < 2147483648) (hT1 : -2147483648 ≤ T.1 z.toNat ∧ T.1 z.toNat < 2147483648) (hT2 : -2147483648 ≤ T.2.1 z.toNat ∧ T.2.1 z.toNat < 2147483648) : CM l y_MO_better b_MO_better 5 none rm_0 [.ref m, .int (iI z), .int (iI v), .int (iI c), .int (iI x)] D [(cI, .int)] ([ob_MO m q K S le cd nS nP rn dn, ar_I (q 17) cI 2312 T.1, ar_I (q 18) cI 2312 T.2.1, ar_I (q 19) cI 2312 T.2.2] ++ []) (fun r w1 p1 _ => r = none ∧ w1 = [ob_MO m q K S le cd nS nP rn dn, ar_I (q 17) cI 2312 (bt z.toNat v c x T).1, ar_I (q 18) cI 2312 (bt z.toNat v c x T).2.1, ar_I (q 19) cI 2312 (bt z.toNat v c x T).2.2] ∧ p1 = []) := by
  refine cm_of (by decide) (Nat.le_of_ble_eq_true rfl) ?_
  intro X sz hl hr hnm hD hA hw
  subst hD
  show VV X (b_MO_better, 5, "SheetTreesModel", rm_0) _ 0 0 [(cI, .int)] [ob_MO m q K S le cd nS nP rn dn, ar_I (q 17) cI 2312 T.1, ar_I (q 18) cI 2312 T.2.1, ar_I (q 19) cI 2312 T.2.2] [] [some (.ref m), some (.int (iI z)), some (.int (iI v)), some (.int (iI c)), some (.int (iI x))] [] 0
  refine vv_iload_n d_MO_better_0 rfl ?_
  refine vv_aload_n d_MO_better_1 rfl ?_
  refine vv_get d_MO_better_2 0 rfl fl_MO_44 rfl ?_
  refine vv_iload_n d_MO_better_5 rfl ?_
  refine vv_iald d_MO_better_6 1 0 rfl rfl (by omega) ?_
  refine vv_icmp_gt (tgt := 30) d_MO_better_7 (by decide) ⟨by omega, by omega⟩ (fun c7 => ?_) (fun c7 => ?_)
  · skip
    refine vv_aload_n d_MO_better_30 rfl ?_
    refine vv_get d_MO_better_31 0 rfl fl_MO_44 rfl ?_
    refine vv_iload_n d_MO_better_34 rfl ?_
    refine vv_iload_n d_MO_better_35 rfl ?_
    refine vv_iast hw d_MO_better_36 1 0 rfl rfl (by omega) ?_
    dsimp only [List.set]
    refine vv_aload_n d_MO_better_37 rfl ?_
    refine vv_get d_MO_better_38 0 rfl fl_MO_47 rfl ?_
    refine vv_iload_n d_MO_better_41 rfl ?_
    refine vv_iload_n d_MO_better_42 rfl ?_
    refine vv_iast hw d_MO_better_43 2 0 rfl rfl (by omega) ?_
    dsimp only [List.set]
    refine vv_aload_n d_MO_better_44 rfl ?_
    refine vv_get d_MO_better_45 0 rfl fl_MO_50 rfl ?_
    refine vv_iload_n d_MO_better_48 rfl ?_
    refine vv_iload d_MO_better_49 rfl ?_
    refine vv_iast hw d_MO_better_51 3 0 rfl rfl (by omega) ?_
    dsimp only [List.set]
    have e1 : bt z.toNat v c x T = (bt_up z.toNat v c x T) := by unfold bt; rw [if_pos (by omega)]
    exact vv_vret hA hw hr d_MO_better_52 (by decide) (by decide) (by rw [e1]; exact ⟨rfl, rfl, rfl⟩)
  · skip
    refine vv_iload_n d_MO_better_10 rfl ?_
    refine vv_aload_n d_MO_better_11 rfl ?_
    refine vv_get d_MO_better_12 0 rfl fl_MO_44 rfl ?_
    refine vv_iload_n d_MO_better_15 rfl ?_
    refine vv_iald d_MO_better_16 1 0 rfl rfl (by omega) ?_
    refine vv_icmp_ne (tgt := 52) d_MO_better_17 (by decide) ⟨by omega, by omega⟩ (fun c17 => ?_) (fun c17 => ?_)
    · skip
      have e1 : bt z.toNat v c x T = T := by unfold bt; rw [if_neg (by omega)]
      exact vv_vret hA hw hr d_MO_better_52 (by decide) (by decide) (by rw [e1]; exact ⟨rfl, rfl, rfl⟩)
    · skip
      refine vv_iload_n d_MO_better_20 rfl ?_
      refine vv_aload_n d_MO_better_21 rfl ?_
      refine vv_get d_MO_better_22 0 rfl fl_MO_47 rfl ?_
      refine vv_iload_n d_MO_better_25 rfl ?_
      refine vv_iald d_MO_better_26 2 0 rfl rfl (by omega) ?_
      refine vv_icmp_ge (tgt := 52) d_MO_better_27 (by decide) ⟨by omega, by omega⟩ (fun c27 => ?_) (fun c27 => ?_)
      · skip
        have e1 : bt z.toNat v c x T = T := by unfold bt; rw [if_neg (by omega)]
        exact vv_vret hA hw hr d_MO_better_52 (by decide) (by decide) (by rw [e1]; exact ⟨rfl, rfl, rfl⟩)
      · skip
        refine vv_aload_n d_MO_better_30 rfl ?_
        refine vv_get d_MO_better_31 0 rfl fl_MO_44 rfl ?_
        refine vv_iload_n d_MO_better_34 rfl ?_
        refine vv_iload_n d_MO_better_35 rfl ?_
        refine vv_iast hw d_MO_better_36 1 0 rfl rfl (by omega) ?_
        dsimp only [List.set]
        refine vv_aload_n d_MO_better_37 rfl ?_
        refine vv_get d_MO_better_38 0 rfl fl_MO_47 rfl ?_
        refine vv_iload_n d_MO_better_41 rfl ?_
        refine vv_iload_n d_MO_better_42 rfl ?_
        refine vv_iast hw d_MO_better_43 2 0 rfl rfl (by omega) ?_
        dsimp only [List.set]
        refine vv_aload_n d_MO_better_44 rfl ?_
        refine vv_get d_MO_better_45 0 rfl fl_MO_50 rfl ?_
        refine vv_iload_n d_MO_better_48 rfl ?_
        refine vv_iload d_MO_better_49 rfl ?_
        refine vv_iast hw d_MO_better_51 3 0 rfl rfl (by omega) ?_
        dsimp only [List.set]
        have e1 : bt z.toNat v c x T = (bt_up z.toNat v c x T) := by unfold bt; rw [if_pos (by omega)]
        exact vv_vret hA hw hr d_MO_better_52 (by decide) (by decide) (by rw [e1]; exact ⟨rfl, rfl, rfl⟩)
