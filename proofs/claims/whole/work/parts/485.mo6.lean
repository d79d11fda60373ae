/-! SheetTreesModel: isAlike, cut -/
def iaE (no : Nat → Int) (a b : Int) (n : Nat) : Prop := ∀ k : Nat, k < n → no (600 * a + (k : Int)).toNat = no (600 * b + (k : Int)).toNat
def iaP (of nc fw no : Nat → Int) (a b : Int) : Prop := (of a.toNat = of b.toNat ∧ nc a.toNat = nc b.toNat ∧ fw a.toNat = fw b.toNat) ∧ iaE no a b (nc a.toNat).toNat
set_option maxHeartbeats 4000000 in
set_option maxRecDepth 100000 in
theorem c_MO_isAlike (l : Launch) (D : va_G) (m : Nat) (q : Nat → Nat) (K S le cd nS nP rn dn : Int) (cI : ClassId) (of nc fw no : Nat → Int) (a b : Int) (ha : 0 ≤ a ∧ a < 20) (hb : 0 ≤ b ∧ b < 20) (hof : ∀ i : Nat, i < 20 → 0 ≤ of i ∧ of i < 4) (hnc : ∀ i : Nat, i < 20 → 0 ≤ nc i ∧ nc i ≤ 600) (hfw : ∀ i : Nat, i < 20 → 0 ≤ fw i ∧ fw i ≤ 1) (hno : ∀ i : Nat, i < 12000 → -1 ≤ no i ∧ no i ≤ 100) : CP l y_MO_isAlike b_MO_isAlike 5 (some .boolean) rm_0 [.ref m, .int (iI a), .int (iI b)] D [(cI, .int)] ([ob_MO m q K S le cd nS nP rn dn, ar_I (q 23) cI 20 of, ar_I (q 30) cI 20 nc, ar_I (q 24) cI 20 fw, ar_I (q 31) cI 12000 no] ++ []) (fun r => ∃ z : Int, r = some (.int (iI z)) ∧ ((z = 1 ∧ iaP of nc fw no a b) ∨ (z = 0 ∧ ¬ iaP of nc fw no a b))) := by
  refine cp_of (by decide) (Nat.le_of_ble_eq_true rfl) ?_
  intro X sz hl hr hD hA
  subst hD
  have ha1 := hof a.toNat (by omega)
  have ha2 := hnc a.toNat (by omega)
  have ha3 := hfw a.toNat (by omega)
  have hb1 := hof b.toNat (by omega)
  have hb2 := hnc b.toNat (by omega)
  have hb3 := hfw b.toNat (by omega)
  have fin0 : ∀ v4 : Option Value, ¬ iaP of nc fw no a b → VV X (b_MO_isAlike, 5, "SheetTreesModel", rm_0) (cr X sz (fun r => ∃ z : Int, r = some (.int (iI z)) ∧ ((z = 1 ∧ iaP of nc fw no a b) ∨ (z = 0 ∧ ¬ iaP of nc fw no a b))) rm_0) 0 0 [(cI, .int)] [ob_MO m q K S le cd nS nP rn dn, ar_I (q 23) cI 20 of, ar_I (q 30) cI 20 nc, ar_I (q 24) cI 20 fw, ar_I (q 31) cI 12000 no] [] [some (.ref m), some (.int (iI a)), some (.int (iI b)), some (.int (iI 0)), v4] [] 110 := by
    intro v4 hn
    refine vv_iload_n d_MO_isAlike_110 rfl ?_
    exact vp_zret hA hr (by decide) d_MO_isAlike_111 (by decide) (by decide) ⟨0, rfl, Or.inr ⟨rfl, hn⟩⟩
  have fin1 : ∀ v4 : Option Value, iaP of nc fw no a b → VV X (b_MO_isAlike, 5, "SheetTreesModel", rm_0) (cr X sz (fun r => ∃ z : Int, r = some (.int (iI z)) ∧ ((z = 1 ∧ iaP of nc fw no a b) ∨ (z = 0 ∧ ¬ iaP of nc fw no a b))) rm_0) 0 0 [(cI, .int)] [ob_MO m q K S le cd nS nP rn dn, ar_I (q 23) cI 20 of, ar_I (q 30) cI 20 nc, ar_I (q 24) cI 20 fw, ar_I (q 31) cI 12000 no] [] [some (.ref m), some (.int (iI a)), some (.int (iI b)), some (.int (iI 1)), v4] [] 110 := by
    intro v4 hn
    refine vv_iload_n d_MO_isAlike_110 rfl ?_
    exact vp_zret hA hr (by decide) d_MO_isAlike_111 (by decide) (by decide) ⟨1, rfl, Or.inl ⟨rfl, hn⟩⟩
  have loop : (of a.toNat = of b.toNat ∧ nc a.toNat = nc b.toNat ∧ fw a.toNat = fw b.toNat) → ∀ n k : Nat, k + n = (nc a.toNat).toNat → iaE no a b k → VV X (b_MO_isAlike, 5, "SheetTreesModel", rm_0) (cr X sz (fun r => ∃ z : Int, r = some (.int (iI z)) ∧ ((z = 1 ∧ iaP of nc fw no a b) ∨ (z = 0 ∧ ¬ iaP of nc fw no a b))) rm_0) 0 0 [(cI, .int)] [ob_MO m q K S le cd nS nP rn dn, ar_I (q 23) cI 20 of, ar_I (q 30) cI 20 nc, ar_I (q 24) cI 20 fw, ar_I (q 31) cI 12000 no] [] [some (.ref m), some (.int (iI a)), some (.int (iI b)), some (.int (iI 1)), some (.int (iI (k : Int)))] [] 54 := by
    intro hs n
    induction n with
    | zero =>
      intro k hk hE
      have hia : iaP of nc fw no a b := ⟨hs, by rw [← hk]; exact hE⟩
      refine vv_iload_n d_MO_isAlike_54 rfl ?_
      refine vv_if_eq (tgt := 110) d_MO_isAlike_55 (by decide) (by omega) (fun c55 => ?_) (fun c55 => ?_)
      · exfalso; omega
      · skip
        refine vv_iload d_MO_isAlike_58 rfl ?_
        refine vv_aload_n d_MO_isAlike_60 rfl ?_
        refine vv_get d_MO_isAlike_61 0 rfl fl_MO_77 rfl ?_
        refine vv_iload_n d_MO_isAlike_64 rfl ?_
        refine vv_iald d_MO_isAlike_65 2 0 rfl rfl (by omega) ?_
        refine vv_icmp_ge (tgt := 110) d_MO_isAlike_66 (by decide) ⟨by omega, by omega⟩ (fun c66 => ?_) (fun c66 => ?_)
        · skip
          exact fin1 _ hia
        · exfalso; omega
    | succ n ih =>
      intro k hk hE
      have hn1 := hno (600 * a + (k : Int)).toNat (by omega)
      have hn2 := hno (600 * b + (k : Int)).toNat (by omega)
      refine vv_iload_n d_MO_isAlike_54 rfl ?_
      refine vv_if_eq (tgt := 110) d_MO_isAlike_55 (by decide) (by omega) (fun c55 => ?_) (fun c55 => ?_)
      · exfalso; omega
      · skip
        refine vv_iload d_MO_isAlike_58 rfl ?_
        refine vv_aload_n d_MO_isAlike_60 rfl ?_
        refine vv_get d_MO_isAlike_61 0 rfl fl_MO_77 rfl ?_
        refine vv_iload_n d_MO_isAlike_64 rfl ?_
        refine vv_iald d_MO_isAlike_65 2 0 rfl rfl (by omega) ?_
        refine vv_icmp_ge (tgt := 110) d_MO_isAlike_66 (by decide) ⟨by omega, by omega⟩ (fun c66 => ?_) (fun c66 => ?_)
        · exfalso; omega
        · skip
          refine vv_aload_n d_MO_isAlike_69 rfl ?_
          refine vv_get d_MO_isAlike_70 0 rfl fl_MO_80 rfl ?_
          refine vv_sipush d_MO_isAlike_73 (by decide +kernel) ?_
          refine vv_iload_n d_MO_isAlike_76 rfl ?_
          refine vv_imul d_MO_isAlike_77 ?_
          refine vv_iload d_MO_isAlike_78 rfl ?_
          refine vv_iadd d_MO_isAlike_80 ?_
          refine vv_iald d_MO_isAlike_81 4 0 rfl rfl (by omega) ?_
          refine vv_aload_n d_MO_isAlike_82 rfl ?_
          refine vv_get d_MO_isAlike_83 0 rfl fl_MO_80 rfl ?_
          refine vv_sipush d_MO_isAlike_86 (by decide +kernel) ?_
          refine vv_iload_n d_MO_isAlike_89 rfl ?_
          refine vv_imul d_MO_isAlike_90 ?_
          refine vv_iload d_MO_isAlike_91 rfl ?_
          refine vv_iadd d_MO_isAlike_93 ?_
          refine vv_iald d_MO_isAlike_94 4 0 rfl rfl (by omega) ?_
          refine vv_icmp_ne (tgt := 102) d_MO_isAlike_95 (by decide) ⟨by omega, by omega⟩ (fun c95 => ?_) (fun c95 => ?_)
          · skip
            refine vv_iconst d_MO_isAlike_102 ?_
            refine vv_istore_n d_MO_isAlike_103 rfl (by decide) ?_
            dsimp only [List.set]
            refine vv_iinc d_MO_isAlike_104 rfl rfl (by decide) ?_
            dsimp only [List.set]
            refine vv_goto (tgt := 54) d_MO_isAlike_107 (by decide) ?_
            refine vv_iload_n d_MO_isAlike_54 rfl ?_
            refine vv_if_eq (tgt := 110) d_MO_isAlike_55 (by decide) (by omega) (fun c55 => ?_) (fun c55 => ?_)
            · skip
              refine fin0 _ (fun hia => c95 (hia.2 k (by omega)))
            · exfalso; omega
          · skip
            refine vv_iconst d_MO_isAlike_98 ?_
            refine vv_goto (tgt := 103) d_MO_isAlike_99 (by decide) ?_
            refine vv_istore_n d_MO_isAlike_103 rfl (by decide) ?_
            dsimp only [List.set]
            refine vv_iinc d_MO_isAlike_104 rfl rfl (by decide) ?_
            dsimp only [List.set]
            refine vv_goto (tgt := 54) d_MO_isAlike_107 (by decide) ?_
            refine ih (k + 1) (by omega) (fun j hj => ?_)
            by_cases ej : j = k
            · subst ej
              exact c95
            · exact hE j (by omega)
  show VV X (b_MO_isAlike, 5, "SheetTreesModel", rm_0) _ 0 0 [(cI, .int)] [ob_MO m q K S le cd nS nP rn dn, ar_I (q 23) cI 20 of, ar_I (q 30) cI 20 nc, ar_I (q 24) cI 20 fw, ar_I (q 31) cI 12000 no] [] [some (.ref m), some (.int (iI a)), some (.int (iI b)), none, none] [] 0
  refine vv_aload_n d_MO_isAlike_0 rfl ?_
  refine vv_get d_MO_isAlike_1 0 rfl fl_MO_56 rfl ?_
  refine vv_iload_n d_MO_isAlike_4 rfl ?_
  refine vv_iald d_MO_isAlike_5 1 0 rfl rfl (by omega) ?_
  refine vv_aload_n d_MO_isAlike_6 rfl ?_
  refine vv_get d_MO_isAlike_7 0 rfl fl_MO_56 rfl ?_
  refine vv_iload_n d_MO_isAlike_10 rfl ?_
  refine vv_iald d_MO_isAlike_11 1 0 rfl rfl (by omega) ?_
  refine vv_icmp_ne (tgt := 49) d_MO_isAlike_12 (by decide) ⟨by omega, by omega⟩ (fun c12 => ?_) (fun c12 => ?_)
  · skip
    refine vv_iconst d_MO_isAlike_49 ?_
    refine vv_istore_n d_MO_isAlike_50 rfl (by decide) ?_
    dsimp only [List.set]
    refine vv_iconst d_MO_isAlike_51 ?_
    refine vv_istore d_MO_isAlike_52 rfl (by decide) ?_
    dsimp only [List.set]
    refine vv_iload_n d_MO_isAlike_54 rfl ?_
    refine vv_if_eq (tgt := 110) d_MO_isAlike_55 (by decide) (by omega) (fun c55 => ?_) (fun c55 => ?_)
    · skip
      exact fin0 _ (fun hia => by have h1 := hia.1; omega)
    · exfalso; omega
  · skip
    refine vv_aload_n d_MO_isAlike_15 rfl ?_
    refine vv_get d_MO_isAlike_16 0 rfl fl_MO_77 rfl ?_
    refine vv_iload_n d_MO_isAlike_19 rfl ?_
    refine vv_iald d_MO_isAlike_20 2 0 rfl rfl (by omega) ?_
    refine vv_aload_n d_MO_isAlike_21 rfl ?_
    refine vv_get d_MO_isAlike_22 0 rfl fl_MO_77 rfl ?_
    refine vv_iload_n d_MO_isAlike_25 rfl ?_
    refine vv_iald d_MO_isAlike_26 2 0 rfl rfl (by omega) ?_
    refine vv_icmp_ne (tgt := 49) d_MO_isAlike_27 (by decide) ⟨by omega, by omega⟩ (fun c27 => ?_) (fun c27 => ?_)
    · skip
      refine vv_iconst d_MO_isAlike_49 ?_
      refine vv_istore_n d_MO_isAlike_50 rfl (by decide) ?_
      dsimp only [List.set]
      refine vv_iconst d_MO_isAlike_51 ?_
      refine vv_istore d_MO_isAlike_52 rfl (by decide) ?_
      dsimp only [List.set]
      refine vv_iload_n d_MO_isAlike_54 rfl ?_
      refine vv_if_eq (tgt := 110) d_MO_isAlike_55 (by decide) (by omega) (fun c55 => ?_) (fun c55 => ?_)
      · skip
        exact fin0 _ (fun hia => by have h1 := hia.1; omega)
      · exfalso; omega
    · skip
      refine vv_aload_n d_MO_isAlike_30 rfl ?_
      refine vv_get d_MO_isAlike_31 0 rfl fl_MO_59 rfl ?_
      refine vv_iload_n d_MO_isAlike_34 rfl ?_
      refine vv_iald d_MO_isAlike_35 3 0 rfl rfl (by omega) ?_
      refine vv_aload_n d_MO_isAlike_36 rfl ?_
      refine vv_get d_MO_isAlike_37 0 rfl fl_MO_59 rfl ?_
      refine vv_iload_n d_MO_isAlike_40 rfl ?_
      refine vv_iald d_MO_isAlike_41 3 0 rfl rfl (by omega) ?_
      refine vv_icmp_ne (tgt := 49) d_MO_isAlike_42 (by decide) ⟨by omega, by omega⟩ (fun c42 => ?_) (fun c42 => ?_)
      · skip
        refine vv_iconst d_MO_isAlike_49 ?_
        refine vv_istore_n d_MO_isAlike_50 rfl (by decide) ?_
        dsimp only [List.set]
        refine vv_iconst d_MO_isAlike_51 ?_
        refine vv_istore d_MO_isAlike_52 rfl (by decide) ?_
        dsimp only [List.set]
        refine vv_iload_n d_MO_isAlike_54 rfl ?_
        refine vv_if_eq (tgt := 110) d_MO_isAlike_55 (by decide) (by omega) (fun c55 => ?_) (fun c55 => ?_)
        · skip
          exact fin0 _ (fun hia => by have h1 := hia.1; omega)
        · exfalso; omega
      · skip
        refine vv_iconst d_MO_isAlike_45 ?_
        refine vv_goto (tgt := 50) d_MO_isAlike_46 (by decide) ?_
        refine vv_istore_n d_MO_isAlike_50 rfl (by decide) ?_
        dsimp only [List.set]
        refine vv_iconst d_MO_isAlike_51 ?_
        refine vv_istore d_MO_isAlike_52 rfl (by decide) ?_
        dsimp only [List.set]
        exact loop ⟨by omega, by omega, by omega⟩ (nc a.toNat).toNat 0 (by omega) (fun j hj => by omega)
set_option maxHeartbeats 4000000 in
set_option maxRecDepth 100000 in
theorem c_MO_cut_n (l : Launch) (D : va_G) (m : Nat) (q : Nat → Nat) (K S le cd nS nP rn dn : Int) (k w e : Int) (h_k : -2147483648 ≤ k ∧ k < 2147483648) (h_w : -2147483648 ≤ w ∧ w < 2147483648) (hdn : 0 ≤ dn ∧ dn ≤ 20) (hrn : rn = 0 ∨ rn = 1) (he : 0 < e ∧ e ≤ 2) (hlc : lkc rn dn k w 7 = e) : CM l y_MO_cut b_MO_cut 4 (some .int) rm_2 [.ref m, .int (iI k), .int (iI w)] D [] ([ob_MO m q K S le cd nS nP rn dn] ++ []) (fun r w1 p1 _ => r = some (.int (iI 0)) ∧ w1 = [ob_MO m q K S le e nS nP rn dn] ∧ p1 = []) := by
  refine cm_of (by decide) (Nat.le_of_ble_eq_true rfl) ?_
  intro X sz hl hr hnm hD hA hw
  subst hD
  show VV X (b_MO_cut, 4, "SheetTreesModel", rm_2) _ 0 0 [] [ob_MO m q K S le cd nS nP rn dn] [] [some (.ref m), some (.int (iI k)), some (.int (iI w)), none] [] 0
  refine vv_aload_n d_MO_cut_0 rfl ?_
  refine vv_iload_n d_MO_cut_1 rfl ?_
  refine vv_iload_n d_MO_cut_2 rfl ?_
  refine vv_bipush d_MO_cut_3 (by decide +kernel) ?_
  refine vv_nV hw (wc := [ob_MO m q K S le cd nS nP rn dn]) (wr := []) [] (c_MO_look (cx_l X) (cx_D X) m q K S le cd nS nP rn dn k w 7 h_k h_w (by omega) hdn hrn) lk_MO_159 d_MO_cut_5 rfl (rc_at 0 rfl rfl rfl) [0] [] ⟨rfl, rfl⟩ ⟨rfl, rfl, by decide⟩ [] rfl ⟨⟨by decide, by decide⟩, ⟨by decide, by decide⟩, Nat.le_of_ble_eq_true rfl⟩ ⟨rfl, rfl⟩ ?_
  rintro v w1 p1 t1 ⟨rfl, rfl, rfl⟩
  dsimp only [Option.toList, List.cons_append, List.nil_append, List.append_nil]
  rw [hlc]
  refine vv_aload_n d_MO_cut_8 rfl ?_
  refine vv_get d_MO_cut_9 0 rfl fl_MO_99 rfl ?_
  refine vv_if_le (tgt := 17) d_MO_cut_12 (by decide) (by omega) (fun c12 => ?_) (fun c12 => ?_)
  · exfalso; omega
  · skip
    refine vv_iconst d_MO_cut_15 ?_
    exact vv_iret hA hw hr d_MO_cut_16 (by decide) (by decide) (by exact ⟨rfl, rfl, rfl⟩)
def ct_m (w : Int) (of tc ta cc fw mi rc : Nat → Int) : Nat → Int := if w = 0 then of else if w = 1 then tc else if w = 2 then ta else if w = 3 then cc else if w = 4 then fw else if w = 5 then mi else rc
set_option maxHeartbeats 4000000 in
set_option maxRecDepth 100000 in
theorem c_MO_cut_y (l : Launch) (D : va_G) (m : Nat) (q : Nat → Nat) (K S le cd nS nP rn dn : Int) (cI : ClassId) (of tc ta cc fw mi rc nc no : Nat → Int) (k w : Int) (h_k : -2147483648 ≤ k ∧ k < 2147483648) (h_w : -2147483648 ≤ w ∧ w < 2147483648) (hdn : 0 ≤ dn ∧ dn ≤ 20) (hrn : rn = 0 ∨ rn = 1) (hlc : lkc rn dn k w 7 = 0) (hk : 0 ≤ k ∧ k < 20) (hw1 : 0 ≤ w ∧ w ≤ 6) : CM l y_MO_cut b_MO_cut 4 (some .int) rm_2 [.ref m, .int (iI k), .int (iI w)] D [(cI, .int)] ([ob_MO m q K S le cd nS nP rn dn, ar_I (q 23) cI 20 of, ar_I (q 27) cI 20 tc, ar_I (q 28) cI 20 ta, ar_I (q 25) cI 20 cc, ar_I (q 24) cI 20 fw, ar_I (q 26) cI 20 mi, ar_I (q 29) cI 20 rc, ar_I (q 30) cI 20 nc, ar_I (q 31) cI 12000 no] ++ []) (fun r w1 p1 _ => r = some (.int (iI (ct_m w of tc ta cc fw mi rc k.toNat))) ∧ w1 = [ob_MO m q K S le 0 nS nP rn dn, ar_I (q 23) cI 20 of, ar_I (q 27) cI 20 tc, ar_I (q 28) cI 20 ta, ar_I (q 25) cI 20 cc, ar_I (q 24) cI 20 fw, ar_I (q 26) cI 20 mi, ar_I (q 29) cI 20 rc, ar_I (q 30) cI 20 nc, ar_I (q 31) cI 12000 no] ∧ p1 = []) := by
  refine cm_of (by decide) (Nat.le_of_ble_eq_true rfl) ?_
  intro X sz hl hr hnm hD hA hw
  subst hD
  show VV X (b_MO_cut, 4, "SheetTreesModel", rm_2) _ 0 0 [(cI, .int)] [ob_MO m q K S le cd nS nP rn dn, ar_I (q 23) cI 20 of, ar_I (q 27) cI 20 tc, ar_I (q 28) cI 20 ta, ar_I (q 25) cI 20 cc, ar_I (q 24) cI 20 fw, ar_I (q 26) cI 20 mi, ar_I (q 29) cI 20 rc, ar_I (q 30) cI 20 nc, ar_I (q 31) cI 12000 no] [] [some (.ref m), some (.int (iI k)), some (.int (iI w)), none] [] 0
  refine vv_aload_n d_MO_cut_0 rfl ?_
  refine vv_iload_n d_MO_cut_1 rfl ?_
  refine vv_iload_n d_MO_cut_2 rfl ?_
  refine vv_bipush d_MO_cut_3 (by decide +kernel) ?_
  refine vv_nV hw (wc := [ob_MO m q K S le cd nS nP rn dn]) (wr := [ar_I (q 23) cI 20 of, ar_I (q 27) cI 20 tc, ar_I (q 28) cI 20 ta, ar_I (q 25) cI 20 cc, ar_I (q 24) cI 20 fw, ar_I (q 26) cI 20 mi, ar_I (q 29) cI 20 rc, ar_I (q 30) cI 20 nc, ar_I (q 31) cI 12000 no]) [] (c_MO_look (cx_l X) (cx_D X) m q K S le cd nS nP rn dn k w 7 h_k h_w (by omega) hdn hrn) lk_MO_159 d_MO_cut_5 rfl (rc_at 0 rfl rfl rfl) [0] [1, 2, 3, 4, 5, 6, 7, 8, 9] ⟨rfl, rfl⟩ ⟨rfl, rfl, by decide⟩ [] rfl ⟨⟨by decide, by decide⟩, ⟨by decide, by decide⟩, Nat.le_of_ble_eq_true rfl⟩ ⟨rfl, rfl⟩ ?_
  rintro v w1 p1 t1 ⟨rfl, rfl, rfl⟩
  dsimp only [Option.toList, List.cons_append, List.nil_append, List.append_nil]
  rw [hlc]
  refine vv_sub (ws' := [ob_MO m q K S le 0 nS nP rn dn, ar_I (q 23) cI 20 of, ar_I (q 27) cI 20 tc, ar_I (q 28) cI 20 ta, ar_I (q 25) cI 20 cc, ar_I (q 24) cI 20 fw, ar_I (q 26) cI 20 mi, ar_I (q 29) cI 20 rc, ar_I (q 30) cI 20 nc, ar_I (q 31) cI 12000 no]) [9, 0, 1, 2, 3, 4, 5, 6, 7, 8] rfl rfl ?_
  refine vv_aload_n d_MO_cut_8 rfl ?_
  refine vv_get d_MO_cut_9 0 rfl fl_MO_99 rfl ?_
  refine vv_if_le (tgt := 17) d_MO_cut_12 (by decide) (by omega) (fun c12 => ?_) (fun c12 => ?_)
  · skip
    refine vv_iload_n d_MO_cut_17 rfl ?_
    have hc7 : w = 0 ∨ w = 1 ∨ w = 2 ∨ w = 3 ∨ w = 4 ∨ w = 5 ∨ w = 6 := by omega
    rcases hc7 with rfl | rfl | rfl | rfl | rfl | rfl | rfl
    · refine vv_tabIn (tgt := 60) d_MO_cut_18 (by decide +kernel) (by decide +kernel) (show _ = some 42 by decide +kernel) (by decide) ?_
      refine vv_aload_n d_MO_cut_60 rfl ?_
      refine vv_get d_MO_cut_61 0 rfl fl_MO_56 rfl ?_
      refine vv_iload_n d_MO_cut_64 rfl ?_
      refine vv_iald d_MO_cut_65 1 0 rfl rfl (by omega) ?_
      exact vv_iret hA hw hr d_MO_cut_66 (by decide) (by decide) ⟨rfl, rfl, rfl⟩
    · refine vv_tabIn (tgt := 67) d_MO_cut_18 (by decide +kernel) (by decide +kernel) (show _ = some 49 by decide +kernel) (by decide) ?_
      refine vv_aload_n d_MO_cut_67 rfl ?_
      refine vv_get d_MO_cut_68 0 rfl fl_MO_68 rfl ?_
      refine vv_iload_n d_MO_cut_71 rfl ?_
      refine vv_iald d_MO_cut_72 2 0 rfl rfl (by omega) ?_
      exact vv_iret hA hw hr d_MO_cut_73 (by decide) (by decide) ⟨rfl, rfl, rfl⟩
    · refine vv_tabIn (tgt := 74) d_MO_cut_18 (by decide +kernel) (by decide +kernel) (show _ = some 56 by decide +kernel) (by decide) ?_
      refine vv_aload_n d_MO_cut_74 rfl ?_
      refine vv_get d_MO_cut_75 0 rfl fl_MO_71 rfl ?_
      refine vv_iload_n d_MO_cut_78 rfl ?_
      refine vv_iald d_MO_cut_79 3 0 rfl rfl (by omega) ?_
      exact vv_iret hA hw hr d_MO_cut_80 (by decide) (by decide) ⟨rfl, rfl, rfl⟩
    · refine vv_tabIn (tgt := 81) d_MO_cut_18 (by decide +kernel) (by decide +kernel) (show _ = some 63 by decide +kernel) (by decide) ?_
      refine vv_aload_n d_MO_cut_81 rfl ?_
      refine vv_get d_MO_cut_82 0 rfl fl_MO_62 rfl ?_
      refine vv_iload_n d_MO_cut_85 rfl ?_
      refine vv_iald d_MO_cut_86 4 0 rfl rfl (by omega) ?_
      exact vv_iret hA hw hr d_MO_cut_87 (by decide) (by decide) ⟨rfl, rfl, rfl⟩
    · refine vv_tabIn (tgt := 88) d_MO_cut_18 (by decide +kernel) (by decide +kernel) (show _ = some 70 by decide +kernel) (by decide) ?_
      refine vv_aload_n d_MO_cut_88 rfl ?_
      refine vv_get d_MO_cut_89 0 rfl fl_MO_59 rfl ?_
      refine vv_iload_n d_MO_cut_92 rfl ?_
      refine vv_iald d_MO_cut_93 5 0 rfl rfl (by omega) ?_
      exact vv_iret hA hw hr d_MO_cut_94 (by decide) (by decide) ⟨rfl, rfl, rfl⟩
    · refine vv_tabIn (tgt := 95) d_MO_cut_18 (by decide +kernel) (by decide +kernel) (show _ = some 77 by decide +kernel) (by decide) ?_
      refine vv_aload_n d_MO_cut_95 rfl ?_
      refine vv_get d_MO_cut_96 0 rfl fl_MO_65 rfl ?_
      refine vv_iload_n d_MO_cut_99 rfl ?_
      refine vv_iald d_MO_cut_100 6 0 rfl rfl (by omega) ?_
      exact vv_iret hA hw hr d_MO_cut_101 (by decide) (by decide) ⟨rfl, rfl, rfl⟩
    · refine vv_tabIn (tgt := 102) d_MO_cut_18 (by decide +kernel) (by decide +kernel) (show _ = some 84 by decide +kernel) (by decide) ?_
      refine vv_aload_n d_MO_cut_102 rfl ?_
      refine vv_get d_MO_cut_103 0 rfl fl_MO_74 rfl ?_
      refine vv_iload_n d_MO_cut_106 rfl ?_
      refine vv_iald d_MO_cut_107 7 0 rfl rfl (by omega) ?_
      exact vv_iret hA hw hr d_MO_cut_108 (by decide) (by decide) ⟨rfl, rfl, rfl⟩
  · exfalso; omega
set_option maxHeartbeats 4000000 in
set_option maxRecDepth 100000 in
theorem c_MO_cut_f (l : Launch) (D : va_G) (m : Nat) (q : Nat → Nat) (K S le cd nS nP rn dn : Int) (cI : ClassId) (of tc ta cc fw mi rc nc no : Nat → Int) (k w : Int) (h_k : -2147483648 ≤ k ∧ k < 2147483648) (h_w : -2147483648 ≤ w ∧ w < 2147483648) (hdn : 0 ≤ dn ∧ dn ≤ 20) (hrn : rn = 0 ∨ rn = 1) (hlc : lkc rn dn k w 7 = 0) (hk : 0 ≤ k ∧ k < 20) (hw7 : w = 7) (hof : ∀ i : Nat, i < 20 → 0 ≤ of i ∧ of i < 4) (hnc : ∀ i : Nat, i < 20 → 0 ≤ nc i ∧ nc i ≤ 600) (hfw : ∀ i : Nat, i < 20 → 0 ≤ fw i ∧ fw i ≤ 1) (hno : ∀ i : Nat, i < 12000 → -1 ≤ no i ∧ no i ≤ 100) : CM l y_MO_cut b_MO_cut 4 (some .int) rm_2 [.ref m, .int (iI k), .int (iI w)] D [(cI, .int)] ([ob_MO m q K S le cd nS nP rn dn, ar_I (q 23) cI 20 of, ar_I (q 27) cI 20 tc, ar_I (q 28) cI 20 ta, ar_I (q 25) cI 20 cc, ar_I (q 24) cI 20 fw, ar_I (q 26) cI 20 mi, ar_I (q 29) cI 20 rc, ar_I (q 30) cI 20 nc, ar_I (q 31) cI 12000 no] ++ []) (fun r w1 p1 _ => (∃ f : Nat, r = some (.int (iI (f : Int))) ∧ (f : Int) ≤ k ∧ iaP of nc fw no (f : Int) k ∧ ∀ j : Nat, j < f → ¬ iaP of nc fw no (j : Int) k) ∧ w1 = [ob_MO m q K S le 0 nS nP rn dn, ar_I (q 23) cI 20 of, ar_I (q 27) cI 20 tc, ar_I (q 28) cI 20 ta, ar_I (q 25) cI 20 cc, ar_I (q 24) cI 20 fw, ar_I (q 26) cI 20 mi, ar_I (q 29) cI 20 rc, ar_I (q 30) cI 20 nc, ar_I (q 31) cI 12000 no] ∧ p1 = []) := by
  refine cm_of (by decide) (Nat.le_of_ble_eq_true rfl) ?_
  intro X sz hl hr hnm hD hA hw
  subst hD
  have hself : iaP of nc fw no k k := ⟨⟨rfl, rfl, rfl⟩, fun _ _ => rfl⟩
  have loop : ∀ n f : Nat, f + n = k.toNat → (∀ j : Nat, j < f → ¬ iaP of nc fw no (j : Int) k) → VV X (b_MO_cut, 4, "SheetTreesModel", rm_2) (cq X ([ob_MO m q K S le cd nS nP rn dn, ar_I (q 23) cI 20 of, ar_I (q 27) cI 20 tc, ar_I (q 28) cI 20 ta, ar_I (q 25) cI 20 cc, ar_I (q 24) cI 20 fw, ar_I (q 26) cI 20 mi, ar_I (q 29) cI 20 rc, ar_I (q 30) cI 20 nc, ar_I (q 31) cI 12000 no] ++ []) sz (fun r w1 p1 _ => (∃ f : Nat, r = some (.int (iI (f : Int))) ∧ (f : Int) ≤ k ∧ iaP of nc fw no (f : Int) k ∧ ∀ j : Nat, j < f → ¬ iaP of nc fw no (j : Int) k) ∧ w1 = [ob_MO m q K S le 0 nS nP rn dn, ar_I (q 23) cI 20 of, ar_I (q 27) cI 20 tc, ar_I (q 28) cI 20 ta, ar_I (q 25) cI 20 cc, ar_I (q 24) cI 20 fw, ar_I (q 26) cI 20 mi, ar_I (q 29) cI 20 rc, ar_I (q 30) cI 20 nc, ar_I (q 31) cI 12000 no] ∧ p1 = []) rm_2) 0 0 [(cI, .int)] [ob_MO m q K S le 0 nS nP rn dn, ar_I (q 23) cI 20 of, ar_I (q 27) cI 20 tc, ar_I (q 28) cI 20 ta, ar_I (q 25) cI 20 cc, ar_I (q 24) cI 20 fw, ar_I (q 26) cI 20 mi, ar_I (q 29) cI 20 rc, ar_I (q 30) cI 20 nc, ar_I (q 31) cI 12000 no] [] [some (.ref m), some (.int (iI k)), some (.int (iI w)), some (.int (iI (f : Int)))] [] 111 := by
    intro n
    induction n with
    | zero =>
      intro f hf hj
      have ef : (f : Int) = k := by omega
      refine vv_aload_n d_MO_cut_111 rfl ?_
      refine vv_iload_n d_MO_cut_112 rfl ?_
      refine vv_iload_n d_MO_cut_113 rfl ?_
      refine vv_pV (wc := [ob_MO m q K S le 0 nS nP rn dn, ar_I (q 23) cI 20 of, ar_I (q 30) cI 20 nc, ar_I (q 24) cI 20 fw, ar_I (q 31) cI 12000 no]) (plc := []) [] (c_MO_isAlike (cx_l X) (cx_D X) m q K S le 0 nS nP rn dn cI of nc fw no (f : Int) k (by omega) hk hof hnc hfw hno) lk_MO_163 d_MO_cut_114 rfl (rc_at 0 rfl rfl rfl) [0, 1, 8, 5, 9] ⟨rfl, rfl, Or.inl rfl⟩ [0] rfl ⟨⟨by decide, by decide⟩, ⟨by decide, by decide⟩, Nat.le_of_ble_eq_true rfl⟩ ⟨rfl, rfl⟩ ?_
      rintro v ⟨z, rfl, hz⟩
      dsimp only [Option.toList, List.cons_append, List.nil_append, List.append_nil]
      refine vv_if_ne (tgt := 126) d_MO_cut_117 (by decide) (by omega) (fun c117 => ?_) (fun c117 => ?_)
      · skip
        refine vv_iload_n d_MO_cut_126 rfl ?_
        exact vv_iret hA hw hr d_MO_cut_127 (by decide) (by decide) ⟨⟨f, rfl, by omega, by rw [ef]; exact hself, hj⟩, rfl, rfl⟩
      · exfalso
        rw [ef] at hz
        rcases hz with hz | hz
        · omega
        · exact hz.2 hself
    | succ n ih =>
      intro f hf hj
      refine vv_aload_n d_MO_cut_111 rfl ?_
      refine vv_iload_n d_MO_cut_112 rfl ?_
      refine vv_iload_n d_MO_cut_113 rfl ?_
      refine vv_pV (wc := [ob_MO m q K S le 0 nS nP rn dn, ar_I (q 23) cI 20 of, ar_I (q 30) cI 20 nc, ar_I (q 24) cI 20 fw, ar_I (q 31) cI 12000 no]) (plc := []) [] (c_MO_isAlike (cx_l X) (cx_D X) m q K S le 0 nS nP rn dn cI of nc fw no (f : Int) k (by omega) hk hof hnc hfw hno) lk_MO_163 d_MO_cut_114 rfl (rc_at 0 rfl rfl rfl) [0, 1, 8, 5, 9] ⟨rfl, rfl, Or.inl rfl⟩ [0] rfl ⟨⟨by decide, by decide⟩, ⟨by decide, by decide⟩, Nat.le_of_ble_eq_true rfl⟩ ⟨rfl, rfl⟩ ?_
      rintro v ⟨z, rfl, hz⟩
      dsimp only [Option.toList, List.cons_append, List.nil_append, List.append_nil]
      refine vv_if_ne (tgt := 126) d_MO_cut_117 (by decide) (by omega) (fun c117 => ?_) (fun c117 => ?_)
      · skip
        refine vv_iload_n d_MO_cut_126 rfl ?_
        exact vv_iret hA hw hr d_MO_cut_127 (by decide) (by decide) ⟨⟨f, rfl, by omega, (hz.resolve_right (by omega)).2, hj⟩, rfl, rfl⟩
      · skip
        refine vv_iinc d_MO_cut_120 rfl rfl (by decide) ?_
        dsimp only [List.set]
        refine vv_goto (tgt := 111) d_MO_cut_123 (by decide) ?_
        refine ih (f + 1) (by omega) (fun j hj2 => ?_)
        by_cases ej : j = f
        · subst ej
          exact (hz.resolve_left (by omega)).2
        · exact hj j (by omega)
  show VV X (b_MO_cut, 4, "SheetTreesModel", rm_2) _ 0 0 [(cI, .int)] [ob_MO m q K S le cd nS nP rn dn, ar_I (q 23) cI 20 of, ar_I (q 27) cI 20 tc, ar_I (q 28) cI 20 ta, ar_I (q 25) cI 20 cc, ar_I (q 24) cI 20 fw, ar_I (q 26) cI 20 mi, ar_I (q 29) cI 20 rc, ar_I (q 30) cI 20 nc, ar_I (q 31) cI 12000 no] [] [some (.ref m), some (.int (iI k)), some (.int (iI w)), none] [] 0
  refine vv_aload_n d_MO_cut_0 rfl ?_
  refine vv_iload_n d_MO_cut_1 rfl ?_
  refine vv_iload_n d_MO_cut_2 rfl ?_
  refine vv_bipush d_MO_cut_3 (by decide +kernel) ?_
  refine vv_nV hw (wc := [ob_MO m q K S le cd nS nP rn dn]) (wr := [ar_I (q 23) cI 20 of, ar_I (q 27) cI 20 tc, ar_I (q 28) cI 20 ta, ar_I (q 25) cI 20 cc, ar_I (q 24) cI 20 fw, ar_I (q 26) cI 20 mi, ar_I (q 29) cI 20 rc, ar_I (q 30) cI 20 nc, ar_I (q 31) cI 12000 no]) [] (c_MO_look (cx_l X) (cx_D X) m q K S le cd nS nP rn dn k w 7 h_k h_w (by omega) hdn hrn) lk_MO_159 d_MO_cut_5 rfl (rc_at 0 rfl rfl rfl) [0] [1, 2, 3, 4, 5, 6, 7, 8, 9] ⟨rfl, rfl⟩ ⟨rfl, rfl, by decide⟩ [] rfl ⟨⟨by decide, by decide⟩, ⟨by decide, by decide⟩, Nat.le_of_ble_eq_true rfl⟩ ⟨rfl, rfl⟩ ?_
  rintro v w1 p1 t1 ⟨rfl, rfl, rfl⟩
  dsimp only [Option.toList, List.cons_append, List.nil_append, List.append_nil]
  rw [hlc]
  refine vv_sub (ws' := [ob_MO m q K S le 0 nS nP rn dn, ar_I (q 23) cI 20 of, ar_I (q 27) cI 20 tc, ar_I (q 28) cI 20 ta, ar_I (q 25) cI 20 cc, ar_I (q 24) cI 20 fw, ar_I (q 26) cI 20 mi, ar_I (q 29) cI 20 rc, ar_I (q 30) cI 20 nc, ar_I (q 31) cI 12000 no]) [9, 0, 1, 2, 3, 4, 5, 6, 7, 8] rfl rfl ?_
  refine vv_aload_n d_MO_cut_8 rfl ?_
  refine vv_get d_MO_cut_9 0 rfl fl_MO_99 rfl ?_
  refine vv_if_le (tgt := 17) d_MO_cut_12 (by decide) (by omega) (fun c12 => ?_) (fun c12 => ?_)
  · skip
    refine vv_iload_n d_MO_cut_17 rfl ?_
    subst hw7
    refine vv_tabOut (tgt := 109) d_MO_cut_18 (by decide +kernel) (by decide) ?_
    refine vv_iconst d_MO_cut_109 ?_
    refine vv_istore_n d_MO_cut_110 rfl (by decide) ?_
    dsimp only [List.set]
    exact loop k.toNat 0 (by omega) (fun j hj => by omega)
  · exfalso; omega
