set_option maxHeartbeats 4000000 in
set_option maxRecDepth 100000 in
theorem law_rest {X : cx_T} {Q : State → Prop} {RL : Room} {k n : Nat} {a q : Nat → Nat} {c : Nat → ClassId} {fS fP fC : Nat → Option Nat} {N : Nat} {g : Nat → Int} {K : Int} {S : Nat} {le : Int} {L : List Nat} {aS aP aC : Nat → Nat} {i : Int} (hw : cx_w X) (hfl : (cx_l X).flags = flags0) (hx : lx X (a 12) N g) (hF : 12 ≤ RL.frames ∧ 700 ≤ RL.locals) (hc : k + 1 ≤ RL.cells ∧ n + 6 ≤ RL.slots) (hK : 0 ≤ K ∧ K ≤ 3) (hS : 1 ≤ S ∧ S ≤ 3) (hle : 1 ≤ le ∧ le ≤ 16) (hAD : AD aS aP aC) (hfS : ∀ i : Nat, i < 4 → fS i = some (aS i)) (hfP : ∀ i : Nat, i < 8 → fP i = some (aP i)) (hfC : ∀ i : Nat, i < 20 → fC i = some (aC i)) (hN : N < 2147483648) (hg : ∀ j : Nat, -2147483648 ≤ g j ∧ g j < 2147483648) (hi : 3 ≤ i ∧ i + 5 ≤ (N : Int)) {nS nP nC : Nat} {rn : Int} {u : RS} {sw sh ce sk pw ph co tu : Nat → Int} {r : mr_T} {cd : Int} {gj : Nat → Int64} {f : Nat → va_E} {v5 v6 v7 : Option Value} (hL : LR K S nS nP nC rn u sw sh ce sk pw ph co tu r) (hPL : PL L f aS aP aC u.Sh u.R u.Cs) (kk : (∀ (nS nP nC : Nat) (rn : Int) (u : RS) (sw sh ce sk pw ph co tu : Nat → Int) (r : mr_T) (cd : Int) (gj : Nat → Int64) (f : Nat → va_E) (v5 v6 v7 : Option Value), LR K S nS nP nC rn u sw sh ce sk pw ph co tu r → PL L f aS aP aC u.Sh u.R u.Cs → VV X (code, 8, "SheetTreesLaw", RL) Q (k + 1) (n + 6) (LTY c) (LWS a q c fS fP fC K S le nS nP nC rn u sw sh ce sk pw ph co tu nS nP nC rn r cd gj) (va_pl L f) [some (.ref (a 12)), some (.ref (a 0)), some (.ref (a 14)), some (.ref (a 13)), some (.int (iI i)), v5, v6, v7] [] 853)) : VV X (code, 8, "SheetTreesLaw", RL) Q k n (LTY c) (LWS a q c fS fP fC K S le nS nP nC rn u sw sh ce sk pw ph co tu nS nP nC rn r cd gj) (va_pl L f) [some (.ref (a 12)), some (.ref (a 0)), some (.ref (a 14)), some (.ref (a 13)), some (.int (iI i)), v5, v6, v7] [] 649 := by
  have hl1 := hL.1
  have b1 := hg (i + 1).toNat
  generalize e1 : g (i + 1).toNat = p1 at b1
  have b2 := hg (i + 2).toNat
  generalize e2 : g (i + 2).toNat = p2 at b2
  have b3 := hg (i + 3).toNat
  generalize e3 : g (i + 3).toNat = p3 at b3
  have hz0 : k ≤ RL.cells ∧ n ≤ RL.slots := by omega
  rcases hl1.2.2.2 with hrn | hrn
  · subst hrn
    refine vv_aload_n d_LW_law_649 rfl ?_
    refine vv_aload_n d_LW_law_650 rfl ?_
    refine vv_iload d_LW_law_651 rfl ?_
    refine vv_iconst d_LW_law_653 ?_
    refine vv_iadd d_LW_law_654 ?_
    refine vv_sld ⟨hx.2.2.1, hx.2.2.2, hx.2.1⟩ d_LW_law_655 ⟨by omega, by omega, hN⟩ ?_
    rw [e1]
    refine vv_aload_n d_LW_law_656 rfl ?_
    refine vv_iload d_LW_law_657 rfl ?_
    refine vv_iconst d_LW_law_659 ?_
    refine vv_iadd d_LW_law_660 ?_
    refine vv_sld ⟨hx.2.2.1, hx.2.2.2, hx.2.1⟩ d_LW_law_661 ⟨by omega, by omega, hN⟩ ?_
    rw [e2]
    refine vv_aload_n d_LW_law_662 rfl ?_
    refine vv_iload d_LW_law_663 rfl ?_
    refine vv_iconst d_LW_law_665 ?_
    refine vv_iadd d_LW_law_666 ?_
    refine vv_sld ⟨hx.2.2.1, hx.2.2.2, hx.2.1⟩ d_LW_law_667 ⟨by omega, by omega, hN⟩ ?_
    rw [e3]
    refine vv_aload_n d_LW_law_668 rfl ?_
    refine vv_pSW hx (wc := [ob_ST (a 0) (a 1) (a 2) (a 3) (a 4) (a 5) (a 6) (a 7) (S : Int) le ((nS : Nat) : Int) ((nP : Nat) : Int) ((nC : Nat) : Int) (RS.nT u) (RS.nR u) 0, ar_Q (a 3) (c 3) 20 fC]) (plc := []) [] (w_rest_n1 (cx_l X) (cx_D X) (a 0) (a 1) (a 2) (a 3) (a 4) (a 5) (a 6) (a 7) nC (S : Int) le (nS : Int) (nP : Int) u.nT u.nR p1 p2 p3 (c 3) fC hfl (a 13)) lk_LW_90 d_LW_law_669 rfl [0, 3] ⟨rfl, rfl, Or.inl rfl⟩ [3] rfl (rm_l hF hc ⟨by decide, by decide, by decide, by decide⟩ (Nat.le_of_ble_eq_true rfl)) ?_
    intro v hv
    subst hv
    dsimp only [Option.toList, List.cons_append, List.nil_append, List.append_nil]
    have hz1 : k + 1 ≤ RL.cells ∧ n + 6 ≤ RL.slots := hc
    refine vv_istore d_LW_law_672 rfl (Nat.le_of_ble_eq_true rfl) ?_
    dsimp only [List.set]
    refine vv_aload_n d_LW_law_674 rfl ?_
    refine vv_aload_n d_LW_law_675 rfl ?_
    refine vv_iload d_LW_law_676 rfl ?_
    refine vv_iconst d_LW_law_678 ?_
    refine vv_iadd d_LW_law_679 ?_
    refine vv_sld ⟨hx.2.2.1, hx.2.2.2, hx.2.1⟩ d_LW_law_680 ⟨by omega, by omega, hN⟩ ?_
    rw [e1]
    refine vv_aload_n d_LW_law_681 rfl ?_
    refine vv_iload d_LW_law_682 rfl ?_
    refine vv_iconst d_LW_law_684 ?_
    refine vv_iadd d_LW_law_685 ?_
    refine vv_sld ⟨hx.2.2.1, hx.2.2.2, hx.2.1⟩ d_LW_law_686 ⟨by omega, by omega, hN⟩ ?_
    rw [e2]
    refine vv_aload_n d_LW_law_687 rfl ?_
    refine vv_iload d_LW_law_688 rfl ?_
    refine vv_iconst d_LW_law_690 ?_
    refine vv_iadd d_LW_law_691 ?_
    refine vv_sld ⟨hx.2.2.1, hx.2.2.2, hx.2.1⟩ d_LW_law_692 ⟨by omega, by omega, hN⟩ ?_
    rw [e3]
    refine vv_nV hw (wc := [ob_MO (a 14) q K (S : Int) le cd ((nS : Nat) : Int) ((nP : Nat) : Int) 0 ((nC : Nat) : Int)]) (wr := [ob_ST (a 0) (a 1) (a 2) (a 3) (a 4) (a 5) (a 6) (a 7) (S : Int) le ((nS : Nat) : Int) ((nP : Nat) : Int) ((nC : Nat) : Int) (RS.nT u) (RS.nR u) 0, ar_Q (a 1) (c 1) 4 fS, ar_Q (a 2) (c 2) 8 fP, ar_Q (a 3) (c 3) 20 fC, ar_I (a 4) (c 0) 400 (RS.tk u), ar_I (a 5) (c 0) 5120 (RS.rs u), ob_TB (a 6) (a 10) (a 11) K (RS.W u) (RS.F u), ar_I (a 10) (c 0) 2312 (RS.T u).1, ar_I (a 11) (c 0) 2312 (RS.T u).2, ob_LY (a 7) (a 6) (a 8) (a 9) (RS.way u) (RS.st u), ar_I (a 8) (c 0) 256 (RS.st u).2.2.2.1, ar_I (a 9) (c 0) 8 (RS.st u).2.2.2.2, ar_I (q 5) (c 0) 4 (sw), ar_I (q 6) (c 0) 4 (sh), ar_I (q 7) (c 0) 4 (ce), ar_I (q 8) (c 0) 4 (sk), ar_I (q 10) (c 0) 8 (pw), ar_I (q 11) (c 0) 8 (ph), ar_I (q 12) (c 0) 8 (co), ar_I (q 13) (c 4) 8 (tu), ar_I (q 14) (c 0) 8 (r.1), ar_I (q 15) (c 0) 4 (r.2.1), ar_I (q 16) (c 0) 8 (mw_T.st r.2.2.2.2.1), ar_I (q 17) (c 0) 2312 (r.2.2.2.2.2.1), ar_I (q 18) (c 0) 2312 (r.2.2.2.2.2.2.1), ar_I (q 19) (c 0) 2312 (r.2.2.2.2.2.2.2), ar_I (q 20) (c 0) 3600 (mw_T.wt r.2.2.2.2.1), ar_I (q 23) (c 0) 20 (r.2.2.1), ar_I (q 24) (c 0) 20 (r.2.2.2.1), ar_I (q 25) (c 0) 20 (mw_T.cc r.2.2.2.2.1), ar_I (q 26) (c 0) 20 (mw_T.mi r.2.2.2.2.1), ar_I (q 27) (c 0) 20 (mw_T.tc r.2.2.2.2.1), ar_I (q 28) (c 0) 20 (mw_T.ta r.2.2.2.2.1), ar_I (q 29) (c 0) 20 (mw_T.rc r.2.2.2.2.1), ar_I (q 30) (c 0) 20 (mw_T.nc r.2.2.2.2.1), ar_I (q 31) (c 0) 12000 (mw_T.no r.2.2.2.2.1), ar_I (q 32) (c 0) 25600 (mw_T.tk r.2.2.2.2.1), ar_I (q 33) (c 0) 20480 (mw_T.rs r.2.2.2.2.1), ar_J (a 13) (c 5) 1 (gj)]) [] (c_MO_rest_n1 (cx_l X) (cx_D X) (a 14) q K (S : Int) le cd (nS : Int) (nP : Int) 0 (nC : Int) p1 p2 p3 1 b1 b2 b3 (by omega) (by omega) (by omega) (by unfold lkc; rw [if_pos rfl])) lk_LW_92 d_LW_law_693 rfl (rc_at 12 rfl rfl rfl) [12] [0, 1, 2, 3, 4, 5, 6, 7, 8, 9, 10, 11, 13, 14, 15, 16, 17, 18, 19, 20, 21, 22, 23, 24, 25, 26, 27, 28, 29, 30, 31, 32, 33, 34, 35, 36, 37, 38, 39] ⟨rfl, rfl⟩ ⟨rfl, rfl, by decide⟩ [] rfl (rm_z hF (by assumption) ⟨by decide, by decide, rfl, rfl⟩ (Nat.le_of_ble_eq_true rfl)) ⟨rfl, rfl⟩ ?_
    rintro v w1 p1 t1 ⟨rfl, rfl, rfl⟩
    dsimp only [Option.toList, List.cons_append, List.nil_append, List.append_nil]
    refine vv_sub (ws' := (LWS a q c fS fP fC K S le nS nP nC 0 u sw sh ce sk pw ph co tu nS nP nC 0 r 1 gj)) [0, 1, 2, 3, 4, 5, 6, 7, 8, 9, 10, 11, 39, 12, 13, 14, 15, 16, 17, 18, 19, 20, 21, 22, 23, 24, 25, 26, 27, 28, 29, 30, 31, 32, 33, 34, 35, 36, 37, 38] rfl rfl ?_
    refine vv_istore d_LW_law_696 rfl (Nat.le_of_ble_eq_true rfl) ?_
    dsimp only [List.set]
    refine vv_aload_n d_LW_law_698 rfl ?_
    refine vv_pV (wc := [ob_MO (a 14) q K (S : Int) le 1 ((nS : Nat) : Int) ((nP : Nat) : Int) 0 ((nC : Nat) : Int)]) (plc := []) [] (c_MO_thrown (cx_l X) (cx_D X) (a 14) q K (S : Int) le 1 ((nS : Nat) : Int) ((nP : Nat) : Int) 0 ((nC : Nat) : Int)) lk_LW_64 d_LW_law_699 rfl (rc_at 12 rfl rfl rfl) [12] ⟨rfl, rfl, Or.inl rfl⟩ [] rfl (rm_z hF (by assumption) ⟨by decide, by decide, rfl, rfl⟩ (Nat.le_of_ble_eq_true rfl)) ⟨rfl, rfl⟩ ?_
    intro v hv
    subst hv
    dsimp only [Option.toList, List.cons_append, List.nil_append, List.append_nil]
    refine vv_iload d_LW_law_702 rfl ?_
    refine vv_icmp_eq (tgt := 709) d_LW_law_704 (by decide) ⟨by omega, by omega⟩ (fun c704 => ?_) (fun c704 => ?_)
    · skip
      refine vv_iload d_LW_law_709 rfl ?_
      refine vv_if_ne (tgt := 726) d_LW_law_711 (by decide) (by omega) (fun c711 => ?_) (fun c711 => ?_)
      · skip
        refine vv_goto (tgt := 853) d_LW_law_726 (by decide) ?_
        exact vv_widen (by first | exact Nat.le_refl _ | omega) (by first | exact Nat.le_refl _ | omega) (kk (nS) (nP) (nC) (0) (u) (sw) (sh) (ce) (sk) (pw) (ph) (co) (tu) (r) (1) (gj) f _ _ _ (hL) (hPL))
      · exfalso; omega
    · exfalso; omega
  · subst hrn
    by_cases h1 : 0 ≤ p1 ∧ p1 < (nC : Int)
    · obtain ⟨j, rfl⟩ : ∃ j : Nat, p1 = (j : Int) := ⟨p1.toNat, by omega⟩
      have htc := LR_tc hL (show j < nC by omega)
      by_cases h2 : 0 ≤ p3 ∧ p3 ≤ 3
      · by_cases h3 : 0 ≤ p2 ∧ p2 < r.2.2.2.2.1.rc j
        · have hy9 := LR_rest hL (show j < nC by omega) h3 h2
          refine vv_aload_n d_LW_law_649 rfl ?_
          refine vv_aload_n d_LW_law_650 rfl ?_
          refine vv_iload d_LW_law_651 rfl ?_
          refine vv_iconst d_LW_law_653 ?_
          refine vv_iadd d_LW_law_654 ?_
          refine vv_sld ⟨hx.2.2.1, hx.2.2.2, hx.2.1⟩ d_LW_law_655 ⟨by omega, by omega, hN⟩ ?_
          rw [e1]
          refine vv_aload_n d_LW_law_656 rfl ?_
          refine vv_iload d_LW_law_657 rfl ?_
          refine vv_iconst d_LW_law_659 ?_
          refine vv_iadd d_LW_law_660 ?_
          refine vv_sld ⟨hx.2.2.1, hx.2.2.2, hx.2.1⟩ d_LW_law_661 ⟨by omega, by omega, hN⟩ ?_
          rw [e2]
          refine vv_aload_n d_LW_law_662 rfl ?_
          refine vv_iload d_LW_law_663 rfl ?_
          refine vv_iconst d_LW_law_665 ?_
          refine vv_iadd d_LW_law_666 ?_
          refine vv_sld ⟨hx.2.2.1, hx.2.2.2, hx.2.1⟩ d_LW_law_667 ⟨by omega, by omega, hN⟩ ?_
          rw [e3]
          refine vv_aload_n d_LW_law_668 rfl ?_
          refine vv_mSW hw (wc := [ar_J (a 13) (c 5) 1 (gj), ob_ST (a 0) (a 1) (a 2) (a 3) (a 4) (a 5) (a 6) (a 7) (S : Int) le ((nS : Nat) : Int) ((nP : Nat) : Int) ((nC : Nat) : Int) (RS.nT u) (RS.nR u) 1, ar_Q (a 3) (c 3) 20 fC, ar_I (a 5) (c 0) 5120 (RS.rs u)]) (wr := [ar_Q (a 1) (c 1) 4 fS, ar_Q (a 2) (c 2) 8 fP, ar_I (a 4) (c 0) 400 (RS.tk u), ob_TB (a 6) (a 10) (a 11) K (RS.W u) (RS.F u), ar_I (a 10) (c 0) 2312 (RS.T u).1, ar_I (a 11) (c 0) 2312 (RS.T u).2, ob_LY (a 7) (a 6) (a 8) (a 9) (RS.way u) (RS.st u), ar_I (a 8) (c 0) 256 (RS.st u).2.2.2.1, ar_I (a 9) (c 0) 8 (RS.st u).2.2.2.2, ob_MO (a 14) q K (S : Int) le cd ((nS : Nat) : Int) ((nP : Nat) : Int) 1 ((nC : Nat) : Int), ar_I (q 5) (c 0) 4 (sw), ar_I (q 6) (c 0) 4 (sh), ar_I (q 7) (c 0) 4 (ce), ar_I (q 8) (c 0) 4 (sk), ar_I (q 10) (c 0) 8 (pw), ar_I (q 11) (c 0) 8 (ph), ar_I (q 12) (c 0) 8 (co), ar_I (q 13) (c 4) 8 (tu), ar_I (q 14) (c 0) 8 (r.1), ar_I (q 15) (c 0) 4 (r.2.1), ar_I (q 16) (c 0) 8 (mw_T.st r.2.2.2.2.1), ar_I (q 17) (c 0) 2312 (r.2.2.2.2.2.1), ar_I (q 18) (c 0) 2312 (r.2.2.2.2.2.2.1), ar_I (q 19) (c 0) 2312 (r.2.2.2.2.2.2.2), ar_I (q 20) (c 0) 3600 (mw_T.wt r.2.2.2.2.1), ar_I (q 23) (c 0) 20 (r.2.2.1), ar_I (q 24) (c 0) 20 (r.2.2.2.1), ar_I (q 25) (c 0) 20 (mw_T.cc r.2.2.2.2.1), ar_I (q 26) (c 0) 20 (mw_T.mi r.2.2.2.2.1), ar_I (q 27) (c 0) 20 (mw_T.tc r.2.2.2.2.1), ar_I (q 28) (c 0) 20 (mw_T.ta r.2.2.2.2.1), ar_I (q 29) (c 0) 20 (mw_T.rc r.2.2.2.2.1), ar_I (q 30) (c 0) 20 (mw_T.nc r.2.2.2.2.1), ar_I (q 31) (c 0) 12000 (mw_T.no r.2.2.2.2.1), ar_I (q 32) (c 0) 25600 (mw_T.tk r.2.2.2.2.1), ar_I (q 33) (c 0) 20480 (mw_T.rs r.2.2.2.2.1)]) [] (w_rest_y (cx_l X) (cx_D X) (a 0) (a 1) (a 2) (a 3) (a 4) (a 5) (a 6) (a 7) nC j (S : Int) le (nS : Int) (nP : Int) u.nT u.nR p2 p3 (c 0) (c 3) u.rs fC L f aC u.Cs (by omega) (by omega) hfC hPL.2.2 (by omega) (by omega) (by omega) hy9.2.1 hy9.2.2 (a 13) (c 5) gj) lk_LW_90 d_LW_law_669 rfl [39, 0, 3, 5] [1, 2, 4, 6, 7, 8, 9, 10, 11, 12, 13, 14, 15, 16, 17, 18, 19, 20, 21, 22, 23, 24, 25, 26, 27, 28, 29, 30, 31, 32, 33, 34, 35, 36, 37, 38] ⟨rfl, rfl⟩ ⟨rfl, rfl, by decide⟩ [5, 0, 3] rfl (rm_l hF hc ⟨by decide, by decide, by decide, by decide⟩ (Nat.le_of_ble_eq_true rfl)) ⟨rfl, rfl⟩ ?_
          rintro v w1 p1 t1 ⟨rfl, rfl, rfl⟩
          dsimp only [Option.toList, List.cons_append, List.nil_append, List.append_nil]
          refine vv_sub (ws' := (LWS a q c fS fP fC K S le nS nP nC 1 u sw sh ce sk pw ph co tu nS nP nC 1 r cd (vp_updL gj 0 ((iI (pf_z (u.rs (u.Cs j 10 + p2).toNat) (1 + p3))).toInt64)))) [37, 0, 1, 38, 2, 39, 3, 4, 5, 6, 7, 8, 9, 10, 11, 12, 13, 14, 15, 16, 17, 18, 19, 20, 21, 22, 23, 24, 25, 26, 27, 28, 29, 30, 31, 32, 33, 34, 35, 36] rfl rfl ?_
          refine vv_istore d_LW_law_672 rfl (Nat.le_of_ble_eq_true rfl) ?_
          dsimp only [List.set]
          refine vv_aload_n d_LW_law_674 rfl ?_
          refine vv_aload_n d_LW_law_675 rfl ?_
          refine vv_iload d_LW_law_676 rfl ?_
          refine vv_iconst d_LW_law_678 ?_
          refine vv_iadd d_LW_law_679 ?_
          refine vv_sld ⟨hx.2.2.1, hx.2.2.2, hx.2.1⟩ d_LW_law_680 ⟨by omega, by omega, hN⟩ ?_
          rw [e1]
          refine vv_aload_n d_LW_law_681 rfl ?_
          refine vv_iload d_LW_law_682 rfl ?_
          refine vv_iconst d_LW_law_684 ?_
          refine vv_iadd d_LW_law_685 ?_
          refine vv_sld ⟨hx.2.2.1, hx.2.2.2, hx.2.1⟩ d_LW_law_686 ⟨by omega, by omega, hN⟩ ?_
          rw [e2]
          refine vv_aload_n d_LW_law_687 rfl ?_
          refine vv_iload d_LW_law_688 rfl ?_
          refine vv_iconst d_LW_law_690 ?_
          refine vv_iadd d_LW_law_691 ?_
          refine vv_sld ⟨hx.2.2.1, hx.2.2.2, hx.2.1⟩ d_LW_law_692 ⟨by omega, by omega, hN⟩ ?_
          rw [e3]
          refine vv_nV hw (wc := [ob_MO (a 14) q K (S : Int) le cd ((nS : Nat) : Int) ((nP : Nat) : Int) 1 ((nC : Nat) : Int), ar_I (q 29) (c 0) 20 (mw_T.rc r.2.2.2.2.1), ar_I (q 33) (c 0) 20480 (mw_T.rs r.2.2.2.2.1)]) (wr := [ob_ST (a 0) (a 1) (a 2) (a 3) (a 4) (a 5) (a 6) (a 7) (S : Int) le ((nS : Nat) : Int) ((nP : Nat) : Int) ((nC : Nat) : Int) (RS.nT u) (RS.nR u) 1, ar_Q (a 1) (c 1) 4 fS, ar_Q (a 2) (c 2) 8 fP, ar_Q (a 3) (c 3) 20 fC, ar_I (a 4) (c 0) 400 (RS.tk u), ar_I (a 5) (c 0) 5120 (RS.rs u), ob_TB (a 6) (a 10) (a 11) K (RS.W u) (RS.F u), ar_I (a 10) (c 0) 2312 (RS.T u).1, ar_I (a 11) (c 0) 2312 (RS.T u).2, ob_LY (a 7) (a 6) (a 8) (a 9) (RS.way u) (RS.st u), ar_I (a 8) (c 0) 256 (RS.st u).2.2.2.1, ar_I (a 9) (c 0) 8 (RS.st u).2.2.2.2, ar_I (q 5) (c 0) 4 (sw), ar_I (q 6) (c 0) 4 (sh), ar_I (q 7) (c 0) 4 (ce), ar_I (q 8) (c 0) 4 (sk), ar_I (q 10) (c 0) 8 (pw), ar_I (q 11) (c 0) 8 (ph), ar_I (q 12) (c 0) 8 (co), ar_I (q 13) (c 4) 8 (tu), ar_I (q 14) (c 0) 8 (r.1), ar_I (q 15) (c 0) 4 (r.2.1), ar_I (q 16) (c 0) 8 (mw_T.st r.2.2.2.2.1), ar_I (q 17) (c 0) 2312 (r.2.2.2.2.2.1), ar_I (q 18) (c 0) 2312 (r.2.2.2.2.2.2.1), ar_I (q 19) (c 0) 2312 (r.2.2.2.2.2.2.2), ar_I (q 20) (c 0) 3600 (mw_T.wt r.2.2.2.2.1), ar_I (q 23) (c 0) 20 (r.2.2.1), ar_I (q 24) (c 0) 20 (r.2.2.2.1), ar_I (q 25) (c 0) 20 (mw_T.cc r.2.2.2.2.1), ar_I (q 26) (c 0) 20 (mw_T.mi r.2.2.2.2.1), ar_I (q 27) (c 0) 20 (mw_T.tc r.2.2.2.2.1), ar_I (q 28) (c 0) 20 (mw_T.ta r.2.2.2.2.1), ar_I (q 30) (c 0) 20 (mw_T.nc r.2.2.2.2.1), ar_I (q 31) (c 0) 12000 (mw_T.no r.2.2.2.2.1), ar_I (q 32) (c 0) 25600 (mw_T.tk r.2.2.2.2.1), ar_J (a 13) (c 5) 1 (vp_updL gj 0 ((iI (pf_z (u.rs (u.Cs j 10 + p2).toNat) (1 + p3))).toInt64))]) [] (c_MO_rest_y (cx_l X) (cx_D X) (a 14) q K (S : Int) le cd (nS : Int) (nP : Int) 1 (nC : Int) (c 0) r.2.2.2.2.1.rc r.2.2.2.2.1.rs (j : Int) p2 p3 b1 b2 b3 (by omega) (by omega) (by unfold lkc; rw [if_neg (by omega), if_pos (by omega)]) (by omega) (by omega) (by show 0 ≤ r.2.2.2.2.1.rc j ∧ r.2.2.2.2.1.rc j ≤ 256; omega) (by show 0 ≤ p2 ∧ p2 < r.2.2.2.2.1.rc j; omega)) lk_LW_92 d_LW_law_693 rfl (rc_at 12 rfl rfl rfl) [12, 34, 38] [0, 1, 2, 3, 4, 5, 6, 7, 8, 9, 10, 11, 13, 14, 15, 16, 17, 18, 19, 20, 21, 22, 23, 24, 25, 26, 27, 28, 29, 30, 31, 32, 33, 35, 36, 37, 39] ⟨rfl, rfl⟩ ⟨rfl, rfl, by decide⟩ [0] rfl (rm_z hF (by assumption) ⟨by decide, by decide, rfl, rfl⟩ (Nat.le_of_ble_eq_true rfl)) ⟨rfl, rfl⟩ ?_
          rintro v w1 p1 t1 ⟨rfl, rfl, rfl⟩
          dsimp only [Option.toList, List.cons_append, List.nil_append, List.append_nil]
          refine vv_sub (ws' := (LWS a q c fS fP fC K S le nS nP nC 1 u sw sh ce sk pw ph co tu nS nP nC 1 r 0 (vp_updL gj 0 ((iI (pf_z (u.rs (u.Cs j 10 + p2).toNat) (1 + p3))).toInt64)))) [0, 1, 2, 3, 4, 5, 6, 7, 8, 9, 10, 11, 37, 12, 13, 14, 15, 16, 17, 18, 19, 20, 21, 22, 23, 24, 25, 26, 27, 28, 29, 30, 31, 32, 38, 33, 34, 35, 39, 36] rfl rfl ?_
          refine vv_istore d_LW_law_696 rfl (Nat.le_of_ble_eq_true rfl) ?_
          dsimp only [List.set]
          refine vv_aload_n d_LW_law_698 rfl ?_
          refine vv_pV (wc := [ob_MO (a 14) q K (S : Int) le 0 ((nS : Nat) : Int) ((nP : Nat) : Int) 1 ((nC : Nat) : Int)]) (plc := []) [] (c_MO_thrown (cx_l X) (cx_D X) (a 14) q K (S : Int) le 0 ((nS : Nat) : Int) ((nP : Nat) : Int) 1 ((nC : Nat) : Int)) lk_LW_64 d_LW_law_699 rfl (rc_at 12 rfl rfl rfl) [12] ⟨rfl, rfl, Or.inl rfl⟩ [] rfl (rm_z hF (by assumption) ⟨by decide, by decide, rfl, rfl⟩ (Nat.le_of_ble_eq_true rfl)) ⟨rfl, rfl⟩ ?_
          intro v hv
          subst hv
          dsimp only [Option.toList, List.cons_append, List.nil_append, List.append_nil]
          refine vv_iload d_LW_law_702 rfl ?_
          refine vv_icmp_eq (tgt := 709) d_LW_law_704 (by decide) ⟨by omega, by omega⟩ (fun c704 => ?_) (fun c704 => ?_)
          · skip
            refine vv_iload d_LW_law_709 rfl ?_
            refine vv_if_ne (tgt := 726) d_LW_law_711 (by decide) (by omega) (fun c711 => ?_) (fun c711 => ?_)
            · exfalso; omega
            · skip
              refine vv_aload_n d_LW_law_714 rfl ?_
              refine vv_iconst d_LW_law_715 ?_
              refine vv_lald d_LW_law_716 39 5 rfl rfl ⟨by omega, by omega, by decide⟩ ?_
              refine vv_iload d_LW_law_717 rfl ?_
              refine vv_i2l (v := (iI (pf_z (u.rs (u.Cs j 10 + p2).toNat) (1 + p3))).toInt64) d_LW_law_719 (by rw [hy9.1]) ?_
              refine vv_lcmp (v := iI 0) d_LW_law_720 (lg_same (iI (pf_z (u.rs (u.Cs j 10 + p2).toNat) (1 + p3))).toInt64) ?_
              refine vv_if_eq (tgt := 726) d_LW_law_721 (by decide) (by omega) (fun c721 => ?_) (fun c721 => ?_)
              · skip
                refine vv_goto (tgt := 853) d_LW_law_726 (by decide) ?_
                exact vv_widen (by first | exact Nat.le_refl _ | omega) (by first | exact Nat.le_refl _ | omega) (kk (nS) (nP) (nC) (1) (u) (sw) (sh) (ce) (sk) (pw) (ph) (co) (tu) (r) (0) (vp_updL gj 0 ((iI (pf_z (u.rs (u.Cs j 10 + p2).toNat) (1 + p3))).toInt64)) f _ _ _ (hL) (hPL))
              · exfalso; omega
          · exfalso; omega
        · refine vv_aload_n d_LW_law_649 rfl ?_
          refine vv_aload_n d_LW_law_650 rfl ?_
          refine vv_iload d_LW_law_651 rfl ?_
          refine vv_iconst d_LW_law_653 ?_
          refine vv_iadd d_LW_law_654 ?_
          refine vv_sld ⟨hx.2.2.1, hx.2.2.2, hx.2.1⟩ d_LW_law_655 ⟨by omega, by omega, hN⟩ ?_
          rw [e1]
          refine vv_aload_n d_LW_law_656 rfl ?_
          refine vv_iload d_LW_law_657 rfl ?_
          refine vv_iconst d_LW_law_659 ?_
          refine vv_iadd d_LW_law_660 ?_
          refine vv_sld ⟨hx.2.2.1, hx.2.2.2, hx.2.1⟩ d_LW_law_661 ⟨by omega, by omega, hN⟩ ?_
          rw [e2]
          refine vv_aload_n d_LW_law_662 rfl ?_
          refine vv_iload d_LW_law_663 rfl ?_
          refine vv_iconst d_LW_law_665 ?_
          refine vv_iadd d_LW_law_666 ?_
          refine vv_sld ⟨hx.2.2.1, hx.2.2.2, hx.2.1⟩ d_LW_law_667 ⟨by omega, by omega, hN⟩ ?_
          rw [e3]
          refine vv_aload_n d_LW_law_668 rfl ?_
          refine vv_pSW hx (wc := [ob_ST (a 0) (a 1) (a 2) (a 3) (a 4) (a 5) (a 6) (a 7) (S : Int) le ((nS : Nat) : Int) ((nP : Nat) : Int) ((nC : Nat) : Int) (RS.nT u) (RS.nR u) 1, ar_Q (a 3) (c 3) 20 fC]) (plc := va_pl L f) [] (w_rest_n3 (cx_l X) (cx_D X) (a 0) (a 1) (a 2) (a 3) (a 4) (a 5) (a 6) (a 7) nC j (S : Int) le (nS : Int) (nP : Int) u.nT u.nR p2 p3 (c 3) fC L f aC u.Cs hfl (by omega) (by omega) hfC hPL.2.2 b2 b3 (by omega) (by omega) (a 13)) lk_LW_90 d_LW_law_669 rfl [0, 3] ⟨rfl, rfl, Or.inr rfl⟩ [3] rfl (rm_l hF hc ⟨by decide, by decide, by decide, by decide⟩ (Nat.le_of_ble_eq_true rfl)) ?_
          intro v hv
          subst hv
          dsimp only [Option.toList, List.cons_append, List.nil_append, List.append_nil]
          have hz1 : k + 1 ≤ RL.cells ∧ n + 6 ≤ RL.slots := hc
          refine vv_istore d_LW_law_672 rfl (Nat.le_of_ble_eq_true rfl) ?_
          dsimp only [List.set]
          refine vv_aload_n d_LW_law_674 rfl ?_
          refine vv_aload_n d_LW_law_675 rfl ?_
          refine vv_iload d_LW_law_676 rfl ?_
          refine vv_iconst d_LW_law_678 ?_
          refine vv_iadd d_LW_law_679 ?_
          refine vv_sld ⟨hx.2.2.1, hx.2.2.2, hx.2.1⟩ d_LW_law_680 ⟨by omega, by omega, hN⟩ ?_
          rw [e1]
          refine vv_aload_n d_LW_law_681 rfl ?_
          refine vv_iload d_LW_law_682 rfl ?_
          refine vv_iconst d_LW_law_684 ?_
          refine vv_iadd d_LW_law_685 ?_
          refine vv_sld ⟨hx.2.2.1, hx.2.2.2, hx.2.1⟩ d_LW_law_686 ⟨by omega, by omega, hN⟩ ?_
          rw [e2]
          refine vv_aload_n d_LW_law_687 rfl ?_
          refine vv_iload d_LW_law_688 rfl ?_
          refine vv_iconst d_LW_law_690 ?_
          refine vv_iadd d_LW_law_691 ?_
          refine vv_sld ⟨hx.2.2.1, hx.2.2.2, hx.2.1⟩ d_LW_law_692 ⟨by omega, by omega, hN⟩ ?_
          rw [e3]
          refine vv_nV hw (wc := [ob_MO (a 14) q K (S : Int) le cd ((nS : Nat) : Int) ((nP : Nat) : Int) 1 ((nC : Nat) : Int), ar_I (q 29) (c 0) 20 (mw_T.rc r.2.2.2.2.1), ar_I (q 33) (c 0) 20480 (mw_T.rs r.2.2.2.2.1)]) (wr := [ob_ST (a 0) (a 1) (a 2) (a 3) (a 4) (a 5) (a 6) (a 7) (S : Int) le ((nS : Nat) : Int) ((nP : Nat) : Int) ((nC : Nat) : Int) (RS.nT u) (RS.nR u) 1, ar_Q (a 1) (c 1) 4 fS, ar_Q (a 2) (c 2) 8 fP, ar_Q (a 3) (c 3) 20 fC, ar_I (a 4) (c 0) 400 (RS.tk u), ar_I (a 5) (c 0) 5120 (RS.rs u), ob_TB (a 6) (a 10) (a 11) K (RS.W u) (RS.F u), ar_I (a 10) (c 0) 2312 (RS.T u).1, ar_I (a 11) (c 0) 2312 (RS.T u).2, ob_LY (a 7) (a 6) (a 8) (a 9) (RS.way u) (RS.st u), ar_I (a 8) (c 0) 256 (RS.st u).2.2.2.1, ar_I (a 9) (c 0) 8 (RS.st u).2.2.2.2, ar_I (q 5) (c 0) 4 (sw), ar_I (q 6) (c 0) 4 (sh), ar_I (q 7) (c 0) 4 (ce), ar_I (q 8) (c 0) 4 (sk), ar_I (q 10) (c 0) 8 (pw), ar_I (q 11) (c 0) 8 (ph), ar_I (q 12) (c 0) 8 (co), ar_I (q 13) (c 4) 8 (tu), ar_I (q 14) (c 0) 8 (r.1), ar_I (q 15) (c 0) 4 (r.2.1), ar_I (q 16) (c 0) 8 (mw_T.st r.2.2.2.2.1), ar_I (q 17) (c 0) 2312 (r.2.2.2.2.2.1), ar_I (q 18) (c 0) 2312 (r.2.2.2.2.2.2.1), ar_I (q 19) (c 0) 2312 (r.2.2.2.2.2.2.2), ar_I (q 20) (c 0) 3600 (mw_T.wt r.2.2.2.2.1), ar_I (q 23) (c 0) 20 (r.2.2.1), ar_I (q 24) (c 0) 20 (r.2.2.2.1), ar_I (q 25) (c 0) 20 (mw_T.cc r.2.2.2.2.1), ar_I (q 26) (c 0) 20 (mw_T.mi r.2.2.2.2.1), ar_I (q 27) (c 0) 20 (mw_T.tc r.2.2.2.2.1), ar_I (q 28) (c 0) 20 (mw_T.ta r.2.2.2.2.1), ar_I (q 30) (c 0) 20 (mw_T.nc r.2.2.2.2.1), ar_I (q 31) (c 0) 12000 (mw_T.no r.2.2.2.2.1), ar_I (q 32) (c 0) 25600 (mw_T.tk r.2.2.2.2.1), ar_J (a 13) (c 5) 1 (gj)]) [] (c_MO_rest_n2 (cx_l X) (cx_D X) (a 14) q K (S : Int) le cd (nS : Int) (nP : Int) 1 (nC : Int) (c 0) r.2.2.2.2.1.rc r.2.2.2.2.1.rs (j : Int) p2 p3 b1 b2 b3 (by omega) (by omega) (by unfold lkc; rw [if_neg (by omega), if_pos (by omega)]) (by omega) (by omega) (by show 0 ≤ r.2.2.2.2.1.rc j ∧ r.2.2.2.2.1.rc j ≤ 256; omega) (by show p2 < 0 ∨ r.2.2.2.2.1.rc j ≤ p2; omega)) lk_LW_92 d_LW_law_693 rfl (rc_at 12 rfl rfl rfl) [12, 34, 38] [0, 1, 2, 3, 4, 5, 6, 7, 8, 9, 10, 11, 13, 14, 15, 16, 17, 18, 19, 20, 21, 22, 23, 24, 25, 26, 27, 28, 29, 30, 31, 32, 33, 35, 36, 37, 39] ⟨rfl, rfl⟩ ⟨rfl, rfl, by decide⟩ [0] rfl (rm_z hF (by assumption) ⟨by decide, by decide, rfl, rfl⟩ (Nat.le_of_ble_eq_true rfl)) ⟨rfl, rfl⟩ ?_
          rintro v w1 p1 t1 ⟨rfl, rfl, rfl⟩
          dsimp only [Option.toList, List.cons_append, List.nil_append, List.append_nil]
          refine vv_sub (ws' := (LWS a q c fS fP fC K S le nS nP nC 1 u sw sh ce sk pw ph co tu nS nP nC 1 r 2 gj)) [0, 1, 2, 3, 4, 5, 6, 7, 8, 9, 10, 11, 37, 12, 13, 14, 15, 16, 17, 18, 19, 20, 21, 22, 23, 24, 25, 26, 27, 28, 29, 30, 31, 32, 38, 33, 34, 35, 39, 36] rfl rfl ?_
          refine vv_istore d_LW_law_696 rfl (Nat.le_of_ble_eq_true rfl) ?_
          dsimp only [List.set]
          refine vv_aload_n d_LW_law_698 rfl ?_
          refine vv_pV (wc := [ob_MO (a 14) q K (S : Int) le 2 ((nS : Nat) : Int) ((nP : Nat) : Int) 1 ((nC : Nat) : Int)]) (plc := []) [] (c_MO_thrown (cx_l X) (cx_D X) (a 14) q K (S : Int) le 2 ((nS : Nat) : Int) ((nP : Nat) : Int) 1 ((nC : Nat) : Int)) lk_LW_64 d_LW_law_699 rfl (rc_at 12 rfl rfl rfl) [12] ⟨rfl, rfl, Or.inl rfl⟩ [] rfl (rm_z hF (by assumption) ⟨by decide, by decide, rfl, rfl⟩ (Nat.le_of_ble_eq_true rfl)) ⟨rfl, rfl⟩ ?_
          intro v hv
          subst hv
          dsimp only [Option.toList, List.cons_append, List.nil_append, List.append_nil]
          refine vv_iload d_LW_law_702 rfl ?_
          refine vv_icmp_eq (tgt := 709) d_LW_law_704 (by decide) ⟨by omega, by omega⟩ (fun c704 => ?_) (fun c704 => ?_)
          · skip
            refine vv_iload d_LW_law_709 rfl ?_
            refine vv_if_ne (tgt := 726) d_LW_law_711 (by decide) (by omega) (fun c711 => ?_) (fun c711 => ?_)
            · skip
              refine vv_goto (tgt := 853) d_LW_law_726 (by decide) ?_
              exact vv_widen (by first | exact Nat.le_refl _ | omega) (by first | exact Nat.le_refl _ | omega) (kk (nS) (nP) (nC) (1) (u) (sw) (sh) (ce) (sk) (pw) (ph) (co) (tu) (r) (2) (gj) f _ _ _ (hL) (hPL))
            · exfalso; omega
          · exfalso; omega
      · refine vv_aload_n d_LW_law_649 rfl ?_
        refine vv_aload_n d_LW_law_650 rfl ?_
        refine vv_iload d_LW_law_651 rfl ?_
        refine vv_iconst d_LW_law_653 ?_
        refine vv_iadd d_LW_law_654 ?_
        refine vv_sld ⟨hx.2.2.1, hx.2.2.2, hx.2.1⟩ d_LW_law_655 ⟨by omega, by omega, hN⟩ ?_
        rw [e1]
        refine vv_aload_n d_LW_law_656 rfl ?_
        refine vv_iload d_LW_law_657 rfl ?_
        refine vv_iconst d_LW_law_659 ?_
        refine vv_iadd d_LW_law_660 ?_
        refine vv_sld ⟨hx.2.2.1, hx.2.2.2, hx.2.1⟩ d_LW_law_661 ⟨by omega, by omega, hN⟩ ?_
        rw [e2]
        refine vv_aload_n d_LW_law_662 rfl ?_
        refine vv_iload d_LW_law_663 rfl ?_
        refine vv_iconst d_LW_law_665 ?_
        refine vv_iadd d_LW_law_666 ?_
        refine vv_sld ⟨hx.2.2.1, hx.2.2.2, hx.2.1⟩ d_LW_law_667 ⟨by omega, by omega, hN⟩ ?_
        rw [e3]
        refine vv_aload_n d_LW_law_668 rfl ?_
        refine vv_pSW hx (wc := [ob_ST (a 0) (a 1) (a 2) (a 3) (a 4) (a 5) (a 6) (a 7) (S : Int) le ((nS : Nat) : Int) ((nP : Nat) : Int) ((nC : Nat) : Int) (RS.nT u) (RS.nR u) 1, ar_Q (a 3) (c 3) 20 fC]) (plc := va_pl L f) [] (w_rest_n3 (cx_l X) (cx_D X) (a 0) (a 1) (a 2) (a 3) (a 4) (a 5) (a 6) (a 7) nC j (S : Int) le (nS : Int) (nP : Int) u.nT u.nR p2 p3 (c 3) fC L f aC u.Cs hfl (by omega) (by omega) hfC hPL.2.2 b2 b3 (by omega) (by omega) (a 13)) lk_LW_90 d_LW_law_669 rfl [0, 3] ⟨rfl, rfl, Or.inr rfl⟩ [3] rfl (rm_l hF hc ⟨by decide, by decide, by decide, by decide⟩ (Nat.le_of_ble_eq_true rfl)) ?_
        intro v hv
        subst hv
        dsimp only [Option.toList, List.cons_append, List.nil_append, List.append_nil]
        have hz1 : k + 1 ≤ RL.cells ∧ n + 6 ≤ RL.slots := hc
        refine vv_istore d_LW_law_672 rfl (Nat.le_of_ble_eq_true rfl) ?_
        dsimp only [List.set]
        refine vv_aload_n d_LW_law_674 rfl ?_
        refine vv_aload_n d_LW_law_675 rfl ?_
        refine vv_iload d_LW_law_676 rfl ?_
        refine vv_iconst d_LW_law_678 ?_
        refine vv_iadd d_LW_law_679 ?_
        refine vv_sld ⟨hx.2.2.1, hx.2.2.2, hx.2.1⟩ d_LW_law_680 ⟨by omega, by omega, hN⟩ ?_
        rw [e1]
        refine vv_aload_n d_LW_law_681 rfl ?_
        refine vv_iload d_LW_law_682 rfl ?_
        refine vv_iconst d_LW_law_684 ?_
        refine vv_iadd d_LW_law_685 ?_
        refine vv_sld ⟨hx.2.2.1, hx.2.2.2, hx.2.1⟩ d_LW_law_686 ⟨by omega, by omega, hN⟩ ?_
        rw [e2]
        refine vv_aload_n d_LW_law_687 rfl ?_
        refine vv_iload d_LW_law_688 rfl ?_
        refine vv_iconst d_LW_law_690 ?_
        refine vv_iadd d_LW_law_691 ?_
        refine vv_sld ⟨hx.2.2.1, hx.2.2.2, hx.2.1⟩ d_LW_law_692 ⟨by omega, by omega, hN⟩ ?_
        rw [e3]
        refine vv_nV hw (wc := [ob_MO (a 14) q K (S : Int) le cd ((nS : Nat) : Int) ((nP : Nat) : Int) 1 ((nC : Nat) : Int)]) (wr := [ob_ST (a 0) (a 1) (a 2) (a 3) (a 4) (a 5) (a 6) (a 7) (S : Int) le ((nS : Nat) : Int) ((nP : Nat) : Int) ((nC : Nat) : Int) (RS.nT u) (RS.nR u) 1, ar_Q (a 1) (c 1) 4 fS, ar_Q (a 2) (c 2) 8 fP, ar_Q (a 3) (c 3) 20 fC, ar_I (a 4) (c 0) 400 (RS.tk u), ar_I (a 5) (c 0) 5120 (RS.rs u), ob_TB (a 6) (a 10) (a 11) K (RS.W u) (RS.F u), ar_I (a 10) (c 0) 2312 (RS.T u).1, ar_I (a 11) (c 0) 2312 (RS.T u).2, ob_LY (a 7) (a 6) (a 8) (a 9) (RS.way u) (RS.st u), ar_I (a 8) (c 0) 256 (RS.st u).2.2.2.1, ar_I (a 9) (c 0) 8 (RS.st u).2.2.2.2, ar_I (q 5) (c 0) 4 (sw), ar_I (q 6) (c 0) 4 (sh), ar_I (q 7) (c 0) 4 (ce), ar_I (q 8) (c 0) 4 (sk), ar_I (q 10) (c 0) 8 (pw), ar_I (q 11) (c 0) 8 (ph), ar_I (q 12) (c 0) 8 (co), ar_I (q 13) (c 4) 8 (tu), ar_I (q 14) (c 0) 8 (r.1), ar_I (q 15) (c 0) 4 (r.2.1), ar_I (q 16) (c 0) 8 (mw_T.st r.2.2.2.2.1), ar_I (q 17) (c 0) 2312 (r.2.2.2.2.2.1), ar_I (q 18) (c 0) 2312 (r.2.2.2.2.2.2.1), ar_I (q 19) (c 0) 2312 (r.2.2.2.2.2.2.2), ar_I (q 20) (c 0) 3600 (mw_T.wt r.2.2.2.2.1), ar_I (q 23) (c 0) 20 (r.2.2.1), ar_I (q 24) (c 0) 20 (r.2.2.2.1), ar_I (q 25) (c 0) 20 (mw_T.cc r.2.2.2.2.1), ar_I (q 26) (c 0) 20 (mw_T.mi r.2.2.2.2.1), ar_I (q 27) (c 0) 20 (mw_T.tc r.2.2.2.2.1), ar_I (q 28) (c 0) 20 (mw_T.ta r.2.2.2.2.1), ar_I (q 29) (c 0) 20 (mw_T.rc r.2.2.2.2.1), ar_I (q 30) (c 0) 20 (mw_T.nc r.2.2.2.2.1), ar_I (q 31) (c 0) 12000 (mw_T.no r.2.2.2.2.1), ar_I (q 32) (c 0) 25600 (mw_T.tk r.2.2.2.2.1), ar_I (q 33) (c 0) 20480 (mw_T.rs r.2.2.2.2.1), ar_J (a 13) (c 5) 1 (gj)]) [] (c_MO_rest_n1 (cx_l X) (cx_D X) (a 14) q K (S : Int) le cd (nS : Int) (nP : Int) 1 (nC : Int) (j : Int) p2 p3 2 b1 b2 b3 (by omega) (by omega) (by omega) (by unfold lkc; rw [if_neg (by omega), if_neg (by omega)])) lk_LW_92 d_LW_law_693 rfl (rc_at 12 rfl rfl rfl) [12] [0, 1, 2, 3, 4, 5, 6, 7, 8, 9, 10, 11, 13, 14, 15, 16, 17, 18, 19, 20, 21, 22, 23, 24, 25, 26, 27, 28, 29, 30, 31, 32, 33, 34, 35, 36, 37, 38, 39] ⟨rfl, rfl⟩ ⟨rfl, rfl, by decide⟩ [] rfl (rm_z hF (by assumption) ⟨by decide, by decide, rfl, rfl⟩ (Nat.le_of_ble_eq_true rfl)) ⟨rfl, rfl⟩ ?_
        rintro v w1 p1 t1 ⟨rfl, rfl, rfl⟩
        dsimp only [Option.toList, List.cons_append, List.nil_append, List.append_nil]
        refine vv_sub (ws' := (LWS a q c fS fP fC K S le nS nP nC 1 u sw sh ce sk pw ph co tu nS nP nC 1 r 2 gj)) [0, 1, 2, 3, 4, 5, 6, 7, 8, 9, 10, 11, 39, 12, 13, 14, 15, 16, 17, 18, 19, 20, 21, 22, 23, 24, 25, 26, 27, 28, 29, 30, 31, 32, 33, 34, 35, 36, 37, 38] rfl rfl ?_
        refine vv_istore d_LW_law_696 rfl (Nat.le_of_ble_eq_true rfl) ?_
        dsimp only [List.set]
        refine vv_aload_n d_LW_law_698 rfl ?_
        refine vv_pV (wc := [ob_MO (a 14) q K (S : Int) le 2 ((nS : Nat) : Int) ((nP : Nat) : Int) 1 ((nC : Nat) : Int)]) (plc := []) [] (c_MO_thrown (cx_l X) (cx_D X) (a 14) q K (S : Int) le 2 ((nS : Nat) : Int) ((nP : Nat) : Int) 1 ((nC : Nat) : Int)) lk_LW_64 d_LW_law_699 rfl (rc_at 12 rfl rfl rfl) [12] ⟨rfl, rfl, Or.inl rfl⟩ [] rfl (rm_z hF (by assumption) ⟨by decide, by decide, rfl, rfl⟩ (Nat.le_of_ble_eq_true rfl)) ⟨rfl, rfl⟩ ?_
        intro v hv
        subst hv
        dsimp only [Option.toList, List.cons_append, List.nil_append, List.append_nil]
        refine vv_iload d_LW_law_702 rfl ?_
        refine vv_icmp_eq (tgt := 709) d_LW_law_704 (by decide) ⟨by omega, by omega⟩ (fun c704 => ?_) (fun c704 => ?_)
        · skip
          refine vv_iload d_LW_law_709 rfl ?_
          refine vv_if_ne (tgt := 726) d_LW_law_711 (by decide) (by omega) (fun c711 => ?_) (fun c711 => ?_)
          · skip
            refine vv_goto (tgt := 853) d_LW_law_726 (by decide) ?_
            exact vv_widen (by first | exact Nat.le_refl _ | omega) (by first | exact Nat.le_refl _ | omega) (kk (nS) (nP) (nC) (1) (u) (sw) (sh) (ce) (sk) (pw) (ph) (co) (tu) (r) (2) (gj) f _ _ _ (hL) (hPL))
          · exfalso; omega
        · exfalso; omega
    · refine vv_aload_n d_LW_law_649 rfl ?_
      refine vv_aload_n d_LW_law_650 rfl ?_
      refine vv_iload d_LW_law_651 rfl ?_
      refine vv_iconst d_LW_law_653 ?_
      refine vv_iadd d_LW_law_654 ?_
      refine vv_sld ⟨hx.2.2.1, hx.2.2.2, hx.2.1⟩ d_LW_law_655 ⟨by omega, by omega, hN⟩ ?_
      rw [e1]
      refine vv_aload_n d_LW_law_656 rfl ?_
      refine vv_iload d_LW_law_657 rfl ?_
      refine vv_iconst d_LW_law_659 ?_
      refine vv_iadd d_LW_law_660 ?_
      refine vv_sld ⟨hx.2.2.1, hx.2.2.2, hx.2.1⟩ d_LW_law_661 ⟨by omega, by omega, hN⟩ ?_
      rw [e2]
      refine vv_aload_n d_LW_law_662 rfl ?_
      refine vv_iload d_LW_law_663 rfl ?_
      refine vv_iconst d_LW_law_665 ?_
      refine vv_iadd d_LW_law_666 ?_
      refine vv_sld ⟨hx.2.2.1, hx.2.2.2, hx.2.1⟩ d_LW_law_667 ⟨by omega, by omega, hN⟩ ?_
      rw [e3]
      refine vv_aload_n d_LW_law_668 rfl ?_
      refine vv_pSW hx (wc := [ob_ST (a 0) (a 1) (a 2) (a 3) (a 4) (a 5) (a 6) (a 7) (S : Int) le ((nS : Nat) : Int) ((nP : Nat) : Int) ((nC : Nat) : Int) (RS.nT u) (RS.nR u) 1, ar_Q (a 3) (c 3) 20 fC]) (plc := []) [] (w_rest_n2 (cx_l X) (cx_D X) (a 0) (a 1) (a 2) (a 3) (a 4) (a 5) (a 6) (a 7) nC (S : Int) le (nS : Int) (nP : Int) u.nT u.nR p1 p2 p3 (c 3) fC hfl (by omega) b1 (by omega) (a 13)) lk_LW_90 d_LW_law_669 rfl [0, 3] ⟨rfl, rfl, Or.inl rfl⟩ [3] rfl (rm_l hF hc ⟨by decide, by decide, by decide, by decide⟩ (Nat.le_of_ble_eq_true rfl)) ?_
      intro v hv
      subst hv
      dsimp only [Option.toList, List.cons_append, List.nil_append, List.append_nil]
      have hz1 : k + 1 ≤ RL.cells ∧ n + 6 ≤ RL.slots := hc
      refine vv_istore d_LW_law_672 rfl (Nat.le_of_ble_eq_true rfl) ?_
      dsimp only [List.set]
      refine vv_aload_n d_LW_law_674 rfl ?_
      refine vv_aload_n d_LW_law_675 rfl ?_
      refine vv_iload d_LW_law_676 rfl ?_
      refine vv_iconst d_LW_law_678 ?_
      refine vv_iadd d_LW_law_679 ?_
      refine vv_sld ⟨hx.2.2.1, hx.2.2.2, hx.2.1⟩ d_LW_law_680 ⟨by omega, by omega, hN⟩ ?_
      rw [e1]
      refine vv_aload_n d_LW_law_681 rfl ?_
      refine vv_iload d_LW_law_682 rfl ?_
      refine vv_iconst d_LW_law_684 ?_
      refine vv_iadd d_LW_law_685 ?_
      refine vv_sld ⟨hx.2.2.1, hx.2.2.2, hx.2.1⟩ d_LW_law_686 ⟨by omega, by omega, hN⟩ ?_
      rw [e2]
      refine vv_aload_n d_LW_law_687 rfl ?_
      refine vv_iload d_LW_law_688 rfl ?_
      refine vv_iconst d_LW_law_690 ?_
      refine vv_iadd d_LW_law_691 ?_
      refine vv_sld ⟨hx.2.2.1, hx.2.2.2, hx.2.1⟩ d_LW_law_692 ⟨by omega, by omega, hN⟩ ?_
      rw [e3]
      refine vv_nV hw (wc := [ob_MO (a 14) q K (S : Int) le cd ((nS : Nat) : Int) ((nP : Nat) : Int) 1 ((nC : Nat) : Int)]) (wr := [ob_ST (a 0) (a 1) (a 2) (a 3) (a 4) (a 5) (a 6) (a 7) (S : Int) le ((nS : Nat) : Int) ((nP : Nat) : Int) ((nC : Nat) : Int) (RS.nT u) (RS.nR u) 1, ar_Q (a 1) (c 1) 4 fS, ar_Q (a 2) (c 2) 8 fP, ar_Q (a 3) (c 3) 20 fC, ar_I (a 4) (c 0) 400 (RS.tk u), ar_I (a 5) (c 0) 5120 (RS.rs u), ob_TB (a 6) (a 10) (a 11) K (RS.W u) (RS.F u), ar_I (a 10) (c 0) 2312 (RS.T u).1, ar_I (a 11) (c 0) 2312 (RS.T u).2, ob_LY (a 7) (a 6) (a 8) (a 9) (RS.way u) (RS.st u), ar_I (a 8) (c 0) 256 (RS.st u).2.2.2.1, ar_I (a 9) (c 0) 8 (RS.st u).2.2.2.2, ar_I (q 5) (c 0) 4 (sw), ar_I (q 6) (c 0) 4 (sh), ar_I (q 7) (c 0) 4 (ce), ar_I (q 8) (c 0) 4 (sk), ar_I (q 10) (c 0) 8 (pw), ar_I (q 11) (c 0) 8 (ph), ar_I (q 12) (c 0) 8 (co), ar_I (q 13) (c 4) 8 (tu), ar_I (q 14) (c 0) 8 (r.1), ar_I (q 15) (c 0) 4 (r.2.1), ar_I (q 16) (c 0) 8 (mw_T.st r.2.2.2.2.1), ar_I (q 17) (c 0) 2312 (r.2.2.2.2.2.1), ar_I (q 18) (c 0) 2312 (r.2.2.2.2.2.2.1), ar_I (q 19) (c 0) 2312 (r.2.2.2.2.2.2.2), ar_I (q 20) (c 0) 3600 (mw_T.wt r.2.2.2.2.1), ar_I (q 23) (c 0) 20 (r.2.2.1), ar_I (q 24) (c 0) 20 (r.2.2.2.1), ar_I (q 25) (c 0) 20 (mw_T.cc r.2.2.2.2.1), ar_I (q 26) (c 0) 20 (mw_T.mi r.2.2.2.2.1), ar_I (q 27) (c 0) 20 (mw_T.tc r.2.2.2.2.1), ar_I (q 28) (c 0) 20 (mw_T.ta r.2.2.2.2.1), ar_I (q 29) (c 0) 20 (mw_T.rc r.2.2.2.2.1), ar_I (q 30) (c 0) 20 (mw_T.nc r.2.2.2.2.1), ar_I (q 31) (c 0) 12000 (mw_T.no r.2.2.2.2.1), ar_I (q 32) (c 0) 25600 (mw_T.tk r.2.2.2.2.1), ar_I (q 33) (c 0) 20480 (mw_T.rs r.2.2.2.2.1), ar_J (a 13) (c 5) 1 (gj)]) [] (c_MO_rest_n1 (cx_l X) (cx_D X) (a 14) q K (S : Int) le cd (nS : Int) (nP : Int) 1 (nC : Int) p1 p2 p3 2 b1 b2 b3 (by omega) (by omega) (by omega) (by unfold lkc; rw [if_neg (by omega), if_neg (by omega)])) lk_LW_92 d_LW_law_693 rfl (rc_at 12 rfl rfl rfl) [12] [0, 1, 2, 3, 4, 5, 6, 7, 8, 9, 10, 11, 13, 14, 15, 16, 17, 18, 19, 20, 21, 22, 23, 24, 25, 26, 27, 28, 29, 30, 31, 32, 33, 34, 35, 36, 37, 38, 39] ⟨rfl, rfl⟩ ⟨rfl, rfl, by decide⟩ [] rfl (rm_z hF (by assumption) ⟨by decide, by decide, rfl, rfl⟩ (Nat.le_of_ble_eq_true rfl)) ⟨rfl, rfl⟩ ?_
      rintro v w1 p1 t1 ⟨rfl, rfl, rfl⟩
      dsimp only [Option.toList, List.cons_append, List.nil_append, List.append_nil]
      refine vv_sub (ws' := (LWS a q c fS fP fC K S le nS nP nC 1 u sw sh ce sk pw ph co tu nS nP nC 1 r 2 gj)) [0, 1, 2, 3, 4, 5, 6, 7, 8, 9, 10, 11, 39, 12, 13, 14, 15, 16, 17, 18, 19, 20, 21, 22, 23, 24, 25, 26, 27, 28, 29, 30, 31, 32, 33, 34, 35, 36, 37, 38] rfl rfl ?_
      refine vv_istore d_LW_law_696 rfl (Nat.le_of_ble_eq_true rfl) ?_
      dsimp only [List.set]
      refine vv_aload_n d_LW_law_698 rfl ?_
      refine vv_pV (wc := [ob_MO (a 14) q K (S : Int) le 2 ((nS : Nat) : Int) ((nP : Nat) : Int) 1 ((nC : Nat) : Int)]) (plc := []) [] (c_MO_thrown (cx_l X) (cx_D X) (a 14) q K (S : Int) le 2 ((nS : Nat) : Int) ((nP : Nat) : Int) 1 ((nC : Nat) : Int)) lk_LW_64 d_LW_law_699 rfl (rc_at 12 rfl rfl rfl) [12] ⟨rfl, rfl, Or.inl rfl⟩ [] rfl (rm_z hF (by assumption) ⟨by decide, by decide, rfl, rfl⟩ (Nat.le_of_ble_eq_true rfl)) ⟨rfl, rfl⟩ ?_
      intro v hv
      subst hv
      dsimp only [Option.toList, List.cons_append, List.nil_append, List.append_nil]
      refine vv_iload d_LW_law_702 rfl ?_
      refine vv_icmp_eq (tgt := 709) d_LW_law_704 (by decide) ⟨by omega, by omega⟩ (fun c704 => ?_) (fun c704 => ?_)
      · skip
        refine vv_iload d_LW_law_709 rfl ?_
        refine vv_if_ne (tgt := 726) d_LW_law_711 (by decide) (by omega) (fun c711 => ?_) (fun c711 => ?_)
        · skip
          refine vv_goto (tgt := 853) d_LW_law_726 (by decide) ?_
          exact vv_widen (by first | exact Nat.le_refl _ | omega) (by first | exact Nat.le_refl _ | omega) (kk (nS) (nP) (nC) (1) (u) (sw) (sh) (ce) (sk) (pw) (ph) (co) (tu) (r) (2) (gj) f _ _ _ (hL) (hPL))
        · exfalso; omega
      · exfalso; omega
