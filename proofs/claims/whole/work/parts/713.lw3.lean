set_option maxHeartbeats 4000000 in
set_option maxRecDepth 100000 in
theorem law_worth {X : cx_T} {Q : State → Prop} {RL : Room} {k n : Nat} {a q : Nat → Nat} {c : Nat → ClassId} {fS fP fC : Nat → Option Nat} {N : Nat} {g : Nat → Int} {K : Int} {S : Nat} {le : Int} {L : List Nat} {aS aP aC : Nat → Nat} {i : Int} (hw : cx_w X) (hfl : (cx_l X).flags = flags0) (hx : lx X (a 12) N g) (hF : 12 ≤ RL.frames ∧ 700 ≤ RL.locals) (hc : k + 1 ≤ RL.cells ∧ n + 6 ≤ RL.slots) (hK : 0 ≤ K ∧ K ≤ 3) (hS : 1 ≤ S ∧ S ≤ 3) (hle : 1 ≤ le ∧ le ≤ 16) (hAD : AD aS aP aC) (hfS : ∀ i : Nat, i < 4 → fS i = some (aS i)) (hfP : ∀ i : Nat, i < 8 → fP i = some (aP i)) (hfC : ∀ i : Nat, i < 20 → fC i = some (aC i)) (hN : N < 2147483648) (hg : ∀ j : Nat, -2147483648 ≤ g j ∧ g j < 2147483648) (hi : 3 ≤ i ∧ i + 5 ≤ (N : Int)) {nS nP nC : Nat} {rn : Int} {u : RS} {sw sh ce sk pw ph co tu : Nat → Int} {r : mr_T} {cd : Int} {gj : Nat → Int64} {f : Nat → va_E} {v5 v6 v7 : Option Value} (hL : LR K S nS nP nC rn u sw sh ce sk pw ph co tu r) (hPL : PL L f aS aP aC u.Sh u.R u.Cs) (kk : (∀ (nS nP nC : Nat) (rn : Int) (u : RS) (sw sh ce sk pw ph co tu : Nat → Int) (r : mr_T) (cd : Int) (gj : Nat → Int64) (f : Nat → va_E) (v5 v6 v7 : Option Value), LR K S nS nP nC rn u sw sh ce sk pw ph co tu r → PL L f aS aP aC u.Sh u.R u.Cs → VV X (code, 8, "SheetTreesLaw", RL) Q (k + 1) (n + 6) (LTY c) (LWS a q c fS fP fC K S le nS nP nC rn u sw sh ce sk pw ph co tu nS nP nC rn r cd gj) (va_pl L f) [some (.ref (a 12)), some (.ref (a 0)), some (.ref (a 14)), some (.ref (a 13)), some (.int (iI i)), v5, v6, v7] [] 853)) : VV X (code, 8, "SheetTreesLaw", RL) Q k n (LTY c) (LWS a q c fS fP fC K S le nS nP nC rn u sw sh ce sk pw ph co tu nS nP nC rn r cd gj) (va_pl L f) [some (.ref (a 12)), some (.ref (a 0)), some (.ref (a 14)), some (.ref (a 13)), some (.int (iI i)), v5, v6, v7] [] 396 := by
  have hl1 := hL.1
  have b1 := hg (i + 1).toNat
  generalize e1 : g (i + 1).toNat = p1 at b1
  have b2 := hg (i + 2).toNat
  generalize e2 : g (i + 2).toNat = p2 at b2
  have b3 := hg (i + 3).toNat
  generalize e3 : g (i + 3).toNat = p3 at b3
  have b4 := hg (i + 4).toNat
  generalize e4 : g (i + 4).toNat = p4 at b4
  have hz0 : k ≤ RL.cells ∧ n ≤ RL.slots := by omega
  by_cases h1 : (1 ≤ p1 ∧ p1 ≤ 16) ∧ (1 ≤ p2 ∧ p2 ≤ 16) ∧ (0 ≤ p3 ∧ p3 ≤ 1) ∧ 0 ≤ p4 ∧ p4 ≤ 3
  · have hb9 := LR_hb hL
    have hw9 := LR_worth hK.1 hL h1.1 h1.2.1 h1.2.2.1 h1.2.2.2
    refine vv_aload_n d_LW_law_396 rfl ?_
    refine vv_aload_n d_LW_law_397 rfl ?_
    refine vv_iload d_LW_law_398 rfl ?_
    refine vv_iconst d_LW_law_400 ?_
    refine vv_iadd d_LW_law_401 ?_
    refine vv_sld ⟨hx.2.2.1, hx.2.2.2, hx.2.1⟩ d_LW_law_402 ⟨by omega, by omega, hN⟩ ?_
    rw [e1]
    refine vv_aload_n d_LW_law_403 rfl ?_
    refine vv_iload d_LW_law_404 rfl ?_
    refine vv_iconst d_LW_law_406 ?_
    refine vv_iadd d_LW_law_407 ?_
    refine vv_sld ⟨hx.2.2.1, hx.2.2.2, hx.2.1⟩ d_LW_law_408 ⟨by omega, by omega, hN⟩ ?_
    rw [e2]
    refine vv_aload_n d_LW_law_409 rfl ?_
    refine vv_iload d_LW_law_410 rfl ?_
    refine vv_iconst d_LW_law_412 ?_
    refine vv_iadd d_LW_law_413 ?_
    refine vv_sld ⟨hx.2.2.1, hx.2.2.2, hx.2.1⟩ d_LW_law_414 ⟨by omega, by omega, hN⟩ ?_
    rw [e3]
    refine vv_aload_n d_LW_law_415 rfl ?_
    refine vv_iload d_LW_law_416 rfl ?_
    refine vv_iconst d_LW_law_418 ?_
    refine vv_iadd d_LW_law_419 ?_
    refine vv_sld ⟨hx.2.2.1, hx.2.2.2, hx.2.1⟩ d_LW_law_420 ⟨by omega, by omega, hN⟩ ?_
    rw [e4]
    refine vv_aload_n d_LW_law_421 rfl ?_
    refine vv_mSW hw (wc := [ar_J (a 13) (c 5) 1 (gj), ob_ST (a 0) (a 1) (a 2) (a 3) (a 4) (a 5) (a 6) (a 7) (S : Int) le ((nS : Nat) : Int) ((nP : Nat) : Int) ((nC : Nat) : Int) (RS.nT u) (RS.nR u) rn, ar_Q (a 2) (c 2) 8 fP, ob_TB (a 6) (a 10) (a 11) K (RS.W u) (RS.F u), ar_I (a 10) (c 0) 2312 (RS.T u).1, ar_I (a 11) (c 0) 2312 (RS.T u).2]) (wr := [ar_Q (a 1) (c 1) 4 fS, ar_Q (a 3) (c 3) 20 fC, ar_I (a 4) (c 0) 400 (RS.tk u), ar_I (a 5) (c 0) 5120 (RS.rs u), ob_LY (a 7) (a 6) (a 8) (a 9) (RS.way u) (RS.st u), ar_I (a 8) (c 0) 256 (RS.st u).2.2.2.1, ar_I (a 9) (c 0) 8 (RS.st u).2.2.2.2, ob_MO (a 14) q K (S : Int) le cd ((nS : Nat) : Int) ((nP : Nat) : Int) rn ((nC : Nat) : Int), ar_I (q 5) (c 0) 4 (sw), ar_I (q 6) (c 0) 4 (sh), ar_I (q 7) (c 0) 4 (ce), ar_I (q 8) (c 0) 4 (sk), ar_I (q 10) (c 0) 8 (pw), ar_I (q 11) (c 0) 8 (ph), ar_I (q 12) (c 0) 8 (co), ar_I (q 13) (c 4) 8 (tu), ar_I (q 14) (c 0) 8 (r.1), ar_I (q 15) (c 0) 4 (r.2.1), ar_I (q 16) (c 0) 8 (mw_T.st r.2.2.2.2.1), ar_I (q 17) (c 0) 2312 (r.2.2.2.2.2.1), ar_I (q 18) (c 0) 2312 (r.2.2.2.2.2.2.1), ar_I (q 19) (c 0) 2312 (r.2.2.2.2.2.2.2), ar_I (q 20) (c 0) 3600 (mw_T.wt r.2.2.2.2.1), ar_I (q 23) (c 0) 20 (r.2.2.1), ar_I (q 24) (c 0) 20 (r.2.2.2.1), ar_I (q 25) (c 0) 20 (mw_T.cc r.2.2.2.2.1), ar_I (q 26) (c 0) 20 (mw_T.mi r.2.2.2.2.1), ar_I (q 27) (c 0) 20 (mw_T.tc r.2.2.2.2.1), ar_I (q 28) (c 0) 20 (mw_T.ta r.2.2.2.2.1), ar_I (q 29) (c 0) 20 (mw_T.rc r.2.2.2.2.1), ar_I (q 30) (c 0) 20 (mw_T.nc r.2.2.2.2.1), ar_I (q 31) (c 0) 12000 (mw_T.no r.2.2.2.2.1), ar_I (q 32) (c 0) 25600 (mw_T.tk r.2.2.2.2.1), ar_I (q 33) (c 0) 20480 (mw_T.rs r.2.2.2.2.1)]) [] (w_worth_y (cx_l X) (cx_D X) (a 0) (a 1) (a 2) (a 3) (a 4) (a 5) (a 6) (a 7) (a 10) (a 11) nP (S : Int) le (nS : Int) (nC : Int) u.nT u.nR rn K u.W u.F p1 p2 p3 p4 u.T (c 0) (c 2) fP L f aP u.R (by omega) h1.1 h1.2.1 h1.2.2.1 h1.2.2.2 hK hL.2.2.2.2.2.1.2.2.1 hL.2.2.2.2.2.1.2.1 hL.2.2.2.2.2.1.1 (fun p hp => (hL.2.2.2.1 p hp).1) hL.2.2.2.2.1.1 hL.2.2.2.2.1.2.1 hfP hPL.2.1 (a 13) (c 5) gj) lk_LW_76 d_LW_law_422 rfl [39, 0, 2, 6, 7, 8] [1, 3, 4, 5, 9, 10, 11, 12, 13, 14, 15, 16, 17, 18, 19, 20, 21, 22, 23, 24, 25, 26, 27, 28, 29, 30, 31, 32, 33, 34, 35, 36, 37, 38] ⟨rfl, rfl⟩ ⟨rfl, rfl, by decide⟩ [5, 0, 2] rfl (rm_l hF hc ⟨by decide, by decide, by decide, by decide⟩ (Nat.le_of_ble_eq_true rfl)) ⟨rfl, rfl⟩ ?_
    rintro v w1 p1 t1 ⟨rfl, rfl, rfl⟩
    dsimp only [Option.toList, List.cons_append, List.nil_append, List.append_nil]
    refine vv_sub (ws' := (LWS a q c fS fP fC K S le nS nP nC rn (((u.nT, u.nR, u.tk, u.rs, u.R, u.Sh, u.Cs, u.way, u.st, (fl_T K u.R (pu_m (fun p => (u.R p).2.2.2.1) nP) p4 u.W u.F u.T), (((pu_m (fun p => (u.R p).2.2.2.1) nP) : Nat) : Int), fl_G (pu_m (fun p => (u.R p).2.2.2.1) nP) p4 u.W u.F) : RS)) sw sh ce sk pw ph co tu nS nP nC rn r cd (vp_updL gj 0 ((iI ((rd_scoreAt (fl_T K u.R (pu_m (fun p => (u.R p).2.2.2.1) nP) p4 u.W u.F u.T).1 (pl_at p4 p3 p1 p2) + 1024 - 1).tdiv 1024)).toInt64)))) [35, 0, 36, 1, 2, 3, 37, 38, 39, 4, 5, 6, 7, 8, 9, 10, 11, 12, 13, 14, 15, 16, 17, 18, 19, 20, 21, 22, 23, 24, 25, 26, 27, 28, 29, 30, 31, 32, 33, 34] rfl rfl ?_
    refine vv_istore d_LW_law_425 rfl (Nat.le_of_ble_eq_true rfl) ?_
    dsimp only [List.set]
    refine vv_aload_n d_LW_law_427 rfl ?_
    refine vv_aload_n d_LW_law_428 rfl ?_
    refine vv_iload d_LW_law_429 rfl ?_
    refine vv_iconst d_LW_law_431 ?_
    refine vv_iadd d_LW_law_432 ?_
    refine vv_sld ⟨hx.2.2.1, hx.2.2.2, hx.2.1⟩ d_LW_law_433 ⟨by omega, by omega, hN⟩ ?_
    rw [e1]
    refine vv_aload_n d_LW_law_434 rfl ?_
    refine vv_iload d_LW_law_435 rfl ?_
    refine vv_iconst d_LW_law_437 ?_
    refine vv_iadd d_LW_law_438 ?_
    refine vv_sld ⟨hx.2.2.1, hx.2.2.2, hx.2.1⟩ d_LW_law_439 ⟨by omega, by omega, hN⟩ ?_
    rw [e2]
    refine vv_aload_n d_LW_law_440 rfl ?_
    refine vv_iload d_LW_law_441 rfl ?_
    refine vv_iconst d_LW_law_443 ?_
    refine vv_iadd d_LW_law_444 ?_
    refine vv_sld ⟨hx.2.2.1, hx.2.2.2, hx.2.1⟩ d_LW_law_445 ⟨by omega, by omega, hN⟩ ?_
    rw [e3]
    refine vv_aload_n d_LW_law_446 rfl ?_
    refine vv_iload d_LW_law_447 rfl ?_
    refine vv_iconst d_LW_law_449 ?_
    refine vv_iadd d_LW_law_450 ?_
    refine vv_sld ⟨hx.2.2.1, hx.2.2.2, hx.2.1⟩ d_LW_law_451 ⟨by omega, by omega, hN⟩ ?_
    rw [e4]
    refine vv_nV hw (wc := [ob_MO (a 14) q K (S : Int) le cd ((nS : Nat) : Int) ((nP : Nat) : Int) rn ((nC : Nat) : Int), ar_I (q 10) (c 0) 8 (pw), ar_I (q 11) (c 0) 8 (ph), ar_I (q 13) (c 4) 8 (tu), ar_I (q 14) (c 0) 8 (r.1), ar_I (q 17) (c 0) 2312 (r.2.2.2.2.2.1), ar_I (q 18) (c 0) 2312 (r.2.2.2.2.2.2.1), ar_I (q 19) (c 0) 2312 (r.2.2.2.2.2.2.2), ar_I (q 12) (c 0) 8 (co), ar_I (q 16) (c 0) 8 (mw_T.st r.2.2.2.2.1)]) (wr := [ob_ST (a 0) (a 1) (a 2) (a 3) (a 4) (a 5) (a 6) (a 7) (S : Int) le ((nS : Nat) : Int) ((nP : Nat) : Int) ((nC : Nat) : Int) (RS.nT ((u.nT, u.nR, u.tk, u.rs, u.R, u.Sh, u.Cs, u.way, u.st, (fl_T K u.R (pu_m (fun p => (u.R p).2.2.2.1) nP) p4 u.W u.F u.T), (((pu_m (fun p => (u.R p).2.2.2.1) nP) : Nat) : Int), fl_G (pu_m (fun p => (u.R p).2.2.2.1) nP) p4 u.W u.F) : RS)) (RS.nR ((u.nT, u.nR, u.tk, u.rs, u.R, u.Sh, u.Cs, u.way, u.st, (fl_T K u.R (pu_m (fun p => (u.R p).2.2.2.1) nP) p4 u.W u.F u.T), (((pu_m (fun p => (u.R p).2.2.2.1) nP) : Nat) : Int), fl_G (pu_m (fun p => (u.R p).2.2.2.1) nP) p4 u.W u.F) : RS)) rn, ar_Q (a 1) (c 1) 4 fS, ar_Q (a 2) (c 2) 8 fP, ar_Q (a 3) (c 3) 20 fC, ar_I (a 4) (c 0) 400 (RS.tk ((u.nT, u.nR, u.tk, u.rs, u.R, u.Sh, u.Cs, u.way, u.st, (fl_T K u.R (pu_m (fun p => (u.R p).2.2.2.1) nP) p4 u.W u.F u.T), (((pu_m (fun p => (u.R p).2.2.2.1) nP) : Nat) : Int), fl_G (pu_m (fun p => (u.R p).2.2.2.1) nP) p4 u.W u.F) : RS)), ar_I (a 5) (c 0) 5120 (RS.rs ((u.nT, u.nR, u.tk, u.rs, u.R, u.Sh, u.Cs, u.way, u.st, (fl_T K u.R (pu_m (fun p => (u.R p).2.2.2.1) nP) p4 u.W u.F u.T), (((pu_m (fun p => (u.R p).2.2.2.1) nP) : Nat) : Int), fl_G (pu_m (fun p => (u.R p).2.2.2.1) nP) p4 u.W u.F) : RS)), ob_TB (a 6) (a 10) (a 11) K (RS.W ((u.nT, u.nR, u.tk, u.rs, u.R, u.Sh, u.Cs, u.way, u.st, (fl_T K u.R (pu_m (fun p => (u.R p).2.2.2.1) nP) p4 u.W u.F u.T), (((pu_m (fun p => (u.R p).2.2.2.1) nP) : Nat) : Int), fl_G (pu_m (fun p => (u.R p).2.2.2.1) nP) p4 u.W u.F) : RS)) (RS.F ((u.nT, u.nR, u.tk, u.rs, u.R, u.Sh, u.Cs, u.way, u.st, (fl_T K u.R (pu_m (fun p => (u.R p).2.2.2.1) nP) p4 u.W u.F u.T), (((pu_m (fun p => (u.R p).2.2.2.1) nP) : Nat) : Int), fl_G (pu_m (fun p => (u.R p).2.2.2.1) nP) p4 u.W u.F) : RS)), ar_I (a 10) (c 0) 2312 (RS.T ((u.nT, u.nR, u.tk, u.rs, u.R, u.Sh, u.Cs, u.way, u.st, (fl_T K u.R (pu_m (fun p => (u.R p).2.2.2.1) nP) p4 u.W u.F u.T), (((pu_m (fun p => (u.R p).2.2.2.1) nP) : Nat) : Int), fl_G (pu_m (fun p => (u.R p).2.2.2.1) nP) p4 u.W u.F) : RS)).1, ar_I (a 11) (c 0) 2312 (RS.T ((u.nT, u.nR, u.tk, u.rs, u.R, u.Sh, u.Cs, u.way, u.st, (fl_T K u.R (pu_m (fun p => (u.R p).2.2.2.1) nP) p4 u.W u.F u.T), (((pu_m (fun p => (u.R p).2.2.2.1) nP) : Nat) : Int), fl_G (pu_m (fun p => (u.R p).2.2.2.1) nP) p4 u.W u.F) : RS)).2, ob_LY (a 7) (a 6) (a 8) (a 9) (RS.way ((u.nT, u.nR, u.tk, u.rs, u.R, u.Sh, u.Cs, u.way, u.st, (fl_T K u.R (pu_m (fun p => (u.R p).2.2.2.1) nP) p4 u.W u.F u.T), (((pu_m (fun p => (u.R p).2.2.2.1) nP) : Nat) : Int), fl_G (pu_m (fun p => (u.R p).2.2.2.1) nP) p4 u.W u.F) : RS)) (RS.st ((u.nT, u.nR, u.tk, u.rs, u.R, u.Sh, u.Cs, u.way, u.st, (fl_T K u.R (pu_m (fun p => (u.R p).2.2.2.1) nP) p4 u.W u.F u.T), (((pu_m (fun p => (u.R p).2.2.2.1) nP) : Nat) : Int), fl_G (pu_m (fun p => (u.R p).2.2.2.1) nP) p4 u.W u.F) : RS)), ar_I (a 8) (c 0) 256 (RS.st ((u.nT, u.nR, u.tk, u.rs, u.R, u.Sh, u.Cs, u.way, u.st, (fl_T K u.R (pu_m (fun p => (u.R p).2.2.2.1) nP) p4 u.W u.F u.T), (((pu_m (fun p => (u.R p).2.2.2.1) nP) : Nat) : Int), fl_G (pu_m (fun p => (u.R p).2.2.2.1) nP) p4 u.W u.F) : RS)).2.2.2.1, ar_I (a 9) (c 0) 8 (RS.st ((u.nT, u.nR, u.tk, u.rs, u.R, u.Sh, u.Cs, u.way, u.st, (fl_T K u.R (pu_m (fun p => (u.R p).2.2.2.1) nP) p4 u.W u.F u.T), (((pu_m (fun p => (u.R p).2.2.2.1) nP) : Nat) : Int), fl_G (pu_m (fun p => (u.R p).2.2.2.1) nP) p4 u.W u.F) : RS)).2.2.2.2, ar_I (q 5) (c 0) 4 (sw), ar_I (q 6) (c 0) 4 (sh), ar_I (q 7) (c 0) 4 (ce), ar_I (q 8) (c 0) 4 (sk), ar_I (q 15) (c 0) 4 (r.2.1), ar_I (q 20) (c 0) 3600 (mw_T.wt r.2.2.2.2.1), ar_I (q 23) (c 0) 20 (r.2.2.1), ar_I (q 24) (c 0) 20 (r.2.2.2.1), ar_I (q 25) (c 0) 20 (mw_T.cc r.2.2.2.2.1), ar_I (q 26) (c 0) 20 (mw_T.mi r.2.2.2.2.1), ar_I (q 27) (c 0) 20 (mw_T.tc r.2.2.2.2.1), ar_I (q 28) (c 0) 20 (mw_T.ta r.2.2.2.2.1), ar_I (q 29) (c 0) 20 (mw_T.rc r.2.2.2.2.1), ar_I (q 30) (c 0) 20 (mw_T.nc r.2.2.2.2.1), ar_I (q 31) (c 0) 12000 (mw_T.no r.2.2.2.2.1), ar_I (q 32) (c 0) 25600 (mw_T.tk r.2.2.2.2.1), ar_I (q 33) (c 0) 20480 (mw_T.rs r.2.2.2.2.1), ar_J (a 13) (c 5) 1 (vp_updL gj 0 ((iI ((rd_scoreAt (fl_T K u.R (pu_m (fun p => (u.R p).2.2.2.1) nP) p4 u.W u.F u.T).1 (pl_at p4 p3 p1 p2) + 1024 - 1).tdiv 1024)).toInt64))]) [] (c_MO_worth_y (cx_l X) (cx_D X) (a 14) nP q K (S : Int) le cd (nS : Int) rn (nC : Int) (c 0) (c 4) pw ph tu r.1 co r.2.2.2.2.1.st r.2.2.2.2.2 p1 p2 p3 p4 h1 (by omega) hK hb9.1 hb9.2 hL.2.2.2.2.2.2.2.1.1) lk_LW_78 d_LW_law_452 rfl (rc_at 12 rfl rfl rfl) [12, 17, 18, 20, 21, 24, 25, 26, 19, 23] [0, 1, 2, 3, 4, 5, 6, 7, 8, 9, 10, 11, 13, 14, 15, 16, 22, 27, 28, 29, 30, 31, 32, 33, 34, 35, 36, 37, 38, 39] ⟨rfl, rfl⟩ ⟨rfl, rfl, by decide⟩ [0, 4] rfl (rm_z hF (by assumption) ⟨by decide, by decide, rfl, rfl⟩ (Nat.le_of_ble_eq_true rfl)) ⟨rfl, rfl⟩ ?_
    rintro v w1 p1 t1 ⟨rfl, rfl, rfl⟩
    dsimp only [Option.toList, List.cons_append, List.nil_append, List.append_nil]
    refine vv_sub (ws' := (LWS a q c fS fP fC K S le nS nP nC rn (((u.nT, u.nR, u.tk, u.rs, u.R, u.Sh, u.Cs, u.way, u.st, (fl_T K u.R (pu_m (fun p => (u.R p).2.2.2.1) nP) p4 u.W u.F u.T), (((pu_m (fun p => (u.R p).2.2.2.1) nP) : Nat) : Int), fl_G (pu_m (fun p => (u.R p).2.2.2.1) nP) p4 u.W u.F) : RS)) sw sh ce sk pw ph co tu nS nP nC rn (((cp (wl co nP r.1 8) (cp r.2.2.2.2.1.st r.1 8) 8, r.2.1, r.2.2.1, r.2.2.2.1, (r.2.2.2.2.1.1, r.2.2.2.2.1.2.1, r.2.2.2.2.1.cc, r.2.2.2.2.1.mi, r.2.2.2.2.1.tc, r.2.2.2.2.1.ta, r.2.2.2.2.1.rc, r.2.2.2.2.1.nc, r.2.2.2.2.1.no, r.2.2.2.2.1.tk, r.2.2.2.2.1.rs, cp r.2.2.2.2.1.st r.1 8), (fi_s pw ph tu (wl co nP r.1 8) nP K r.2.2.2.2.2 4)) : mr_T)) 0 (vp_updL gj 0 ((iI ((rd_scoreAt (fl_T K u.R (pu_m (fun p => (u.R p).2.2.2.1) nP) p4 u.W u.F u.T).1 (pl_at p4 p3 p1 p2) + 1024 - 1).tdiv 1024)).toInt64)))) [0, 1, 2, 3, 4, 5, 6, 7, 8, 9, 10, 11, 30, 12, 13, 14, 15, 31, 32, 38, 33, 34, 16, 39, 35, 36, 37, 17, 18, 19, 20, 21, 22, 23, 24, 25, 26, 27, 28, 29] rfl rfl ?_
    refine vv_istore d_LW_law_455 rfl (Nat.le_of_ble_eq_true rfl) ?_
    dsimp only [List.set]
    refine vv_aload_n d_LW_law_457 rfl ?_
    refine vv_pV (wc := [ob_MO (a 14) q K (S : Int) le 0 ((nS : Nat) : Int) ((nP : Nat) : Int) rn ((nC : Nat) : Int)]) (plc := []) [] (c_MO_thrown (cx_l X) (cx_D X) (a 14) q K (S : Int) le 0 ((nS : Nat) : Int) ((nP : Nat) : Int) rn ((nC : Nat) : Int)) lk_LW_64 d_LW_law_458 rfl (rc_at 12 rfl rfl rfl) [12] ⟨rfl, rfl, Or.inl rfl⟩ [] rfl (rm_z hF (by assumption) ⟨by decide, by decide, rfl, rfl⟩ (Nat.le_of_ble_eq_true rfl)) ⟨rfl, rfl⟩ ?_
    intro v hv
    subst hv
    dsimp only [Option.toList, List.cons_append, List.nil_append, List.append_nil]
    refine vv_iload d_LW_law_461 rfl ?_
    refine vv_icmp_eq (tgt := 468) d_LW_law_463 (by decide) ⟨by omega, by omega⟩ (fun c463 => ?_) (fun c463 => ?_)
    · skip
      refine vv_iload d_LW_law_468 rfl ?_
      refine vv_if_ne (tgt := 485) d_LW_law_470 (by decide) (by omega) (fun c470 => ?_) (fun c470 => ?_)
      · exfalso; omega
      · skip
        refine vv_aload_n d_LW_law_473 rfl ?_
        refine vv_iconst d_LW_law_474 ?_
        refine vv_lald d_LW_law_475 39 5 rfl rfl ⟨by omega, by omega, by decide⟩ ?_
        refine vv_iload d_LW_law_476 rfl ?_
        refine vv_i2l (v := (iI ((rd_scoreAt (fl_T K u.R (pu_m (fun p => (u.R p).2.2.2.1) nP) p4 u.W u.F u.T).1 (pl_at p4 p3 p1 p2) + 1024 - 1).tdiv 1024)).toInt64) d_LW_law_478 (by rw [hw9.1]) ?_
        refine vv_lcmp (v := iI 0) d_LW_law_479 (lg_same (iI ((rd_scoreAt (fl_T K u.R (pu_m (fun p => (u.R p).2.2.2.1) nP) p4 u.W u.F u.T).1 (pl_at p4 p3 p1 p2) + 1024 - 1).tdiv 1024)).toInt64) ?_
        refine vv_if_eq (tgt := 485) d_LW_law_480 (by decide) (by omega) (fun c480 => ?_) (fun c480 => ?_)
        · skip
          refine vv_goto (tgt := 853) d_LW_law_485 (by decide) ?_
          exact vv_widen (by first | exact Nat.le_refl _ | omega) (by first | exact Nat.le_refl _ | omega) (kk (nS) (nP) (nC) (rn) (((u.nT, u.nR, u.tk, u.rs, u.R, u.Sh, u.Cs, u.way, u.st, (fl_T K u.R (pu_m (fun p => (u.R p).2.2.2.1) nP) p4 u.W u.F u.T), (((pu_m (fun p => (u.R p).2.2.2.1) nP) : Nat) : Int), fl_G (pu_m (fun p => (u.R p).2.2.2.1) nP) p4 u.W u.F) : RS)) (sw) (sh) (ce) (sk) (pw) (ph) (co) (tu) (((cp (wl co nP r.1 8) (cp r.2.2.2.2.1.st r.1 8) 8, r.2.1, r.2.2.1, r.2.2.2.1, (r.2.2.2.2.1.1, r.2.2.2.2.1.2.1, r.2.2.2.2.1.cc, r.2.2.2.2.1.mi, r.2.2.2.2.1.tc, r.2.2.2.2.1.ta, r.2.2.2.2.1.rc, r.2.2.2.2.1.nc, r.2.2.2.2.1.no, r.2.2.2.2.1.tk, r.2.2.2.2.1.rs, cp r.2.2.2.2.1.st r.1 8), (fi_s pw ph tu (wl co nP r.1 8) nP K r.2.2.2.2.2 4)) : mr_T)) (0) (vp_updL gj 0 ((iI ((rd_scoreAt (fl_T K u.R (pu_m (fun p => (u.R p).2.2.2.1) nP) p4 u.W u.F u.T).1 (pl_at p4 p3 p1 p2) + 1024 - 1).tdiv 1024)).toInt64)) f _ _ _ (hw9.2) (hPL))
        · exfalso; omega
    · exfalso; omega
  · refine vv_aload_n d_LW_law_396 rfl ?_
    refine vv_aload_n d_LW_law_397 rfl ?_
    refine vv_iload d_LW_law_398 rfl ?_
    refine vv_iconst d_LW_law_400 ?_
    refine vv_iadd d_LW_law_401 ?_
    refine vv_sld ⟨hx.2.2.1, hx.2.2.2, hx.2.1⟩ d_LW_law_402 ⟨by omega, by omega, hN⟩ ?_
    rw [e1]
    refine vv_aload_n d_LW_law_403 rfl ?_
    refine vv_iload d_LW_law_404 rfl ?_
    refine vv_iconst d_LW_law_406 ?_
    refine vv_iadd d_LW_law_407 ?_
    refine vv_sld ⟨hx.2.2.1, hx.2.2.2, hx.2.1⟩ d_LW_law_408 ⟨by omega, by omega, hN⟩ ?_
    rw [e2]
    refine vv_aload_n d_LW_law_409 rfl ?_
    refine vv_iload d_LW_law_410 rfl ?_
    refine vv_iconst d_LW_law_412 ?_
    refine vv_iadd d_LW_law_413 ?_
    refine vv_sld ⟨hx.2.2.1, hx.2.2.2, hx.2.1⟩ d_LW_law_414 ⟨by omega, by omega, hN⟩ ?_
    rw [e3]
    refine vv_aload_n d_LW_law_415 rfl ?_
    refine vv_iload d_LW_law_416 rfl ?_
    refine vv_iconst d_LW_law_418 ?_
    refine vv_iadd d_LW_law_419 ?_
    refine vv_sld ⟨hx.2.2.1, hx.2.2.2, hx.2.1⟩ d_LW_law_420 ⟨by omega, by omega, hN⟩ ?_
    rw [e4]
    refine vv_aload_n d_LW_law_421 rfl ?_
    refine vv_pSW hx (wc := [ob_ST (a 0) (a 1) (a 2) (a 3) (a 4) (a 5) (a 6) (a 7) (S : Int) le ((nS : Nat) : Int) ((nP : Nat) : Int) ((nC : Nat) : Int) (RS.nT u) (RS.nR u) rn]) (plc := []) [] (w_worth_n (cx_l X) (cx_D X) (a 0) (a 1) (a 2) (a 3) (a 4) (a 5) (a 6) (a 7) (S : Int) le (nS : Int) (nP : Int) (nC : Int) u.nT u.nR rn p1 p2 p3 p4 hfl b1 b2 b3 b4 (by omega) (a 13)) lk_LW_76 d_LW_law_422 rfl [0] ⟨rfl, rfl, Or.inl rfl⟩ [] rfl (rm_l hF hc ⟨by decide, by decide, by decide, by decide⟩ (Nat.le_of_ble_eq_true rfl)) ?_
    intro v hv
    subst hv
    dsimp only [Option.toList, List.cons_append, List.nil_append, List.append_nil]
    have hz1 : k + 1 ≤ RL.cells ∧ n + 6 ≤ RL.slots := hc
    refine vv_istore d_LW_law_425 rfl (Nat.le_of_ble_eq_true rfl) ?_
    dsimp only [List.set]
    refine vv_aload_n d_LW_law_427 rfl ?_
    refine vv_aload_n d_LW_law_428 rfl ?_
    refine vv_iload d_LW_law_429 rfl ?_
    refine vv_iconst d_LW_law_431 ?_
    refine vv_iadd d_LW_law_432 ?_
    refine vv_sld ⟨hx.2.2.1, hx.2.2.2, hx.2.1⟩ d_LW_law_433 ⟨by omega, by omega, hN⟩ ?_
    rw [e1]
    refine vv_aload_n d_LW_law_434 rfl ?_
    refine vv_iload d_LW_law_435 rfl ?_
    refine vv_iconst d_LW_law_437 ?_
    refine vv_iadd d_LW_law_438 ?_
    refine vv_sld ⟨hx.2.2.1, hx.2.2.2, hx.2.1⟩ d_LW_law_439 ⟨by omega, by omega, hN⟩ ?_
    rw [e2]
    refine vv_aload_n d_LW_law_440 rfl ?_
    refine vv_iload d_LW_law_441 rfl ?_
    refine vv_iconst d_LW_law_443 ?_
    refine vv_iadd d_LW_law_444 ?_
    refine vv_sld ⟨hx.2.2.1, hx.2.2.2, hx.2.1⟩ d_LW_law_445 ⟨by omega, by omega, hN⟩ ?_
    rw [e3]
    refine vv_aload_n d_LW_law_446 rfl ?_
    refine vv_iload d_LW_law_447 rfl ?_
    refine vv_iconst d_LW_law_449 ?_
    refine vv_iadd d_LW_law_450 ?_
    refine vv_sld ⟨hx.2.2.1, hx.2.2.2, hx.2.1⟩ d_LW_law_451 ⟨by omega, by omega, hN⟩ ?_
    rw [e4]
    refine vv_nV hw (wc := [ob_MO (a 14) q K (S : Int) le cd ((nS : Nat) : Int) ((nP : Nat) : Int) rn ((nC : Nat) : Int)]) (wr := [ob_ST (a 0) (a 1) (a 2) (a 3) (a 4) (a 5) (a 6) (a 7) (S : Int) le ((nS : Nat) : Int) ((nP : Nat) : Int) ((nC : Nat) : Int) (RS.nT u) (RS.nR u) rn, ar_Q (a 1) (c 1) 4 fS, ar_Q (a 2) (c 2) 8 fP, ar_Q (a 3) (c 3) 20 fC, ar_I (a 4) (c 0) 400 (RS.tk u), ar_I (a 5) (c 0) 5120 (RS.rs u), ob_TB (a 6) (a 10) (a 11) K (RS.W u) (RS.F u), ar_I (a 10) (c 0) 2312 (RS.T u).1, ar_I (a 11) (c 0) 2312 (RS.T u).2, ob_LY (a 7) (a 6) (a 8) (a 9) (RS.way u) (RS.st u), ar_I (a 8) (c 0) 256 (RS.st u).2.2.2.1, ar_I (a 9) (c 0) 8 (RS.st u).2.2.2.2, ar_I (q 5) (c 0) 4 (sw), ar_I (q 6) (c 0) 4 (sh), ar_I (q 7) (c 0) 4 (ce), ar_I (q 8) (c 0) 4 (sk), ar_I (q 10) (c 0) 8 (pw), ar_I (q 11) (c 0) 8 (ph), ar_I (q 12) (c 0) 8 (co), ar_I (q 13) (c 4) 8 (tu), ar_I (q 14) (c 0) 8 (r.1), ar_I (q 15) (c 0) 4 (r.2.1), ar_I (q 16) (c 0) 8 (mw_T.st r.2.2.2.2.1), ar_I (q 17) (c 0) 2312 (r.2.2.2.2.2.1), ar_I (q 18) (c 0) 2312 (r.2.2.2.2.2.2.1), ar_I (q 19) (c 0) 2312 (r.2.2.2.2.2.2.2), ar_I (q 20) (c 0) 3600 (mw_T.wt r.2.2.2.2.1), ar_I (q 23) (c 0) 20 (r.2.2.1), ar_I (q 24) (c 0) 20 (r.2.2.2.1), ar_I (q 25) (c 0) 20 (mw_T.cc r.2.2.2.2.1), ar_I (q 26) (c 0) 20 (mw_T.mi r.2.2.2.2.1), ar_I (q 27) (c 0) 20 (mw_T.tc r.2.2.2.2.1), ar_I (q 28) (c 0) 20 (mw_T.ta r.2.2.2.2.1), ar_I (q 29) (c 0) 20 (mw_T.rc r.2.2.2.2.1), ar_I (q 30) (c 0) 20 (mw_T.nc r.2.2.2.2.1), ar_I (q 31) (c 0) 12000 (mw_T.no r.2.2.2.2.1), ar_I (q 32) (c 0) 25600 (mw_T.tk r.2.2.2.2.1), ar_I (q 33) (c 0) 20480 (mw_T.rs r.2.2.2.2.1), ar_J (a 13) (c 5) 1 (gj)]) [] (c_MO_worth_n (cx_l X) (cx_D X) (a 14) q K (S : Int) le cd (nS : Int) (nP : Int) rn (nC : Int) p1 p2 p3 p4 b1 b2 b3 b4 h1) lk_LW_78 d_LW_law_452 rfl (rc_at 12 rfl rfl rfl) [12] [0, 1, 2, 3, 4, 5, 6, 7, 8, 9, 10, 11, 13, 14, 15, 16, 17, 18, 19, 20, 21, 22, 23, 24, 25, 26, 27, 28, 29, 30, 31, 32, 33, 34, 35, 36, 37, 38, 39] ⟨rfl, rfl⟩ ⟨rfl, rfl, by decide⟩ [] rfl (rm_z hF (by assumption) ⟨by decide, by decide, rfl, rfl⟩ (Nat.le_of_ble_eq_true rfl)) ⟨rfl, rfl⟩ ?_
    rintro v w1 p1 t1 ⟨rfl, rfl, rfl⟩
    dsimp only [Option.toList, List.cons_append, List.nil_append, List.append_nil]
    refine vv_sub (ws' := (LWS a q c fS fP fC K S le nS nP nC rn u sw sh ce sk pw ph co tu nS nP nC rn r 1 gj)) [0, 1, 2, 3, 4, 5, 6, 7, 8, 9, 10, 11, 39, 12, 13, 14, 15, 16, 17, 18, 19, 20, 21, 22, 23, 24, 25, 26, 27, 28, 29, 30, 31, 32, 33, 34, 35, 36, 37, 38] rfl rfl ?_
    refine vv_istore d_LW_law_455 rfl (Nat.le_of_ble_eq_true rfl) ?_
    dsimp only [List.set]
    refine vv_aload_n d_LW_law_457 rfl ?_
    refine vv_pV (wc := [ob_MO (a 14) q K (S : Int) le 1 ((nS : Nat) : Int) ((nP : Nat) : Int) rn ((nC : Nat) : Int)]) (plc := []) [] (c_MO_thrown (cx_l X) (cx_D X) (a 14) q K (S : Int) le 1 ((nS : Nat) : Int) ((nP : Nat) : Int) rn ((nC : Nat) : Int)) lk_LW_64 d_LW_law_458 rfl (rc_at 12 rfl rfl rfl) [12] ⟨rfl, rfl, Or.inl rfl⟩ [] rfl (rm_z hF (by assumption) ⟨by decide, by decide, rfl, rfl⟩ (Nat.le_of_ble_eq_true rfl)) ⟨rfl, rfl⟩ ?_
    intro v hv
    subst hv
    dsimp only [Option.toList, List.cons_append, List.nil_append, List.append_nil]
    refine vv_iload d_LW_law_461 rfl ?_
    refine vv_icmp_eq (tgt := 468) d_LW_law_463 (by decide) ⟨by omega, by omega⟩ (fun c463 => ?_) (fun c463 => ?_)
    · skip
      refine vv_iload d_LW_law_468 rfl ?_
      refine vv_if_ne (tgt := 485) d_LW_law_470 (by decide) (by omega) (fun c470 => ?_) (fun c470 => ?_)
      · skip
        refine vv_goto (tgt := 853) d_LW_law_485 (by decide) ?_
        exact vv_widen (by first | exact Nat.le_refl _ | omega) (by first | exact Nat.le_refl _ | omega) (kk (nS) (nP) (nC) (rn) (u) (sw) (sh) (ce) (sk) (pw) (ph) (co) (tu) (r) (1) (gj) f _ _ _ (hL) (hPL))
      · exfalso; omega
    · exfalso; omega
