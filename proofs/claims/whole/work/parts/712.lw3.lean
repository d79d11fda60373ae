set_option maxHeartbeats 4000000 in
set_option maxRecDepth 100000 in
theorem law_count {X : cx_T} {Q : State → Prop} {RL : Room} {k n : Nat} {a q : Nat → Nat} {c : Nat → ClassId} {fS fP fC : Nat → Option Nat} {N : Nat} {g : Nat → Int} {K : Int} {S : Nat} {le : Int} {L : List Nat} {aS aP aC : Nat → Nat} {i : Int} (hw : cx_w X) (hfl : (cx_l X).flags = flags0) (hx : lx X (a 12) N g) (hF : 12 ≤ RL.frames ∧ 700 ≤ RL.locals) (hc : k + 1 ≤ RL.cells ∧ n + 6 ≤ RL.slots) (hK : 0 ≤ K ∧ K ≤ 3) (hS : 1 ≤ S ∧ S ≤ 3) (hle : 1 ≤ le ∧ le ≤ 16) (hAD : AD aS aP aC) (hfS : ∀ i : Nat, i < 4 → fS i = some (aS i)) (hfP : ∀ i : Nat, i < 8 → fP i = some (aP i)) (hfC : ∀ i : Nat, i < 20 → fC i = some (aC i)) (hN : N < 2147483648) (hg : ∀ j : Nat, -2147483648 ≤ g j ∧ g j < 2147483648) (hi : 3 ≤ i ∧ i + 5 ≤ (N : Int)) {nS nP nC : Nat} {rn : Int} {u : RS} {sw sh ce sk pw ph co tu : Nat → Int} {r : mr_T} {cd : Int} {gj : Nat → Int64} {f : Nat → va_E} {v5 v6 v7 : Option Value} (hL : LR K S nS nP nC rn u sw sh ce sk pw ph co tu r) (hPL : PL L f aS aP aC u.Sh u.R u.Cs) (kk : (∀ (nS nP nC : Nat) (rn : Int) (u : RS) (sw sh ce sk pw ph co tu : Nat → Int) (r : mr_T) (cd : Int) (gj : Nat → Int64) (f : Nat → va_E) (v5 v6 v7 : Option Value), LR K S nS nP nC rn u sw sh ce sk pw ph co tu r → PL L f aS aP aC u.Sh u.R u.Cs → VV X (code, 8, "SheetTreesLaw", RL) Q (k + 1) (n + 6) (LTY c) (LWS a q c fS fP fC K S le nS nP nC rn u sw sh ce sk pw ph co tu nS nP nC rn r cd gj) (va_pl L f) [some (.ref (a 12)), some (.ref (a 0)), some (.ref (a 14)), some (.ref (a 13)), some (.int (iI i)), v5, v6, v7] [] 853)) : VV X (code, 8, "SheetTreesLaw", RL) Q k n (LTY c) (LWS a q c fS fP fC K S le nS nP nC rn u sw sh ce sk pw ph co tu nS nP nC rn r cd gj) (va_pl L f) [some (.ref (a 12)), some (.ref (a 0)), some (.ref (a 14)), some (.ref (a 13)), some (.int (iI i)), v5, v6, v7] [] 328 := by
  have hl1 := hL.1
  have b1 := hg (i + 1).toNat
  generalize e1 : g (i + 1).toNat = p1 at b1
  have b2 := hg (i + 2).toNat
  generalize e2 : g (i + 2).toNat = p2 at b2
  have hz0 : k ≤ RL.cells ∧ n ≤ RL.slots := by omega
  by_cases h1 : 0 ≤ p1 ∧ p1 < (nP : Int)
  · obtain ⟨j, rfl⟩ : ∃ j : Nat, p1 = (j : Int) := ⟨p1.toNat, by omega⟩
    by_cases h2 : 0 ≤ p2 ∧ p2 ≤ 50
    · refine vv_aload_n d_LW_law_328 rfl ?_
      refine vv_aload_n d_LW_law_329 rfl ?_
      refine vv_iload d_LW_law_330 rfl ?_
      refine vv_iconst d_LW_law_332 ?_
      refine vv_iadd d_LW_law_333 ?_
      refine vv_sld ⟨hx.2.2.1, hx.2.2.2, hx.2.1⟩ d_LW_law_334 ⟨by omega, by omega, hN⟩ ?_
      rw [e1]
      refine vv_aload_n d_LW_law_335 rfl ?_
      refine vv_iload d_LW_law_336 rfl ?_
      refine vv_iconst d_LW_law_338 ?_
      refine vv_iadd d_LW_law_339 ?_
      refine vv_sld ⟨hx.2.2.1, hx.2.2.2, hx.2.1⟩ d_LW_law_340 ⟨by omega, by omega, hN⟩ ?_
      rw [e2]
      refine vv_aload_n d_LW_law_341 rfl ?_
      refine vv_mSW hw (wc := [ar_J (a 13) (c 5) 1 (gj), ob_ST (a 0) (a 1) (a 2) (a 3) (a 4) (a 5) (a 6) (a 7) (S : Int) le ((nS : Nat) : Int) ((nP : Nat) : Int) ((nC : Nat) : Int) (RS.nT u) (RS.nR u) rn, ar_Q (a 2) (c 2) 8 fP]) (wr := [ar_Q (a 1) (c 1) 4 fS, ar_Q (a 3) (c 3) 20 fC, ar_I (a 4) (c 0) 400 (RS.tk u), ar_I (a 5) (c 0) 5120 (RS.rs u), ob_TB (a 6) (a 10) (a 11) K (RS.W u) (RS.F u), ar_I (a 10) (c 0) 2312 (RS.T u).1, ar_I (a 11) (c 0) 2312 (RS.T u).2, ob_LY (a 7) (a 6) (a 8) (a 9) (RS.way u) (RS.st u), ar_I (a 8) (c 0) 256 (RS.st u).2.2.2.1, ar_I (a 9) (c 0) 8 (RS.st u).2.2.2.2, ob_MO (a 14) q K (S : Int) le cd ((nS : Nat) : Int) ((nP : Nat) : Int) rn ((nC : Nat) : Int), ar_I (q 5) (c 0) 4 (sw), ar_I (q 6) (c 0) 4 (sh), ar_I (q 7) (c 0) 4 (ce), ar_I (q 8) (c 0) 4 (sk), ar_I (q 10) (c 0) 8 (pw), ar_I (q 11) (c 0) 8 (ph), ar_I (q 12) (c 0) 8 (co), ar_I (q 13) (c 4) 8 (tu), ar_I (q 14) (c 0) 8 (r.1), ar_I (q 15) (c 0) 4 (r.2.1), ar_I (q 16) (c 0) 8 (mw_T.st r.2.2.2.2.1), ar_I (q 17) (c 0) 2312 (r.2.2.2.2.2.1), ar_I (q 18) (c 0) 2312 (r.2.2.2.2.2.2.1), ar_I (q 19) (c 0) 2312 (r.2.2.2.2.2.2.2), ar_I (q 20) (c 0) 3600 (mw_T.wt r.2.2.2.2.1), ar_I (q 23) (c 0) 20 (r.2.2.1), ar_I (q 24) (c 0) 20 (r.2.2.2.1), ar_I (q 25) (c 0) 20 (mw_T.cc r.2.2.2.2.1), ar_I (q 26) (c 0) 20 (mw_T.mi r.2.2.2.2.1), ar_I (q 27) (c 0) 20 (mw_T.tc r.2.2.2.2.1), ar_I (q 28) (c 0) 20 (mw_T.ta r.2.2.2.2.1), ar_I (q 29) (c 0) 20 (mw_T.rc r.2.2.2.2.1), ar_I (q 30) (c 0) 20 (mw_T.nc r.2.2.2.2.1), ar_I (q 31) (c 0) 12000 (mw_T.no r.2.2.2.2.1), ar_I (q 32) (c 0) 25600 (mw_T.tk r.2.2.2.2.1), ar_I (q 33) (c 0) 20480 (mw_T.rs r.2.2.2.2.1)]) [] (w_count_y (cx_l X) (cx_D X) (a 0) (a 1) (a 2) (a 3) (a 4) (a 5) (a 6) (a 7) nP j (S : Int) le (nS : Int) (nC : Int) u.nT u.nR rn p2 (c 2) fP L f aS aP aC u.Sh u.R u.Cs (by omega) (by omega) h2 hfP hPL hAD (a 13) (c 5) gj) lk_LW_72 d_LW_law_342 rfl [39, 0, 2] [1, 3, 4, 5, 6, 7, 8, 9, 10, 11, 12, 13, 14, 15, 16, 17, 18, 19, 20, 21, 22, 23, 24, 25, 26, 27, 28, 29, 30, 31, 32, 33, 34, 35, 36, 37, 38] ⟨rfl, rfl⟩ ⟨rfl, rfl, by decide⟩ [5, 2] rfl (rm_l hF hc ⟨by decide, by decide, by decide, by decide⟩ (Nat.le_of_ble_eq_true rfl)) ⟨rfl, rfl⟩ ?_
      rintro v w1 p1 t1 ⟨rfl, rfl, f9, rfl, hp9⟩
      dsimp only [Option.toList, List.cons_append, List.nil_append, List.append_nil]
      refine vv_sub (ws' := (LWS a q c fS fP fC K S le nS nP nC 0 (((u.nT, u.nR, u.tk, u.rs, va_up u.R j (((u.R j).1, (u.R j).2.1, (u.R j).2.2.1, p2, (u.R j).2.2.2.2) : pa_T), u.Sh, u.Cs, u.way, u.st, u.T, u.W, u.F) : RS)) sw sh ce sk pw ph co tu nS nP nC rn r cd (vp_updL gj 0 ((iI (u.R j).2.2.2.1).toInt64)))) [38, 0, 39, 1, 2, 3, 4, 5, 6, 7, 8, 9, 10, 11, 12, 13, 14, 15, 16, 17, 18, 19, 20, 21, 22, 23, 24, 25, 26, 27, 28, 29, 30, 31, 32, 33, 34, 35, 36, 37] rfl rfl ?_
      refine vv_istore d_LW_law_345 rfl (Nat.le_of_ble_eq_true rfl) ?_
      dsimp only [List.set]
      refine vv_aload_n d_LW_law_347 rfl ?_
      refine vv_aload_n d_LW_law_348 rfl ?_
      refine vv_iload d_LW_law_349 rfl ?_
      refine vv_iconst d_LW_law_351 ?_
      refine vv_iadd d_LW_law_352 ?_
      refine vv_sld ⟨hx.2.2.1, hx.2.2.2, hx.2.1⟩ d_LW_law_353 ⟨by omega, by omega, hN⟩ ?_
      rw [e1]
      refine vv_aload_n d_LW_law_354 rfl ?_
      refine vv_iload d_LW_law_355 rfl ?_
      refine vv_iconst d_LW_law_357 ?_
      refine vv_iadd d_LW_law_358 ?_
      refine vv_sld ⟨hx.2.2.1, hx.2.2.2, hx.2.1⟩ d_LW_law_359 ⟨by omega, by omega, hN⟩ ?_
      rw [e2]
      refine vv_nV hw (wc := [ob_MO (a 14) q K (S : Int) le cd ((nS : Nat) : Int) ((nP : Nat) : Int) rn ((nC : Nat) : Int), ar_I (q 12) (c 0) 8 (co)]) (wr := [ob_ST (a 0) (a 1) (a 2) (a 3) (a 4) (a 5) (a 6) (a 7) (S : Int) le ((nS : Nat) : Int) ((nP : Nat) : Int) ((nC : Nat) : Int) (RS.nT ((u.nT, u.nR, u.tk, u.rs, va_up u.R j (((u.R j).1, (u.R j).2.1, (u.R j).2.2.1, p2, (u.R j).2.2.2.2) : pa_T), u.Sh, u.Cs, u.way, u.st, u.T, u.W, u.F) : RS)) (RS.nR ((u.nT, u.nR, u.tk, u.rs, va_up u.R j (((u.R j).1, (u.R j).2.1, (u.R j).2.2.1, p2, (u.R j).2.2.2.2) : pa_T), u.Sh, u.Cs, u.way, u.st, u.T, u.W, u.F) : RS)) 0, ar_Q (a 1) (c 1) 4 fS, ar_Q (a 2) (c 2) 8 fP, ar_Q (a 3) (c 3) 20 fC, ar_I (a 4) (c 0) 400 (RS.tk ((u.nT, u.nR, u.tk, u.rs, va_up u.R j (((u.R j).1, (u.R j).2.1, (u.R j).2.2.1, p2, (u.R j).2.2.2.2) : pa_T), u.Sh, u.Cs, u.way, u.st, u.T, u.W, u.F) : RS)), ar_I (a 5) (c 0) 5120 (RS.rs ((u.nT, u.nR, u.tk, u.rs, va_up u.R j (((u.R j).1, (u.R j).2.1, (u.R j).2.2.1, p2, (u.R j).2.2.2.2) : pa_T), u.Sh, u.Cs, u.way, u.st, u.T, u.W, u.F) : RS)), ob_TB (a 6) (a 10) (a 11) K (RS.W ((u.nT, u.nR, u.tk, u.rs, va_up u.R j (((u.R j).1, (u.R j).2.1, (u.R j).2.2.1, p2, (u.R j).2.2.2.2) : pa_T), u.Sh, u.Cs, u.way, u.st, u.T, u.W, u.F) : RS)) (RS.F ((u.nT, u.nR, u.tk, u.rs, va_up u.R j (((u.R j).1, (u.R j).2.1, (u.R j).2.2.1, p2, (u.R j).2.2.2.2) : pa_T), u.Sh, u.Cs, u.way, u.st, u.T, u.W, u.F) : RS)), ar_I (a 10) (c 0) 2312 (RS.T ((u.nT, u.nR, u.tk, u.rs, va_up u.R j (((u.R j).1, (u.R j).2.1, (u.R j).2.2.1, p2, (u.R j).2.2.2.2) : pa_T), u.Sh, u.Cs, u.way, u.st, u.T, u.W, u.F) : RS)).1, ar_I (a 11) (c 0) 2312 (RS.T ((u.nT, u.nR, u.tk, u.rs, va_up u.R j (((u.R j).1, (u.R j).2.1, (u.R j).2.2.1, p2, (u.R j).2.2.2.2) : pa_T), u.Sh, u.Cs, u.way, u.st, u.T, u.W, u.F) : RS)).2, ob_LY (a 7) (a 6) (a 8) (a 9) (RS.way ((u.nT, u.nR, u.tk, u.rs, va_up u.R j (((u.R j).1, (u.R j).2.1, (u.R j).2.2.1, p2, (u.R j).2.2.2.2) : pa_T), u.Sh, u.Cs, u.way, u.st, u.T, u.W, u.F) : RS)) (RS.st ((u.nT, u.nR, u.tk, u.rs, va_up u.R j (((u.R j).1, (u.R j).2.1, (u.R j).2.2.1, p2, (u.R j).2.2.2.2) : pa_T), u.Sh, u.Cs, u.way, u.st, u.T, u.W, u.F) : RS)), ar_I (a 8) (c 0) 256 (RS.st ((u.nT, u.nR, u.tk, u.rs, va_up u.R j (((u.R j).1, (u.R j).2.1, (u.R j).2.2.1, p2, (u.R j).2.2.2.2) : pa_T), u.Sh, u.Cs, u.way, u.st, u.T, u.W, u.F) : RS)).2.2.2.1, ar_I (a 9) (c 0) 8 (RS.st ((u.nT, u.nR, u.tk, u.rs, va_up u.R j (((u.R j).1, (u.R j).2.1, (u.R j).2.2.1, p2, (u.R j).2.2.2.2) : pa_T), u.Sh, u.Cs, u.way, u.st, u.T, u.W, u.F) : RS)).2.2.2.2, ar_I (q 5) (c 0) 4 (sw), ar_I (q 6) (c 0) 4 (sh), ar_I (q 7) (c 0) 4 (ce), ar_I (q 8) (c 0) 4 (sk), ar_I (q 10) (c 0) 8 (pw), ar_I (q 11) (c 0) 8 (ph), ar_I (q 13) (c 4) 8 (tu), ar_I (q 14) (c 0) 8 (r.1), ar_I (q 15) (c 0) 4 (r.2.1), ar_I (q 16) (c 0) 8 (mw_T.st r.2.2.2.2.1), ar_I (q 17) (c 0) 2312 (r.2.2.2.2.2.1), ar_I (q 18) (c 0) 2312 (r.2.2.2.2.2.2.1), ar_I (q 19) (c 0) 2312 (r.2.2.2.2.2.2.2), ar_I (q 20) (c 0) 3600 (mw_T.wt r.2.2.2.2.1), ar_I (q 23) (c 0) 20 (r.2.2.1), ar_I (q 24) (c 0) 20 (r.2.2.2.1), ar_I (q 25) (c 0) 20 (mw_T.cc r.2.2.2.2.1), ar_I (q 26) (c 0) 20 (mw_T.mi r.2.2.2.2.1), ar_I (q 27) (c 0) 20 (mw_T.tc r.2.2.2.2.1), ar_I (q 28) (c 0) 20 (mw_T.ta r.2.2.2.2.1), ar_I (q 29) (c 0) 20 (mw_T.rc r.2.2.2.2.1), ar_I (q 30) (c 0) 20 (mw_T.nc r.2.2.2.2.1), ar_I (q 31) (c 0) 12000 (mw_T.no r.2.2.2.2.1), ar_I (q 32) (c 0) 25600 (mw_T.tk r.2.2.2.2.1), ar_I (q 33) (c 0) 20480 (mw_T.rs r.2.2.2.2.1), ar_J (a 13) (c 5) 1 (vp_updL gj 0 ((iI (u.R j).2.2.2.1).toInt64))]) [] (c_MO_count_y (cx_l X) (cx_D X) (a 14) q K (S : Int) le cd (nS : Int) (nP : Int) rn (nC : Int) (c 0) co (j : Int) p2 (by omega) (by omega) h2) lk_LW_75 d_LW_law_360 rfl (rc_at 12 rfl rfl rfl) [12, 19] [0, 1, 2, 3, 4, 5, 6, 7, 8, 9, 10, 11, 13, 14, 15, 16, 17, 18, 20, 21, 22, 23, 24, 25, 26, 27, 28, 29, 30, 31, 32, 33, 34, 35, 36, 37, 38, 39] ⟨rfl, rfl⟩ ⟨rfl, rfl, by decide⟩ [0] rfl (rm_z hF (by assumption) ⟨by decide, by decide, rfl, rfl⟩ (Nat.le_of_ble_eq_true rfl)) ⟨rfl, rfl⟩ ?_
      rintro v w1 p1 t1 ⟨rfl, rfl, rfl⟩
      dsimp only [Option.toList, List.cons_append, List.nil_append, List.append_nil]
      refine vv_sub (ws' := (LWS a q c fS fP fC K S le nS nP nC 0 (((u.nT, u.nR, u.tk, u.rs, va_up u.R j (((u.R j).1, (u.R j).2.1, (u.R j).2.2.1, p2, (u.R j).2.2.2.2) : pa_T), u.Sh, u.Cs, u.way, u.st, u.T, u.W, u.F) : RS)) sw sh ce sk pw ph (va_up co j p2) tu nS nP nC 0 r 0 (vp_updL gj 0 ((iI (u.R j).2.2.2.1).toInt64)))) [0, 1, 2, 3, 4, 5, 6, 7, 8, 9, 10, 11, 38, 12, 13, 14, 15, 16, 17, 39, 18, 19, 20, 21, 22, 23, 24, 25, 26, 27, 28, 29, 30, 31, 32, 33, 34, 35, 36, 37] rfl rfl ?_
      refine vv_istore d_LW_law_363 rfl (Nat.le_of_ble_eq_true rfl) ?_
      dsimp only [List.set]
      refine vv_aload_n d_LW_law_365 rfl ?_
      refine vv_pV (wc := [ob_MO (a 14) q K (S : Int) le 0 ((nS : Nat) : Int) ((nP : Nat) : Int) 0 ((nC : Nat) : Int)]) (plc := []) [] (c_MO_thrown (cx_l X) (cx_D X) (a 14) q K (S : Int) le 0 ((nS : Nat) : Int) ((nP : Nat) : Int) 0 ((nC : Nat) : Int)) lk_LW_64 d_LW_law_366 rfl (rc_at 12 rfl rfl rfl) [12] ⟨rfl, rfl, Or.inl rfl⟩ [] rfl (rm_z hF (by assumption) ⟨by decide, by decide, rfl, rfl⟩ (Nat.le_of_ble_eq_true rfl)) ⟨rfl, rfl⟩ ?_
      intro v hv
      subst hv
      dsimp only [Option.toList, List.cons_append, List.nil_append, List.append_nil]
      refine vv_iload d_LW_law_369 rfl ?_
      refine vv_icmp_eq (tgt := 376) d_LW_law_371 (by decide) ⟨by omega, by omega⟩ (fun c371 => ?_) (fun c371 => ?_)
      · skip
        refine vv_iload d_LW_law_376 rfl ?_
        refine vv_if_ne (tgt := 393) d_LW_law_378 (by decide) (by omega) (fun c378 => ?_) (fun c378 => ?_)
        · exfalso; omega
        · skip
          refine vv_aload_n d_LW_law_381 rfl ?_
          refine vv_iconst d_LW_law_382 ?_
          refine vv_lald d_LW_law_383 39 5 rfl rfl ⟨by omega, by omega, by decide⟩ ?_
          refine vv_iload d_LW_law_384 rfl ?_
          refine vv_i2l (v := (iI (u.R j).2.2.2.1).toInt64) d_LW_law_386 (by show (iI (co j)).toInt64 = _; rw [(hL.2.2.2.1 j (by omega)).2.2.2.2]) ?_
          refine vv_lcmp (v := iI 0) d_LW_law_387 (lg_same (iI (u.R j).2.2.2.1).toInt64) ?_
          refine vv_if_eq (tgt := 393) d_LW_law_388 (by decide) (by omega) (fun c388 => ?_) (fun c388 => ?_)
          · skip
            refine vv_goto (tgt := 853) d_LW_law_393 (by decide) ?_
            exact vv_widen (by first | exact Nat.le_refl _ | omega) (by first | exact Nat.le_refl _ | omega) (kk (nS) (nP) (nC) (0) (((u.nT, u.nR, u.tk, u.rs, va_up u.R j (((u.R j).1, (u.R j).2.1, (u.R j).2.2.1, p2, (u.R j).2.2.2.2) : pa_T), u.Sh, u.Cs, u.way, u.st, u.T, u.W, u.F) : RS)) (sw) (sh) (ce) (sk) (pw) (ph) (va_up co j p2) (tu) (r) (0) (vp_updL gj 0 ((iI (u.R j).2.2.2.1).toInt64)) f9 _ _ _ (LR_count hL (by omega) h2) (hp9))
          · exfalso; omega
      · exfalso; omega
    · refine vv_aload_n d_LW_law_328 rfl ?_
      refine vv_aload_n d_LW_law_329 rfl ?_
      refine vv_iload d_LW_law_330 rfl ?_
      refine vv_iconst d_LW_law_332 ?_
      refine vv_iadd d_LW_law_333 ?_
      refine vv_sld ⟨hx.2.2.1, hx.2.2.2, hx.2.1⟩ d_LW_law_334 ⟨by omega, by omega, hN⟩ ?_
      rw [e1]
      refine vv_aload_n d_LW_law_335 rfl ?_
      refine vv_iload d_LW_law_336 rfl ?_
      refine vv_iconst d_LW_law_338 ?_
      refine vv_iadd d_LW_law_339 ?_
      refine vv_sld ⟨hx.2.2.1, hx.2.2.2, hx.2.1⟩ d_LW_law_340 ⟨by omega, by omega, hN⟩ ?_
      rw [e2]
      refine vv_aload_n d_LW_law_341 rfl ?_
      refine vv_pSW hx (wc := [ob_ST (a 0) (a 1) (a 2) (a 3) (a 4) (a 5) (a 6) (a 7) (S : Int) le ((nS : Nat) : Int) ((nP : Nat) : Int) ((nC : Nat) : Int) (RS.nT u) (RS.nR u) rn, ar_Q (a 2) (c 2) 8 fP]) (plc := []) [] (w_count_n2 (cx_l X) (cx_D X) (a 0) (a 1) (a 2) (a 3) (a 4) (a 5) (a 6) (a 7) nP j (S : Int) le (nS : Int) (nC : Int) u.nT u.nR rn p2 (c 2) fP aP hfl (by omega) (by omega) hfP b2 (by omega) (a 13)) lk_LW_72 d_LW_law_342 rfl [0, 2] ⟨rfl, rfl, Or.inl rfl⟩ [2] rfl (rm_l hF hc ⟨by decide, by decide, by decide, by decide⟩ (Nat.le_of_ble_eq_true rfl)) ?_
      intro v hv
      subst hv
      dsimp only [Option.toList, List.cons_append, List.nil_append, List.append_nil]
      have hz1 : k + 1 ≤ RL.cells ∧ n + 6 ≤ RL.slots := hc
      refine vv_istore d_LW_law_345 rfl (Nat.le_of_ble_eq_true rfl) ?_
      dsimp only [List.set]
      refine vv_aload_n d_LW_law_347 rfl ?_
      refine vv_aload_n d_LW_law_348 rfl ?_
      refine vv_iload d_LW_law_349 rfl ?_
      refine vv_iconst d_LW_law_351 ?_
      refine vv_iadd d_LW_law_352 ?_
      refine vv_sld ⟨hx.2.2.1, hx.2.2.2, hx.2.1⟩ d_LW_law_353 ⟨by omega, by omega, hN⟩ ?_
      rw [e1]
      refine vv_aload_n d_LW_law_354 rfl ?_
      refine vv_iload d_LW_law_355 rfl ?_
      refine vv_iconst d_LW_law_357 ?_
      refine vv_iadd d_LW_law_358 ?_
      refine vv_sld ⟨hx.2.2.1, hx.2.2.2, hx.2.1⟩ d_LW_law_359 ⟨by omega, by omega, hN⟩ ?_
      rw [e2]
      refine vv_nV hw (wc := [ob_MO (a 14) q K (S : Int) le cd ((nS : Nat) : Int) ((nP : Nat) : Int) rn ((nC : Nat) : Int)]) (wr := [ob_ST (a 0) (a 1) (a 2) (a 3) (a 4) (a 5) (a 6) (a 7) (S : Int) le ((nS : Nat) : Int) ((nP : Nat) : Int) ((nC : Nat) : Int) (RS.nT u) (RS.nR u) rn, ar_Q (a 1) (c 1) 4 fS, ar_Q (a 2) (c 2) 8 fP, ar_Q (a 3) (c 3) 20 fC, ar_I (a 4) (c 0) 400 (RS.tk u), ar_I (a 5) (c 0) 5120 (RS.rs u), ob_TB (a 6) (a 10) (a 11) K (RS.W u) (RS.F u), ar_I (a 10) (c 0) 2312 (RS.T u).1, ar_I (a 11) (c 0) 2312 (RS.T u).2, ob_LY (a 7) (a 6) (a 8) (a 9) (RS.way u) (RS.st u), ar_I (a 8) (c 0) 256 (RS.st u).2.2.2.1, ar_I (a 9) (c 0) 8 (RS.st u).2.2.2.2, ar_I (q 5) (c 0) 4 (sw), ar_I (q 6) (c 0) 4 (sh), ar_I (q 7) (c 0) 4 (ce), ar_I (q 8) (c 0) 4 (sk), ar_I (q 10) (c 0) 8 (pw), ar_I (q 11) (c 0) 8 (ph), ar_I (q 12) (c 0) 8 (co), ar_I (q 13) (c 4) 8 (tu), ar_I (q 14) (c 0) 8 (r.1), ar_I (q 15) (c 0) 4 (r.2.1), ar_I (q 16) (c 0) 8 (mw_T.st r.2.2.2.2.1), ar_I (q 17) (c 0) 2312 (r.2.2.2.2.2.1), ar_I (q 18) (c 0) 2312 (r.2.2.2.2.2.2.1), ar_I (q 19) (c 0) 2312 (r.2.2.2.2.2.2.2), ar_I (q 20) (c 0) 3600 (mw_T.wt r.2.2.2.2.1), ar_I (q 23) (c 0) 20 (r.2.2.1), ar_I (q 24) (c 0) 20 (r.2.2.2.1), ar_I (q 25) (c 0) 20 (mw_T.cc r.2.2.2.2.1), ar_I (q 26) (c 0) 20 (mw_T.mi r.2.2.2.2.1), ar_I (q 27) (c 0) 20 (mw_T.tc r.2.2.2.2.1), ar_I (q 28) (c 0) 20 (mw_T.ta r.2.2.2.2.1), ar_I (q 29) (c 0) 20 (mw_T.rc r.2.2.2.2.1), ar_I (q 30) (c 0) 20 (mw_T.nc r.2.2.2.2.1), ar_I (q 31) (c 0) 12000 (mw_T.no r.2.2.2.2.1), ar_I (q 32) (c 0) 25600 (mw_T.tk r.2.2.2.2.1), ar_I (q 33) (c 0) 20480 (mw_T.rs r.2.2.2.2.1), ar_J (a 13) (c 5) 1 (gj)]) [] (c_MO_count_n (cx_l X) (cx_D X) (a 14) q K (S : Int) le cd (nS : Int) (nP : Int) rn (nC : Int) (j : Int) p2 2 b1 b2 (by omega) (by omega)) lk_LW_75 d_LW_law_360 rfl (rc_at 12 rfl rfl rfl) [12] [0, 1, 2, 3, 4, 5, 6, 7, 8, 9, 10, 11, 13, 14, 15, 16, 17, 18, 19, 20, 21, 22, 23, 24, 25, 26, 27, 28, 29, 30, 31, 32, 33, 34, 35, 36, 37, 38, 39] ⟨rfl, rfl⟩ ⟨rfl, rfl, by decide⟩ [] rfl (rm_z hF (by assumption) ⟨by decide, by decide, rfl, rfl⟩ (Nat.le_of_ble_eq_true rfl)) ⟨rfl, rfl⟩ ?_
      rintro v w1 p1 t1 ⟨rfl, rfl, rfl⟩
      dsimp only [Option.toList, List.cons_append, List.nil_append, List.append_nil]
      refine vv_sub (ws' := (LWS a q c fS fP fC K S le nS nP nC rn u sw sh ce sk pw ph co tu nS nP nC rn r 2 gj)) [0, 1, 2, 3, 4, 5, 6, 7, 8, 9, 10, 11, 39, 12, 13, 14, 15, 16, 17, 18, 19, 20, 21, 22, 23, 24, 25, 26, 27, 28, 29, 30, 31, 32, 33, 34, 35, 36, 37, 38] rfl rfl ?_
      refine vv_istore d_LW_law_363 rfl (Nat.le_of_ble_eq_true rfl) ?_
      dsimp only [List.set]
      refine vv_aload_n d_LW_law_365 rfl ?_
      refine vv_pV (wc := [ob_MO (a 14) q K (S : Int) le 2 ((nS : Nat) : Int) ((nP : Nat) : Int) rn ((nC : Nat) : Int)]) (plc := []) [] (c_MO_thrown (cx_l X) (cx_D X) (a 14) q K (S : Int) le 2 ((nS : Nat) : Int) ((nP : Nat) : Int) rn ((nC : Nat) : Int)) lk_LW_64 d_LW_law_366 rfl (rc_at 12 rfl rfl rfl) [12] ⟨rfl, rfl, Or.inl rfl⟩ [] rfl (rm_z hF (by assumption) ⟨by decide, by decide, rfl, rfl⟩ (Nat.le_of_ble_eq_true rfl)) ⟨rfl, rfl⟩ ?_
      intro v hv
      subst hv
      dsimp only [Option.toList, List.cons_append, List.nil_append, List.append_nil]
      refine vv_iload d_LW_law_369 rfl ?_
      refine vv_icmp_eq (tgt := 376) d_LW_law_371 (by decide) ⟨by omega, by omega⟩ (fun c371 => ?_) (fun c371 => ?_)
      · skip
        refine vv_iload d_LW_law_376 rfl ?_
        refine vv_if_ne (tgt := 393) d_LW_law_378 (by decide) (by omega) (fun c378 => ?_) (fun c378 => ?_)
        · skip
          refine vv_goto (tgt := 853) d_LW_law_393 (by decide) ?_
          exact vv_widen (by first | exact Nat.le_refl _ | omega) (by first | exact Nat.le_refl _ | omega) (kk (nS) (nP) (nC) (rn) (u) (sw) (sh) (ce) (sk) (pw) (ph) (co) (tu) (r) (2) (gj) f _ _ _ (hL) (hPL))
        · exfalso; omega
      · exfalso; omega
  · refine vv_aload_n d_LW_law_328 rfl ?_
    refine vv_aload_n d_LW_law_329 rfl ?_
    refine vv_iload d_LW_law_330 rfl ?_
    refine vv_iconst d_LW_law_332 ?_
    refine vv_iadd d_LW_law_333 ?_
    refine vv_sld ⟨hx.2.2.1, hx.2.2.2, hx.2.1⟩ d_LW_law_334 ⟨by omega, by omega, hN⟩ ?_
    rw [e1]
    refine vv_aload_n d_LW_law_335 rfl ?_
    refine vv_iload d_LW_law_336 rfl ?_
    refine vv_iconst d_LW_law_338 ?_
    refine vv_iadd d_LW_law_339 ?_
    refine vv_sld ⟨hx.2.2.1, hx.2.2.2, hx.2.1⟩ d_LW_law_340 ⟨by omega, by omega, hN⟩ ?_
    rw [e2]
    refine vv_aload_n d_LW_law_341 rfl ?_
    refine vv_pSW hx (wc := [ob_ST (a 0) (a 1) (a 2) (a 3) (a 4) (a 5) (a 6) (a 7) (S : Int) le ((nS : Nat) : Int) ((nP : Nat) : Int) ((nC : Nat) : Int) (RS.nT u) (RS.nR u) rn, ar_Q (a 2) (c 2) 8 fP]) (plc := []) [] (w_count_n1 (cx_l X) (cx_D X) (a 0) (a 1) (a 2) (a 3) (a 4) (a 5) (a 6) (a 7) nP (S : Int) le (nS : Int) (nC : Int) u.nT u.nR rn p1 p2 (c 2) fP hfl (by omega) b1 (by omega) (a 13)) lk_LW_72 d_LW_law_342 rfl [0, 2] ⟨rfl, rfl, Or.inl rfl⟩ [2] rfl (rm_l hF hc ⟨by decide, by decide, by decide, by decide⟩ (Nat.le_of_ble_eq_true rfl)) ?_
    intro v hv
    subst hv
    dsimp only [Option.toList, List.cons_append, List.nil_append, List.append_nil]
    have hz1 : k + 1 ≤ RL.cells ∧ n + 6 ≤ RL.slots := hc
    refine vv_istore d_LW_law_345 rfl (Nat.le_of_ble_eq_true rfl) ?_
    dsimp only [List.set]
    refine vv_aload_n d_LW_law_347 rfl ?_
    refine vv_aload_n d_LW_law_348 rfl ?_
    refine vv_iload d_LW_law_349 rfl ?_
    refine vv_iconst d_LW_law_351 ?_
    refine vv_iadd d_LW_law_352 ?_
    refine vv_sld ⟨hx.2.2.1, hx.2.2.2, hx.2.1⟩ d_LW_law_353 ⟨by omega, by omega, hN⟩ ?_
    rw [e1]
    refine vv_aload_n d_LW_law_354 rfl ?_
    refine vv_iload d_LW_law_355 rfl ?_
    refine vv_iconst d_LW_law_357 ?_
    refine vv_iadd d_LW_law_358 ?_
    refine vv_sld ⟨hx.2.2.1, hx.2.2.2, hx.2.1⟩ d_LW_law_359 ⟨by omega, by omega, hN⟩ ?_
    rw [e2]
    refine vv_nV hw (wc := [ob_MO (a 14) q K (S : Int) le cd ((nS : Nat) : Int) ((nP : Nat) : Int) rn ((nC : Nat) : Int)]) (wr := [ob_ST (a 0) (a 1) (a 2) (a 3) (a 4) (a 5) (a 6) (a 7) (S : Int) le ((nS : Nat) : Int) ((nP : Nat) : Int) ((nC : Nat) : Int) (RS.nT u) (RS.nR u) rn, ar_Q (a 1) (c 1) 4 fS, ar_Q (a 2) (c 2) 8 fP, ar_Q (a 3) (c 3) 20 fC, ar_I (a 4) (c 0) 400 (RS.tk u), ar_I (a 5) (c 0) 5120 (RS.rs u), ob_TB (a 6) (a 10) (a 11) K (RS.W u) (RS.F u), ar_I (a 10) (c 0) 2312 (RS.T u).1, ar_I (a 11) (c 0) 2312 (RS.T u).2, ob_LY (a 7) (a 6) (a 8) (a 9) (RS.way u) (RS.st u), ar_I (a 8) (c 0) 256 (RS.st u).2.2.2.1, ar_I (a 9) (c 0) 8 (RS.st u).2.2.2.2, ar_I (q 5) (c 0) 4 (sw), ar_I (q 6) (c 0) 4 (sh), ar_I (q 7) (c 0) 4 (ce), ar_I (q 8) (c 0) 4 (sk), ar_I (q 10) (c 0) 8 (pw), ar_I (q 11) (c 0) 8 (ph), ar_I (q 12) (c 0) 8 (co), ar_I (q 13) (c 4) 8 (tu), ar_I (q 14) (c 0) 8 (r.1), ar_I (q 15) (c 0) 4 (r.2.1), ar_I (q 16) (c 0) 8 (mw_T.st r.2.2.2.2.1), ar_I (q 17) (c 0) 2312 (r.2.2.2.2.2.1), ar_I (q 18) (c 0) 2312 (r.2.2.2.2.2.2.1), ar_I (q 19) (c 0) 2312 (r.2.2.2.2.2.2.2), ar_I (q 20) (c 0) 3600 (mw_T.wt r.2.2.2.2.1), ar_I (q 23) (c 0) 20 (r.2.2.1), ar_I (q 24) (c 0) 20 (r.2.2.2.1), ar_I (q 25) (c 0) 20 (mw_T.cc r.2.2.2.2.1), ar_I (q 26) (c 0) 20 (mw_T.mi r.2.2.2.2.1), ar_I (q 27) (c 0) 20 (mw_T.tc r.2.2.2.2.1), ar_I (q 28) (c 0) 20 (mw_T.ta r.2.2.2.2.1), ar_I (q 29) (c 0) 20 (mw_T.rc r.2.2.2.2.1), ar_I (q 30) (c 0) 20 (mw_T.nc r.2.2.2.2.1), ar_I (q 31) (c 0) 12000 (mw_T.no r.2.2.2.2.1), ar_I (q 32) (c 0) 25600 (mw_T.tk r.2.2.2.2.1), ar_I (q 33) (c 0) 20480 (mw_T.rs r.2.2.2.2.1), ar_J (a 13) (c 5) 1 (gj)]) [] (c_MO_count_n (cx_l X) (cx_D X) (a 14) q K (S : Int) le cd (nS : Int) (nP : Int) rn (nC : Int) p1 p2 1 b1 b2 (by omega) (by omega)) lk_LW_75 d_LW_law_360 rfl (rc_at 12 rfl rfl rfl) [12] [0, 1, 2, 3, 4, 5, 6, 7, 8, 9, 10, 11, 13, 14, 15, 16, 17, 18, 19, 20, 21, 22, 23, 24, 25, 26, 27, 28, 29, 30, 31, 32, 33, 34, 35, 36, 37, 38, 39] ⟨rfl, rfl⟩ ⟨rfl, rfl, by decide⟩ [] rfl (rm_z hF (by assumption) ⟨by decide, by decide, rfl, rfl⟩ (Nat.le_of_ble_eq_true rfl)) ⟨rfl, rfl⟩ ?_
    rintro v w1 p1 t1 ⟨rfl, rfl, rfl⟩
    dsimp only [Option.toList, List.cons_append, List.nil_append, List.append_nil]
    refine vv_sub (ws' := (LWS a q c fS fP fC K S le nS nP nC rn u sw sh ce sk pw ph co tu nS nP nC rn r 1 gj)) [0, 1, 2, 3, 4, 5, 6, 7, 8, 9, 10, 11, 39, 12, 13, 14, 15, 16, 17, 18, 19, 20, 21, 22, 23, 24, 25, 26, 27, 28, 29, 30, 31, 32, 33, 34, 35, 36, 37, 38] rfl rfl ?_
    refine vv_istore d_LW_law_363 rfl (Nat.le_of_ble_eq_true rfl) ?_
    dsimp only [List.set]
    refine vv_aload_n d_LW_law_365 rfl ?_
    refine vv_pV (wc := [ob_MO (a 14) q K (S : Int) le 1 ((nS : Nat) : Int) ((nP : Nat) : Int) rn ((nC : Nat) : Int)]) (plc := []) [] (c_MO_thrown (cx_l X) (cx_D X) (a 14) q K (S : Int) le 1 ((nS : Nat) : Int) ((nP : Nat) : Int) rn ((nC : Nat) : Int)) lk_LW_64 d_LW_law_366 rfl (rc_at 12 rfl rfl rfl) [12] ⟨rfl, rfl, Or.inl rfl⟩ [] rfl (rm_z hF (by assumption) ⟨by decide, by decide, rfl, rfl⟩ (Nat.le_of_ble_eq_true rfl)) ⟨rfl, rfl⟩ ?_
    intro v hv
    subst hv
    dsimp only [Option.toList, List.cons_append, List.nil_append, List.append_nil]
    refine vv_iload d_LW_law_369 rfl ?_
    refine vv_icmp_eq (tgt := 376) d_LW_law_371 (by decide) ⟨by omega, by omega⟩ (fun c371 => ?_) (fun c371 => ?_)
    · skip
      refine vv_iload d_LW_law_376 rfl ?_
      refine vv_if_ne (tgt := 393) d_LW_law_378 (by decide) (by omega) (fun c378 => ?_) (fun c378 => ?_)
      · skip
        refine vv_goto (tgt := 853) d_LW_law_393 (by decide) ?_
        exact vv_widen (by first | exact Nat.le_refl _ | omega) (by first | exact Nat.le_refl _ | omega) (kk (nS) (nP) (nC) (rn) (u) (sw) (sh) (ce) (sk) (pw) (ph) (co) (tu) (r) (1) (gj) f _ _ _ (hL) (hPL))
      · exfalso; omega
    · exfalso; omega
