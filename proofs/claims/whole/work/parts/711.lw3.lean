set_option maxHeartbeats 4000000 in
set_option maxRecDepth 100000 in
theorem law_part {X : cx_T} {Q : State → Prop} {RL : Room} {k n : Nat} {a q : Nat → Nat} {c : Nat → ClassId} {fS fP fC : Nat → Option Nat} {N : Nat} {g : Nat → Int} {K : Int} {S : Nat} {le : Int} {L : List Nat} {aS aP aC : Nat → Nat} {i : Int} (hw : cx_w X) (hfl : (cx_l X).flags = flags0) (hx : lx X (a 12) N g) (hF : 12 ≤ RL.frames ∧ 700 ≤ RL.locals) (hc : k + 1 ≤ RL.cells ∧ n + 6 ≤ RL.slots) (hK : 0 ≤ K ∧ K ≤ 3) (hS : 1 ≤ S ∧ S ≤ 3) (hle : 1 ≤ le ∧ le ≤ 16) (hAD : AD aS aP aC) (hfS : ∀ i : Nat, i < 4 → fS i = some (aS i)) (hfP : ∀ i : Nat, i < 8 → fP i = some (aP i)) (hfC : ∀ i : Nat, i < 20 → fC i = some (aC i)) (hN : N < 2147483648) (hg : ∀ j : Nat, -2147483648 ≤ g j ∧ g j < 2147483648) (hi : 3 ≤ i ∧ i + 5 ≤ (N : Int)) {nS nP nC : Nat} {rn : Int} {u : RS} {sw sh ce sk pw ph co tu : Nat → Int} {r : mr_T} {cd : Int} {gj : Nat → Int64} {f : Nat → va_E} {v5 v6 v7 : Option Value} (hL : LR K S nS nP nC rn u sw sh ce sk pw ph co tu r) (hPL : PL L f aS aP aC u.Sh u.R u.Cs) (kk : (∀ (nS nP nC : Nat) (rn : Int) (u : RS) (sw sh ce sk pw ph co tu : Nat → Int) (r : mr_T) (cd : Int) (gj : Nat → Int64) (f : Nat → va_E) (v5 v6 v7 : Option Value), LR K S nS nP nC rn u sw sh ce sk pw ph co tu r → PL L f aS aP aC u.Sh u.R u.Cs → VV X (code, 8, "SheetTreesLaw", RL) Q (k + 1) (n + 6) (LTY c) (LWS a q c fS fP fC K S le nS nP nC rn u sw sh ce sk pw ph co tu nS nP nC rn r cd gj) (va_pl L f) [some (.ref (a 12)), some (.ref (a 0)), some (.ref (a 14)), some (.ref (a 13)), some (.int (iI i)), v5, v6, v7] [] 853)) : VV X (code, 8, "SheetTreesLaw", RL) Q k n (LTY c) (LWS a q c fS fP fC K S le nS nP nC rn u sw sh ce sk pw ph co tu nS nP nC rn r cd gj) (va_pl L f) [some (.ref (a 12)), some (.ref (a 0)), some (.ref (a 14)), some (.ref (a 13)), some (.int (iI i)), v5, v6, v7] [] 220 := by
  have hl1 := hL.1
  have b1 := hg (i + 1).toNat
  generalize e1 : g (i + 1).toNat = p1 at b1
  have b2 := hg (i + 2).toNat
  generalize e2 : g (i + 2).toNat = p2 at b2
  have b3 := hg (i + 3).toNat
  generalize e3 : g (i + 3).toNat = p3 at b3
  have b4 := hg (i + 4).toNat
  generalize e4 : g (i + 4).toNat = p4 at b4
  have hz0 : k ≤ RL.cells ∧ n ≤ RL.slots := by omega
  by_cases h0 : p4 = 0
  · by_cases h1 : (1 ≤ p1 ∧ p1 ≤ 16) ∧ (1 ≤ p2 ∧ p2 ≤ 16) ∧ 0 ≤ p3 ∧ p3 ≤ 50
    · by_cases h2 : nP = 8
      · refine vv_aload_n d_LW_law_220 rfl ?_
        refine vv_aload_n d_LW_law_221 rfl ?_
        refine vv_iload d_LW_law_222 rfl ?_
        refine vv_iconst d_LW_law_224 ?_
        refine vv_iadd d_LW_law_225 ?_
        refine vv_sld ⟨hx.2.2.1, hx.2.2.2, hx.2.1⟩ d_LW_law_226 ⟨by omega, by omega, hN⟩ ?_
        rw [e1]
        refine vv_aload_n d_LW_law_227 rfl ?_
        refine vv_iload d_LW_law_228 rfl ?_
        refine vv_iconst d_LW_law_230 ?_
        refine vv_iadd d_LW_law_231 ?_
        refine vv_sld ⟨hx.2.2.1, hx.2.2.2, hx.2.1⟩ d_LW_law_232 ⟨by omega, by omega, hN⟩ ?_
        rw [e2]
        refine vv_aload_n d_LW_law_233 rfl ?_
        refine vv_iload d_LW_law_234 rfl ?_
        refine vv_iconst d_LW_law_236 ?_
        refine vv_iadd d_LW_law_237 ?_
        refine vv_sld ⟨hx.2.2.1, hx.2.2.2, hx.2.1⟩ d_LW_law_238 ⟨by omega, by omega, hN⟩ ?_
        rw [e3]
        refine vv_aload_n d_LW_law_239 rfl ?_
        refine vv_iload d_LW_law_240 rfl ?_
        refine vv_iconst d_LW_law_242 ?_
        refine vv_iadd d_LW_law_243 ?_
        refine vv_sld ⟨hx.2.2.1, hx.2.2.2, hx.2.1⟩ d_LW_law_244 ⟨by omega, by omega, hN⟩ ?_
        rw [e4]
        refine vv_if_eq (tgt := 252) d_LW_law_245 (by decide) (by omega) (fun c245 => ?_) (fun c245 => ?_)
        · skip
          refine vv_iconst d_LW_law_252 ?_
          refine vv_aload_n d_LW_law_253 rfl ?_
          refine vv_pSW hx (wc := [ob_ST (a 0) (a 1) (a 2) (a 3) (a 4) (a 5) (a 6) (a 7) (S : Int) le ((nS : Nat) : Int) ((nP : Nat) : Int) ((nC : Nat) : Int) (RS.nT u) (RS.nR u) rn, ar_Q (a 2) (c 2) 8 fP]) (plc := []) [] (w_part_n2 (cx_l X) (cx_D X) (a 0) (a 1) (a 2) (a 3) (a 4) (a 5) (a 6) (a 7) nP (S : Int) le (nS : Int) (nC : Int) u.nT u.nR rn p1 p2 p3 0 (c 2) fP hfl h2 h1 (a 13)) lk_LW_68 d_LW_law_254 rfl [0, 2] ⟨rfl, rfl, Or.inl rfl⟩ [2] rfl (rm_l hF hc ⟨by decide, by decide, by decide, by decide⟩ (Nat.le_of_ble_eq_true rfl)) ?_
          intro v hv
          subst hv
          dsimp only [Option.toList, List.cons_append, List.nil_append, List.append_nil]
          have hz1 : k + 1 ≤ RL.cells ∧ n + 6 ≤ RL.slots := hc
          refine vv_istore d_LW_law_257 rfl (Nat.le_of_ble_eq_true rfl) ?_
          dsimp only [List.set]
          refine vv_aload_n d_LW_law_259 rfl ?_
          refine vv_aload_n d_LW_law_260 rfl ?_
          refine vv_iload d_LW_law_261 rfl ?_
          refine vv_iconst d_LW_law_263 ?_
          refine vv_iadd d_LW_law_264 ?_
          refine vv_sld ⟨hx.2.2.1, hx.2.2.2, hx.2.1⟩ d_LW_law_265 ⟨by omega, by omega, hN⟩ ?_
          rw [e1]
          refine vv_aload_n d_LW_law_266 rfl ?_
          refine vv_iload d_LW_law_267 rfl ?_
          refine vv_iconst d_LW_law_269 ?_
          refine vv_iadd d_LW_law_270 ?_
          refine vv_sld ⟨hx.2.2.1, hx.2.2.2, hx.2.1⟩ d_LW_law_271 ⟨by omega, by omega, hN⟩ ?_
          rw [e2]
          refine vv_aload_n d_LW_law_272 rfl ?_
          refine vv_iload d_LW_law_273 rfl ?_
          refine vv_iconst d_LW_law_275 ?_
          refine vv_iadd d_LW_law_276 ?_
          refine vv_sld ⟨hx.2.2.1, hx.2.2.2, hx.2.1⟩ d_LW_law_277 ⟨by omega, by omega, hN⟩ ?_
          rw [e3]
          refine vv_aload_n d_LW_law_278 rfl ?_
          refine vv_iload d_LW_law_279 rfl ?_
          refine vv_iconst d_LW_law_281 ?_
          refine vv_iadd d_LW_law_282 ?_
          refine vv_sld ⟨hx.2.2.1, hx.2.2.2, hx.2.1⟩ d_LW_law_283 ⟨by omega, by omega, hN⟩ ?_
          rw [e4]
          refine vv_if_eq (tgt := 291) d_LW_law_284 (by decide) (by omega) (fun c284 => ?_) (fun c284 => ?_)
          · skip
            refine vv_iconst d_LW_law_291 ?_
            refine vv_nV hw (wc := [ob_MO (a 14) q K (S : Int) le cd ((nS : Nat) : Int) ((nP : Nat) : Int) rn ((nC : Nat) : Int)]) (wr := [ob_ST (a 0) (a 1) (a 2) (a 3) (a 4) (a 5) (a 6) (a 7) (S : Int) le ((nS : Nat) : Int) ((nP : Nat) : Int) ((nC : Nat) : Int) (RS.nT u) (RS.nR u) rn, ar_Q (a 1) (c 1) 4 fS, ar_Q (a 2) (c 2) 8 fP, ar_Q (a 3) (c 3) 20 fC, ar_I (a 4) (c 0) 400 (RS.tk u), ar_I (a 5) (c 0) 5120 (RS.rs u), ob_TB (a 6) (a 10) (a 11) K (RS.W u) (RS.F u), ar_I (a 10) (c 0) 2312 (RS.T u).1, ar_I (a 11) (c 0) 2312 (RS.T u).2, ob_LY (a 7) (a 6) (a 8) (a 9) (RS.way u) (RS.st u), ar_I (a 8) (c 0) 256 (RS.st u).2.2.2.1, ar_I (a 9) (c 0) 8 (RS.st u).2.2.2.2, ar_I (q 5) (c 0) 4 (sw), ar_I (q 6) (c 0) 4 (sh), ar_I (q 7) (c 0) 4 (ce), ar_I (q 8) (c 0) 4 (sk), ar_I (q 10) (c 0) 8 (pw), ar_I (q 11) (c 0) 8 (ph), ar_I (q 12) (c 0) 8 (co), ar_I (q 13) (c 4) 8 (tu), ar_I (q 14) (c 0) 8 (r.1), ar_I (q 15) (c 0) 4 (r.2.1), ar_I (q 16) (c 0) 8 (mw_T.st r.2.2.2.2.1), ar_I (q 17) (c 0) 2312 (r.2.2.2.2.2.1), ar_I (q 18) (c 0) 2312 (r.2.2.2.2.2.2.1), ar_I (q 19) (c 0) 2312 (r.2.2.2.2.2.2.2), ar_I (q 20) (c 0) 3600 (mw_T.wt r.2.2.2.2.1), ar_I (q 23) (c 0) 20 (r.2.2.1), ar_I (q 24) (c 0) 20 (r.2.2.2.1), ar_I (q 25) (c 0) 20 (mw_T.cc r.2.2.2.2.1), ar_I (q 26) (c 0) 20 (mw_T.mi r.2.2.2.2.1), ar_I (q 27) (c 0) 20 (mw_T.tc r.2.2.2.2.1), ar_I (q 28) (c 0) 20 (mw_T.ta r.2.2.2.2.1), ar_I (q 29) (c 0) 20 (mw_T.rc r.2.2.2.2.1), ar_I (q 30) (c 0) 20 (mw_T.nc r.2.2.2.2.1), ar_I (q 31) (c 0) 12000 (mw_T.no r.2.2.2.2.1), ar_I (q 32) (c 0) 25600 (mw_T.tk r.2.2.2.2.1), ar_I (q 33) (c 0) 20480 (mw_T.rs r.2.2.2.2.1), ar_J (a 13) (c 5) 1 (gj)]) [] (c_MO_part_n (cx_l X) (cx_D X) (a 14) q K (S : Int) le cd (nS : Int) (nP : Int) rn (nC : Int) p1 p2 p3 0 2 b1 b2 b3 (by omega) (by omega)) lk_LW_71 d_LW_law_292 rfl (rc_at 12 rfl rfl rfl) [12] [0, 1, 2, 3, 4, 5, 6, 7, 8, 9, 10, 11, 13, 14, 15, 16, 17, 18, 19, 20, 21, 22, 23, 24, 25, 26, 27, 28, 29, 30, 31, 32, 33, 34, 35, 36, 37, 38, 39] ⟨rfl, rfl⟩ ⟨rfl, rfl, by decide⟩ [] rfl (rm_z hF (by assumption) ⟨by decide, by decide, rfl, rfl⟩ (Nat.le_of_ble_eq_true rfl)) ⟨rfl, rfl⟩ ?_
            rintro v w1 p1 t1 ⟨rfl, rfl, rfl⟩
            dsimp only [Option.toList, List.cons_append, List.nil_append, List.append_nil]
            refine vv_sub (ws' := (LWS a q c fS fP fC K S le nS nP nC rn u sw sh ce sk pw ph co tu nS nP nC rn r 2 gj)) [0, 1, 2, 3, 4, 5, 6, 7, 8, 9, 10, 11, 39, 12, 13, 14, 15, 16, 17, 18, 19, 20, 21, 22, 23, 24, 25, 26, 27, 28, 29, 30, 31, 32, 33, 34, 35, 36, 37, 38] rfl rfl ?_
            refine vv_istore d_LW_law_295 rfl (Nat.le_of_ble_eq_true rfl) ?_
            dsimp only [List.set]
            refine vv_aload_n d_LW_law_297 rfl ?_
            refine vv_pV (wc := [ob_MO (a 14) q K (S : Int) le 2 ((nS : Nat) : Int) ((nP : Nat) : Int) rn ((nC : Nat) : Int)]) (plc := []) [] (c_MO_thrown (cx_l X) (cx_D X) (a 14) q K (S : Int) le 2 ((nS : Nat) : Int) ((nP : Nat) : Int) rn ((nC : Nat) : Int)) lk_LW_64 d_LW_law_298 rfl (rc_at 12 rfl rfl rfl) [12] ⟨rfl, rfl, Or.inl rfl⟩ [] rfl (rm_z hF (by assumption) ⟨by decide, by decide, rfl, rfl⟩ (Nat.le_of_ble_eq_true rfl)) ⟨rfl, rfl⟩ ?_
            intro v hv
            subst hv
            dsimp only [Option.toList, List.cons_append, List.nil_append, List.append_nil]
            refine vv_iload d_LW_law_301 rfl ?_
            refine vv_icmp_eq (tgt := 308) d_LW_law_303 (by decide) ⟨by omega, by omega⟩ (fun c303 => ?_) (fun c303 => ?_)
            · skip
              refine vv_iload d_LW_law_308 rfl ?_
              refine vv_if_ne (tgt := 325) d_LW_law_310 (by decide) (by omega) (fun c310 => ?_) (fun c310 => ?_)
              · skip
                refine vv_goto (tgt := 853) d_LW_law_325 (by decide) ?_
                exact vv_widen (by first | exact Nat.le_refl _ | omega) (by first | exact Nat.le_refl _ | omega) (kk (nS) (nP) (nC) (rn) (u) (sw) (sh) (ce) (sk) (pw) (ph) (co) (tu) (r) (2) (gj) f _ _ _ (hL) (hPL))
              · exfalso; omega
            · exfalso; omega
          · exfalso; omega
        · exfalso; omega
      · refine vv_aload_n d_LW_law_220 rfl ?_
        refine vv_aload_n d_LW_law_221 rfl ?_
        refine vv_iload d_LW_law_222 rfl ?_
        refine vv_iconst d_LW_law_224 ?_
        refine vv_iadd d_LW_law_225 ?_
        refine vv_sld ⟨hx.2.2.1, hx.2.2.2, hx.2.1⟩ d_LW_law_226 ⟨by omega, by omega, hN⟩ ?_
        rw [e1]
        refine vv_aload_n d_LW_law_227 rfl ?_
        refine vv_iload d_LW_law_228 rfl ?_
        refine vv_iconst d_LW_law_230 ?_
        refine vv_iadd d_LW_law_231 ?_
        refine vv_sld ⟨hx.2.2.1, hx.2.2.2, hx.2.1⟩ d_LW_law_232 ⟨by omega, by omega, hN⟩ ?_
        rw [e2]
        refine vv_aload_n d_LW_law_233 rfl ?_
        refine vv_iload d_LW_law_234 rfl ?_
        refine vv_iconst d_LW_law_236 ?_
        refine vv_iadd d_LW_law_237 ?_
        refine vv_sld ⟨hx.2.2.1, hx.2.2.2, hx.2.1⟩ d_LW_law_238 ⟨by omega, by omega, hN⟩ ?_
        rw [e3]
        refine vv_aload_n d_LW_law_239 rfl ?_
        refine vv_iload d_LW_law_240 rfl ?_
        refine vv_iconst d_LW_law_242 ?_
        refine vv_iadd d_LW_law_243 ?_
        refine vv_sld ⟨hx.2.2.1, hx.2.2.2, hx.2.1⟩ d_LW_law_244 ⟨by omega, by omega, hN⟩ ?_
        rw [e4]
        refine vv_if_eq (tgt := 252) d_LW_law_245 (by decide) (by omega) (fun c245 => ?_) (fun c245 => ?_)
        · skip
          refine vv_iconst d_LW_law_252 ?_
          refine vv_aload_n d_LW_law_253 rfl ?_
          refine vv_mSW hw (wc := [ar_J (a 13) (c 5) 1 (gj), ob_ST (a 0) (a 1) (a 2) (a 3) (a 4) (a 5) (a 6) (a 7) (S : Int) le ((nS : Nat) : Int) ((nP : Nat) : Int) ((nC : Nat) : Int) (RS.nT u) (RS.nR u) rn, ar_Q (a 2) (c 2) 8 fP]) (wr := [ar_Q (a 1) (c 1) 4 fS, ar_Q (a 3) (c 3) 20 fC, ar_I (a 4) (c 0) 400 (RS.tk u), ar_I (a 5) (c 0) 5120 (RS.rs u), ob_TB (a 6) (a 10) (a 11) K (RS.W u) (RS.F u), ar_I (a 10) (c 0) 2312 (RS.T u).1, ar_I (a 11) (c 0) 2312 (RS.T u).2, ob_LY (a 7) (a 6) (a 8) (a 9) (RS.way u) (RS.st u), ar_I (a 8) (c 0) 256 (RS.st u).2.2.2.1, ar_I (a 9) (c 0) 8 (RS.st u).2.2.2.2, ob_MO (a 14) q K (S : Int) le cd ((nS : Nat) : Int) ((nP : Nat) : Int) rn ((nC : Nat) : Int), ar_I (q 5) (c 0) 4 (sw), ar_I (q 6) (c 0) 4 (sh), ar_I (q 7) (c 0) 4 (ce), ar_I (q 8) (c 0) 4 (sk), ar_I (q 10) (c 0) 8 (pw), ar_I (q 11) (c 0) 8 (ph), ar_I (q 12) (c 0) 8 (co), ar_I (q 13) (c 4) 8 (tu), ar_I (q 14) (c 0) 8 (r.1), ar_I (q 15) (c 0) 4 (r.2.1), ar_I (q 16) (c 0) 8 (mw_T.st r.2.2.2.2.1), ar_I (q 17) (c 0) 2312 (r.2.2.2.2.2.1), ar_I (q 18) (c 0) 2312 (r.2.2.2.2.2.2.1), ar_I (q 19) (c 0) 2312 (r.2.2.2.2.2.2.2), ar_I (q 20) (c 0) 3600 (mw_T.wt r.2.2.2.2.1), ar_I (q 23) (c 0) 20 (r.2.2.1), ar_I (q 24) (c 0) 20 (r.2.2.2.1), ar_I (q 25) (c 0) 20 (mw_T.cc r.2.2.2.2.1), ar_I (q 26) (c 0) 20 (mw_T.mi r.2.2.2.2.1), ar_I (q 27) (c 0) 20 (mw_T.tc r.2.2.2.2.1), ar_I (q 28) (c 0) 20 (mw_T.ta r.2.2.2.2.1), ar_I (q 29) (c 0) 20 (mw_T.rc r.2.2.2.2.1), ar_I (q 30) (c 0) 20 (mw_T.nc r.2.2.2.2.1), ar_I (q 31) (c 0) 12000 (mw_T.no r.2.2.2.2.1), ar_I (q 32) (c 0) 25600 (mw_T.tk r.2.2.2.2.1), ar_I (q 33) (c 0) 20480 (mw_T.rs r.2.2.2.2.1)]) [] (w_part_y (cx_l X) (cx_D X) (a 0) (a 1) (a 2) (a 3) (a 4) (a 5) (a 6) (a 7) nP (S : Int) le (nS : Int) (nC : Int) u.nT u.nR rn p1 p2 p3 0 (c 2) fP L f aS aP aC u.Sh u.R u.Cs (by omega) h1.1 h1.2.1 h1.2.2 (by omega) hfP hPL hAD (a 13) (c 5) gj) lk_LW_68 d_LW_law_254 rfl [39, 0, 2] [1, 3, 4, 5, 6, 7, 8, 9, 10, 11, 12, 13, 14, 15, 16, 17, 18, 19, 20, 21, 22, 23, 24, 25, 26, 27, 28, 29, 30, 31, 32, 33, 34, 35, 36, 37, 38] ⟨rfl, rfl⟩ ⟨rfl, rfl, by decide⟩ [5, 2] rfl (rm_l hF hc ⟨by decide, by decide, by decide, by decide⟩ (Nat.le_of_ble_eq_true rfl)) ⟨rfl, rfl⟩ ?_
          rintro v w1 p1 t1 ⟨rfl, rfl, f9, rfl, hp9⟩
          dsimp only [Option.toList, List.cons_append, List.nil_append, List.append_nil]
          refine vv_sub (ws' := (LWS a q c fS fP fC K S le nS (nP + 1) nC 0 (((u.nT, u.nR, u.tk, u.rs, va_up u.R nP ((p1, p2, 0, p3, (u.R nP).2.2.2.2) : pa_T), u.Sh, u.Cs, u.way, u.st, u.T, u.W, u.F) : RS)) sw sh ce sk pw ph co tu nS nP nC rn r cd (vp_updL gj 0 ((iI (nP : Int)).toInt64)))) [38, 0, 39, 1, 2, 3, 4, 5, 6, 7, 8, 9, 10, 11, 12, 13, 14, 15, 16, 17, 18, 19, 20, 21, 22, 23, 24, 25, 26, 27, 28, 29, 30, 31, 32, 33, 34, 35, 36, 37] rfl rfl ?_
          refine vv_istore d_LW_law_257 rfl (Nat.le_of_ble_eq_true rfl) ?_
          dsimp only [List.set]
          refine vv_aload_n d_LW_law_259 rfl ?_
          refine vv_aload_n d_LW_law_260 rfl ?_
          refine vv_iload d_LW_law_261 rfl ?_
          refine vv_iconst d_LW_law_263 ?_
          refine vv_iadd d_LW_law_264 ?_
          refine vv_sld ⟨hx.2.2.1, hx.2.2.2, hx.2.1⟩ d_LW_law_265 ⟨by omega, by omega, hN⟩ ?_
          rw [e1]
          refine vv_aload_n d_LW_law_266 rfl ?_
          refine vv_iload d_LW_law_267 rfl ?_
          refine vv_iconst d_LW_law_269 ?_
          refine vv_iadd d_LW_law_270 ?_
          refine vv_sld ⟨hx.2.2.1, hx.2.2.2, hx.2.1⟩ d_LW_law_271 ⟨by omega, by omega, hN⟩ ?_
          rw [e2]
          refine vv_aload_n d_LW_law_272 rfl ?_
          refine vv_iload d_LW_law_273 rfl ?_
          refine vv_iconst d_LW_law_275 ?_
          refine vv_iadd d_LW_law_276 ?_
          refine vv_sld ⟨hx.2.2.1, hx.2.2.2, hx.2.1⟩ d_LW_law_277 ⟨by omega, by omega, hN⟩ ?_
          rw [e3]
          refine vv_aload_n d_LW_law_278 rfl ?_
          refine vv_iload d_LW_law_279 rfl ?_
          refine vv_iconst d_LW_law_281 ?_
          refine vv_iadd d_LW_law_282 ?_
          refine vv_sld ⟨hx.2.2.1, hx.2.2.2, hx.2.1⟩ d_LW_law_283 ⟨by omega, by omega, hN⟩ ?_
          rw [e4]
          refine vv_if_eq (tgt := 291) d_LW_law_284 (by decide) (by omega) (fun c284 => ?_) (fun c284 => ?_)
          · skip
            refine vv_iconst d_LW_law_291 ?_
            refine vv_nV hw (wc := [ob_MO (a 14) q K (S : Int) le cd ((nS : Nat) : Int) ((nP : Nat) : Int) rn ((nC : Nat) : Int), ar_I (q 10) (c 0) 8 (pw), ar_I (q 11) (c 0) 8 (ph), ar_I (q 12) (c 0) 8 (co), ar_I (q 13) (c 4) 8 (tu)]) (wr := [ob_ST (a 0) (a 1) (a 2) (a 3) (a 4) (a 5) (a 6) (a 7) (S : Int) le ((nS : Nat) : Int) ((nP + 1 : Nat) : Int) ((nC : Nat) : Int) (RS.nT ((u.nT, u.nR, u.tk, u.rs, va_up u.R nP ((p1, p2, 0, p3, (u.R nP).2.2.2.2) : pa_T), u.Sh, u.Cs, u.way, u.st, u.T, u.W, u.F) : RS)) (RS.nR ((u.nT, u.nR, u.tk, u.rs, va_up u.R nP ((p1, p2, 0, p3, (u.R nP).2.2.2.2) : pa_T), u.Sh, u.Cs, u.way, u.st, u.T, u.W, u.F) : RS)) 0, ar_Q (a 1) (c 1) 4 fS, ar_Q (a 2) (c 2) 8 fP, ar_Q (a 3) (c 3) 20 fC, ar_I (a 4) (c 0) 400 (RS.tk ((u.nT, u.nR, u.tk, u.rs, va_up u.R nP ((p1, p2, 0, p3, (u.R nP).2.2.2.2) : pa_T), u.Sh, u.Cs, u.way, u.st, u.T, u.W, u.F) : RS)), ar_I (a 5) (c 0) 5120 (RS.rs ((u.nT, u.nR, u.tk, u.rs, va_up u.R nP ((p1, p2, 0, p3, (u.R nP).2.2.2.2) : pa_T), u.Sh, u.Cs, u.way, u.st, u.T, u.W, u.F) : RS)), ob_TB (a 6) (a 10) (a 11) K (RS.W ((u.nT, u.nR, u.tk, u.rs, va_up u.R nP ((p1, p2, 0, p3, (u.R nP).2.2.2.2) : pa_T), u.Sh, u.Cs, u.way, u.st, u.T, u.W, u.F) : RS)) (RS.F ((u.nT, u.nR, u.tk, u.rs, va_up u.R nP ((p1, p2, 0, p3, (u.R nP).2.2.2.2) : pa_T), u.Sh, u.Cs, u.way, u.st, u.T, u.W, u.F) : RS)), ar_I (a 10) (c 0) 2312 (RS.T ((u.nT, u.nR, u.tk, u.rs, va_up u.R nP ((p1, p2, 0, p3, (u.R nP).2.2.2.2) : pa_T), u.Sh, u.Cs, u.way, u.st, u.T, u.W, u.F) : RS)).1, ar_I (a 11) (c 0) 2312 (RS.T ((u.nT, u.nR, u.tk, u.rs, va_up u.R nP ((p1, p2, 0, p3, (u.R nP).2.2.2.2) : pa_T), u.Sh, u.Cs, u.way, u.st, u.T, u.W, u.F) : RS)).2, ob_LY (a 7) (a 6) (a 8) (a 9) (RS.way ((u.nT, u.nR, u.tk, u.rs, va_up u.R nP ((p1, p2, 0, p3, (u.R nP).2.2.2.2) : pa_T), u.Sh, u.Cs, u.way, u.st, u.T, u.W, u.F) : RS)) (RS.st ((u.nT, u.nR, u.tk, u.rs, va_up u.R nP ((p1, p2, 0, p3, (u.R nP).2.2.2.2) : pa_T), u.Sh, u.Cs, u.way, u.st, u.T, u.W, u.F) : RS)), ar_I (a 8) (c 0) 256 (RS.st ((u.nT, u.nR, u.tk, u.rs, va_up u.R nP ((p1, p2, 0, p3, (u.R nP).2.2.2.2) : pa_T), u.Sh, u.Cs, u.way, u.st, u.T, u.W, u.F) : RS)).2.2.2.1, ar_I (a 9) (c 0) 8 (RS.st ((u.nT, u.nR, u.tk, u.rs, va_up u.R nP ((p1, p2, 0, p3, (u.R nP).2.2.2.2) : pa_T), u.Sh, u.Cs, u.way, u.st, u.T, u.W, u.F) : RS)).2.2.2.2, ar_I (q 5) (c 0) 4 (sw), ar_I (q 6) (c 0) 4 (sh), ar_I (q 7) (c 0) 4 (ce), ar_I (q 8) (c 0) 4 (sk), ar_I (q 14) (c 0) 8 (r.1), ar_I (q 15) (c 0) 4 (r.2.1), ar_I (q 16) (c 0) 8 (mw_T.st r.2.2.2.2.1), ar_I (q 17) (c 0) 2312 (r.2.2.2.2.2.1), ar_I (q 18) (c 0) 2312 (r.2.2.2.2.2.2.1), ar_I (q 19) (c 0) 2312 (r.2.2.2.2.2.2.2), ar_I (q 20) (c 0) 3600 (mw_T.wt r.2.2.2.2.1), ar_I (q 23) (c 0) 20 (r.2.2.1), ar_I (q 24) (c 0) 20 (r.2.2.2.1), ar_I (q 25) (c 0) 20 (mw_T.cc r.2.2.2.2.1), ar_I (q 26) (c 0) 20 (mw_T.mi r.2.2.2.2.1), ar_I (q 27) (c 0) 20 (mw_T.tc r.2.2.2.2.1), ar_I (q 28) (c 0) 20 (mw_T.ta r.2.2.2.2.1), ar_I (q 29) (c 0) 20 (mw_T.rc r.2.2.2.2.1), ar_I (q 30) (c 0) 20 (mw_T.nc r.2.2.2.2.1), ar_I (q 31) (c 0) 12000 (mw_T.no r.2.2.2.2.1), ar_I (q 32) (c 0) 25600 (mw_T.tk r.2.2.2.2.1), ar_I (q 33) (c 0) 20480 (mw_T.rs r.2.2.2.2.1), ar_J (a 13) (c 5) 1 (vp_updL gj 0 ((iI (nP : Int)).toInt64))]) [] (c_MO_part_y (cx_l X) (cx_D X) (a 14) q K (S : Int) le cd (nS : Int) (nP : Int) rn (nC : Int) (c 0) (c 4) pw ph co tu p1 p2 p3 0 (by omega) h1 (by omega)) lk_LW_71 d_LW_law_292 rfl (rc_at 12 rfl rfl rfl) [12, 17, 18, 19, 20] [0, 1, 2, 3, 4, 5, 6, 7, 8, 9, 10, 11, 13, 14, 15, 16, 21, 22, 23, 24, 25, 26, 27, 28, 29, 30, 31, 32, 33, 34, 35, 36, 37, 38, 39] ⟨rfl, rfl⟩ ⟨rfl, rfl, by decide⟩ [0, 4] rfl (rm_z hF (by assumption) ⟨by decide, by decide, rfl, rfl⟩ (Nat.le_of_ble_eq_true rfl)) ⟨rfl, rfl⟩ ?_
            rintro v w1 p1 t1 ⟨rfl, rfl, rfl⟩
            dsimp only [Option.toList, List.cons_append, List.nil_append, List.append_nil]
            refine vv_sub (ws' := (LWS a q c fS fP fC K S le nS (nP + 1) nC 0 (((u.nT, u.nR, u.tk, u.rs, va_up u.R nP ((p1, p2, 0, p3, (u.R nP).2.2.2.2) : pa_T), u.Sh, u.Cs, u.way, u.st, u.T, u.W, u.F) : RS)) sw sh ce sk (va_up pw nP p1) (va_up ph nP p2) (va_up co nP p3) (va_up tu nP 0) nS (nP + 1) nC 0 r 0 (vp_updL gj 0 ((iI (nP : Int)).toInt64)))) [0, 1, 2, 3, 4, 5, 6, 7, 8, 9, 10, 11, 35, 12, 13, 14, 15, 36, 37, 38, 39, 16, 17, 18, 19, 20, 21, 22, 23, 24, 25, 26, 27, 28, 29, 30, 31, 32, 33, 34] rfl rfl ?_
            refine vv_istore d_LW_law_295 rfl (Nat.le_of_ble_eq_true rfl) ?_
            dsimp only [List.set]
            refine vv_aload_n d_LW_law_297 rfl ?_
            refine vv_pV (wc := [ob_MO (a 14) q K (S : Int) le 0 ((nS : Nat) : Int) ((nP + 1 : Nat) : Int) 0 ((nC : Nat) : Int)]) (plc := []) [] (c_MO_thrown (cx_l X) (cx_D X) (a 14) q K (S : Int) le 0 ((nS : Nat) : Int) ((nP + 1 : Nat) : Int) 0 ((nC : Nat) : Int)) lk_LW_64 d_LW_law_298 rfl (rc_at 12 rfl rfl rfl) [12] ⟨rfl, rfl, Or.inl rfl⟩ [] rfl (rm_z hF (by assumption) ⟨by decide, by decide, rfl, rfl⟩ (Nat.le_of_ble_eq_true rfl)) ⟨rfl, rfl⟩ ?_
            intro v hv
            subst hv
            dsimp only [Option.toList, List.cons_append, List.nil_append, List.append_nil]
            refine vv_iload d_LW_law_301 rfl ?_
            refine vv_icmp_eq (tgt := 308) d_LW_law_303 (by decide) ⟨by omega, by omega⟩ (fun c303 => ?_) (fun c303 => ?_)
            · skip
              refine vv_iload d_LW_law_308 rfl ?_
              refine vv_if_ne (tgt := 325) d_LW_law_310 (by decide) (by omega) (fun c310 => ?_) (fun c310 => ?_)
              · exfalso; omega
              · skip
                refine vv_aload_n d_LW_law_313 rfl ?_
                refine vv_iconst d_LW_law_314 ?_
                refine vv_lald d_LW_law_315 39 5 rfl rfl ⟨by omega, by omega, by decide⟩ ?_
                refine vv_iload d_LW_law_316 rfl ?_
                refine vv_i2l (v := (iI (nP : Int)).toInt64) d_LW_law_318 (by rw [show ((nP : Int) + 1 - 1) = (nP : Int) by omega]) ?_
                refine vv_lcmp (v := iI 0) d_LW_law_319 (lg_same (iI (nP : Int)).toInt64) ?_
                refine vv_if_eq (tgt := 325) d_LW_law_320 (by decide) (by omega) (fun c320 => ?_) (fun c320 => ?_)
                · skip
                  refine vv_goto (tgt := 853) d_LW_law_325 (by decide) ?_
                  exact vv_widen (by first | exact Nat.le_refl _ | omega) (by first | exact Nat.le_refl _ | omega) (kk (nS) (nP + 1) (nC) (0) (((u.nT, u.nR, u.tk, u.rs, va_up u.R nP ((p1, p2, 0, p3, (u.R nP).2.2.2.2) : pa_T), u.Sh, u.Cs, u.way, u.st, u.T, u.W, u.F) : RS)) (sw) (sh) (ce) (sk) (va_up pw nP p1) (va_up ph nP p2) (va_up co nP p3) (va_up tu nP 0) (r) (0) (vp_updL gj 0 ((iI (nP : Int)).toInt64)) f9 _ _ _ (LR_part hL (by omega) h1.1 h1.2.1 h1.2.2 (by omega)) (hp9))
                · exfalso; omega
            · exfalso; omega
          · exfalso; omega
        · exfalso; omega
    · refine vv_aload_n d_LW_law_220 rfl ?_
      refine vv_aload_n d_LW_law_221 rfl ?_
      refine vv_iload d_LW_law_222 rfl ?_
      refine vv_iconst d_LW_law_224 ?_
      refine vv_iadd d_LW_law_225 ?_
      refine vv_sld ⟨hx.2.2.1, hx.2.2.2, hx.2.1⟩ d_LW_law_226 ⟨by omega, by omega, hN⟩ ?_
      rw [e1]
      refine vv_aload_n d_LW_law_227 rfl ?_
      refine vv_iload d_LW_law_228 rfl ?_
      refine vv_iconst d_LW_law_230 ?_
      refine vv_iadd d_LW_law_231 ?_
      refine vv_sld ⟨hx.2.2.1, hx.2.2.2, hx.2.1⟩ d_LW_law_232 ⟨by omega, by omega, hN⟩ ?_
      rw [e2]
      refine vv_aload_n d_LW_law_233 rfl ?_
      refine vv_iload d_LW_law_234 rfl ?_
      refine vv_iconst d_LW_law_236 ?_
      refine vv_iadd d_LW_law_237 ?_
      refine vv_sld ⟨hx.2.2.1, hx.2.2.2, hx.2.1⟩ d_LW_law_238 ⟨by omega, by omega, hN⟩ ?_
      rw [e3]
      refine vv_aload_n d_LW_law_239 rfl ?_
      refine vv_iload d_LW_law_240 rfl ?_
      refine vv_iconst d_LW_law_242 ?_
      refine vv_iadd d_LW_law_243 ?_
      refine vv_sld ⟨hx.2.2.1, hx.2.2.2, hx.2.1⟩ d_LW_law_244 ⟨by omega, by omega, hN⟩ ?_
      rw [e4]
      refine vv_if_eq (tgt := 252) d_LW_law_245 (by decide) (by omega) (fun c245 => ?_) (fun c245 => ?_)
      · skip
        refine vv_iconst d_LW_law_252 ?_
        refine vv_aload_n d_LW_law_253 rfl ?_
        refine vv_pSW hx (wc := [ob_ST (a 0) (a 1) (a 2) (a 3) (a 4) (a 5) (a 6) (a 7) (S : Int) le ((nS : Nat) : Int) ((nP : Nat) : Int) ((nC : Nat) : Int) (RS.nT u) (RS.nR u) rn, ar_Q (a 2) (c 2) 8 fP]) (plc := []) [] (w_part_n1 (cx_l X) (cx_D X) (a 0) (a 1) (a 2) (a 3) (a 4) (a 5) (a 6) (a 7) nP (S : Int) le (nS : Int) (nC : Int) u.nT u.nR rn p1 p2 p3 0 (c 2) fP hfl b1 b2 b3 (by omega) (a 13)) lk_LW_68 d_LW_law_254 rfl [0, 2] ⟨rfl, rfl, Or.inl rfl⟩ [2] rfl (rm_l hF hc ⟨by decide, by decide, by decide, by decide⟩ (Nat.le_of_ble_eq_true rfl)) ?_
        intro v hv
        subst hv
        dsimp only [Option.toList, List.cons_append, List.nil_append, List.append_nil]
        have hz1 : k + 1 ≤ RL.cells ∧ n + 6 ≤ RL.slots := hc
        refine vv_istore d_LW_law_257 rfl (Nat.le_of_ble_eq_true rfl) ?_
        dsimp only [List.set]
        refine vv_aload_n d_LW_law_259 rfl ?_
        refine vv_aload_n d_LW_law_260 rfl ?_
        refine vv_iload d_LW_law_261 rfl ?_
        refine vv_iconst d_LW_law_263 ?_
        refine vv_iadd d_LW_law_264 ?_
        refine vv_sld ⟨hx.2.2.1, hx.2.2.2, hx.2.1⟩ d_LW_law_265 ⟨by omega, by omega, hN⟩ ?_
        rw [e1]
        refine vv_aload_n d_LW_law_266 rfl ?_
        refine vv_iload d_LW_law_267 rfl ?_
        refine vv_iconst d_LW_law_269 ?_
        refine vv_iadd d_LW_law_270 ?_
        refine vv_sld ⟨hx.2.2.1, hx.2.2.2, hx.2.1⟩ d_LW_law_271 ⟨by omega, by omega, hN⟩ ?_
        rw [e2]
        refine vv_aload_n d_LW_law_272 rfl ?_
        refine vv_iload d_LW_law_273 rfl ?_
        refine vv_iconst d_LW_law_275 ?_
        refine vv_iadd d_LW_law_276 ?_
        refine vv_sld ⟨hx.2.2.1, hx.2.2.2, hx.2.1⟩ d_LW_law_277 ⟨by omega, by omega, hN⟩ ?_
        rw [e3]
        refine vv_aload_n d_LW_law_278 rfl ?_
        refine vv_iload d_LW_law_279 rfl ?_
        refine vv_iconst d_LW_law_281 ?_
        refine vv_iadd d_LW_law_282 ?_
        refine vv_sld ⟨hx.2.2.1, hx.2.2.2, hx.2.1⟩ d_LW_law_283 ⟨by omega, by omega, hN⟩ ?_
        rw [e4]
        refine vv_if_eq (tgt := 291) d_LW_law_284 (by decide) (by omega) (fun c284 => ?_) (fun c284 => ?_)
        · skip
          refine vv_iconst d_LW_law_291 ?_
          refine vv_nV hw (wc := [ob_MO (a 14) q K (S : Int) le cd ((nS : Nat) : Int) ((nP : Nat) : Int) rn ((nC : Nat) : Int)]) (wr := [ob_ST (a 0) (a 1) (a 2) (a 3) (a 4) (a 5) (a 6) (a 7) (S : Int) le ((nS : Nat) : Int) ((nP : Nat) : Int) ((nC : Nat) : Int) (RS.nT u) (RS.nR u) rn, ar_Q (a 1) (c 1) 4 fS, ar_Q (a 2) (c 2) 8 fP, ar_Q (a 3) (c 3) 20 fC, ar_I (a 4) (c 0) 400 (RS.tk u), ar_I (a 5) (c 0) 5120 (RS.rs u), ob_TB (a 6) (a 10) (a 11) K (RS.W u) (RS.F u), ar_I (a 10) (c 0) 2312 (RS.T u).1, ar_I (a 11) (c 0) 2312 (RS.T u).2, ob_LY (a 7) (a 6) (a 8) (a 9) (RS.way u) (RS.st u), ar_I (a 8) (c 0) 256 (RS.st u).2.2.2.1, ar_I (a 9) (c 0) 8 (RS.st u).2.2.2.2, ar_I (q 5) (c 0) 4 (sw), ar_I (q 6) (c 0) 4 (sh), ar_I (q 7) (c 0) 4 (ce), ar_I (q 8) (c 0) 4 (sk), ar_I (q 10) (c 0) 8 (pw), ar_I (q 11) (c 0) 8 (ph), ar_I (q 12) (c 0) 8 (co), ar_I (q 13) (c 4) 8 (tu), ar_I (q 14) (c 0) 8 (r.1), ar_I (q 15) (c 0) 4 (r.2.1), ar_I (q 16) (c 0) 8 (mw_T.st r.2.2.2.2.1), ar_I (q 17) (c 0) 2312 (r.2.2.2.2.2.1), ar_I (q 18) (c 0) 2312 (r.2.2.2.2.2.2.1), ar_I (q 19) (c 0) 2312 (r.2.2.2.2.2.2.2), ar_I (q 20) (c 0) 3600 (mw_T.wt r.2.2.2.2.1), ar_I (q 23) (c 0) 20 (r.2.2.1), ar_I (q 24) (c 0) 20 (r.2.2.2.1), ar_I (q 25) (c 0) 20 (mw_T.cc r.2.2.2.2.1), ar_I (q 26) (c 0) 20 (mw_T.mi r.2.2.2.2.1), ar_I (q 27) (c 0) 20 (mw_T.tc r.2.2.2.2.1), ar_I (q 28) (c 0) 20 (mw_T.ta r.2.2.2.2.1), ar_I (q 29) (c 0) 20 (mw_T.rc r.2.2.2.2.1), ar_I (q 30) (c 0) 20 (mw_T.nc r.2.2.2.2.1), ar_I (q 31) (c 0) 12000 (mw_T.no r.2.2.2.2.1), ar_I (q 32) (c 0) 25600 (mw_T.tk r.2.2.2.2.1), ar_I (q 33) (c 0) 20480 (mw_T.rs r.2.2.2.2.1), ar_J (a 13) (c 5) 1 (gj)]) [] (c_MO_part_n (cx_l X) (cx_D X) (a 14) q K (S : Int) le cd (nS : Int) (nP : Int) rn (nC : Int) p1 p2 p3 0 1 b1 b2 b3 (by omega) (by omega)) lk_LW_71 d_LW_law_292 rfl (rc_at 12 rfl rfl rfl) [12] [0, 1, 2, 3, 4, 5, 6, 7, 8, 9, 10, 11, 13, 14, 15, 16, 17, 18, 19, 20, 21, 22, 23, 24, 25, 26, 27, 28, 29, 30, 31, 32, 33, 34, 35, 36, 37, 38, 39] ⟨rfl, rfl⟩ ⟨rfl, rfl, by decide⟩ [] rfl (rm_z hF (by assumption) ⟨by decide, by decide, rfl, rfl⟩ (Nat.le_of_ble_eq_true rfl)) ⟨rfl, rfl⟩ ?_
          rintro v w1 p1 t1 ⟨rfl, rfl, rfl⟩
          dsimp only [Option.toList, List.cons_append, List.nil_append, List.append_nil]
          refine vv_sub (ws' := (LWS a q c fS fP fC K S le nS nP nC rn u sw sh ce sk pw ph co tu nS nP nC rn r 1 gj)) [0, 1, 2, 3, 4, 5, 6, 7, 8, 9, 10, 11, 39, 12, 13, 14, 15, 16, 17, 18, 19, 20, 21, 22, 23, 24, 25, 26, 27, 28, 29, 30, 31, 32, 33, 34, 35, 36, 37, 38] rfl rfl ?_
          refine vv_istore d_LW_law_295 rfl (Nat.le_of_ble_eq_true rfl) ?_
          dsimp only [List.set]
          refine vv_aload_n d_LW_law_297 rfl ?_
          refine vv_pV (wc := [ob_MO (a 14) q K (S : Int) le 1 ((nS : Nat) : Int) ((nP : Nat) : Int) rn ((nC : Nat) : Int)]) (plc := []) [] (c_MO_thrown (cx_l X) (cx_D X) (a 14) q K (S : Int) le 1 ((nS : Nat) : Int) ((nP : Nat) : Int) rn ((nC : Nat) : Int)) lk_LW_64 d_LW_law_298 rfl (rc_at 12 rfl rfl rfl) [12] ⟨rfl, rfl, Or.inl rfl⟩ [] rfl (rm_z hF (by assumption) ⟨by decide, by decide, rfl, rfl⟩ (Nat.le_of_ble_eq_true rfl)) ⟨rfl, rfl⟩ ?_
          intro v hv
          subst hv
          dsimp only [Option.toList, List.cons_append, List.nil_append, List.append_nil]
          refine vv_iload d_LW_law_301 rfl ?_
          refine vv_icmp_eq (tgt := 308) d_LW_law_303 (by decide) ⟨by omega, by omega⟩ (fun c303 => ?_) (fun c303 => ?_)
          · skip
            refine vv_iload d_LW_law_308 rfl ?_
            refine vv_if_ne (tgt := 325) d_LW_law_310 (by decide) (by omega) (fun c310 => ?_) (fun c310 => ?_)
            · skip
              refine vv_goto (tgt := 853) d_LW_law_325 (by decide) ?_
              exact vv_widen (by first | exact Nat.le_refl _ | omega) (by first | exact Nat.le_refl _ | omega) (kk (nS) (nP) (nC) (rn) (u) (sw) (sh) (ce) (sk) (pw) (ph) (co) (tu) (r) (1) (gj) f _ _ _ (hL) (hPL))
            · exfalso; omega
          · exfalso; omega
        · exfalso; omega
      · exfalso; omega
  · by_cases h1 : (1 ≤ p1 ∧ p1 ≤ 16) ∧ (1 ≤ p2 ∧ p2 ≤ 16) ∧ 0 ≤ p3 ∧ p3 ≤ 50
    · by_cases h2 : nP = 8
      · refine vv_aload_n d_LW_law_220 rfl ?_
        refine vv_aload_n d_LW_law_221 rfl ?_
        refine vv_iload d_LW_law_222 rfl ?_
        refine vv_iconst d_LW_law_224 ?_
        refine vv_iadd d_LW_law_225 ?_
        refine vv_sld ⟨hx.2.2.1, hx.2.2.2, hx.2.1⟩ d_LW_law_226 ⟨by omega, by omega, hN⟩ ?_
        rw [e1]
        refine vv_aload_n d_LW_law_227 rfl ?_
        refine vv_iload d_LW_law_228 rfl ?_
        refine vv_iconst d_LW_law_230 ?_
        refine vv_iadd d_LW_law_231 ?_
        refine vv_sld ⟨hx.2.2.1, hx.2.2.2, hx.2.1⟩ d_LW_law_232 ⟨by omega, by omega, hN⟩ ?_
        rw [e2]
        refine vv_aload_n d_LW_law_233 rfl ?_
        refine vv_iload d_LW_law_234 rfl ?_
        refine vv_iconst d_LW_law_236 ?_
        refine vv_iadd d_LW_law_237 ?_
        refine vv_sld ⟨hx.2.2.1, hx.2.2.2, hx.2.1⟩ d_LW_law_238 ⟨by omega, by omega, hN⟩ ?_
        rw [e3]
        refine vv_aload_n d_LW_law_239 rfl ?_
        refine vv_iload d_LW_law_240 rfl ?_
        refine vv_iconst d_LW_law_242 ?_
        refine vv_iadd d_LW_law_243 ?_
        refine vv_sld ⟨hx.2.2.1, hx.2.2.2, hx.2.1⟩ d_LW_law_244 ⟨by omega, by omega, hN⟩ ?_
        rw [e4]
        refine vv_if_eq (tgt := 252) d_LW_law_245 (by decide) (by omega) (fun c245 => ?_) (fun c245 => ?_)
        · exfalso; omega
        · skip
          refine vv_iconst d_LW_law_248 ?_
          refine vv_goto (tgt := 253) d_LW_law_249 (by decide) ?_
          refine vv_aload_n d_LW_law_253 rfl ?_
          refine vv_pSW hx (wc := [ob_ST (a 0) (a 1) (a 2) (a 3) (a 4) (a 5) (a 6) (a 7) (S : Int) le ((nS : Nat) : Int) ((nP : Nat) : Int) ((nC : Nat) : Int) (RS.nT u) (RS.nR u) rn, ar_Q (a 2) (c 2) 8 fP]) (plc := []) [] (w_part_n2 (cx_l X) (cx_D X) (a 0) (a 1) (a 2) (a 3) (a 4) (a 5) (a 6) (a 7) nP (S : Int) le (nS : Int) (nC : Int) u.nT u.nR rn p1 p2 p3 1 (c 2) fP hfl h2 h1 (a 13)) lk_LW_68 d_LW_law_254 rfl [0, 2] ⟨rfl, rfl, Or.inl rfl⟩ [2] rfl (rm_l hF hc ⟨by decide, by decide, by decide, by decide⟩ (Nat.le_of_ble_eq_true rfl)) ?_
          intro v hv
          subst hv
          dsimp only [Option.toList, List.cons_append, List.nil_append, List.append_nil]
          have hz1 : k + 1 ≤ RL.cells ∧ n + 6 ≤ RL.slots := hc
          refine vv_istore d_LW_law_257 rfl (Nat.le_of_ble_eq_true rfl) ?_
          dsimp only [List.set]
          refine vv_aload_n d_LW_law_259 rfl ?_
          refine vv_aload_n d_LW_law_260 rfl ?_
          refine vv_iload d_LW_law_261 rfl ?_
          refine vv_iconst d_LW_law_263 ?_
          refine vv_iadd d_LW_law_264 ?_
          refine vv_sld ⟨hx.2.2.1, hx.2.2.2, hx.2.1⟩ d_LW_law_265 ⟨by omega, by omega, hN⟩ ?_
          rw [e1]
          refine vv_aload_n d_LW_law_266 rfl ?_
          refine vv_iload d_LW_law_267 rfl ?_
          refine vv_iconst d_LW_law_269 ?_
          refine vv_iadd d_LW_law_270 ?_
          refine vv_sld ⟨hx.2.2.1, hx.2.2.2, hx.2.1⟩ d_LW_law_271 ⟨by omega, by omega, hN⟩ ?_
          rw [e2]
          refine vv_aload_n d_LW_law_272 rfl ?_
          refine vv_iload d_LW_law_273 rfl ?_
          refine vv_iconst d_LW_law_275 ?_
          refine vv_iadd d_LW_law_276 ?_
          refine vv_sld ⟨hx.2.2.1, hx.2.2.2, hx.2.1⟩ d_LW_law_277 ⟨by omega, by omega, hN⟩ ?_
          rw [e3]
          refine vv_aload_n d_LW_law_278 rfl ?_
          refine vv_iload d_LW_law_279 rfl ?_
          refine vv_iconst d_LW_law_281 ?_
          refine vv_iadd d_LW_law_282 ?_
          refine vv_sld ⟨hx.2.2.1, hx.2.2.2, hx.2.1⟩ d_LW_law_283 ⟨by omega, by omega, hN⟩ ?_
          rw [e4]
          refine vv_if_eq (tgt := 291) d_LW_law_284 (by decide) (by omega) (fun c284 => ?_) (fun c284 => ?_)
          · exfalso; omega
          · skip
            refine vv_iconst d_LW_law_287 ?_
            refine vv_goto (tgt := 292) d_LW_law_288 (by decide) ?_
            refine vv_nV hw (wc := [ob_MO (a 14) q K (S : Int) le cd ((nS : Nat) : Int) ((nP : Nat) : Int) rn ((nC : Nat) : Int)]) (wr := [ob_ST (a 0) (a 1) (a 2) (a 3) (a 4) (a 5) (a 6) (a 7) (S : Int) le ((nS : Nat) : Int) ((nP : Nat) : Int) ((nC : Nat) : Int) (RS.nT u) (RS.nR u) rn, ar_Q (a 1) (c 1) 4 fS, ar_Q (a 2) (c 2) 8 fP, ar_Q (a 3) (c 3) 20 fC, ar_I (a 4) (c 0) 400 (RS.tk u), ar_I (a 5) (c 0) 5120 (RS.rs u), ob_TB (a 6) (a 10) (a 11) K (RS.W u) (RS.F u), ar_I (a 10) (c 0) 2312 (RS.T u).1, ar_I (a 11) (c 0) 2312 (RS.T u).2, ob_LY (a 7) (a 6) (a 8) (a 9) (RS.way u) (RS.st u), ar_I (a 8) (c 0) 256 (RS.st u).2.2.2.1, ar_I (a 9) (c 0) 8 (RS.st u).2.2.2.2, ar_I (q 5) (c 0) 4 (sw), ar_I (q 6) (c 0) 4 (sh), ar_I (q 7) (c 0) 4 (ce), ar_I (q 8) (c 0) 4 (sk), ar_I (q 10) (c 0) 8 (pw), ar_I (q 11) (c 0) 8 (ph), ar_I (q 12) (c 0) 8 (co), ar_I (q 13) (c 4) 8 (tu), ar_I (q 14) (c 0) 8 (r.1), ar_I (q 15) (c 0) 4 (r.2.1), ar_I (q 16) (c 0) 8 (mw_T.st r.2.2.2.2.1), ar_I (q 17) (c 0) 2312 (r.2.2.2.2.2.1), ar_I (q 18) (c 0) 2312 (r.2.2.2.2.2.2.1), ar_I (q 19) (c 0) 2312 (r.2.2.2.2.2.2.2), ar_I (q 20) (c 0) 3600 (mw_T.wt r.2.2.2.2.1), ar_I (q 23) (c 0) 20 (r.2.2.1), ar_I (q 24) (c 0) 20 (r.2.2.2.1), ar_I (q 25) (c 0) 20 (mw_T.cc r.2.2.2.2.1), ar_I (q 26) (c 0) 20 (mw_T.mi r.2.2.2.2.1), ar_I (q 27) (c 0) 20 (mw_T.tc r.2.2.2.2.1), ar_I (q 28) (c 0) 20 (mw_T.ta r.2.2.2.2.1), ar_I (q 29) (c 0) 20 (mw_T.rc r.2.2.2.2.1), ar_I (q 30) (c 0) 20 (mw_T.nc r.2.2.2.2.1), ar_I (q 31) (c 0) 12000 (mw_T.no r.2.2.2.2.1), ar_I (q 32) (c 0) 25600 (mw_T.tk r.2.2.2.2.1), ar_I (q 33) (c 0) 20480 (mw_T.rs r.2.2.2.2.1), ar_J (a 13) (c 5) 1 (gj)]) [] (c_MO_part_n (cx_l X) (cx_D X) (a 14) q K (S : Int) le cd (nS : Int) (nP : Int) rn (nC : Int) p1 p2 p3 1 2 b1 b2 b3 (by omega) (by omega)) lk_LW_71 d_LW_law_292 rfl (rc_at 12 rfl rfl rfl) [12] [0, 1, 2, 3, 4, 5, 6, 7, 8, 9, 10, 11, 13, 14, 15, 16, 17, 18, 19, 20, 21, 22, 23, 24, 25, 26, 27, 28, 29, 30, 31, 32, 33, 34, 35, 36, 37, 38, 39] ⟨rfl, rfl⟩ ⟨rfl, rfl, by decide⟩ [] rfl (rm_z hF (by assumption) ⟨by decide, by decide, rfl, rfl⟩ (Nat.le_of_ble_eq_true rfl)) ⟨rfl, rfl⟩ ?_
            rintro v w1 p1 t1 ⟨rfl, rfl, rfl⟩
            dsimp only [Option.toList, List.cons_append, List.nil_append, List.append_nil]
            refine vv_sub (ws' := (LWS a q c fS fP fC K S le nS nP nC rn u sw sh ce sk pw ph co tu nS nP nC rn r 2 gj)) [0, 1, 2, 3, 4, 5, 6, 7, 8, 9, 10, 11, 39, 12, 13, 14, 15, 16, 17, 18, 19, 20, 21, 22, 23, 24, 25, 26, 27, 28, 29, 30, 31, 32, 33, 34, 35, 36, 37, 38] rfl rfl ?_
            refine vv_istore d_LW_law_295 rfl (Nat.le_of_ble_eq_true rfl) ?_
            dsimp only [List.set]
            refine vv_aload_n d_LW_law_297 rfl ?_
            refine vv_pV (wc := [ob_MO (a 14) q K (S : Int) le 2 ((nS : Nat) : Int) ((nP : Nat) : Int) rn ((nC : Nat) : Int)]) (plc := []) [] (c_MO_thrown (cx_l X) (cx_D X) (a 14) q K (S : Int) le 2 ((nS : Nat) : Int) ((nP : Nat) : Int) rn ((nC : Nat) : Int)) lk_LW_64 d_LW_law_298 rfl (rc_at 12 rfl rfl rfl) [12] ⟨rfl, rfl, Or.inl rfl⟩ [] rfl (rm_z hF (by assumption) ⟨by decide, by decide, rfl, rfl⟩ (Nat.le_of_ble_eq_true rfl)) ⟨rfl, rfl⟩ ?_
            intro v hv
            subst hv
            dsimp only [Option.toList, List.cons_append, List.nil_append, List.append_nil]
            refine vv_iload d_LW_law_301 rfl ?_
            refine vv_icmp_eq (tgt := 308) d_LW_law_303 (by decide) ⟨by omega, by omega⟩ (fun c303 => ?_) (fun c303 => ?_)
            · skip
              refine vv_iload d_LW_law_308 rfl ?_
              refine vv_if_ne (tgt := 325) d_LW_law_310 (by decide) (by omega) (fun c310 => ?_) (fun c310 => ?_)
              · skip
                refine vv_goto (tgt := 853) d_LW_law_325 (by decide) ?_
                exact vv_widen (by first | exact Nat.le_refl _ | omega) (by first | exact Nat.le_refl _ | omega) (kk (nS) (nP) (nC) (rn) (u) (sw) (sh) (ce) (sk) (pw) (ph) (co) (tu) (r) (2) (gj) f _ _ _ (hL) (hPL))
              · exfalso; omega
            · exfalso; omega
      · refine vv_aload_n d_LW_law_220 rfl ?_
        refine vv_aload_n d_LW_law_221 rfl ?_
        refine vv_iload d_LW_law_222 rfl ?_
        refine vv_iconst d_LW_law_224 ?_
        refine vv_iadd d_LW_law_225 ?_
        refine vv_sld ⟨hx.2.2.1, hx.2.2.2, hx.2.1⟩ d_LW_law_226 ⟨by omega, by omega, hN⟩ ?_
        rw [e1]
        refine vv_aload_n d_LW_law_227 rfl ?_
        refine vv_iload d_LW_law_228 rfl ?_
        refine vv_iconst d_LW_law_230 ?_
        refine vv_iadd d_LW_law_231 ?_
        refine vv_sld ⟨hx.2.2.1, hx.2.2.2, hx.2.1⟩ d_LW_law_232 ⟨by omega, by omega, hN⟩ ?_
        rw [e2]
        refine vv_aload_n d_LW_law_233 rfl ?_
        refine vv_iload d_LW_law_234 rfl ?_
        refine vv_iconst d_LW_law_236 ?_
        refine vv_iadd d_LW_law_237 ?_
        refine vv_sld ⟨hx.2.2.1, hx.2.2.2, hx.2.1⟩ d_LW_law_238 ⟨by omega, by omega, hN⟩ ?_
        rw [e3]
        refine vv_aload_n d_LW_law_239 rfl ?_
        refine vv_iload d_LW_law_240 rfl ?_
        refine vv_iconst d_LW_law_242 ?_
        refine vv_iadd d_LW_law_243 ?_
        refine vv_sld ⟨hx.2.2.1, hx.2.2.2, hx.2.1⟩ d_LW_law_244 ⟨by omega, by omega, hN⟩ ?_
        rw [e4]
        refine vv_if_eq (tgt := 252) d_LW_law_245 (by decide) (by omega) (fun c245 => ?_) (fun c245 => ?_)
        · exfalso; omega
        · skip
          refine vv_iconst d_LW_law_248 ?_
          refine vv_goto (tgt := 253) d_LW_law_249 (by decide) ?_
          refine vv_aload_n d_LW_law_253 rfl ?_
          refine vv_mSW hw (wc := [ar_J (a 13) (c 5) 1 (gj), ob_ST (a 0) (a 1) (a 2) (a 3) (a 4) (a 5) (a 6) (a 7) (S : Int) le ((nS : Nat) : Int) ((nP : Nat) : Int) ((nC : Nat) : Int) (RS.nT u) (RS.nR u) rn, ar_Q (a 2) (c 2) 8 fP]) (wr := [ar_Q (a 1) (c 1) 4 fS, ar_Q (a 3) (c 3) 20 fC, ar_I (a 4) (c 0) 400 (RS.tk u), ar_I (a 5) (c 0) 5120 (RS.rs u), ob_TB (a 6) (a 10) (a 11) K (RS.W u) (RS.F u), ar_I (a 10) (c 0) 2312 (RS.T u).1, ar_I (a 11) (c 0) 2312 (RS.T u).2, ob_LY (a 7) (a 6) (a 8) (a 9) (RS.way u) (RS.st u), ar_I (a 8) (c 0) 256 (RS.st u).2.2.2.1, ar_I (a 9) (c 0) 8 (RS.st u).2.2.2.2, ob_MO (a 14) q K (S : Int) le cd ((nS : Nat) : Int) ((nP : Nat) : Int) rn ((nC : Nat) : Int), ar_I (q 5) (c 0) 4 (sw), ar_I (q 6) (c 0) 4 (sh), ar_I (q 7) (c 0) 4 (ce), ar_I (q 8) (c 0) 4 (sk), ar_I (q 10) (c 0) 8 (pw), ar_I (q 11) (c 0) 8 (ph), ar_I (q 12) (c 0) 8 (co), ar_I (q 13) (c 4) 8 (tu), ar_I (q 14) (c 0) 8 (r.1), ar_I (q 15) (c 0) 4 (r.2.1), ar_I (q 16) (c 0) 8 (mw_T.st r.2.2.2.2.1), ar_I (q 17) (c 0) 2312 (r.2.2.2.2.2.1), ar_I (q 18) (c 0) 2312 (r.2.2.2.2.2.2.1), ar_I (q 19) (c 0) 2312 (r.2.2.2.2.2.2.2), ar_I (q 20) (c 0) 3600 (mw_T.wt r.2.2.2.2.1), ar_I (q 23) (c 0) 20 (r.2.2.1), ar_I (q 24) (c 0) 20 (r.2.2.2.1), ar_I (q 25) (c 0) 20 (mw_T.cc r.2.2.2.2.1), ar_I (q 26) (c 0) 20 (mw_T.mi r.2.2.2.2.1), ar_I (q 27) (c 0) 20 (mw_T.tc r.2.2.2.2.1), ar_I (q 28) (c 0) 20 (mw_T.ta r.2.2.2.2.1), ar_I (q 29) (c 0) 20 (mw_T.rc r.2.2.2.2.1), ar_I (q 30) (c 0) 20 (mw_T.nc r.2.2.2.2.1), ar_I (q 31) (c 0) 12000 (mw_T.no r.2.2.2.2.1), ar_I (q 32) (c 0) 25600 (mw_T.tk r.2.2.2.2.1), ar_I (q 33) (c 0) 20480 (mw_T.rs r.2.2.2.2.1)]) [] (w_part_y (cx_l X) (cx_D X) (a 0) (a 1) (a 2) (a 3) (a 4) (a 5) (a 6) (a 7) nP (S : Int) le (nS : Int) (nC : Int) u.nT u.nR rn p1 p2 p3 1 (c 2) fP L f aS aP aC u.Sh u.R u.Cs (by omega) h1.1 h1.2.1 h1.2.2 (by omega) hfP hPL hAD (a 13) (c 5) gj) lk_LW_68 d_LW_law_254 rfl [39, 0, 2] [1, 3, 4, 5, 6, 7, 8, 9, 10, 11, 12, 13, 14, 15, 16, 17, 18, 19, 20, 21, 22, 23, 24, 25, 26, 27, 28, 29, 30, 31, 32, 33, 34, 35, 36, 37, 38] ⟨rfl, rfl⟩ ⟨rfl, rfl, by decide⟩ [5, 2] rfl (rm_l hF hc ⟨by decide, by decide, by decide, by decide⟩ (Nat.le_of_ble_eq_true rfl)) ⟨rfl, rfl⟩ ?_
          rintro v w1 p1 t1 ⟨rfl, rfl, f9, rfl, hp9⟩
          dsimp only [Option.toList, List.cons_append, List.nil_append, List.append_nil]
          refine vv_sub (ws' := (LWS a q c fS fP fC K S le nS (nP + 1) nC 0 (((u.nT, u.nR, u.tk, u.rs, va_up u.R nP ((p1, p2, 1, p3, (u.R nP).2.2.2.2) : pa_T), u.Sh, u.Cs, u.way, u.st, u.T, u.W, u.F) : RS)) sw sh ce sk pw ph co tu nS nP nC rn r cd (vp_updL gj 0 ((iI (nP : Int)).toInt64)))) [38, 0, 39, 1, 2, 3, 4, 5, 6, 7, 8, 9, 10, 11, 12, 13, 14, 15, 16, 17, 18, 19, 20, 21, 22, 23, 24, 25, 26, 27, 28, 29, 30, 31, 32, 33, 34, 35, 36, 37] rfl rfl ?_
          refine vv_istore d_LW_law_257 rfl (Nat.le_of_ble_eq_true rfl) ?_
          dsimp only [List.set]
          refine vv_aload_n d_LW_law_259 rfl ?_
          refine vv_aload_n d_LW_law_260 rfl ?_
          refine vv_iload d_LW_law_261 rfl ?_
          refine vv_iconst d_LW_law_263 ?_
          refine vv_iadd d_LW_law_264 ?_
          refine vv_sld ⟨hx.2.2.1, hx.2.2.2, hx.2.1⟩ d_LW_law_265 ⟨by omega, by omega, hN⟩ ?_
          rw [e1]
          refine vv_aload_n d_LW_law_266 rfl ?_
          refine vv_iload d_LW_law_267 rfl ?_
          refine vv_iconst d_LW_law_269 ?_
          refine vv_iadd d_LW_law_270 ?_
          refine vv_sld ⟨hx.2.2.1, hx.2.2.2, hx.2.1⟩ d_LW_law_271 ⟨by omega, by omega, hN⟩ ?_
          rw [e2]
          refine vv_aload_n d_LW_law_272 rfl ?_
          refine vv_iload d_LW_law_273 rfl ?_
          refine vv_iconst d_LW_law_275 ?_
          refine vv_iadd d_LW_law_276 ?_
          refine vv_sld ⟨hx.2.2.1, hx.2.2.2, hx.2.1⟩ d_LW_law_277 ⟨by omega, by omega, hN⟩ ?_
          rw [e3]
          refine vv_aload_n d_LW_law_278 rfl ?_
          refine vv_iload d_LW_law_279 rfl ?_
          refine vv_iconst d_LW_law_281 ?_
          refine vv_iadd d_LW_law_282 ?_
          refine vv_sld ⟨hx.2.2.1, hx.2.2.2, hx.2.1⟩ d_LW_law_283 ⟨by omega, by omega, hN⟩ ?_
          rw [e4]
          refine vv_if_eq (tgt := 291) d_LW_law_284 (by decide) (by omega) (fun c284 => ?_) (fun c284 => ?_)
          · exfalso; omega
          · skip
            refine vv_iconst d_LW_law_287 ?_
            refine vv_goto (tgt := 292) d_LW_law_288 (by decide) ?_
            refine vv_nV hw (wc := [ob_MO (a 14) q K (S : Int) le cd ((nS : Nat) : Int) ((nP : Nat) : Int) rn ((nC : Nat) : Int), ar_I (q 10) (c 0) 8 (pw), ar_I (q 11) (c 0) 8 (ph), ar_I (q 12) (c 0) 8 (co), ar_I (q 13) (c 4) 8 (tu)]) (wr := [ob_ST (a 0) (a 1) (a 2) (a 3) (a 4) (a 5) (a 6) (a 7) (S : Int) le ((nS : Nat) : Int) ((nP + 1 : Nat) : Int) ((nC : Nat) : Int) (RS.nT ((u.nT, u.nR, u.tk, u.rs, va_up u.R nP ((p1, p2, 1, p3, (u.R nP).2.2.2.2) : pa_T), u.Sh, u.Cs, u.way, u.st, u.T, u.W, u.F) : RS)) (RS.nR ((u.nT, u.nR, u.tk, u.rs, va_up u.R nP ((p1, p2, 1, p3, (u.R nP).2.2.2.2) : pa_T), u.Sh, u.Cs, u.way, u.st, u.T, u.W, u.F) : RS)) 0, ar_Q (a 1) (c 1) 4 fS, ar_Q (a 2) (c 2) 8 fP, ar_Q (a 3) (c 3) 20 fC, ar_I (a 4) (c 0) 400 (RS.tk ((u.nT, u.nR, u.tk, u.rs, va_up u.R nP ((p1, p2, 1, p3, (u.R nP).2.2.2.2) : pa_T), u.Sh, u.Cs, u.way, u.st, u.T, u.W, u.F) : RS)), ar_I (a 5) (c 0) 5120 (RS.rs ((u.nT, u.nR, u.tk, u.rs, va_up u.R nP ((p1, p2, 1, p3, (u.R nP).2.2.2.2) : pa_T), u.Sh, u.Cs, u.way, u.st, u.T, u.W, u.F) : RS)), ob_TB (a 6) (a 10) (a 11) K (RS.W ((u.nT, u.nR, u.tk, u.rs, va_up u.R nP ((p1, p2, 1, p3, (u.R nP).2.2.2.2) : pa_T), u.Sh, u.Cs, u.way, u.st, u.T, u.W, u.F) : RS)) (RS.F ((u.nT, u.nR, u.tk, u.rs, va_up u.R nP ((p1, p2, 1, p3, (u.R nP).2.2.2.2) : pa_T), u.Sh, u.Cs, u.way, u.st, u.T, u.W, u.F) : RS)), ar_I (a 10) (c 0) 2312 (RS.T ((u.nT, u.nR, u.tk, u.rs, va_up u.R nP ((p1, p2, 1, p3, (u.R nP).2.2.2.2) : pa_T), u.Sh, u.Cs, u.way, u.st, u.T, u.W, u.F) : RS)).1, ar_I (a 11) (c 0) 2312 (RS.T ((u.nT, u.nR, u.tk, u.rs, va_up u.R nP ((p1, p2, 1, p3, (u.R nP).2.2.2.2) : pa_T), u.Sh, u.Cs, u.way, u.st, u.T, u.W, u.F) : RS)).2, ob_LY (a 7) (a 6) (a 8) (a 9) (RS.way ((u.nT, u.nR, u.tk, u.rs, va_up u.R nP ((p1, p2, 1, p3, (u.R nP).2.2.2.2) : pa_T), u.Sh, u.Cs, u.way, u.st, u.T, u.W, u.F) : RS)) (RS.st ((u.nT, u.nR, u.tk, u.rs, va_up u.R nP ((p1, p2, 1, p3, (u.R nP).2.2.2.2) : pa_T), u.Sh, u.Cs, u.way, u.st, u.T, u.W, u.F) : RS)), ar_I (a 8) (c 0) 256 (RS.st ((u.nT, u.nR, u.tk, u.rs, va_up u.R nP ((p1, p2, 1, p3, (u.R nP).2.2.2.2) : pa_T), u.Sh, u.Cs, u.way, u.st, u.T, u.W, u.F) : RS)).2.2.2.1, ar_I (a 9) (c 0) 8 (RS.st ((u.nT, u.nR, u.tk, u.rs, va_up u.R nP ((p1, p2, 1, p3, (u.R nP).2.2.2.2) : pa_T), u.Sh, u.Cs, u.way, u.st, u.T, u.W, u.F) : RS)).2.2.2.2, ar_I (q 5) (c 0) 4 (sw), ar_I (q 6) (c 0) 4 (sh), ar_I (q 7) (c 0) 4 (ce), ar_I (q 8) (c 0) 4 (sk), ar_I (q 14) (c 0) 8 (r.1), ar_I (q 15) (c 0) 4 (r.2.1), ar_I (q 16) (c 0) 8 (mw_T.st r.2.2.2.2.1), ar_I (q 17) (c 0) 2312 (r.2.2.2.2.2.1), ar_I (q 18) (c 0) 2312 (r.2.2.2.2.2.2.1), ar_I (q 19) (c 0) 2312 (r.2.2.2.2.2.2.2), ar_I (q 20) (c 0) 3600 (mw_T.wt r.2.2.2.2.1), ar_I (q 23) (c 0) 20 (r.2.2.1), ar_I (q 24) (c 0) 20 (r.2.2.2.1), ar_I (q 25) (c 0) 20 (mw_T.cc r.2.2.2.2.1), ar_I (q 26) (c 0) 20 (mw_T.mi r.2.2.2.2.1), ar_I (q 27) (c 0) 20 (mw_T.tc r.2.2.2.2.1), ar_I (q 28) (c 0) 20 (mw_T.ta r.2.2.2.2.1), ar_I (q 29) (c 0) 20 (mw_T.rc r.2.2.2.2.1), ar_I (q 30) (c 0) 20 (mw_T.nc r.2.2.2.2.1), ar_I (q 31) (c 0) 12000 (mw_T.no r.2.2.2.2.1), ar_I (q 32) (c 0) 25600 (mw_T.tk r.2.2.2.2.1), ar_I (q 33) (c 0) 20480 (mw_T.rs r.2.2.2.2.1), ar_J (a 13) (c 5) 1 (vp_updL gj 0 ((iI (nP : Int)).toInt64))]) [] (c_MO_part_y (cx_l X) (cx_D X) (a 14) q K (S : Int) le cd (nS : Int) (nP : Int) rn (nC : Int) (c 0) (c 4) pw ph co tu p1 p2 p3 1 (by omega) h1 (by omega)) lk_LW_71 d_LW_law_292 rfl (rc_at 12 rfl rfl rfl) [12, 17, 18, 19, 20] [0, 1, 2, 3, 4, 5, 6, 7, 8, 9, 10, 11, 13, 14, 15, 16, 21, 22, 23, 24, 25, 26, 27, 28, 29, 30, 31, 32, 33, 34, 35, 36, 37, 38, 39] ⟨rfl, rfl⟩ ⟨rfl, rfl, by decide⟩ [0, 4] rfl (rm_z hF (by assumption) ⟨by decide, by decide, rfl, rfl⟩ (Nat.le_of_ble_eq_true rfl)) ⟨rfl, rfl⟩ ?_
            rintro v w1 p1 t1 ⟨rfl, rfl, rfl⟩
            dsimp only [Option.toList, List.cons_append, List.nil_append, List.append_nil]
            refine vv_sub (ws' := (LWS a q c fS fP fC K S le nS (nP + 1) nC 0 (((u.nT, u.nR, u.tk, u.rs, va_up u.R nP ((p1, p2, 1, p3, (u.R nP).2.2.2.2) : pa_T), u.Sh, u.Cs, u.way, u.st, u.T, u.W, u.F) : RS)) sw sh ce sk (va_up pw nP p1) (va_up ph nP p2) (va_up co nP p3) (va_up tu nP 1) nS (nP + 1) nC 0 r 0 (vp_updL gj 0 ((iI (nP : Int)).toInt64)))) [0, 1, 2, 3, 4, 5, 6, 7, 8, 9, 10, 11, 35, 12, 13, 14, 15, 36, 37, 38, 39, 16, 17, 18, 19, 20, 21, 22, 23, 24, 25, 26, 27, 28, 29, 30, 31, 32, 33, 34] rfl rfl ?_
            refine vv_istore d_LW_law_295 rfl (Nat.le_of_ble_eq_true rfl) ?_
            dsimp only [List.set]
            refine vv_aload_n d_LW_law_297 rfl ?_
            refine vv_pV (wc := [ob_MO (a 14) q K (S : Int) le 0 ((nS : Nat) : Int) ((nP + 1 : Nat) : Int) 0 ((nC : Nat) : Int)]) (plc := []) [] (c_MO_thrown (cx_l X) (cx_D X) (a 14) q K (S : Int) le 0 ((nS : Nat) : Int) ((nP + 1 : Nat) : Int) 0 ((nC : Nat) : Int)) lk_LW_64 d_LW_law_298 rfl (rc_at 12 rfl rfl rfl) [12] ⟨rfl, rfl, Or.inl rfl⟩ [] rfl (rm_z hF (by assumption) ⟨by decide, by decide, rfl, rfl⟩ (Nat.le_of_ble_eq_true rfl)) ⟨rfl, rfl⟩ ?_
            intro v hv
            subst hv
            dsimp only [Option.toList, List.cons_append, List.nil_append, List.append_nil]
            refine vv_iload d_LW_law_301 rfl ?_
            refine vv_icmp_eq (tgt := 308) d_LW_law_303 (by decide) ⟨by omega, by omega⟩ (fun c303 => ?_) (fun c303 => ?_)
            · skip
              refine vv_iload d_LW_law_308 rfl ?_
              refine vv_if_ne (tgt := 325) d_LW_law_310 (by decide) (by omega) (fun c310 => ?_) (fun c310 => ?_)
              · exfalso; omega
              · skip
                refine vv_aload_n d_LW_law_313 rfl ?_
                refine vv_iconst d_LW_law_314 ?_
                refine vv_lald d_LW_law_315 39 5 rfl rfl ⟨by omega, by omega, by decide⟩ ?_
                refine vv_iload d_LW_law_316 rfl ?_
                refine vv_i2l (v := (iI (nP : Int)).toInt64) d_LW_law_318 (by rw [show ((nP : Int) + 1 - 1) = (nP : Int) by omega]) ?_
                refine vv_lcmp (v := iI 0) d_LW_law_319 (lg_same (iI (nP : Int)).toInt64) ?_
                refine vv_if_eq (tgt := 325) d_LW_law_320 (by decide) (by omega) (fun c320 => ?_) (fun c320 => ?_)
                · skip
                  refine vv_goto (tgt := 853) d_LW_law_325 (by decide) ?_
                  exact vv_widen (by first | exact Nat.le_refl _ | omega) (by first | exact Nat.le_refl _ | omega) (kk (nS) (nP + 1) (nC) (0) (((u.nT, u.nR, u.tk, u.rs, va_up u.R nP ((p1, p2, 1, p3, (u.R nP).2.2.2.2) : pa_T), u.Sh, u.Cs, u.way, u.st, u.T, u.W, u.F) : RS)) (sw) (sh) (ce) (sk) (va_up pw nP p1) (va_up ph nP p2) (va_up co nP p3) (va_up tu nP 1) (r) (0) (vp_updL gj 0 ((iI (nP : Int)).toInt64)) f9 _ _ _ (LR_part hL (by omega) h1.1 h1.2.1 h1.2.2 (by omega)) (hp9))
                · exfalso; omega
            · exfalso; omega
    · refine vv_aload_n d_LW_law_220 rfl ?_
      refine vv_aload_n d_LW_law_221 rfl ?_
      refine vv_iload d_LW_law_222 rfl ?_
      refine vv_iconst d_LW_law_224 ?_
      refine vv_iadd d_LW_law_225 ?_
      refine vv_sld ⟨hx.2.2.1, hx.2.2.2, hx.2.1⟩ d_LW_law_226 ⟨by omega, by omega, hN⟩ ?_
      rw [e1]
      refine vv_aload_n d_LW_law_227 rfl ?_
      refine vv_iload d_LW_law_228 rfl ?_
      refine vv_iconst d_LW_law_230 ?_
      refine vv_iadd d_LW_law_231 ?_
      refine vv_sld ⟨hx.2.2.1, hx.2.2.2, hx.2.1⟩ d_LW_law_232 ⟨by omega, by omega, hN⟩ ?_
      rw [e2]
      refine vv_aload_n d_LW_law_233 rfl ?_
      refine vv_iload d_LW_law_234 rfl ?_
      refine vv_iconst d_LW_law_236 ?_
      refine vv_iadd d_LW_law_237 ?_
      refine vv_sld ⟨hx.2.2.1, hx.2.2.2, hx.2.1⟩ d_LW_law_238 ⟨by omega, by omega, hN⟩ ?_
      rw [e3]
      refine vv_aload_n d_LW_law_239 rfl ?_
      refine vv_iload d_LW_law_240 rfl ?_
      refine vv_iconst d_LW_law_242 ?_
      refine vv_iadd d_LW_law_243 ?_
      refine vv_sld ⟨hx.2.2.1, hx.2.2.2, hx.2.1⟩ d_LW_law_244 ⟨by omega, by omega, hN⟩ ?_
      rw [e4]
      refine vv_if_eq (tgt := 252) d_LW_law_245 (by decide) (by omega) (fun c245 => ?_) (fun c245 => ?_)
      · exfalso; omega
      · skip
        refine vv_iconst d_LW_law_248 ?_
        refine vv_goto (tgt := 253) d_LW_law_249 (by decide) ?_
        refine vv_aload_n d_LW_law_253 rfl ?_
        refine vv_pSW hx (wc := [ob_ST (a 0) (a 1) (a 2) (a 3) (a 4) (a 5) (a 6) (a 7) (S : Int) le ((nS : Nat) : Int) ((nP : Nat) : Int) ((nC : Nat) : Int) (RS.nT u) (RS.nR u) rn, ar_Q (a 2) (c 2) 8 fP]) (plc := []) [] (w_part_n1 (cx_l X) (cx_D X) (a 0) (a 1) (a 2) (a 3) (a 4) (a 5) (a 6) (a 7) nP (S : Int) le (nS : Int) (nC : Int) u.nT u.nR rn p1 p2 p3 1 (c 2) fP hfl b1 b2 b3 (by omega) (a 13)) lk_LW_68 d_LW_law_254 rfl [0, 2] ⟨rfl, rfl, Or.inl rfl⟩ [2] rfl (rm_l hF hc ⟨by decide, by decide, by decide, by decide⟩ (Nat.le_of_ble_eq_true rfl)) ?_
        intro v hv
        subst hv
        dsimp only [Option.toList, List.cons_append, List.nil_append, List.append_nil]
        have hz1 : k + 1 ≤ RL.cells ∧ n + 6 ≤ RL.slots := hc
        refine vv_istore d_LW_law_257 rfl (Nat.le_of_ble_eq_true rfl) ?_
        dsimp only [List.set]
        refine vv_aload_n d_LW_law_259 rfl ?_
        refine vv_aload_n d_LW_law_260 rfl ?_
        refine vv_iload d_LW_law_261 rfl ?_
        refine vv_iconst d_LW_law_263 ?_
        refine vv_iadd d_LW_law_264 ?_
        refine vv_sld ⟨hx.2.2.1, hx.2.2.2, hx.2.1⟩ d_LW_law_265 ⟨by omega, by omega, hN⟩ ?_
        rw [e1]
        refine vv_aload_n d_LW_law_266 rfl ?_
        refine vv_iload d_LW_law_267 rfl ?_
        refine vv_iconst d_LW_law_269 ?_
        refine vv_iadd d_LW_law_270 ?_
        refine vv_sld ⟨hx.2.2.1, hx.2.2.2, hx.2.1⟩ d_LW_law_271 ⟨by omega, by omega, hN⟩ ?_
        rw [e2]
        refine vv_aload_n d_LW_law_272 rfl ?_
        refine vv_iload d_LW_law_273 rfl ?_
        refine vv_iconst d_LW_law_275 ?_
        refine vv_iadd d_LW_law_276 ?_
        refine vv_sld ⟨hx.2.2.1, hx.2.2.2, hx.2.1⟩ d_LW_law_277 ⟨by omega, by omega, hN⟩ ?_
        rw [e3]
        refine vv_aload_n d_LW_law_278 rfl ?_
        refine vv_iload d_LW_law_279 rfl ?_
        refine vv_iconst d_LW_law_281 ?_
        refine vv_iadd d_LW_law_282 ?_
        refine vv_sld ⟨hx.2.2.1, hx.2.2.2, hx.2.1⟩ d_LW_law_283 ⟨by omega, by omega, hN⟩ ?_
        rw [e4]
        refine vv_if_eq (tgt := 291) d_LW_law_284 (by decide) (by omega) (fun c284 => ?_) (fun c284 => ?_)
        · exfalso; omega
        · skip
          refine vv_iconst d_LW_law_287 ?_
          refine vv_goto (tgt := 292) d_LW_law_288 (by decide) ?_
          refine vv_nV hw (wc := [ob_MO (a 14) q K (S : Int) le cd ((nS : Nat) : Int) ((nP : Nat) : Int) rn ((nC : Nat) : Int)]) (wr := [ob_ST (a 0) (a 1) (a 2) (a 3) (a 4) (a 5) (a 6) (a 7) (S : Int) le ((nS : Nat) : Int) ((nP : Nat) : Int) ((nC : Nat) : Int) (RS.nT u) (RS.nR u) rn, ar_Q (a 1) (c 1) 4 fS, ar_Q (a 2) (c 2) 8 fP, ar_Q (a 3) (c 3) 20 fC, ar_I (a 4) (c 0) 400 (RS.tk u), ar_I (a 5) (c 0) 5120 (RS.rs u), ob_TB (a 6) (a 10) (a 11) K (RS.W u) (RS.F u), ar_I (a 10) (c 0) 2312 (RS.T u).1, ar_I (a 11) (c 0) 2312 (RS.T u).2, ob_LY (a 7) (a 6) (a 8) (a 9) (RS.way u) (RS.st u), ar_I (a 8) (c 0) 256 (RS.st u).2.2.2.1, ar_I (a 9) (c 0) 8 (RS.st u).2.2.2.2, ar_I (q 5) (c 0) 4 (sw), ar_I (q 6) (c 0) 4 (sh), ar_I (q 7) (c 0) 4 (ce), ar_I (q 8) (c 0) 4 (sk), ar_I (q 10) (c 0) 8 (pw), ar_I (q 11) (c 0) 8 (ph), ar_I (q 12) (c 0) 8 (co), ar_I (q 13) (c 4) 8 (tu), ar_I (q 14) (c 0) 8 (r.1), ar_I (q 15) (c 0) 4 (r.2.1), ar_I (q 16) (c 0) 8 (mw_T.st r.2.2.2.2.1), ar_I (q 17) (c 0) 2312 (r.2.2.2.2.2.1), ar_I (q 18) (c 0) 2312 (r.2.2.2.2.2.2.1), ar_I (q 19) (c 0) 2312 (r.2.2.2.2.2.2.2), ar_I (q 20) (c 0) 3600 (mw_T.wt r.2.2.2.2.1), ar_I (q 23) (c 0) 20 (r.2.2.1), ar_I (q 24) (c 0) 20 (r.2.2.2.1), ar_I (q 25) (c 0) 20 (mw_T.cc r.2.2.2.2.1), ar_I (q 26) (c 0) 20 (mw_T.mi r.2.2.2.2.1), ar_I (q 27) (c 0) 20 (mw_T.tc r.2.2.2.2.1), ar_I (q 28) (c 0) 20 (mw_T.ta r.2.2.2.2.1), ar_I (q 29) (c 0) 20 (mw_T.rc r.2.2.2.2.1), ar_I (q 30) (c 0) 20 (mw_T.nc r.2.2.2.2.1), ar_I (q 31) (c 0) 12000 (mw_T.no r.2.2.2.2.1), ar_I (q 32) (c 0) 25600 (mw_T.tk r.2.2.2.2.1), ar_I (q 33) (c 0) 20480 (mw_T.rs r.2.2.2.2.1), ar_J (a 13) (c 5) 1 (gj)]) [] (c_MO_part_n (cx_l X) (cx_D X) (a 14) q K (S : Int) le cd (nS : Int) (nP : Int) rn (nC : Int) p1 p2 p3 1 1 b1 b2 b3 (by omega) (by omega)) lk_LW_71 d_LW_law_292 rfl (rc_at 12 rfl rfl rfl) [12] [0, 1, 2, 3, 4, 5, 6, 7, 8, 9, 10, 11, 13, 14, 15, 16, 17, 18, 19, 20, 21, 22, 23, 24, 25, 26, 27, 28, 29, 30, 31, 32, 33, 34, 35, 36, 37, 38, 39] ⟨rfl, rfl⟩ ⟨rfl, rfl, by decide⟩ [] rfl (rm_z hF (by assumption) ⟨by decide, by decide, rfl, rfl⟩ (Nat.le_of_ble_eq_true rfl)) ⟨rfl, rfl⟩ ?_
          rintro v w1 p1 t1 ⟨rfl, rfl, rfl⟩
          dsimp only [Option.toList, List.cons_append, List.nil_append, List.append_nil]
          refine vv_sub (ws' := (LWS a q c fS fP fC K S le nS nP nC rn u sw sh ce sk pw ph co tu nS nP nC rn r 1 gj)) [0, 1, 2, 3, 4, 5, 6, 7, 8, 9, 10, 11, 39, 12, 13, 14, 15, 16, 17, 18, 19, 20, 21, 22, 23, 24, 25, 26, 27, 28, 29, 30, 31, 32, 33, 34, 35, 36, 37, 38] rfl rfl ?_
          refine vv_istore d_LW_law_295 rfl (Nat.le_of_ble_eq_true rfl) ?_
          dsimp only [List.set]
          refine vv_aload_n d_LW_law_297 rfl ?_
          refine vv_pV (wc := [ob_MO (a 14) q K (S : Int) le 1 ((nS : Nat) : Int) ((nP : Nat) : Int) rn ((nC : Nat) : Int)]) (plc := []) [] (c_MO_thrown (cx_l X) (cx_D X) (a 14) q K (S : Int) le 1 ((nS : Nat) : Int) ((nP : Nat) : Int) rn ((nC : Nat) : Int)) lk_LW_64 d_LW_law_298 rfl (rc_at 12 rfl rfl rfl) [12] ⟨rfl, rfl, Or.inl rfl⟩ [] rfl (rm_z hF (by assumption) ⟨by decide, by decide, rfl, rfl⟩ (Nat.le_of_ble_eq_true rfl)) ⟨rfl, rfl⟩ ?_
          intro v hv
          subst hv
          dsimp only [Option.toList, List.cons_append, List.nil_append, List.append_nil]
          refine vv_iload d_LW_law_301 rfl ?_
          refine vv_icmp_eq (tgt := 308) d_LW_law_303 (by decide) ⟨by omega, by omega⟩ (fun c303 => ?_) (fun c303 => ?_)
          · skip
            refine vv_iload d_LW_law_308 rfl ?_
            refine vv_if_ne (tgt := 325) d_LW_law_310 (by decide) (by omega) (fun c310 => ?_) (fun c310 => ?_)
            · skip
              refine vv_goto (tgt := 853) d_LW_law_325 (by decide) ?_
              exact vv_widen (by first | exact Nat.le_refl _ | omega) (by first | exact Nat.le_refl _ | omega) (kk (nS) (nP) (nC) (rn) (u) (sw) (sh) (ce) (sk) (pw) (ph) (co) (tu) (r) (1) (gj) f _ _ _ (hL) (hPL))
            · exfalso; omega
          · exfalso; omega
