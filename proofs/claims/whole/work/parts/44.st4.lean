/-! SheetTrees.takePieces -/
/-- taken so far, rests so far, their rows, the parts, the cut sheet -/
abbrev ts_T : Type := Int × Int × (Nat → Int) × (Nat → Int) × (Nat → pa_T) × (Nat → Int)
def ts_k (q : Int) : Nat := (pf_z q 0).toNat
def ts_step (le q : Int) (s : ts_T) : ts_T :=
  if pf_z q 0 = 8 then (if le ≤ pf_z q 3 ∧ le ≤ pf_z q 4 then (s.1, s.2.1 + 1, s.2.2.1, va_up s.2.2.2.1 s.2.1.toNat q, s.2.2.2.2) else s)
  else if pf_z q 0 < 8 then (if 0 < (s.2.2.2.2.1 (ts_k q)).2.2.2.2 then (s.1 + 1, s.2.1, va_up s.2.2.1 s.1.toNat q, s.2.2.2.1, va_up s.2.2.2.2.1 (ts_k q) ((s.2.2.2.2.1 (ts_k q)).1, (s.2.2.2.2.1 (ts_k q)).2.1, (s.2.2.2.2.1 (ts_k q)).2.2.1, (s.2.2.2.2.1 (ts_k q)).2.2.2.1, (s.2.2.2.2.1 (ts_k q)).2.2.2.2 - 1), va_up s.2.2.2.2.2 9 (s.2.2.2.2.2 9 + (s.2.2.2.2.1 (ts_k q)).1 * (s.2.2.2.2.1 (ts_k q)).2.1)) else s)
  else s
def ts_go (le : Int) (ps : Nat → Int) (s : ts_T) : Nat → ts_T
  | 0 => s
  | n + 1 => ts_step le (ps n) (ts_go le ps s n)
def sumL (R : Nat → pa_T) : Nat → Int
  | 0 => 0
  | n + 1 => sumL R n + (R n).2.2.2.2
theorem sumL_ge {R : Nat → pa_T} {k : Nat} {r : pa_T} : ∀ n : Nat, n ≤ k → sumL (va_up R k r) n = sumL R n
  | 0, _ => rfl
  | n + 1, h => by
    show sumL (va_up R k r) n + (va_up R k r n).2.2.2.2 = sumL R n + (R n).2.2.2.2
    rw [sumL_ge n (by omega), va_up_ne _ _ (by omega)]
theorem sumL_up {R : Nat → pa_T} {k : Nat} {r : pa_T} : ∀ n : Nat, k < n → sumL (va_up R k r) n = sumL R n - (R k).2.2.2.2 + r.2.2.2.2
  | 0, h => by omega
  | n + 1, h => by
    show sumL (va_up R k r) n + (va_up R k r n).2.2.2.2 = sumL R n + (R n).2.2.2.2 - (R k).2.2.2.2 + r.2.2.2.2
    by_cases e : k = n
    · subst e
      rw [sumL_ge k (by omega), va_up_self]
      omega
    · rw [sumL_up n (by omega), va_up_ne _ _ (fun q => e q.symm)]
      omega
theorem sumL_pos {R : Nat → pa_T} : ∀ n : Nat, (∀ p, p < n → 0 ≤ (R p).2.2.2.2) → 0 ≤ sumL R n ∧ ∀ k, k < n → (R k).2.2.2.2 ≤ sumL R n
  | 0, _ => ⟨Int.le_refl 0, fun k h => by omega⟩
  | n + 1, h => by
    have ih := sumL_pos n (fun p hp => h p (by omega))
    have h1 := h n (by omega)
    refine ⟨by show 0 ≤ sumL R n + (R n).2.2.2.2; omega, fun k hk => ?_⟩
    show (R k).2.2.2.2 ≤ sumL R n + (R n).2.2.2.2
    by_cases e : k = n
    · subst e
      omega
    · have := ih.2 k (by omega)
      omega
def TS (s : ts_T) : Prop := 0 ≤ s.1 ∧ s.1 + sumL s.2.2.2.2.1 8 ≤ 400 ∧ ∀ p : Nat, p < 8 → 0 ≤ (s.2.2.2.2.1 p).2.2.2.2
theorem pf0 (q : Int) : 0 ≤ pf_z q 0 ∧ pf_z q 0 < 32 := by unfold pf_z; omega
theorem TS_step {le q : Int} {s : ts_T} (h : TS s) : TS (ts_step le q s) ∧ s.2.1 ≤ (ts_step le q s).2.1 ∧ (ts_step le q s).2.1 ≤ s.2.1 + 1 := by
  have h0 := pf0 q
  unfold ts_step
  split
  · split
    · exact ⟨h, by show s.2.1 ≤ s.2.1 + 1; omega, by show s.2.1 + 1 ≤ s.2.1 + 1; omega⟩
    · exact ⟨h, by omega, by omega⟩
  · split
    · rename_i h8
      split
      · rename_i hp
        have hk : ts_k q < 8 := by unfold ts_k; omega
        refine ⟨⟨by show 0 ≤ s.1 + 1; have := h.1; omega, ?_, fun p hp8 => ?_⟩, by show s.2.1 ≤ s.2.1; omega, by show s.2.1 ≤ s.2.1 + 1; omega⟩
        · show s.1 + 1 + sumL (va_up _ _ _) 8 ≤ 400
          rw [sumL_up 8 hk]
          have := h.2.1
          dsimp only
          omega
        · show 0 ≤ (va_up _ _ _ p : pa_T).2.2.2.2
          by_cases e : p = ts_k q
          · subst e
            rw [va_up_self]
            dsimp only
            omega
          · rw [va_up_ne _ _ e]
            exact h.2.2 p hp8
      · exact ⟨h, by omega, by omega⟩
    · exact ⟨h, by omega, by omega⟩
theorem TS_go {le : Int} {ps : Nat → Int} {s : ts_T} (h : TS s) : ∀ n : Nat, TS (ts_go le ps s n) ∧ s.2.1 ≤ (ts_go le ps s n).2.1 ∧ (ts_go le ps s n).2.1 ≤ s.2.1 + n
  | 0 => ⟨h, by show s.2.1 ≤ s.2.1; omega, by show s.2.1 ≤ s.2.1 + ((0 : Nat) : Int); omega⟩
  | n + 1 => by
    obtain ⟨a, b, c⟩ := TS_go (le := le) (ps := ps) h n
    obtain ⟨a2, b2, c2⟩ := TS_step (le := le) (q := ps n) a
    exact ⟨a2, by show s.2.1 ≤ (ts_step le (ps n) (ts_go le ps s n)).2.1; omega, by show (ts_step le (ps n) (ts_go le ps s n)).2.1 ≤ _; omega⟩
def cs_from (c : Nat → Int) (nT nR : Int) : Nat → Int := va_up (va_up c 7 nT) 10 nR
def cs_to (s : ts_T) : Nat → Int := va_up (va_up s.2.2.2.2.2 8 (s.1 - s.2.2.2.2.2 7)) 11 (s.2.1 - s.2.2.2.2.2 10)
set_option maxHeartbeats 4000000 in
set_option maxRecDepth 100000 in
theorem c_ST_takePieces (l : Launch) (D : va_G) (x qsh qpa qcu qtk qrs qt ql qp qo N j : Nat) (S le nS nP nC nT nR rn way : Int) (st : ly_T) (cI cP : ClassId) (tk rs : Nat → Int) (fP : Nat → Option Nat) (L : List Nat) (f : Nat → va_E) (aS aP aC : Nat → Nat) (Sh R : Nat → pa_T) (Cs : Nat → Nat → Int) (hst : st.1 = (N : Int)) (hN : N ≤ 256) (hle : 1 ≤ le ∧ le ≤ 16) (hj : j < 20) (hfP : ∀ i : Nat, i < 8 → fP i = some (aP i)) (hPL : PL L f aS aP aC Sh R Cs) (hAD : AD aS aP aC) (hT : 0 ≤ nT ∧ nT + sumL R 8 ≤ 400) (hlf : ∀ p : Nat, p < 8 → 0 ≤ (R p).2.2.2.2) (hR : 0 ≤ nR ∧ nR + N ≤ 5120) (hps : ∀ i : Nat, i < N → 0 ≤ st.2.2.2.1 i ∧ st.2.2.2.1 i < 2147483648) : CM l y_ST_takePieces b_ST_takePieces 5 none rm_3 [.ref x, .ref (aC j)] D [(cI, .int), (cP, .object "SheetTrees$Part")] ([ob_ST x qsh qpa qcu qtk qrs qt ql S le nS nP nC nT nR rn, ar_Q qpa cP 8 fP, ar_I qtk cI 400 tk, ar_I qrs cI 5120 rs, ob_LY ql qt qp qo way st, ar_I qp cI 256 st.2.2.2.1] ++ va_pl L f) (fun v w1 p1 _ => v = none ∧ w1 = [ob_ST x qsh qpa qcu qtk qrs qt ql S le nS nP nC (ts_go le st.2.2.2.1 (nT, nR, tk, rs, R, cs_from (Cs j) nT nR) N).1 (ts_go le st.2.2.2.1 (nT, nR, tk, rs, R, cs_from (Cs j) nT nR) N).2.1 rn, ar_Q qpa cP 8 fP, ar_I qtk cI 400 (ts_go le st.2.2.2.1 (nT, nR, tk, rs, R, cs_from (Cs j) nT nR) N).2.2.1, ar_I qrs cI 5120 (ts_go le st.2.2.2.1 (nT, nR, tk, rs, R, cs_from (Cs j) nT nR) N).2.2.2.1, ob_LY ql qt qp qo way st, ar_I qp cI 256 st.2.2.2.1] ∧ ∃ f9, p1 = va_pl L f9 ∧ PL L f9 aS aP aC Sh (ts_go le st.2.2.2.1 (nT, nR, tk, rs, R, cs_from (Cs j) nT nR) N).2.2.2.2.1 (va_up Cs j (cs_to (ts_go le st.2.2.2.1 (nT, nR, tk, rs, R, cs_from (Cs j) nT nR) N)))) := by
  refine cm_of (by decide) (Nat.le_of_ble_eq_true rfl) ?_
  intro X sz hl hr hnm hD hA hw
  subst hD
  obtain ⟨hinj, hatj⟩ := hPL.2.2 j hj
  have hTS0 : TS (nT, nR, tk, rs, R, cs_from (Cs j) nT nR) := ⟨hT.1, hT.2, hlf⟩
  have loop : ∀ m i : Nat, i + m = N → ∀ (f1 : Nat → va_E) (s : ts_T), ts_go le st.2.2.2.1 (nT, nR, tk, rs, R, cs_from (Cs j) nT nR) i = s → PL L f1 aS aP aC Sh s.2.2.2.2.1 (va_up Cs j s.2.2.2.2.2) → VV X (b_ST_takePieces, 5, "SheetTrees", rm_3) (cq X ([ob_ST x qsh qpa qcu qtk qrs qt ql S le nS nP nC nT nR rn, ar_Q qpa cP 8 fP, ar_I qtk cI 400 tk, ar_I qrs cI 5120 rs, ob_LY ql qt qp qo way st, ar_I qp cI 256 st.2.2.2.1] ++ va_pl L f) sz (fun v w1 p1 _ => v = none ∧ w1 = [ob_ST x qsh qpa qcu qtk qrs qt ql S le nS nP nC (ts_go le st.2.2.2.1 (nT, nR, tk, rs, R, cs_from (Cs j) nT nR) N).1 (ts_go le st.2.2.2.1 (nT, nR, tk, rs, R, cs_from (Cs j) nT nR) N).2.1 rn, ar_Q qpa cP 8 fP, ar_I qtk cI 400 (ts_go le st.2.2.2.1 (nT, nR, tk, rs, R, cs_from (Cs j) nT nR) N).2.2.1, ar_I qrs cI 5120 (ts_go le st.2.2.2.1 (nT, nR, tk, rs, R, cs_from (Cs j) nT nR) N).2.2.2.1, ob_LY ql qt qp qo way st, ar_I qp cI 256 st.2.2.2.1] ∧ ∃ f9, p1 = va_pl L f9 ∧ PL L f9 aS aP aC Sh (ts_go le st.2.2.2.1 (nT, nR, tk, rs, R, cs_from (Cs j) nT nR) N).2.2.2.2.1 (va_up Cs j (cs_to (ts_go le st.2.2.2.1 (nT, nR, tk, rs, R, cs_from (Cs j) nT nR) N)))) rm_3) 0 0 [(cI, .int), (cP, .object "SheetTrees$Part")] [ob_ST x qsh qpa qcu qtk qrs qt ql S le nS nP nC s.1 s.2.1 rn, ar_Q qpa cP 8 fP, ar_I qtk cI 400 s.2.2.1, ar_I qrs cI 5120 s.2.2.2.1, ob_LY ql qt qp qo way st, ar_I qp cI 256 st.2.2.2.1] (va_pl L f1) [some (.ref x), some (.ref (aC j)), some (.int (iI (i : Int))), none, none] [] 18 := by
    intro m
    induction m with
    | zero =>
      intro i hi f1 s hs hp
      have hi2 : i = N := by omega
      subst hi2
      obtain ⟨hin1, hat1⟩ := hp.2.2 j hj
      rw [va_up_self] at hat1
      have hp2 := PL_C (i := j) (c := cs_to s) hp hAD hj
      rw [bx_uu] at hp2
      refine vv_iload_n d_ST_takePieces_18 rfl ?_
      refine vv_aload_n d_ST_takePieces_19 rfl ?_
      refine vv_get d_ST_takePieces_20 0 rfl fl_ST_78 rfl ?_
      refine vv_get d_ST_takePieces_23 4 rfl fl_ST_269 rfl ?_
      refine vv_icmp_ge (tgt := 102) d_ST_takePieces_26 (by decide) (by rw [hst]; exact ⟨by omega, by omega⟩) (fun c26 => ?_) (fun c26 => ?_)
      · refine vv_enter hat1 ?_
        refine vv_aload_n d_ST_takePieces_102 rfl ?_
        refine vv_aload_n d_ST_takePieces_103 rfl ?_
        refine vv_get d_ST_takePieces_104 0 rfl fl_ST_44 rfl ?_
        refine vv_aload_n d_ST_takePieces_107 rfl ?_
        refine vv_getU d_ST_takePieces_108 hin1 fl_ST_198 rfl ?_
        refine vv_isub d_ST_takePieces_111 ?_
        refine vv_putU hw d_ST_takePieces_112 hin1 fp_ST_172 rfl rfl (Nat.le_of_ble_eq_true rfl) ?_
        dsimp only [List.set]
        refine vv_aload_n d_ST_takePieces_115 rfl ?_
        refine vv_aload_n d_ST_takePieces_116 rfl ?_
        refine vv_get d_ST_takePieces_117 0 rfl fl_ST_47 rfl ?_
        refine vv_aload_n d_ST_takePieces_120 rfl ?_
        refine vv_getU d_ST_takePieces_121 hin1 fl_ST_215 rfl ?_
        refine vv_isub d_ST_takePieces_124 ?_
        refine vv_putU hw d_ST_takePieces_125 hin1 fp_ST_185 rfl rfl (Nat.le_of_ble_eq_true rfl) ?_
        dsimp only [List.set]
        exact vv_vret hA hw hr d_ST_takePieces_128 (by decide) (by decide) ⟨rfl, by rw [hs], _, rfl, by rw [hs]; exact hp2⟩
      · exfalso; omega
    | succ m ih =>
      intro i hi f1 s hs hp
      have hiN : i < N := by omega
      obtain ⟨hT1, hT2, hT3⟩ := TS_go (le := le) (ps := st.2.2.2.1) hTS0 i
      rw [hs] at hT1 hT2 hT3
      have hT3 : s.2.1 ≤ nR + (i : Int) := hT3
      have hT2 : nR ≤ s.2.1 := hT2
      have hq := hps i hiN
      have h9 := ih (i + 1) (by omega)
      have hgo : ts_go le st.2.2.2.1 (nT, nR, tk, rs, R, cs_from (Cs j) nT nR) (i + 1) = ts_step le (st.2.2.2.1 i) s := by rw [← hs]; rfl
      generalize hqq : st.2.2.2.1 i = q at hq hgo
      have hk0 := pf0 q
      refine vv_iload_n d_ST_takePieces_18 rfl ?_
      refine vv_aload_n d_ST_takePieces_19 rfl ?_
      refine vv_get d_ST_takePieces_20 0 rfl fl_ST_78 rfl ?_
      refine vv_get d_ST_takePieces_23 4 rfl fl_ST_269 rfl ?_
      refine vv_icmp_ge (tgt := 102) d_ST_takePieces_26 (by decide) (by rw [hst]; exact ⟨by omega, by omega⟩) (fun c26 => ?_) (fun c26 => ?_)
      · exfalso; omega
      · skip
        refine vv_iload_n d_ST_takePieces_29 rfl ?_
        refine vv_aload_n d_ST_takePieces_30 rfl ?_
        refine vv_get d_ST_takePieces_31 0 rfl fl_ST_78 rfl ?_
        refine vv_get d_ST_takePieces_34 4 rfl fl_ST_272 rfl ?_
        refine vv_alen d_ST_takePieces_37 5 0 rfl rfl (v := 256) rfl ?_
        refine vv_icmp_ge (tgt := 102) d_ST_takePieces_38 (by decide) ⟨by omega, by omega⟩ (fun c38 => ?_) (fun c38 => ?_)
        · exfalso; omega
        · skip
          refine vv_aload_n d_ST_takePieces_41 rfl ?_
          refine vv_get d_ST_takePieces_42 0 rfl fl_ST_78 rfl ?_
          refine vv_get d_ST_takePieces_45 4 rfl fl_ST_272 rfl ?_
          refine vv_iload_n d_ST_takePieces_48 rfl ?_
          refine vv_iald d_ST_takePieces_49 5 0 rfl rfl (by omega) ?_
          rw [Int.toNat_natCast, hqq]
          refine vv_istore_n d_ST_takePieces_50 rfl (by decide) ?_
          dsimp only [List.set]
          refine vv_iload_n d_ST_takePieces_51 rfl ?_
          refine vv_iconst d_ST_takePieces_52 ?_
          refine vv_pS (wc := []) (plc := []) [] (c_PI_field (cx_l X) (cx_D X) q 0 hq (by omega)) lk_ST_205 d_ST_takePieces_53 rfl [] ⟨rfl, rfl, Or.inl rfl⟩ [] rfl ⟨⟨by decide, by decide⟩, ⟨by decide, by decide⟩, Nat.le_of_ble_eq_true rfl⟩ ⟨rfl, rfl⟩ ?_
          intro v hv
          subst hv
          dsimp only [Option.toList, List.cons_append, List.nil_append, List.append_nil]
          refine vv_istore d_ST_takePieces_56 rfl (by decide) ?_
          dsimp only [List.set]
          refine vv_iload d_ST_takePieces_58 rfl ?_
          refine vv_bipush d_ST_takePieces_60 (by decide +kernel) ?_
          refine vv_icmp_ne (tgt := 73) d_ST_takePieces_62 (by decide) ⟨by omega, by omega⟩ (fun c62 => ?_) (fun c62 => ?_)
          · skip
            refine vv_iload d_ST_takePieces_73 rfl ?_
            refine vv_aload_n d_ST_takePieces_75 rfl ?_
            refine vv_get d_ST_takePieces_76 0 rfl fl_ST_17 rfl ?_
            refine vv_alen d_ST_takePieces_79 1 1 rfl rfl (v := 8) rfl ?_
            refine vv_icmp_ge (tgt := 96) d_ST_takePieces_80 (by decide) ⟨by omega, by omega⟩ (fun c80 => ?_) (fun c80 => ?_)
            · skip
              refine vv_iinc d_ST_takePieces_96 rfl rfl (by decide) ?_
              dsimp only [List.set]
              refine vv_goto (tgt := 18) d_ST_takePieces_99 (by decide) ?_
              have e1 : ts_step le q s = s := by unfold ts_step; rw [if_neg c62, if_neg (by omega)]
              rw [e1] at hgo
              exact vv_le (by repeat (first | exact lo_le_nil _ | refine lo_le_cons _ ?_ | refine lo_le_none _ ?_)) (h9 f1 _ hgo hp)
            · skip
              refine vv_aload_n d_ST_takePieces_83 rfl ?_
              refine vv_aload_n d_ST_takePieces_84 rfl ?_
              refine vv_aload_n d_ST_takePieces_85 rfl ?_
              refine vv_get d_ST_takePieces_86 0 rfl fl_ST_17 rfl ?_
              refine vv_iload d_ST_takePieces_89 rfl ?_
              have hk8 : (ts_k q) < 8 := by unfold ts_k; omega
              obtain ⟨hink, hatk⟩ := hp.2.1 (ts_k q) hk8
              obtain ⟨hinc, hatc⟩ := hp.2.2 j hj
              rw [va_up_self] at hatc
              have hsp := sumL_pos (R := s.2.2.2.2.1) 8 hT1.2.2
              have hsk := hsp.2 (ts_k q) hk8
              have hl0 := hT1.2.2 (ts_k q) hk8
              have hs400 := hT1.2.1
              have hs0 := hT1.1
              refine vv_aald d_ST_takePieces_91 1 1 rfl rfl (by omega) (hfP (ts_k q) hk8) ?_
              refine vv_iload_n d_ST_takePieces_92 rfl ?_
              by_cases hr1 : 0 < (s.2.2.2.2.1 (ts_k q)).2.2.2.2
              · refine vv_mV hw (wc := [ob_ST x qsh qpa qcu qtk qrs qt ql S le nS nP nC s.1 s.2.1 rn, ar_I qtk cI 400 s.2.2.1]) (wr := [ar_Q qpa cP 8 fP, ar_I qrs cI 5120 s.2.2.2.1, ob_LY ql qt qp qo way st, ar_I qp cI 256 st.2.2.2.1]) [] (c_ST_takePart_y (cx_l X) (cx_D X) x qsh qpa qcu qtk qrs qt ql S le nS nP nC s.1 s.2.1 rn cI (aC j) (aP (ts_k q)) q s.2.2.1 s.2.2.2.2.2 (s.2.2.2.2.1 (ts_k q)) L f1 hinc hatc hink hatk (by omega) hr1 ⟨hT1.1, by omega⟩) lk_ST_278 d_ST_takePieces_93 rfl (rc_at 0 rfl rfl rfl) [0, 2] [1, 3, 4, 5] ⟨rfl, rfl⟩ ⟨rfl, rfl, by decide⟩ [0] rfl ⟨⟨by decide, by decide⟩, ⟨by decide, by decide⟩, Nat.le_of_ble_eq_true rfl⟩ ⟨rfl, rfl⟩ ?_
                rintro v w1 p1 t1 ⟨rfl, rfl, rfl⟩
                dsimp only [Option.toList, List.cons_append, List.nil_append, List.append_nil]
                refine vv_sub (ws' := [ob_ST x qsh qpa qcu qtk qrs qt ql S le nS nP nC (s.1 + 1, s.2.1, va_up s.2.2.1 s.1.toNat q, s.2.2.2.1, va_up s.2.2.2.2.1 (ts_k q) ((s.2.2.2.2.1 (ts_k q)).1, (s.2.2.2.2.1 (ts_k q)).2.1, (s.2.2.2.2.1 (ts_k q)).2.2.1, (s.2.2.2.2.1 (ts_k q)).2.2.2.1, (s.2.2.2.2.1 (ts_k q)).2.2.2.2 - 1), va_up s.2.2.2.2.2 9 (s.2.2.2.2.2 9 + (s.2.2.2.2.1 (ts_k q)).1 * (s.2.2.2.2.1 (ts_k q)).2.1)).1 (s.1 + 1, s.2.1, va_up s.2.2.1 s.1.toNat q, s.2.2.2.1, va_up s.2.2.2.2.1 (ts_k q) ((s.2.2.2.2.1 (ts_k q)).1, (s.2.2.2.2.1 (ts_k q)).2.1, (s.2.2.2.2.1 (ts_k q)).2.2.1, (s.2.2.2.2.1 (ts_k q)).2.2.2.1, (s.2.2.2.2.1 (ts_k q)).2.2.2.2 - 1), va_up s.2.2.2.2.2 9 (s.2.2.2.2.2 9 + (s.2.2.2.2.1 (ts_k q)).1 * (s.2.2.2.2.1 (ts_k q)).2.1)).2.1 rn, ar_Q qpa cP 8 fP, ar_I qtk cI 400 (s.1 + 1, s.2.1, va_up s.2.2.1 s.1.toNat q, s.2.2.2.1, va_up s.2.2.2.2.1 (ts_k q) ((s.2.2.2.2.1 (ts_k q)).1, (s.2.2.2.2.1 (ts_k q)).2.1, (s.2.2.2.2.1 (ts_k q)).2.2.1, (s.2.2.2.2.1 (ts_k q)).2.2.2.1, (s.2.2.2.2.1 (ts_k q)).2.2.2.2 - 1), va_up s.2.2.2.2.2 9 (s.2.2.2.2.2 9 + (s.2.2.2.2.1 (ts_k q)).1 * (s.2.2.2.2.1 (ts_k q)).2.1)).2.2.1, ar_I qrs cI 5120 (s.1 + 1, s.2.1, va_up s.2.2.1 s.1.toNat q, s.2.2.2.1, va_up s.2.2.2.2.1 (ts_k q) ((s.2.2.2.2.1 (ts_k q)).1, (s.2.2.2.2.1 (ts_k q)).2.1, (s.2.2.2.2.1 (ts_k q)).2.2.1, (s.2.2.2.2.1 (ts_k q)).2.2.2.1, (s.2.2.2.2.1 (ts_k q)).2.2.2.2 - 1), va_up s.2.2.2.2.2 9 (s.2.2.2.2.2 9 + (s.2.2.2.2.1 (ts_k q)).1 * (s.2.2.2.2.1 (ts_k q)).2.1)).2.2.2.1, ob_LY ql qt qp qo way st, ar_I qp cI 256 st.2.2.2.1]) [4, 0, 5, 1, 2, 3] rfl rfl ?_
                refine vv_iinc d_ST_takePieces_96 rfl rfl (by decide) ?_
                dsimp only [List.set]
                refine vv_goto (tgt := 18) d_ST_takePieces_99 (by decide) ?_
                have hp2 := PL_C (i := j) (c := va_up s.2.2.2.2.2 9 (s.2.2.2.2.2 9 + (s.2.2.2.2.1 (ts_k q)).1 * (s.2.2.2.2.1 (ts_k q)).2.1)) (PL_P (i := (ts_k q)) (r := ((s.2.2.2.2.1 (ts_k q)).1, (s.2.2.2.2.1 (ts_k q)).2.1, (s.2.2.2.2.1 (ts_k q)).2.2.1, (s.2.2.2.2.1 (ts_k q)).2.2.2.1, (s.2.2.2.2.1 (ts_k q)).2.2.2.2 - 1)) hp hAD hk8) hAD hj
                rw [bx_uu] at hp2
                have e1 : ts_step le q s = (s.1 + 1, s.2.1, va_up s.2.2.1 s.1.toNat q, s.2.2.2.1, va_up s.2.2.2.2.1 (ts_k q) ((s.2.2.2.2.1 (ts_k q)).1, (s.2.2.2.2.1 (ts_k q)).2.1, (s.2.2.2.2.1 (ts_k q)).2.2.1, (s.2.2.2.2.1 (ts_k q)).2.2.2.1, (s.2.2.2.2.1 (ts_k q)).2.2.2.2 - 1), va_up s.2.2.2.2.2 9 (s.2.2.2.2.2 9 + (s.2.2.2.2.1 (ts_k q)).1 * (s.2.2.2.2.1 (ts_k q)).2.1)) := by unfold ts_step; rw [if_neg c62, if_pos (by omega), if_pos hr1]
                rw [e1] at hgo
                exact vv_le (by repeat (first | exact lo_le_nil _ | refine lo_le_cons _ ?_ | refine lo_le_none _ ?_)) (h9 _ _ hgo hp2)
              · have hr1 : (s.2.2.2.2.1 (ts_k q)).2.2.2.2 ≤ 0 := by omega
                refine vv_mV hw (wc := [ob_ST x qsh qpa qcu qtk qrs qt ql S le nS nP nC s.1 s.2.1 rn, ar_I qtk cI 400 s.2.2.1]) (wr := [ar_Q qpa cP 8 fP, ar_I qrs cI 5120 s.2.2.2.1, ob_LY ql qt qp qo way st, ar_I qp cI 256 st.2.2.2.1]) [] (c_ST_takePart_n (cx_l X) (cx_D X) x qsh qpa qcu qtk qrs qt ql S le nS nP nC s.1 s.2.1 rn cI (aC j) (aP (ts_k q)) q s.2.2.1 s.2.2.2.2.2 (s.2.2.2.2.1 (ts_k q)) L f1 hinc hatc hink hatk (by omega) hr1) lk_ST_278 d_ST_takePieces_93 rfl (rc_at 0 rfl rfl rfl) [0, 2] [1, 3, 4, 5] ⟨rfl, rfl⟩ ⟨rfl, rfl, by decide⟩ [0] rfl ⟨⟨by decide, by decide⟩, ⟨by decide, by decide⟩, Nat.le_of_ble_eq_true rfl⟩ ⟨rfl, rfl⟩ ?_
                rintro v w1 p1 t1 ⟨rfl, rfl, rfl⟩
                dsimp only [Option.toList, List.cons_append, List.nil_append, List.append_nil]
                refine vv_sub (ws' := [ob_ST x qsh qpa qcu qtk qrs qt ql S le nS nP nC s.1 s.2.1 rn, ar_Q qpa cP 8 fP, ar_I qtk cI 400 s.2.2.1, ar_I qrs cI 5120 s.2.2.2.1, ob_LY ql qt qp qo way st, ar_I qp cI 256 st.2.2.2.1]) [4, 0, 5, 1, 2, 3] rfl rfl ?_
                refine vv_iinc d_ST_takePieces_96 rfl rfl (by decide) ?_
                dsimp only [List.set]
                refine vv_goto (tgt := 18) d_ST_takePieces_99 (by decide) ?_
                have e1 : ts_step le q s = s := by unfold ts_step; rw [if_neg c62, if_pos (by omega), if_neg (by omega)]
                rw [e1] at hgo
                exact vv_le (by repeat (first | exact lo_le_nil _ | refine lo_le_cons _ ?_ | refine lo_le_none _ ?_)) (h9 f1 _ hgo hp)
          · skip
            refine vv_aload_n d_ST_takePieces_65 rfl ?_
            refine vv_iload_n d_ST_takePieces_66 rfl ?_
            by_cases hr1 : le ≤ pf_z q 3 ∧ le ≤ pf_z q 4
            · refine vv_nV hw (wc := [ob_ST x qsh qpa qcu qtk qrs qt ql S le nS nP nC s.1 s.2.1 rn, ar_I qrs cI 5120 s.2.2.2.1]) (wr := [ar_Q qpa cP 8 fP, ar_I qtk cI 400 s.2.2.1, ob_LY ql qt qp qo way st, ar_I qp cI 256 st.2.2.2.1]) [] (c_ST_keepRest_y (cx_l X) (cx_D X) x qsh qpa qcu qtk qrs qt ql S le nS nP nC s.1 s.2.1 rn cI q s.2.2.2.1 hq hle hr1 (by omega)) lk_ST_275 d_ST_takePieces_67 rfl (rc_at 0 rfl rfl rfl) [0, 3] [1, 2, 4, 5] ⟨rfl, rfl⟩ ⟨rfl, rfl, by decide⟩ [0] rfl ⟨⟨by decide, by decide⟩, ⟨by decide, by decide⟩, Nat.le_of_ble_eq_true rfl⟩ ⟨rfl, rfl⟩ ?_
              rintro v w1 p1 t1 ⟨rfl, rfl, rfl⟩
              dsimp only [Option.toList, List.cons_append, List.nil_append, List.append_nil]
              refine vv_sub (ws' := [ob_ST x qsh qpa qcu qtk qrs qt ql S le nS nP nC (s.1, s.2.1 + 1, s.2.2.1, va_up s.2.2.2.1 s.2.1.toNat q, s.2.2.2.2).1 (s.1, s.2.1 + 1, s.2.2.1, va_up s.2.2.2.1 s.2.1.toNat q, s.2.2.2.2).2.1 rn, ar_Q qpa cP 8 fP, ar_I qtk cI 400 (s.1, s.2.1 + 1, s.2.2.1, va_up s.2.2.2.1 s.2.1.toNat q, s.2.2.2.2).2.2.1, ar_I qrs cI 5120 (s.1, s.2.1 + 1, s.2.2.1, va_up s.2.2.2.1 s.2.1.toNat q, s.2.2.2.2).2.2.2.1, ob_LY ql qt qp qo way st, ar_I qp cI 256 st.2.2.2.1]) [4, 0, 1, 5, 2, 3] rfl rfl ?_
              refine vv_goto (tgt := 96) d_ST_takePieces_70 (by decide) ?_
              refine vv_iinc d_ST_takePieces_96 rfl rfl (by decide) ?_
              dsimp only [List.set]
              refine vv_goto (tgt := 18) d_ST_takePieces_99 (by decide) ?_
              have e1 : ts_step le q s = (s.1, s.2.1 + 1, s.2.2.1, va_up s.2.2.2.1 s.2.1.toNat q, s.2.2.2.2) := by unfold ts_step; rw [if_pos c62, if_pos hr1]
              rw [e1] at hgo
              exact vv_le (by repeat (first | exact lo_le_nil _ | refine lo_le_cons _ ?_ | refine lo_le_none _ ?_)) (h9 f1 _ hgo hp)
            · refine vv_nV hw (wc := [ob_ST x qsh qpa qcu qtk qrs qt ql S le nS nP nC s.1 s.2.1 rn, ar_I qrs cI 5120 s.2.2.2.1]) (wr := [ar_Q qpa cP 8 fP, ar_I qtk cI 400 s.2.2.1, ob_LY ql qt qp qo way st, ar_I qp cI 256 st.2.2.2.1]) [] (c_ST_keepRest_n (cx_l X) (cx_D X) x qsh qpa qcu qtk qrs qt ql S le nS nP nC s.1 s.2.1 rn cI q s.2.2.2.1 hq hle hr1) lk_ST_275 d_ST_takePieces_67 rfl (rc_at 0 rfl rfl rfl) [0, 3] [1, 2, 4, 5] ⟨rfl, rfl⟩ ⟨rfl, rfl, by decide⟩ [0] rfl ⟨⟨by decide, by decide⟩, ⟨by decide, by decide⟩, Nat.le_of_ble_eq_true rfl⟩ ⟨rfl, rfl⟩ ?_
              rintro v w1 p1 t1 ⟨rfl, rfl, rfl⟩
              dsimp only [Option.toList, List.cons_append, List.nil_append, List.append_nil]
              refine vv_sub (ws' := [ob_ST x qsh qpa qcu qtk qrs qt ql S le nS nP nC s.1 s.2.1 rn, ar_Q qpa cP 8 fP, ar_I qtk cI 400 s.2.2.1, ar_I qrs cI 5120 s.2.2.2.1, ob_LY ql qt qp qo way st, ar_I qp cI 256 st.2.2.2.1]) [4, 0, 1, 5, 2, 3] rfl rfl ?_
              refine vv_goto (tgt := 96) d_ST_takePieces_70 (by decide) ?_
              refine vv_iinc d_ST_takePieces_96 rfl rfl (by decide) ?_
              dsimp only [List.set]
              refine vv_goto (tgt := 18) d_ST_takePieces_99 (by decide) ?_
              have e1 : ts_step le q s = s := by unfold ts_step; rw [if_pos c62, if_neg hr1]
              rw [e1] at hgo
              exact vv_le (by repeat (first | exact lo_le_nil _ | refine lo_le_cons _ ?_ | refine lo_le_none _ ?_)) (h9 f1 _ hgo hp)
  have hp0 := PL_C (i := j) (c := cs_from (Cs j) nT nR) hPL hAD hj
  show VV X (b_ST_takePieces, 5, "SheetTrees", rm_3) _ 0 0 [(cI, .int), (cP, .object "SheetTrees$Part")] [ob_ST x qsh qpa qcu qtk qrs qt ql S le nS nP nC nT nR rn, ar_Q qpa cP 8 fP, ar_I qtk cI 400 tk, ar_I qrs cI 5120 rs, ob_LY ql qt qp qo way st, ar_I qp cI 256 st.2.2.2.1] (va_pl L f) [some (.ref x), some (.ref (aC j)), none, none, none] [] 0
  refine vv_enter hatj ?_
  refine vv_aload_n d_ST_takePieces_0 rfl ?_
  refine vv_aload_n d_ST_takePieces_1 rfl ?_
  refine vv_get d_ST_takePieces_2 0 rfl fl_ST_44 rfl ?_
  refine vv_putU hw d_ST_takePieces_5 hinj fp_ST_198 rfl rfl (Nat.le_of_ble_eq_true rfl) ?_
  dsimp only [List.set]
  refine vv_aload_n d_ST_takePieces_8 rfl ?_
  refine vv_aload_n d_ST_takePieces_9 rfl ?_
  refine vv_get d_ST_takePieces_10 0 rfl fl_ST_47 rfl ?_
  refine vv_putU hw d_ST_takePieces_13 hinj fp_ST_215 rfl rfl (Nat.le_of_ble_eq_true rfl) ?_
  dsimp only [List.set]
  refine vv_iconst d_ST_takePieces_16 ?_
  refine vv_istore_n d_ST_takePieces_17 rfl (by decide) ?_
  dsimp only [List.set]
  exact loop N 0 (by omega) _ (nT, nR, tk, rs, R, cs_from (Cs j) nT nR) rfl hp0
