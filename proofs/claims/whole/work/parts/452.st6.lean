/-! SheetTrees.cutOneOf -/
/-- what a run changes -/
abbrev RS : Type := Int × Int × (Nat → Int) × (Nat → Int) × (Nat → pa_T) × (Nat → pa_T) × (Nat → Nat → Int) × Int × ly_T × tp_T × Int × Int
abbrev RS.nT (u : RS) : Int := u.1
abbrev RS.nR (u : RS) : Int := u.2.1
abbrev RS.tk (u : RS) : Nat → Int := u.2.2.1
abbrev RS.rs (u : RS) : Nat → Int := u.2.2.2.1
abbrev RS.R (u : RS) : Nat → pa_T := u.2.2.2.2.1
abbrev RS.Sh (u : RS) : Nat → pa_T := u.2.2.2.2.2.1
abbrev RS.Cs (u : RS) : Nat → Nat → Int := u.2.2.2.2.2.2.1
abbrev RS.way (u : RS) : Int := u.2.2.2.2.2.2.2.1
abbrev RS.st (u : RS) : ly_T := u.2.2.2.2.2.2.2.2.1
abbrev RS.T (u : RS) : tp_T := u.2.2.2.2.2.2.2.2.2.1
abbrev RS.W (u : RS) : Int := u.2.2.2.2.2.2.2.2.2.2.1
abbrev RS.F (u : RS) : Int := u.2.2.2.2.2.2.2.2.2.2.2
def co_r (r : pa_T) : pa_T := (r.1, r.2.1, r.2.2.1, r.2.2.2.1, r.2.2.2.2 - 1)
def co_c (K : Int) (S b nC : Nat) (u : RS) : Nat → Int := cs_st (u.Cs nC) b (u.Sh b).2.2.1 ((u.Sh b).1 * (u.Sh b).2.1) (sh_w u.T S (u.Sh b)) (sh_l u.T K S (u.Sh b) u.st).2.1 (sh_l u.T K S (u.Sh b) u.st).2.2.1 ((pu_m (sh_l u.T K S (u.Sh b) u.st).2.2.2.2 8 : Nat) : Int)
def co_ts (le K : Int) (S b nC : Nat) (u : RS) : ts_T := ts_go le (sh_l u.T K S (u.Sh b) u.st).2.2.2.1 (u.nT, u.nR, u.tk, u.rs, u.R, cs_from (co_c K S b nC u) u.nT u.nR) (sh_l u.T K S (u.Sh b) u.st).1.toNat
def co_cs (le K : Int) (S b nC : Nat) (u : RS) : Nat → Nat → Int := va_up u.Cs nC (cs_to (co_ts le K S b nC u))
def co_fa (le K : Int) (S b nC : Nat) (u : RS) : Nat := fa_at (co_cs le K S b nC u) (co_cs le K S b nC u nC 0) u.W nC 0
def co_step (le K : Int) (S b nC : Nat) (u : RS) : RS := ⟨(co_ts le K S b nC u).1, (co_ts le K S b nC u).2.1, (co_ts le K S b nC u).2.2.1, (co_ts le K S b nC u).2.2.2.1, (co_ts le K S b nC u).2.2.2.2.1, va_up u.Sh b (co_r (u.Sh b)), va_up u.Cs nC (va_up (cs_to (co_ts le K S b nC u)) 12 (co_fa le K S b nC u : Nat)), sh_w u.T S (u.Sh b), sh_l u.T K S (u.Sh b) u.st, u.T, u.W, u.F⟩
/-- a part but for what is left -/
def same4 (r r' : pa_T) : Prop := r'.1 = r.1 ∧ r'.2.1 = r.2.1 ∧ r'.2.2.1 = r.2.2.1 ∧ r'.2.2.2.1 = r.2.2.2.1 ∧ r'.2.2.2.2 ≤ r.2.2.2.2
theorem same4_refl (r : pa_T) : same4 r r := ⟨rfl, rfl, rfl, rfl, Int.le_refl _⟩
theorem same4_trans {a b c : pa_T} (h : same4 a b) (k : same4 b c) : same4 a c := ⟨k.1.trans h.1, k.2.1.trans h.2.1, k.2.2.1.trans h.2.2.1, k.2.2.2.1.trans h.2.2.2.1, Int.le_trans k.2.2.2.2 h.2.2.2.2⟩
theorem ts_same {le q : Int} {s : ts_T} : (∀ p : Nat, same4 (s.2.2.2.2.1 p) ((ts_step le q s).2.2.2.2.1 p)) ∧ ∀ k : Nat, k ≠ 9 → (ts_step le q s).2.2.2.2.2 k = s.2.2.2.2.2 k := by
  unfold ts_step
  split
  · split
    · exact ⟨fun p => same4_refl _, fun _ _ => rfl⟩
    · exact ⟨fun p => same4_refl _, fun _ _ => rfl⟩
  · split
    · split
      · refine ⟨fun p => ?_, fun k hk => va_up_ne _ _ hk⟩
        by_cases e : p = ts_k q
        · subst e
          show same4 _ (va_up _ _ _ _)
          rw [va_up_self]
          exact ⟨rfl, rfl, rfl, rfl, by show _ - 1 ≤ _; omega⟩
        · show same4 _ (va_up _ _ _ _)
          rw [va_up_ne _ _ e]
          exact same4_refl _
      · exact ⟨fun p => same4_refl _, fun _ _ => rfl⟩
    · exact ⟨fun p => same4_refl _, fun _ _ => rfl⟩
theorem tg_same {le : Int} {ps : Nat → Int} {s : ts_T} : ∀ n : Nat, (∀ p : Nat, same4 (s.2.2.2.2.1 p) ((ts_go le ps s n).2.2.2.2.1 p)) ∧ ∀ k : Nat, k ≠ 9 → (ts_go le ps s n).2.2.2.2.2 k = s.2.2.2.2.2 k
  | 0 => ⟨fun p => same4_refl _, fun _ _ => rfl⟩
  | n + 1 => by
    have ih := tg_same (le := le) (ps := ps) (s := s) n
    have h := ts_same (le := le) (q := ps n) (s := ts_go le ps s n)
    exact ⟨fun p => same4_trans (ih.1 p) (h.1 p), fun k hk => (h.2 k hk).trans (ih.2 k hk)⟩
/-- the invariant of a run with i sheets cut -/
def RI (nS nP i : Nat) (u : RS) : Prop := (0 ≤ u.nT) ∧ (u.nT + sumL u.R 8 ≤ 400) ∧ (0 ≤ u.nR) ∧ (u.nR ≤ 256 * i) ∧ (∀ k : Nat, k < nS → SO (u.Sh k)) ∧ (∀ p : Nat, p < 8 → PO (u.R p)) ∧ (PZ u.R) ∧ (∀ p : Nat, p < nP → 1 ≤ (u.R p).1 ∧ 1 ≤ (u.R p).2.1) ∧ (HT (ar_of u.R) u.W u.T) ∧ (-1 ≤ u.W ∧ u.W < 256) ∧ (0 ≤ u.F ∧ u.F ≤ 3) ∧ (∀ k : Nat, k < 20 → 0 ≤ u.Cs k 0 ∧ u.Cs k 0 < 4)
theorem RI.t0 {nS nP i : Nat} {u : RS} (h : RI nS nP i u) : 0 ≤ u.nT := h.1
theorem RI.t1 {nS nP i : Nat} {u : RS} (h : RI nS nP i u) : u.nT + sumL u.R 8 ≤ 400 := h.2.1
theorem RI.r0 {nS nP i : Nat} {u : RS} (h : RI nS nP i u) : 0 ≤ u.nR := h.2.2.1
theorem RI.r1 {nS nP i : Nat} {u : RS} (h : RI nS nP i u) : u.nR ≤ 256 * i := h.2.2.2.1
theorem RI.so {nS nP i : Nat} {u : RS} (h : RI nS nP i u) : ∀ k : Nat, k < nS → SO (u.Sh k) := h.2.2.2.2.1
theorem RI.po {nS nP i : Nat} {u : RS} (h : RI nS nP i u) : ∀ p : Nat, p < 8 → PO (u.R p) := h.2.2.2.2.2.1
theorem RI.pz {nS nP i : Nat} {u : RS} (h : RI nS nP i u) : PZ u.R := h.2.2.2.2.2.2.1
theorem RI.pw {nS nP i : Nat} {u : RS} (h : RI nS nP i u) : ∀ p : Nat, p < nP → 1 ≤ (u.R p).1 ∧ 1 ≤ (u.R p).2.1 := h.2.2.2.2.2.2.2.1
theorem RI.ht {nS nP i : Nat} {u : RS} (h : RI nS nP i u) : HT (ar_of u.R) u.W u.T := h.2.2.2.2.2.2.2.2.1
theorem RI.w0 {nS nP i : Nat} {u : RS} (h : RI nS nP i u) : -1 ≤ u.W ∧ u.W < 256 := h.2.2.2.2.2.2.2.2.2.1
theorem RI.f0 {nS nP i : Nat} {u : RS} (h : RI nS nP i u) : 0 ≤ u.F ∧ u.F ≤ 3 := h.2.2.2.2.2.2.2.2.2.2.1
theorem RI.cb {nS nP i : Nat} {u : RS} (h : RI nS nP i u) : ∀ k : Nat, k < 20 → 0 ≤ u.Cs k 0 ∧ u.Cs k 0 < 4 := h.2.2.2.2.2.2.2.2.2.2.2
theorem co_c0 {le K : Int} {S b nC : Nat} {u : RS} : cs_to (co_ts le K S b nC u) 0 = (b : Int) := by
  unfold cs_to
  rw [va_up_ne _ _ (by decide), va_up_ne _ _ (by decide)]
  unfold co_ts
  rw [(tg_same _).2 0 (by decide)]
  show cs_from (co_c K S b nC u) u.nT u.nR 0 = _
  unfold cs_from
  rw [va_up_ne _ _ (by decide), va_up_ne _ _ (by decide)]
  rfl
theorem co_TS {nS nP i : Nat} {le K : Int} {S b : Nat} {u : RS} (h : RI nS nP i u) : TS (co_ts le K S b i u) ∧ u.nR ≤ (co_ts le K S b i u).2.1 ∧ (co_ts le K S b i u).2.1 ≤ u.nR + (sh_l u.T K S (u.Sh b) u.st).1.toNat := TS_go (s := (u.nT, u.nR, u.tk, u.rs, u.R, cs_from (co_c K S b i u) u.nT u.nR)) ⟨h.t0, h.t1, fun p hp => (h.po p hp).2.2.2.1⟩ _
theorem ar_same {R R' : Nat → pa_T} (h : ∀ p : Nat, same4 (R p) (R' p)) : ar_of R' = ar_of R := by
  funext p
  show (R' p).1 * (R' p).2.1 = (R p).1 * (R p).2.1
  rw [(h p).1, (h p).2.1]
theorem RI_co {nS nP i S b m : Nat} {le K : Int} {u : RS} (h : RI nS nP i u) (hS : S ≤ 3) (hK : 0 ≤ K) (hb : b < nS) (hb4 : b < 4) (hi : i < 20) (hW : u.W = (m : Int)) (hun : 0 < (u.Sh b).2.2.2.2) : RI nS nP (i + 1) (co_step le K S b i u) := by
  obtain ⟨h1, h2, h3⟩ := co_TS (le := le) (K := K) (S := S) (b := b) h
  have hsm : ∀ p : Nat, same4 (u.R p) ((co_ts le K S b i u).2.2.2.2.1 p) := (tg_same (s := (u.nT, u.nR, u.tk, u.rs, u.R, cs_from (co_c K S b i u) u.nT u.nR)) _).1
  have hC := (h.ht m hW.symm).2
  have hl := LB_lay (st := u.st) hC hK hS (h.so b hb).1 (h.so b hb).2.1
  have hl1 : (sh_l u.T K S (u.Sh b) u.st).1 ≤ 256 := hl.1.2
  refine ⟨h1.1, h1.2.1, ?_, ?_, ?_, ?_, ?_, ?_, ?_, h.w0, h.f0, ?_⟩
  · show 0 ≤ (co_ts le K S b i u).2.1
    have := h.r0
    omega
  · show (co_ts le K S b i u).2.1 ≤ 256 * ((i + 1 : Nat) : Int)
    have := h.r1
    omega
  · intro k hk
    show SO (va_up u.Sh b (co_r (u.Sh b)) k)
    by_cases e : k = b
    · subst e
      rw [va_up_self]
      have hs := h.so k hk
      unfold SO at hs ⊢
      exact ⟨hs.1, hs.2.1, hs.2.2.1, by show 0 ≤ _ - 1; omega, by show _ - 1 ≤ 20; omega⟩
    · rw [va_up_ne _ _ e]
      exact h.so k hk
  · intro p hp
    show PO ((co_ts le K S b i u).2.2.2.2.1 p)
    have h4 := hsm p
    have h5 := h.po p hp
    have h6 := h1.2.2 p hp
    unfold same4 at h4
    unfold PO at h5 ⊢
    omega
  · intro p hp
    show ((co_ts le K S b i u).2.2.2.2.1 p).2.2.1 = 0 ∨ ((co_ts le K S b i u).2.2.2.2.1 p).2.2.1 = 1
    rw [(hsm p).2.2.1]
    exact h.pz p hp
  · intro p hp
    show 1 ≤ ((co_ts le K S b i u).2.2.2.2.1 p).1 ∧ 1 ≤ ((co_ts le K S b i u).2.2.2.2.1 p).2.1
    rw [(hsm p).1, (hsm p).2.1]
    exact h.pw p hp
  · show HT (ar_of (co_ts le K S b i u).2.2.2.2.1) u.W u.T
    rw [ar_same hsm]
    exact h.ht
  · intro k hk
    show 0 ≤ va_up u.Cs i (va_up (cs_to (co_ts le K S b i u)) 12 _) k 0 ∧ va_up u.Cs i (va_up (cs_to (co_ts le K S b i u)) 12 _) k 0 < 4
    by_cases e : k = i
    · subst e
      rw [va_up_self, va_up_ne _ _ (by decide), co_c0]
      omega
    · rw [va_up_ne _ _ e]
      exact h.cb k hk
set_option maxHeartbeats 4000000 in
set_option maxRecDepth 100000 in
theorem c_ST_cutOneOf (l : Launch) (D : va_G) (x qsh qpa qcu qtk qrs qt ql qp qo qs qc nS nP S : Nat) (le rn K : Int) (cI cP cS cC : ClassId) (fS fP fC : Nat → Option Nat) (L : List Nat) (f : Nat → va_E) (aS aP aC : Nat → Nat) (hnS : nS ≤ 4) (hnP : nP ≤ 8) (hS : S ≤ 3) (hK : 0 ≤ K ∧ K ≤ 3) (hle : 1 ≤ le ∧ le ≤ 16) (hfS : ∀ i : Nat, i < 4 → fS i = some (aS i)) (hfP : ∀ i : Nat, i < 8 → fP i = some (aP i)) (hfC : ∀ i : Nat, i < 20 → fC i = some (aC i)) (hAD : AD aS aP aC) (u : RS) (b nC m : Nat) (hb : b < nS) (hb4 : b < 4) (hnC : nC < 20) (hI : RI nS nP nC u) (hW : u.W = (m : Int)) (hun : 0 < (u.Sh b).2.2.2.2) (hPL : PL L f aS aP aC u.Sh u.R u.Cs) : CM l y_ST_cutOneOf b_ST_cutOneOf 4 none rm_7 [.ref x, .int (iI (b : Int))] D [(cI, .int), (cP, .object "SheetTrees$Part"), (cS, .object "SheetTrees$Sheet"), (cC, .object "SheetTrees$CutSheet")] ([ob_ST x qsh qpa qcu qtk qrs qt ql (S : Int) le (nS : Int) (nP : Int) (nC : Int) u.nT u.nR rn, ar_Q qsh cS 4 fS, ar_Q qpa cP 8 fP, ob_LY ql qt qp qo u.way u.st, ar_I qp cI 256 u.st.2.2.2.1, ar_I qo cI 8 u.st.2.2.2.2, ob_TB qt qs qc K u.W u.F, ar_I qs cI 2312 u.T.1, ar_I qc cI 2312 u.T.2, ar_Q qcu cC 20 fC, ar_I qtk cI 400 u.tk, ar_I qrs cI 5120 u.rs] ++ va_pl L f) (fun v w1 p1 _ => v = none ∧ w1 = [ob_ST x qsh qpa qcu qtk qrs qt ql (S : Int) le (nS : Int) (nP : Int) ((nC : Int) + 1) (co_step le K S b nC u).nT (co_step le K S b nC u).nR rn, ar_Q qsh cS 4 fS, ar_Q qpa cP 8 fP, ob_LY ql qt qp qo (co_step le K S b nC u).way (co_step le K S b nC u).st, ar_I qp cI 256 (co_step le K S b nC u).st.2.2.2.1, ar_I qo cI 8 (co_step le K S b nC u).st.2.2.2.2, ob_TB qt qs qc K (co_step le K S b nC u).W (co_step le K S b nC u).F, ar_I qs cI 2312 (co_step le K S b nC u).T.1, ar_I qc cI 2312 (co_step le K S b nC u).T.2, ar_Q qcu cC 20 fC, ar_I qtk cI 400 (co_step le K S b nC u).tk, ar_I qrs cI 5120 (co_step le K S b nC u).rs] ∧ ∃ f9, p1 = va_pl L f9 ∧ PL L f9 aS aP aC (co_step le K S b nC u).Sh (co_step le K S b nC u).R (co_step le K S b nC u).Cs) := by
  refine cm_of (by decide) (Nat.le_of_ble_eq_true rfl) ?_
  intro X sz hl hr hnm hD hA hw
  subst hD
  obtain ⟨hin, hat⟩ := hPL.1 b hb4
  have hso := hI.so b hb
  have hun2 := hso.2.2.2
  have hT := (hI.ht m hW.symm).1
  have hC := (hI.ht m hW.symm).2
  have hlb : LB (ar_of u.R) 256 (sh_l u.T K S (u.Sh b) u.st) := LB_lay (st := u.st) hC hK.1 hS hso.1 hso.2.1
  have hR0 := hI.r0
  have hR1 := hI.r1
  have hp1 := PL_S (i := b) (r := co_r (u.Sh b)) hPL hAD hb4
  have hin2 := hin
  have hat2 : va_up f (aS b) (ob_SH (co_r (u.Sh b))) (aS b) = ob_SH (co_r (u.Sh b)) := va_up_self _ _ _
  obtain ⟨hin3, hat3⟩ := hp1.2.2 nC hnC
  have hp2 := PL_C (i := nC) (c := co_c K S b nC u) hp1 hAD hnC
  have hcc : (va_up u.Cs nC (co_c K S b nC u)) nC = co_c K S b nC u := va_up_self _ _ _
  show VV X (b_ST_cutOneOf, 4, "SheetTrees", rm_7) _ 0 0 [(cI, .int), (cP, .object "SheetTrees$Part"), (cS, .object "SheetTrees$Sheet"), (cC, .object "SheetTrees$CutSheet")] [ob_ST x qsh qpa qcu qtk qrs qt ql (S : Int) le (nS : Int) (nP : Int) (nC : Int) u.nT u.nR rn, ar_Q qsh cS 4 fS, ar_Q qpa cP 8 fP, ob_LY ql qt qp qo u.way u.st, ar_I qp cI 256 u.st.2.2.2.1, ar_I qo cI 8 u.st.2.2.2.2, ob_TB qt qs qc K u.W u.F, ar_I qs cI 2312 u.T.1, ar_I qc cI 2312 u.T.2, ar_Q qcu cC 20 fC, ar_I qtk cI 400 u.tk, ar_I qrs cI 5120 u.rs] (va_pl L f) [some (.ref x), some (.int (iI (b : Int))), none, none] [] 0
  refine vv_iload_n d_ST_cutOneOf_0 rfl ?_
  refine vv_if_lt (tgt := 25) d_ST_cutOneOf_1 (by decide) (by omega) (fun c1 => ?_) (fun c1 => ?_)
  · exfalso; omega
  · skip
    refine vv_iload_n d_ST_cutOneOf_4 rfl ?_
    refine vv_aload_n d_ST_cutOneOf_5 rfl ?_
    refine vv_get d_ST_cutOneOf_6 0 rfl fl_ST_11 rfl ?_
    refine vv_alen d_ST_cutOneOf_9 1 2 rfl rfl (v := 4) rfl ?_
    refine vv_icmp_ge (tgt := 25) d_ST_cutOneOf_10 (by decide) ⟨by omega, by omega⟩ (fun c10 => ?_) (fun c10 => ?_)
    · exfalso; omega
    · skip
      refine vv_aload_n d_ST_cutOneOf_13 rfl ?_
      refine vv_get d_ST_cutOneOf_14 0 rfl fl_ST_41 rfl ?_
      refine vv_aload_n d_ST_cutOneOf_17 rfl ?_
      refine vv_get d_ST_cutOneOf_18 0 rfl fl_ST_23 rfl ?_
      refine vv_alen d_ST_cutOneOf_21 9 3 rfl rfl (v := 20) rfl ?_
      refine vv_icmp_lt (tgt := 26) d_ST_cutOneOf_22 (by decide) ⟨by omega, by omega⟩ (fun c22 => ?_) (fun c22 => ?_)
      · skip
        refine vv_aload_n d_ST_cutOneOf_26 rfl ?_
        refine vv_get d_ST_cutOneOf_27 0 rfl fl_ST_11 rfl ?_
        refine vv_iload_n d_ST_cutOneOf_30 rfl ?_
        refine vv_aald d_ST_cutOneOf_31 1 2 rfl rfl (by omega) (show fS ((b : Int).toNat) = some (aS b) by rw [Int.toNat_natCast]; exact hfS b hb4) ?_
        refine vv_astore_n d_ST_cutOneOf_32 rfl (by decide) ?_
        dsimp only [List.set]
        refine vv_aload_n d_ST_cutOneOf_33 rfl ?_
        refine vv_get d_ST_cutOneOf_34 0 rfl fl_ST_23 rfl ?_
        refine vv_aload_n d_ST_cutOneOf_37 rfl ?_
        refine vv_get d_ST_cutOneOf_38 0 rfl fl_ST_41 rfl ?_
        refine vv_aald d_ST_cutOneOf_41 9 3 rfl rfl (by omega) (show fC ((nC : Int).toNat) = some (aC nC) by rw [Int.toNat_natCast]; exact hfC nC hnC) ?_
        refine vv_astore_n d_ST_cutOneOf_42 rfl (by decide) ?_
        dsimp only [List.set]
        refine vv_aload_n d_ST_cutOneOf_43 rfl ?_
        refine vv_get d_ST_cutOneOf_44 0 rfl fl_ST_78 rfl ?_
        refine vv_aload_n d_ST_cutOneOf_47 rfl ?_
        refine vv_aload_n d_ST_cutOneOf_48 rfl ?_
        refine vv_get d_ST_cutOneOf_49 0 rfl fl_ST_58 rfl ?_
        refine vv_mV hw (wc := [ob_LY ql qt qp qo u.way u.st, ar_I qp cI 256 u.st.2.2.2.1, ar_I qo cI 8 u.st.2.2.2.2, ob_TB qt qs qc K u.W u.F, ar_I qs cI 2312 u.T.1, ar_I qc cI 2312 u.T.2]) (wr := [ob_ST x qsh qpa qcu qtk qrs qt ql (S : Int) le (nS : Int) (nP : Int) (nC : Int) u.nT u.nR rn, ar_Q qsh cS 4 fS, ar_Q qpa cP 8 fP, ar_Q qcu cC 20 fC, ar_I qtk cI 400 u.tk, ar_I qrs cI 5120 u.rs]) [] (c_LY_lay (cx_l X) (cx_D X) cI ql qt qp qo qs qc (aS b) u.way K u.W u.F u.T u.st L f (u.Sh b) S hS hK (CX_CI hC) hT hin hat hso.1 hso.2.1) lk_ST_250 d_ST_cutOneOf_52 rfl (rc_at 3 rfl rfl rfl) [3, 4, 5, 6, 7, 8] [0, 1, 2, 9, 10, 11] ⟨rfl, rfl⟩ ⟨rfl, rfl, by decide⟩ [0] rfl ⟨⟨by decide, by decide⟩, ⟨by decide, by decide⟩, Nat.le_of_ble_eq_true rfl⟩ ⟨rfl, rfl⟩ ?_
        rintro v w1 p1 t1 ⟨rfl, rfl, rfl⟩
        dsimp only [Option.toList, List.cons_append, List.nil_append, List.append_nil]
        refine vv_sub (ws' := [ob_ST x qsh qpa qcu qtk qrs qt ql (S : Int) le (nS : Int) (nP : Int) (nC : Int) u.nT u.nR rn, ar_Q qsh cS 4 fS, ar_Q qpa cP 8 fP, ob_LY ql qt qp qo (sh_w u.T S (u.Sh b)) (sh_l u.T K S (u.Sh b) u.st), ar_I qp cI 256 (sh_l u.T K S (u.Sh b) u.st).2.2.2.1, ar_I qo cI 8 (sh_l u.T K S (u.Sh b) u.st).2.2.2.2, ob_TB qt qs qc K u.W u.F, ar_I qs cI 2312 u.T.1, ar_I qc cI 2312 u.T.2, ar_Q qcu cC 20 fC, ar_I qtk cI 400 u.tk, ar_I qrs cI 5120 u.rs]) [0, 1, 2, 6, 7, 8, 9, 10, 11, 3, 4, 5] rfl rfl ?_
        refine vv_aload_n d_ST_cutOneOf_55 rfl ?_
        refine vv_dup d_ST_cutOneOf_56 rfl ?_
        refine vv_getP d_ST_cutOneOf_57 hin hat fl_ST_247 rfl ?_
        refine vv_iconst d_ST_cutOneOf_60 ?_
        refine vv_isub d_ST_cutOneOf_61 ?_
        refine vv_putP hw d_ST_cutOneOf_62 hin hat fp_ST_247 rfl rfl (Nat.le_of_ble_eq_true rfl) ?_
        dsimp only [List.set]
        refine vv_aload_n d_ST_cutOneOf_65 rfl ?_
        refine vv_iload_n d_ST_cutOneOf_66 rfl ?_
        refine vv_aload_n d_ST_cutOneOf_67 rfl ?_
        refine vv_aload_n d_ST_cutOneOf_68 rfl ?_
        refine vv_get d_ST_cutOneOf_69 0 rfl fl_ST_78 rfl ?_
        refine vv_mV hw (wc := [ob_LY ql qt qp qo (sh_w u.T S (u.Sh b)) (sh_l u.T K S (u.Sh b) u.st), ar_I qo cI 8 (sh_l u.T K S (u.Sh b) u.st).2.2.2.2]) (wr := [ob_ST x qsh qpa qcu qtk qrs qt ql (S : Int) le (nS : Int) (nP : Int) (nC : Int) u.nT u.nR rn, ar_Q qsh cS 4 fS, ar_Q qpa cP 8 fP, ar_I qp cI 256 (sh_l u.T K S (u.Sh b) u.st).2.2.2.1, ob_TB qt qs qc K u.W u.F, ar_I qs cI 2312 u.T.1, ar_I qc cI 2312 u.T.2, ar_Q qcu cC 20 fC, ar_I qtk cI 400 u.tk, ar_I qrs cI 5120 u.rs]) [] (c_CS_start (cx_l X) (cx_D X) cI (aC nC) (aS b) ql qt qp qo (sh_w u.T S (u.Sh b)) (b : Int) (sh_l u.T K S (u.Sh b) u.st) (u.Cs nC) (co_r (u.Sh b)) L (va_up f (aS b) (ob_SH (co_r (u.Sh b)))) hin3 hat3 hin2 hat2 (fun p hp => by have := hlb.2.2.1 p hp; omega)) lk_ST_258 d_ST_cutOneOf_72 rfl (rc_pl hin3 hat3 rfl rfl) [3, 5] [0, 1, 2, 4, 6, 7, 8, 9, 10, 11] ⟨rfl, rfl⟩ ⟨rfl, rfl, by decide⟩ [0] rfl ⟨⟨by decide, by decide⟩, ⟨by decide, by decide⟩, Nat.le_of_ble_eq_true rfl⟩ ⟨rfl, rfl⟩ ?_
        rintro v w1 p1 t1 ⟨rfl, rfl, rfl⟩
        dsimp only [Option.toList, List.cons_append, List.nil_append, List.append_nil]
        refine vv_sub (ws' := [ob_ST x qsh qpa qcu qtk qrs qt ql (S : Int) le (nS : Int) (nP : Int) (nC : Int) u.nT u.nR rn, ar_Q qsh cS 4 fS, ar_Q qpa cP 8 fP, ob_LY ql qt qp qo (sh_w u.T S (u.Sh b)) (sh_l u.T K S (u.Sh b) u.st), ar_I qp cI 256 (sh_l u.T K S (u.Sh b) u.st).2.2.2.1, ar_I qo cI 8 (sh_l u.T K S (u.Sh b) u.st).2.2.2.2, ob_TB qt qs qc K u.W u.F, ar_I qs cI 2312 u.T.1, ar_I qc cI 2312 u.T.2, ar_Q qcu cC 20 fC, ar_I qtk cI 400 u.tk, ar_I qrs cI 5120 u.rs]) [0, 1, 2, 10, 3, 11, 4, 5, 6, 7, 8, 9] rfl rfl ?_
        refine vv_aload_n d_ST_cutOneOf_75 rfl ?_
        refine vv_aload_n d_ST_cutOneOf_76 rfl ?_
        refine vv_mV hw (wc := [ob_ST x qsh qpa qcu qtk qrs qt ql (S : Int) le (nS : Int) (nP : Int) (nC : Int) u.nT u.nR rn, ar_Q qpa cP 8 fP, ar_I qtk cI 400 u.tk, ar_I qrs cI 5120 u.rs, ob_LY ql qt qp qo (sh_w u.T S (u.Sh b)) (sh_l u.T K S (u.Sh b) u.st), ar_I qp cI 256 (sh_l u.T K S (u.Sh b) u.st).2.2.2.1]) (wr := [ar_Q qsh cS 4 fS, ar_I qo cI 8 (sh_l u.T K S (u.Sh b) u.st).2.2.2.2, ob_TB qt qs qc K u.W u.F, ar_I qs cI 2312 u.T.1, ar_I qc cI 2312 u.T.2, ar_Q qcu cC 20 fC]) [] (c_ST_takePieces (cx_l X) (cx_D X) x qsh qpa qcu qtk qrs qt ql qp qo (sh_l u.T K S (u.Sh b) u.st).1.toNat nC (S : Int) le (nS : Int) (nP : Int) (nC : Int) u.nT u.nR rn (sh_w u.T S (u.Sh b)) (sh_l u.T K S (u.Sh b) u.st) cI cP u.tk u.rs fP L _ aS aP aC _ u.R _ (by have := hlb.1; omega) (by have := hlb.1; omega) hle hnC hfP hp2 hAD ⟨hI.t0, hI.t1⟩ (fun p hp => (hI.po p hp).2.2.2.1) (by have := hlb.1; omega) (fun i hi => hlb.2.2.2 i (by have := hlb.1; omega))) lk_ST_262 d_ST_cutOneOf_77 rfl (rc_at 0 rfl rfl rfl) [0, 2, 10, 11, 3, 4] [1, 5, 6, 7, 8, 9] ⟨rfl, rfl⟩ ⟨rfl, rfl, by decide⟩ [0, 1] rfl ⟨⟨by decide, by decide⟩, ⟨by decide, by decide⟩, Nat.le_of_ble_eq_true rfl⟩ ⟨rfl, rfl⟩ ?_
        rw [hcc, bx_uu]
        rintro v w1 p1 t1 ⟨rfl, rfl, f9, rfl, hp9⟩
        dsimp only [Option.toList, List.cons_append, List.nil_append, List.append_nil]
        refine vv_sub (ws' := [ob_ST x qsh qpa qcu qtk qrs qt ql (S : Int) le (nS : Int) (nP : Int) (nC : Int) (co_ts le K S b nC u).1 (co_ts le K S b nC u).2.1 rn, ar_Q qsh cS 4 fS, ar_Q qpa cP 8 fP, ob_LY ql qt qp qo (sh_w u.T S (u.Sh b)) (sh_l u.T K S (u.Sh b) u.st), ar_I qp cI 256 (sh_l u.T K S (u.Sh b) u.st).2.2.2.1, ar_I qo cI 8 (sh_l u.T K S (u.Sh b) u.st).2.2.2.2, ob_TB qt qs qc K u.W u.F, ar_I qs cI 2312 u.T.1, ar_I qc cI 2312 u.T.2, ar_Q qcu cC 20 fC, ar_I qtk cI 400 (co_ts le K S b nC u).2.2.1, ar_I qrs cI 5120 (co_ts le K S b nC u).2.2.2.1]) [6, 0, 7, 10, 11, 1, 2, 3, 4, 5, 8, 9] rfl rfl ?_
        change PL L f9 aS aP aC (va_up u.Sh b (co_r (u.Sh b))) (co_ts le K S b nC u).2.2.2.2.1 (co_cs le K S b nC u) at hp9
        obtain ⟨hin4, hat4⟩ := hp9.2.2 nC hnC
        have e4 : co_cs le K S b nC u nC = cs_to (co_ts le K S b nC u) := va_up_self _ _ _
        rw [e4] at hat4
        refine vv_aload_n d_ST_cutOneOf_80 rfl ?_
        refine vv_aload_n d_ST_cutOneOf_81 rfl ?_
        refine vv_aload_n d_ST_cutOneOf_82 rfl ?_
        refine vv_pV (wc := [ob_ST x qsh qpa qcu qtk qrs qt ql (S : Int) le (nS : Int) (nP : Int) (nC : Int) (co_ts le K S b nC u).1 (co_ts le K S b nC u).2.1 rn, ar_Q qcu cC 20 fC, ob_TB qt qs qc K u.W u.F]) (plc := va_pl L f9) [.ref (aC nC)] (c_ST_firstAlike (cx_l X) (cx_D X) x qsh qpa qcu qtk qrs qt ql qs qc nC (S : Int) le (nS : Int) (nP : Int) (co_ts le K S b nC u).1 (co_ts le K S b nC u).2.1 rn K u.W u.F cI cC fC L f9 aC (co_cs le K S b nC u) nC hnC (by omega) hfC hp9.2.2 (fun i hi => ?_)) lk_ST_266 d_ST_cutOneOf_83 rfl (rc_at 0 rfl rfl rfl) [0, 9, 6] ⟨rfl, rfl, Or.inr rfl⟩ [0, 3] rfl ⟨⟨by decide, by decide⟩, ⟨by decide, by decide⟩, Nat.le_of_ble_eq_true rfl⟩ ⟨rfl, rfl⟩ ?_
        · unfold co_cs
          by_cases e : i = nC
          · rw [e, va_up_self, co_c0]
            omega
          · rw [va_up_ne _ _ e]
            have := hI.cb i hi
            omega
        intro v hv
        subst hv
        dsimp only [Option.toList, List.cons_append, List.nil_append, List.append_nil]
        refine vv_putP hw d_ST_cutOneOf_86 hin4 hat4 fp_ST_186 rfl rfl (Nat.le_of_ble_eq_true rfl) ?_
        dsimp only [List.set]
        refine vv_aload_n d_ST_cutOneOf_89 rfl ?_
        refine vv_dup d_ST_cutOneOf_90 rfl ?_
        refine vv_get d_ST_cutOneOf_91 0 rfl fl_ST_41 rfl ?_
        refine vv_iconst d_ST_cutOneOf_94 ?_
        refine vv_iadd d_ST_cutOneOf_95 ?_
        refine vv_put hw d_ST_cutOneOf_96 0 rfl fp_ST_41 rfl rfl (Nat.le_of_ble_eq_true rfl) ?_
        dsimp only [List.set]
        have hp10 := PL_C (i := nC) (c := va_up (cs_to (co_ts le K S b nC u)) 12 ((co_fa le K S b nC u : Nat) : Int)) hp9 hAD hnC
        unfold co_cs at hp10
        rw [bx_uu] at hp10
        exact vv_vret hA hw hr d_ST_cutOneOf_99 (by decide) (by decide) ⟨rfl, rfl, _, rfl, hp10⟩
      · exfalso; omega
