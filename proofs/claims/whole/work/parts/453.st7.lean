/-! SheetTrees.run -/
theorem pu_bit {co : Nat → Int} {p : Nat} : ∀ n : Nat, bitm (pu_m co n) p ↔ p < n ∧ 0 < co p
  | 0 => by
    unfold pu_m bitm
    rw [Nat.zero_div]
    exact ⟨fun h => absurd h (by decide), fun h => absurd h.1 (by omega)⟩
  | n + 1 => by
    have ih := pu_bit (co := co) (p := p) n
    have ht : ∀ m : Nat, bitm m p ↔ m.testBit p = true := fun m => by
      unfold bitm
      rw [Nat.testBit_eq_decide_div_mod_eq, decide_eq_true_eq]
    rw [ht] at ih ⊢
    unfold pu_m
    rw [Nat.testBit_or, Bool.or_eq_true, ih]
    have h2 : (if 0 < co n then 2 ^ n else 0).testBit p = true ↔ p = n ∧ 0 < co p := by
      split
      · rename_i hp
        rw [Nat.testBit_two_pow, decide_eq_true_eq]
        exact ⟨fun e => ⟨e.symm, by rw [← e]; exact hp⟩, fun e => e.1.symm⟩
      · rename_i hp
        rw [Nat.zero_testBit]
        exact ⟨fun e => Bool.noConfusion e, fun e => absurd (by rw [← e.1]; exact e.2) hp⟩
    rw [h2]
    constructor
    · rintro (h | h)
      · exact ⟨by omega, h.2⟩
      · exact ⟨by omega, h.2⟩
    · intro h
      by_cases e : p = n
      · exact Or.inr ⟨e, h.2⟩
      · exact Or.inl ⟨by omega, h.2⟩
theorem pu_lt {co : Nat → Int} : ∀ n : Nat, pu_m co n < 2 ^ n
  | 0 => by unfold pu_m; decide
  | n + 1 => by
    have ih := pu_lt (co := co) n
    unfold pu_m
    refine Nat.or_lt_two_pow ?_ ?_
    · rw [Nat.pow_succ]
      omega
    · split
      · rw [Nat.pow_succ]
        have := Nat.two_pow_pos n
        omega
      · exact Nat.two_pow_pos _
theorem pu_256 {co : Nat → Int} {n : Nat} (hn : n ≤ 8) : pu_m co n < 256 := Nat.lt_of_lt_of_le (pu_lt n) (show 2 ^ n ≤ 2 ^ 8 from Nat.pow_le_pow_right (by decide) hn)
def rn_m (nP : Nat) (u : RS) : Nat := pu_m (fun p => (u.R p).2.2.2.2) nP
def fl_u (K : Int) (S nP : Nat) (u : RS) : RS := (u.nT, u.nR, u.tk, u.rs, u.R, u.Sh, u.Cs, u.way, u.st, fl_T K u.R (rn_m nP u) S u.W u.F u.T, ((rn_m nP u : Nat) : Int), fl_G (rn_m nP u) S u.W u.F)
def bs_of (K : Int) (S nS : Nat) (u : RS) : bs_T := bs_go u.T K S u.R u.Sh (-1, 0, 1, u.way, u.st) nS
def bs_u (K : Int) (S nS : Nat) (u : RS) : RS := (u.nT, u.nR, u.tk, u.rs, u.R, u.Sh, u.Cs, (bs_of K S nS u).2.2.2.1, (bs_of K S nS u).2.2.2.2, u.T, u.W, u.F)
def st_u (nS nP : Nat) (u : RS) : RS := (0, 0, u.tk, u.rs, sr_S u.R nP, sr_S u.Sh nS, u.Cs, u.way, u.st, u.T, u.W, u.F)
def run_go (le K : Int) (S nS nP : Nat) : Nat → Nat → RS → Nat × RS
  | 0, i, u => (i, u)
  | n + 1, i, u => if (bs_of K S nS (fl_u K S nP u)).1 = -1 then (i, bs_u K S nS (fl_u K S nP u)) else run_go le K S nS nP n (i + 1) (co_step le K S (bs_of K S nS (fl_u K S nP u)).1.toNat i (bs_u K S nS (fl_u K S nP u)))
theorem RI_PW {nS nP i : Nat} {u : RS} (h : RI nS nP i u) (hP : nP ≤ 8) : PW u.R (rn_m nP u) := fun p hp hb => by
  have h1 := (pu_bit nP).mp hb
  have h2 := h.pw p h1.1
  have h3 := h.po p hp
  unfold PO at h3
  omega
theorem RI_fl {nS nP i S : Nat} {K : Int} {u : RS} (h : RI nS nP i u) (hP : nP ≤ 8) (hS : S ≤ 3) (hK : 0 ≤ K) : RI nS nP i (fl_u K S nP u) ∧ TI (fl_u K S nP u).T.1 ∧ CX (ar_of u.R) (rn_m nP u) (fl_u K S nP u).T.2 := by
  have h1 := HT_fl (S := (S : Int)) hK (by omega) h.f0 (RI_PW h hP) h.ht
  have h2 : rn_m nP u < 256 := pu_256 hP
  exact ⟨⟨h.t0, h.t1, h.r0, h.r1, h.so, h.po, h.pz, h.pw, HT_of h1.1 h1.2.1, ⟨by show -1 ≤ ((rn_m nP u : Nat) : Int); omega, by show ((rn_m nP u : Nat) : Int) < 256; omega⟩, h1.2.2, h.cb⟩, h1.1, h1.2.1⟩
theorem RI_bs {nS nP i S : Nat} {K : Int} {u : RS} (h : RI nS nP i u) : RI nS nP i (bs_u K S nS u) := h
theorem bs_un {T : tp_T} {K : Int} {S : Nat} {R Sh : Nat → pa_T} {b : bs_T} (hb : b.1 = -1) : ∀ n : Nat, (bs_go T K S R Sh b n).1 = -1 ∨ 0 < (Sh (bs_go T K S R Sh b n).1.toNat).2.2.2.2
  | 0 => Or.inl hb
  | n + 1 => by
    have ih := bs_un (T := T) (K := K) (S := S) (R := R) (Sh := Sh) hb n
    show (bs_step T K S R (Sh n) n (bs_go T K S R Sh b n)).1 = -1 ∨ 0 < (Sh (bs_step T K S R (Sh n) n (bs_go T K S R Sh b n)).1.toNat).2.2.2.2
    unfold bs_step
    split
    · rename_i hu
      split
      · refine Or.inr ?_
        show 0 < (Sh ((n : Int)).toNat).2.2.2.2
        rw [Int.toNat_natCast]
        exact hu
      · exact ih
    · exact ih
theorem bs_ok {nS nP i S : Nat} {K : Int} {u : RS} (h : RI nS nP i u) (hP : nP ≤ 8) (hS : S ≤ 3) (hK : 0 ≤ K) : -1 ≤ (bs_of K S nS (fl_u K S nP u)).1 ∧ (bs_of K S nS (fl_u K S nP u)).1 < nS ∧ ((bs_of K S nS (fl_u K S nP u)).1 = -1 ∨ 0 < ((fl_u K S nP u).Sh (bs_of K S nS (fl_u K S nP u)).1.toNat).2.2.2.2) := by
  obtain ⟨h1, h2, h3⟩ := RI_fl h hP hS hK
  have h4 := BI_go (way := u.way) (st := u.st) (Sh := u.Sh) h3 hK hS h.po nS h.so
  exact ⟨h4.1.1, h4.1.2, bs_un rfl nS⟩
set_option maxHeartbeats 4000000 in
set_option maxRecDepth 100000 in
theorem c_ST_run (l : Launch) (D : va_G) (x qsh qpa qcu qtk qrs qt ql qp qo qs qc nS nP S : Nat) (le rn K : Int) (cI cP cS cC : ClassId) (fS fP fC : Nat → Option Nat) (L : List Nat) (f : Nat → va_E) (aS aP aC : Nat → Nat) (hnS : nS ≤ 4) (hnP : nP ≤ 8) (hS : S ≤ 3) (hK : 0 ≤ K ∧ K ≤ 3) (hle : 1 ≤ le ∧ le ≤ 16) (hfS : ∀ i : Nat, i < 4 → fS i = some (aS i)) (hfP : ∀ i : Nat, i < 8 → fP i = some (aP i)) (hfC : ∀ i : Nat, i < 20 → fC i = some (aC i)) (hAD : AD aS aP aC) (u : RS) (nC : Int) (hI : RI nS nP 0 (st_u nS nP u)) (hPL : PL L f aS aP aC u.Sh u.R u.Cs) : CM l y_ST_run b_ST_run 3 (some .int) rm_8 [.ref x] D [(cI, .int), (cP, .object "SheetTrees$Part"), (cS, .object "SheetTrees$Sheet"), (cC, .object "SheetTrees$CutSheet")] ([ob_ST x qsh qpa qcu qtk qrs qt ql (S : Int) le (nS : Int) (nP : Int) nC u.nT u.nR rn, ar_Q qsh cS 4 fS, ar_Q qpa cP 8 fP, ob_LY ql qt qp qo u.way u.st, ar_I qp cI 256 u.st.2.2.2.1, ar_I qo cI 8 u.st.2.2.2.2, ob_TB qt qs qc K u.W u.F, ar_I qs cI 2312 u.T.1, ar_I qc cI 2312 u.T.2, ar_Q qcu cC 20 fC, ar_I qtk cI 400 u.tk, ar_I qrs cI 5120 u.rs] ++ va_pl L f) (fun v w1 p1 _ => v = some (.int (iI (((run_go le K S nS nP 20 0 (st_u nS nP u)).1 : Nat) : Int))) ∧ w1 = [ob_ST x qsh qpa qcu qtk qrs qt ql (S : Int) le (nS : Int) (nP : Int) (((run_go le K S nS nP 20 0 (st_u nS nP u)).1 : Nat) : Int) (run_go le K S nS nP 20 0 (st_u nS nP u)).2.nT (run_go le K S nS nP 20 0 (st_u nS nP u)).2.nR 1, ar_Q qsh cS 4 fS, ar_Q qpa cP 8 fP, ob_LY ql qt qp qo (run_go le K S nS nP 20 0 (st_u nS nP u)).2.way (run_go le K S nS nP 20 0 (st_u nS nP u)).2.st, ar_I qp cI 256 (run_go le K S nS nP 20 0 (st_u nS nP u)).2.st.2.2.2.1, ar_I qo cI 8 (run_go le K S nS nP 20 0 (st_u nS nP u)).2.st.2.2.2.2, ob_TB qt qs qc K (run_go le K S nS nP 20 0 (st_u nS nP u)).2.W (run_go le K S nS nP 20 0 (st_u nS nP u)).2.F, ar_I qs cI 2312 (run_go le K S nS nP 20 0 (st_u nS nP u)).2.T.1, ar_I qc cI 2312 (run_go le K S nS nP 20 0 (st_u nS nP u)).2.T.2, ar_Q qcu cC 20 fC, ar_I qtk cI 400 (run_go le K S nS nP 20 0 (st_u nS nP u)).2.tk, ar_I qrs cI 5120 (run_go le K S nS nP 20 0 (st_u nS nP u)).2.rs] ∧ ∃ f9, p1 = va_pl L f9 ∧ PL L f9 aS aP aC (run_go le K S nS nP 20 0 (st_u nS nP u)).2.Sh (run_go le K S nS nP 20 0 (st_u nS nP u)).2.R (run_go le K S nS nP 20 0 (st_u nS nP u)).2.Cs) := by
  refine cm_of (by decide) (Nat.le_of_ble_eq_true rfl) ?_
  intro X sz hl hr hnm hD hA hw
  subst hD
  have fin : ∀ (i : Nat) (w : RS) (f1 : Nat → va_E) (v1 v2 : Option Value), (i, w) = (run_go le K S nS nP 20 0 (st_u nS nP u)) → PL L f1 aS aP aC w.Sh w.R w.Cs → VV X (b_ST_run, 3, "SheetTrees", rm_8) (cq X ([ob_ST x qsh qpa qcu qtk qrs qt ql (S : Int) le (nS : Int) (nP : Int) nC u.nT u.nR rn, ar_Q qsh cS 4 fS, ar_Q qpa cP 8 fP, ob_LY ql qt qp qo u.way u.st, ar_I qp cI 256 u.st.2.2.2.1, ar_I qo cI 8 u.st.2.2.2.2, ob_TB qt qs qc K u.W u.F, ar_I qs cI 2312 u.T.1, ar_I qc cI 2312 u.T.2, ar_Q qcu cC 20 fC, ar_I qtk cI 400 u.tk, ar_I qrs cI 5120 u.rs] ++ va_pl L f) sz (fun v w1 p1 _ => v = some (.int (iI (((run_go le K S nS nP 20 0 (st_u nS nP u)).1 : Nat) : Int))) ∧ w1 = [ob_ST x qsh qpa qcu qtk qrs qt ql (S : Int) le (nS : Int) (nP : Int) (((run_go le K S nS nP 20 0 (st_u nS nP u)).1 : Nat) : Int) (run_go le K S nS nP 20 0 (st_u nS nP u)).2.nT (run_go le K S nS nP 20 0 (st_u nS nP u)).2.nR 1, ar_Q qsh cS 4 fS, ar_Q qpa cP 8 fP, ob_LY ql qt qp qo (run_go le K S nS nP 20 0 (st_u nS nP u)).2.way (run_go le K S nS nP 20 0 (st_u nS nP u)).2.st, ar_I qp cI 256 (run_go le K S nS nP 20 0 (st_u nS nP u)).2.st.2.2.2.1, ar_I qo cI 8 (run_go le K S nS nP 20 0 (st_u nS nP u)).2.st.2.2.2.2, ob_TB qt qs qc K (run_go le K S nS nP 20 0 (st_u nS nP u)).2.W (run_go le K S nS nP 20 0 (st_u nS nP u)).2.F, ar_I qs cI 2312 (run_go le K S nS nP 20 0 (st_u nS nP u)).2.T.1, ar_I qc cI 2312 (run_go le K S nS nP 20 0 (st_u nS nP u)).2.T.2, ar_Q qcu cC 20 fC, ar_I qtk cI 400 (run_go le K S nS nP 20 0 (st_u nS nP u)).2.tk, ar_I qrs cI 5120 (run_go le K S nS nP 20 0 (st_u nS nP u)).2.rs] ∧ ∃ f9, p1 = va_pl L f9 ∧ PL L f9 aS aP aC (run_go le K S nS nP 20 0 (st_u nS nP u)).2.Sh (run_go le K S nS nP 20 0 (st_u nS nP u)).2.R (run_go le K S nS nP 20 0 (st_u nS nP u)).2.Cs) rm_8) 0 0 [(cI, .int), (cP, .object "SheetTrees$Part"), (cS, .object "SheetTrees$Sheet"), (cC, .object "SheetTrees$CutSheet")] [ob_ST x qsh qpa qcu qtk qrs qt ql (S : Int) le (nS : Int) (nP : Int) (i : Int) w.nT w.nR rn, ar_Q qsh cS 4 fS, ar_Q qpa cP 8 fP, ob_LY ql qt qp qo w.way w.st, ar_I qp cI 256 w.st.2.2.2.1, ar_I qo cI 8 w.st.2.2.2.2, ob_TB qt qs qc K w.W w.F, ar_I qs cI 2312 w.T.1, ar_I qc cI 2312 w.T.2, ar_Q qcu cC 20 fC, ar_I qtk cI 400 w.tk, ar_I qrs cI 5120 w.rs] (va_pl L f1) [some (.ref x), v1, v2] [] 55 := by
    intro i w f1 v1 v2 hf hp
    refine vv_aload_n d_ST_run_55 rfl ?_
    refine vv_iconst d_ST_run_56 ?_
    refine vv_put hw d_ST_run_57 0 rfl fp_ST_50 rfl rfl (Nat.le_of_ble_eq_true rfl) ?_
    dsimp only [List.set]
    refine vv_aload_n d_ST_run_60 rfl ?_
    refine vv_get d_ST_run_61 0 rfl fl_ST_41 rfl ?_
    exact vv_iret hA hw hr d_ST_run_64 (by decide) (by decide) (by rw [← hf]; exact ⟨rfl, rfl, f1, rfl, hp⟩)
  have loop : ∀ n i : Nat, i + n = 20 → ∀ (w : RS) (f1 : Nat → va_E) (v2 : Option Value), (run_go le K S nS nP n i w) = (run_go le K S nS nP 20 0 (st_u nS nP u)) → RI nS nP i w → PL L f1 aS aP aC w.Sh w.R w.Cs → VV X (b_ST_run, 3, "SheetTrees", rm_8) (cq X ([ob_ST x qsh qpa qcu qtk qrs qt ql (S : Int) le (nS : Int) (nP : Int) nC u.nT u.nR rn, ar_Q qsh cS 4 fS, ar_Q qpa cP 8 fP, ob_LY ql qt qp qo u.way u.st, ar_I qp cI 256 u.st.2.2.2.1, ar_I qo cI 8 u.st.2.2.2.2, ob_TB qt qs qc K u.W u.F, ar_I qs cI 2312 u.T.1, ar_I qc cI 2312 u.T.2, ar_Q qcu cC 20 fC, ar_I qtk cI 400 u.tk, ar_I qrs cI 5120 u.rs] ++ va_pl L f) sz (fun v w1 p1 _ => v = some (.int (iI (((run_go le K S nS nP 20 0 (st_u nS nP u)).1 : Nat) : Int))) ∧ w1 = [ob_ST x qsh qpa qcu qtk qrs qt ql (S : Int) le (nS : Int) (nP : Int) (((run_go le K S nS nP 20 0 (st_u nS nP u)).1 : Nat) : Int) (run_go le K S nS nP 20 0 (st_u nS nP u)).2.nT (run_go le K S nS nP 20 0 (st_u nS nP u)).2.nR 1, ar_Q qsh cS 4 fS, ar_Q qpa cP 8 fP, ob_LY ql qt qp qo (run_go le K S nS nP 20 0 (st_u nS nP u)).2.way (run_go le K S nS nP 20 0 (st_u nS nP u)).2.st, ar_I qp cI 256 (run_go le K S nS nP 20 0 (st_u nS nP u)).2.st.2.2.2.1, ar_I qo cI 8 (run_go le K S nS nP 20 0 (st_u nS nP u)).2.st.2.2.2.2, ob_TB qt qs qc K (run_go le K S nS nP 20 0 (st_u nS nP u)).2.W (run_go le K S nS nP 20 0 (st_u nS nP u)).2.F, ar_I qs cI 2312 (run_go le K S nS nP 20 0 (st_u nS nP u)).2.T.1, ar_I qc cI 2312 (run_go le K S nS nP 20 0 (st_u nS nP u)).2.T.2, ar_Q qcu cC 20 fC, ar_I qtk cI 400 (run_go le K S nS nP 20 0 (st_u nS nP u)).2.tk, ar_I qrs cI 5120 (run_go le K S nS nP 20 0 (st_u nS nP u)).2.rs] ∧ ∃ f9, p1 = va_pl L f9 ∧ PL L f9 aS aP aC (run_go le K S nS nP 20 0 (st_u nS nP u)).2.Sh (run_go le K S nS nP 20 0 (st_u nS nP u)).2.R (run_go le K S nS nP 20 0 (st_u nS nP u)).2.Cs) rm_8) 0 0 [(cI, .int), (cP, .object "SheetTrees$Part"), (cS, .object "SheetTrees$Sheet"), (cC, .object "SheetTrees$CutSheet")] [ob_ST x qsh qpa qcu qtk qrs qt ql (S : Int) le (nS : Int) (nP : Int) (i : Int) w.nT w.nR rn, ar_Q qsh cS 4 fS, ar_Q qpa cP 8 fP, ob_LY ql qt qp qo w.way w.st, ar_I qp cI 256 w.st.2.2.2.1, ar_I qo cI 8 w.st.2.2.2.2, ob_TB qt qs qc K w.W w.F, ar_I qs cI 2312 w.T.1, ar_I qc cI 2312 w.T.2, ar_Q qcu cC 20 fC, ar_I qtk cI 400 w.tk, ar_I qrs cI 5120 w.rs] (va_pl L f1) [some (.ref x), some (.int (iI (i : Int))), v2] [] 6 := by
    intro n
    induction n with
    | zero =>
      intro i hi w f1 v2 hf hri hp
      have hi2 : i = 20 := by omega
      subst hi2
      refine vv_iload_n d_ST_run_6 rfl ?_
      refine vv_bipush d_ST_run_7 (by decide +kernel) ?_
      refine vv_icmp_ge (tgt := 55) d_ST_run_9 (by decide) ⟨by omega, by omega⟩ (fun c9 => ?_) (fun c9 => ?_)
      · skip
        exact fin 20 w f1 _ _ hf hp
      · exfalso; omega
    | succ n ih =>
      intro i hi w f1 v2 hf hri hp
      have hi20 : i < 20 := by omega
      obtain ⟨hri1, hti, hcx⟩ := RI_fl hri hnP hS hK.1
      obtain ⟨hb1, hb2, hb3⟩ := bs_ok hri hnP hS hK.1
      have hm256 : (rn_m nP w) < 256 := pu_256 hnP
      have hfl := hri.f0
      have hw0 := hri.w0
      have hfn := hf
      unfold run_go at hfn
      refine vv_iload_n d_ST_run_6 rfl ?_
      refine vv_bipush d_ST_run_7 (by decide +kernel) ?_
      refine vv_icmp_ge (tgt := 55) d_ST_run_9 (by decide) ⟨by omega, by omega⟩ (fun c9 => ?_) (fun c9 => ?_)
      · exfalso; omega
      · skip
        refine vv_aload_n d_ST_run_12 rfl ?_
        refine vv_get d_ST_run_13 0 rfl fl_ST_69 rfl ?_
        refine vv_aload_n d_ST_run_16 rfl ?_
        refine vv_get d_ST_run_17 0 rfl fl_ST_17 rfl ?_
        refine vv_aload_n d_ST_run_20 rfl ?_
        refine vv_pV (wc := [ob_ST x qsh qpa qcu qtk qrs qt ql (S : Int) le (nS : Int) (nP : Int) (i : Int) w.nT w.nR rn, ar_Q qpa cP 8 fP]) (plc := va_pl L f1) [.ref qpa, .ref qt] (c_ST_partsStillWanted (cx_l X) (cx_D X) x qsh qpa qcu qtk qrs qt ql nP (S : Int) le (nS : Int) (i : Int) w.nT w.nR rn cP fP L f1 aP w.R hnP hfP hp.2.1 (fun p hp => by have := (hri.po p hp).2.2.2; omega)) lk_ST_156 d_ST_run_21 rfl (rc_at 0 rfl rfl rfl) [0, 2] ⟨rfl, rfl, Or.inr rfl⟩ [1] rfl ⟨⟨by decide, by decide⟩, ⟨by decide, by decide⟩, Nat.le_of_ble_eq_true rfl⟩ ⟨rfl, rfl⟩ ?_
        intro v hv
        subst hv
        dsimp only [Option.toList, List.cons_append, List.nil_append, List.append_nil]
        refine vv_aload_n d_ST_run_24 rfl ?_
        refine vv_get d_ST_run_25 0 rfl fl_ST_58 rfl ?_
        refine vv_mV hw (wc := [ob_TB qt qs qc K w.W w.F, ar_I qs cI 2312 w.T.1, ar_I qc cI 2312 w.T.2, ar_Q qpa cP 8 fP]) (wr := [ob_ST x qsh qpa qcu qtk qrs qt ql (S : Int) le (nS : Int) (nP : Int) (i : Int) w.nT w.nR rn, ar_Q qsh cS 4 fS, ob_LY ql qt qp qo w.way w.st, ar_I qp cI 256 w.st.2.2.2.1, ar_I qo cI 8 w.st.2.2.2.2, ar_Q qcu cC 20 fC, ar_I qtk cI 400 w.tk, ar_I qrs cI 5120 w.rs]) [] (c_TB_fill (cx_l X) (cx_D X) cI cP qt qs qc qpa (rn_m nP w) K w.W w.F (S : Int) w.T fP L f1 aP w.R hK hm256 (by omega) hfl (by omega) (fun e => (hri.ht _ e).1) hfP hp.2.1 (RI_PW hri hnP) hri.pz) lk_ST_145 d_ST_run_28 rfl (rc_at 6 rfl rfl rfl) [6, 7, 8, 2] [0, 1, 3, 4, 5, 9, 10, 11] ⟨rfl, rfl⟩ ⟨rfl, rfl, by decide⟩ [0, 1] rfl ⟨⟨by decide, by decide⟩, ⟨by decide, by decide⟩, Nat.le_of_ble_eq_true rfl⟩ ⟨rfl, rfl⟩ ?_
        rintro v w1 p1 t1 ⟨rfl, rfl, rfl⟩
        dsimp only [Option.toList, List.cons_append, List.nil_append, List.append_nil]
        refine vv_sub (ws' := [ob_ST x qsh qpa qcu qtk qrs qt ql (S : Int) le (nS : Int) (nP : Int) (i : Int) (fl_u K S nP w).nT (fl_u K S nP w).nR rn, ar_Q qsh cS 4 fS, ar_Q qpa cP 8 fP, ob_LY ql qt qp qo (fl_u K S nP w).way (fl_u K S nP w).st, ar_I qp cI 256 (fl_u K S nP w).st.2.2.2.1, ar_I qo cI 8 (fl_u K S nP w).st.2.2.2.2, ob_TB qt qs qc K (fl_u K S nP w).W (fl_u K S nP w).F, ar_I qs cI 2312 (fl_u K S nP w).T.1, ar_I qc cI 2312 (fl_u K S nP w).T.2, ar_Q qcu cC 20 fC, ar_I qtk cI 400 (fl_u K S nP w).tk, ar_I qrs cI 5120 (fl_u K S nP w).rs]) [0, 1, 11, 2, 3, 4, 8, 9, 10, 5, 6, 7] rfl rfl ?_
        refine vv_aload_n d_ST_run_31 rfl ?_
        refine vv_mV hw (wc := [ob_ST x qsh qpa qcu qtk qrs qt ql (S : Int) le (nS : Int) (nP : Int) (i : Int) (fl_u K S nP w).nT (fl_u K S nP w).nR rn, ar_Q qsh cS 4 fS, ar_Q qpa cP 8 fP, ob_LY ql qt qp qo (fl_u K S nP w).way (fl_u K S nP w).st, ar_I qp cI 256 (fl_u K S nP w).st.2.2.2.1, ar_I qo cI 8 (fl_u K S nP w).st.2.2.2.2, ob_TB qt qs qc K (fl_u K S nP w).W (fl_u K S nP w).F, ar_I qs cI 2312 (fl_u K S nP w).T.1, ar_I qc cI 2312 (fl_u K S nP w).T.2]) (wr := [ar_Q qcu cC 20 fC, ar_I qtk cI 400 (fl_u K S nP w).tk, ar_I qrs cI 5120 (fl_u K S nP w).rs]) [] (c_ST_bestSheet (cx_l X) (cx_D X) x qsh qpa qcu qtk qrs qt ql qp qo qs qc nS S (rn_m nP w) le (nP : Int) (i : Int) (fl_u K S nP w).nT (fl_u K S nP w).nR rn (fl_u K S nP w).way K (fl_u K S nP w).W (fl_u K S nP w).F (fl_u K S nP w).T (fl_u K S nP w).st cI cP cS fS fP L f1 aS aP aC (fl_u K S nP w).Sh (fl_u K S nP w).R (fl_u K S nP w).Cs hnS hS hK hti hcx hfS hfP hp hri.so hri.po) lk_ST_159 d_ST_run_32 rfl (rc_at 0 rfl rfl rfl) [0, 1, 2, 3, 4, 5, 6, 7, 8] [9, 10, 11] ⟨rfl, rfl⟩ ⟨rfl, rfl, by decide⟩ [0, 1, 2] rfl ⟨⟨by decide, by decide⟩, ⟨by decide, by decide⟩, Nat.le_of_ble_eq_true rfl⟩ ⟨rfl, rfl⟩ ?_
        rintro v w1 p1 t1 ⟨rfl, rfl, rfl⟩
        dsimp only [Option.toList, List.cons_append, List.nil_append, List.append_nil]
        refine vv_sub (ws' := [ob_ST x qsh qpa qcu qtk qrs qt ql (S : Int) le (nS : Int) (nP : Int) (i : Int) (bs_u K S nS (fl_u K S nP w)).nT (bs_u K S nS (fl_u K S nP w)).nR rn, ar_Q qsh cS 4 fS, ar_Q qpa cP 8 fP, ob_LY ql qt qp qo (bs_u K S nS (fl_u K S nP w)).way (bs_u K S nS (fl_u K S nP w)).st, ar_I qp cI 256 (bs_u K S nS (fl_u K S nP w)).st.2.2.2.1, ar_I qo cI 8 (bs_u K S nS (fl_u K S nP w)).st.2.2.2.2, ob_TB qt qs qc K (bs_u K S nS (fl_u K S nP w)).W (bs_u K S nS (fl_u K S nP w)).F, ar_I qs cI 2312 (bs_u K S nS (fl_u K S nP w)).T.1, ar_I qc cI 2312 (bs_u K S nS (fl_u K S nP w)).T.2, ar_Q qcu cC 20 fC, ar_I qtk cI 400 (bs_u K S nS (fl_u K S nP w)).tk, ar_I qrs cI 5120 (bs_u K S nS (fl_u K S nP w)).rs]) [3, 4, 5, 6, 7, 8, 9, 10, 11, 0, 1, 2] rfl rfl ?_
        change VV _ _ _ _ _ _ _ _ _ [.int (iI (bs_of K S nS (fl_u K S nP w)).1)] _
        refine vv_istore_n d_ST_run_35 rfl (by decide) ?_
        dsimp only [List.set]
        refine vv_iload_n d_ST_run_36 rfl ?_
        refine vv_iconst d_ST_run_37 ?_
        refine vv_icmp_ne (tgt := 44) d_ST_run_38 (by decide) ⟨by omega, by omega⟩ (fun c38 => ?_) (fun c38 => ?_)
        · skip
          rw [if_neg (by omega)] at hfn
          have hri3 : RI nS nP (i + 1) (co_step le K S (bs_of K S nS (fl_u K S nP w)).1.toNat i (bs_u K S nS (fl_u K S nP w))) := RI_co (m := (rn_m nP w)) (RI_bs hri1) hS hK.1 (by omega) (by omega) hi20 rfl (hb3.resolve_left (by omega))
          have eb : iI (bs_of K S nS (fl_u K S nP w)).1 = iI (((bs_of K S nS (fl_u K S nP w)).1.toNat : Nat) : Int) := by rw [Int.toNat_of_nonneg (by omega)]
          rw [eb]
          refine vv_aload_n d_ST_run_44 rfl ?_
          refine vv_iload_n d_ST_run_45 rfl ?_
          refine vv_mV hw (wc := [ob_ST x qsh qpa qcu qtk qrs qt ql (S : Int) le (nS : Int) (nP : Int) (i : Int) (bs_u K S nS (fl_u K S nP w)).nT (bs_u K S nS (fl_u K S nP w)).nR rn, ar_Q qsh cS 4 fS, ar_Q qpa cP 8 fP, ob_LY ql qt qp qo (bs_u K S nS (fl_u K S nP w)).way (bs_u K S nS (fl_u K S nP w)).st, ar_I qp cI 256 (bs_u K S nS (fl_u K S nP w)).st.2.2.2.1, ar_I qo cI 8 (bs_u K S nS (fl_u K S nP w)).st.2.2.2.2, ob_TB qt qs qc K (bs_u K S nS (fl_u K S nP w)).W (bs_u K S nS (fl_u K S nP w)).F, ar_I qs cI 2312 (bs_u K S nS (fl_u K S nP w)).T.1, ar_I qc cI 2312 (bs_u K S nS (fl_u K S nP w)).T.2, ar_Q qcu cC 20 fC, ar_I qtk cI 400 (bs_u K S nS (fl_u K S nP w)).tk, ar_I qrs cI 5120 (bs_u K S nS (fl_u K S nP w)).rs]) (wr := []) [] (c_ST_cutOneOf (cx_l X) (cx_D X) x qsh qpa qcu qtk qrs qt ql qp qo qs qc nS nP S le rn K cI cP cS cC fS fP fC L f1 aS aP aC hnS hnP hS hK hle hfS hfP hfC hAD (bs_u K S nS (fl_u K S nP w)) (bs_of K S nS (fl_u K S nP w)).1.toNat i (rn_m nP w) (by omega) (by omega) hi20 (RI_bs hri1) rfl (hb3.resolve_left (by omega)) hp) lk_ST_162 d_ST_run_46 rfl (rc_at 0 rfl rfl rfl) [0, 1, 2, 3, 4, 5, 6, 7, 8, 9, 10, 11] [] ⟨rfl, rfl⟩ ⟨rfl, rfl, by decide⟩ [0, 1, 2, 3] rfl ⟨⟨by decide, by decide⟩, ⟨by decide, by decide⟩, Nat.le_of_ble_eq_true rfl⟩ ⟨rfl, rfl⟩ ?_
          rintro v w1 p1 t1 ⟨rfl, rfl, f9, rfl, hp9⟩
          dsimp only [Option.toList, List.cons_append, List.nil_append, List.append_nil]
          refine vv_iinc d_ST_run_49 rfl rfl (by decide) ?_
          dsimp only [List.set]
          refine vv_goto (tgt := 6) d_ST_run_52 (by decide) ?_
          exact ih (i + 1) (by omega) _ _ _ hfn hri3 hp9
        · skip
          refine vv_goto (tgt := 55) d_ST_run_41 (by decide) ?_
          rw [if_pos (by omega)] at hfn
          exact fin i _ f1 _ _ hfn hp
  show VV X (b_ST_run, 3, "SheetTrees", rm_8) _ 0 0 [(cI, .int), (cP, .object "SheetTrees$Part"), (cS, .object "SheetTrees$Sheet"), (cC, .object "SheetTrees$CutSheet")] [ob_ST x qsh qpa qcu qtk qrs qt ql (S : Int) le (nS : Int) (nP : Int) nC u.nT u.nR rn, ar_Q qsh cS 4 fS, ar_Q qpa cP 8 fP, ob_LY ql qt qp qo u.way u.st, ar_I qp cI 256 u.st.2.2.2.1, ar_I qo cI 8 u.st.2.2.2.2, ob_TB qt qs qc K u.W u.F, ar_I qs cI 2312 u.T.1, ar_I qc cI 2312 u.T.2, ar_Q qcu cC 20 fC, ar_I qtk cI 400 u.tk, ar_I qrs cI 5120 u.rs] (va_pl L f) [some (.ref x), none, none] [] 0
  refine vv_aload_n d_ST_run_0 rfl ?_
  refine vv_mV hw (wc := [ob_ST x qsh qpa qcu qtk qrs qt ql (S : Int) le (nS : Int) (nP : Int) nC u.nT u.nR rn, ar_Q qsh cS 4 fS, ar_Q qpa cP 8 fP]) (wr := [ob_LY ql qt qp qo u.way u.st, ar_I qp cI 256 u.st.2.2.2.1, ar_I qo cI 8 u.st.2.2.2.2, ob_TB qt qs qc K u.W u.F, ar_I qs cI 2312 u.T.1, ar_I qc cI 2312 u.T.2, ar_Q qcu cC 20 fC, ar_I qtk cI 400 u.tk, ar_I qrs cI 5120 u.rs]) [] (c_ST_startRun (cx_l X) (cx_D X) x qsh qpa qcu qtk qrs qt ql nS nP (S : Int) le nC u.nT u.nR rn cS cP fS fP L f aS aP aC u.Sh u.R u.Cs hnS hnP hfS hfP hPL hAD) lk_ST_153 d_ST_run_1 rfl (rc_at 0 rfl rfl rfl) [0, 1, 2] [3, 4, 5, 6, 7, 8, 9, 10, 11] ⟨rfl, rfl⟩ ⟨rfl, rfl, by decide⟩ [2, 1] rfl ⟨⟨by decide, by decide⟩, ⟨by decide, by decide⟩, Nat.le_of_ble_eq_true rfl⟩ ⟨rfl, rfl⟩ ?_
  rintro v w1 p1 t1 ⟨rfl, rfl, f1, rfl, hp1⟩
  dsimp only [Option.toList, List.cons_append, List.nil_append, List.append_nil]
  refine vv_sub (ws' := [ob_ST x qsh qpa qcu qtk qrs qt ql (S : Int) le (nS : Int) (nP : Int) ((0 : Nat) : Int) (st_u nS nP u).nT (st_u nS nP u).nR rn, ar_Q qsh cS 4 fS, ar_Q qpa cP 8 fP, ob_LY ql qt qp qo (st_u nS nP u).way (st_u nS nP u).st, ar_I qp cI 256 (st_u nS nP u).st.2.2.2.1, ar_I qo cI 8 (st_u nS nP u).st.2.2.2.2, ob_TB qt qs qc K (st_u nS nP u).W (st_u nS nP u).F, ar_I qs cI 2312 (st_u nS nP u).T.1, ar_I qc cI 2312 (st_u nS nP u).T.2, ar_Q qcu cC 20 fC, ar_I qtk cI 400 (st_u nS nP u).tk, ar_I qrs cI 5120 (st_u nS nP u).rs]) [9, 10, 11, 0, 1, 2, 3, 4, 5, 6, 7, 8] rfl rfl ?_
  refine vv_iconst d_ST_run_4 ?_
  refine vv_istore_n d_ST_run_5 rfl (by decide) ?_
  dsimp only [List.set]
  exact loop 20 0 (by omega) (st_u nS nP u) f1 _ rfl hI hp1
