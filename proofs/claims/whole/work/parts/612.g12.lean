/-! pure: a run, class and reference -/
theorem fit_ext {R R' : Nat → pa_T} {m : Nat} (h : ∀ p : Nat, (R p).1 = (R' p).1 ∧ (R p).2.1 = (R' p).2.1 ∧ (R p).2.2.1 = (R' p).2.2.1) : fit R m = fit R' m := by
  funext p w h'
  obtain ⟨e1, e2, e3⟩ := h p
  unfold fit
  rw [e1, e2, e3]
def DR (K : Int) (S nS nP : Nat) (R0 : Nat → pa_T) (sw sh ce : Nat → Int) (i : Nat) (u : RS) (r : mr_T) : Prop := RI nS nP i u ∧ MRI nS r ∧ IT K u.R u.W u.F u.T ∧ (∀ p : Nat, (u.R p).1 = (R0 p).1 ∧ (u.R p).2.1 = (R0 p).2.1 ∧ (u.R p).2.2.1 = (R0 p).2.2.1) ∧ (∀ p : Nat, p < 8 → r.1 p = (u.R p).2.2.2.2) ∧ SHR nS u.Sh sw sh ce r.2.1 ∧ ∀ j : Nat, j < i → QR K S nS R0 sw sh ce (rn_m nP u) u r.2.2.1 r.2.2.2.1 r.2.2.2.2.1.2.2 j
/-- the tables of a round -/
def TBS (K : Int) (S nP : Nat) (u : RS) (r : mr_T) : Prop := u.W = ((rn_m nP u : Nat) : Int) ∧ CTb (ux u.R (rn_m nP u)) K u.T (fun s' _ _ _ => s' ≤ S) ∧ RTb (uo (fit u.R (rn_m nP u))) K r.2.2.2.2.2 (fun s' _ _ _ => s' < 4)
section RUN
variable {K le : Int} {S nS nP : Nat} {R0 : Nat → pa_T} {pw ph tu sw sh ce : Nat → Int}
theorem fit_ref {u : RS} {r : mr_T} (hP : nP ≤ 8) (hPR : ∀ p : Nat, p < nP → (u.R p).1 = pw p ∧ (u.R p).2.1 = ph p ∧ (u.R p).2.2.1 = tu p) (hwa : ∀ p : Nat, p < 8 → r.1 p = (u.R p).2.2.2.2) : (∀ (k : Nat) (w h : Int), k < nP → ((0 < r.1 k ∧ jst pw ph tu k w h = 1) ↔ fit u.R (rn_m nP u) k w h = true)) ∧ ∀ (k : Nat) (w h : Int), nP ≤ k → k < 8 → fit u.R (rn_m nP u) k w h = false := by
  refine ⟨fun k w h hk => ?_, fun k w h h1 h2 => ?_⟩
  · obtain ⟨e1, e2, e3⟩ := hPR k hk
    have hb := pu_bit (co := fun p => (u.R p).2.2.2.2) (p := k) nP
    have hb2 : rn_m nP u / 2 ^ k % 2 = 1 ↔ k < nP ∧ 0 < (u.R k).2.2.2.2 := hb
    unfold fit jst
    rw [decide_eq_true_iff, hb2, hwa k (by omega), e1, e2, e3]
    constructor
    · rintro ⟨x1, x2⟩
      refine ⟨⟨hk, x1⟩, ?_⟩
      split at x2
      · rename_i hx
        rcases hx with hx | ⟨y1, y2, y3⟩
        · exact Or.inl hx
        · exact Or.inr ⟨y1, y3, y2⟩
      · omega
    · rintro ⟨⟨_, x1⟩, x2⟩
      refine ⟨x1, if_pos ?_⟩
      rcases x2 with x2 | ⟨y1, y2, y3⟩
      · exact Or.inl x2
      · exact Or.inr ⟨y1, y3, y2⟩
  · refine decide_eq_false (fun q => ?_)
    have := (pu_bit (co := fun p => (u.R p).2.2.2.2) (p := k) nP).mp q.1
    omega
theorem DR_e {i : Nat} {u : RS} {r : mr_T} (hK : 0 ≤ K) (hS : 1 ≤ S ∧ S ≤ 3) (hP : nP ≤ 8) (hPR : ∀ p : Nat, p < nP → (R0 p).1 = pw p ∧ (R0 p).2.1 = ph p ∧ (R0 p).2.2.1 = tu p) (ht : told nS sw sh ce) (h : DR K S nS nP R0 sw sh ce i u r) : DR K S nS nP R0 sw sh ce i (bs_u K S nS (fl_u K S nP u)) (mr_e pw ph tu sw sh ce nS nP K le S (i : Int) r) ∧ TBS K S nP (bs_u K S nS (fl_u K S nP u)) (mr_e pw ph tu sw sh ce nS nP K le S (i : Int) r) ∧ (bs_of K S nS (fl_u K S nP u)).1 = (mr_b pw ph tu sw sh ce nS nP K le S (i : Int) r).1 ∧ MBI ce r.2.1 (nS : Int) (mr_b pw ph tu sw sh ce nS nP K le S (i : Int) r) := by
  obtain ⟨d1, d2, d3, d4, d5, d6, d7⟩ := h
  obtain ⟨m1, m2, m3, m4⟩ := d2
  have htd : TOLD nS sw sh := fun k hk => ⟨(ht k hk).1, (ht k hk).2.1⟩
  obtain ⟨c1, c2⟩ := IT_fl (S := (S : Int)) hK (by omega) d1.f0 (RI_PW d1 hP) d3
  have hC : CTb (ux u.R (rn_m nP u)) K (fl_u K S nP u).T (fun s' _ _ _ => s' ≤ S) := CTb_mono c1 (fun s' _ _ _ _ q => by show (s' : Int) ≤ _; omega)
  obtain ⟨f1, f2⟩ := fit_ref (u := u) (r := r) (pw := pw) (ph := ph) (tu := tu) hP (fun p hp => by
    obtain ⟨a1, a2, a3⟩ := d4 p
    obtain ⟨b1, b2, b3⟩ := hPR p hp
    exact ⟨a1.trans b1, a2.trans b2, a3.trans b3⟩) d5
  have hM := RTb_s hK hP f1 f2 m3 4 (Nat.le_refl _)
  have hH := MCH_fs (pw := pw) (ph := ph) (tu := tu) (wa := r.1) (K := K) m4 hP 4 (Nat.le_refl _)
  have hMI := MI_fs (pw := pw) (ph := ph) (tu := tu) (wa := r.1) (nP := nP) m3 hK 4 (Nat.le_refl _)
  have hwa : ∀ p : Nat, p < 8 → r.1 p = (u.R p).2.2.2.2 ∧ 0 ≤ r.1 p ∧ r.1 p ≤ 50 := fun p hp => ⟨d5 p hp, (m1 p hp).1, (m1 p hp).2⟩
  have hBR : BR ce r.2.2.1 r.2.2.2.1 r.2.2.2.2.1.2.2 i (nS : Int) (bs_of K S nS (fl_u K S nP u)) (mr_b pw ph tu sw sh ce nS nP K le S (i : Int) r) := BR_go (R := u.R) (m := rn_m nP u) (Sh := u.Sh) (T := (fl_u K S nP u).T) hK hS.2 hC hM hH hwa d6 ⟨rfl, by show (-1 : Int) ≤ -1; omega, by show (-1 : Int) < 0; omega, fun _ => ⟨rfl, rfl⟩, fun q => by have : (0 : Int) ≤ -1 := q; omega, I6_refl _ _, fun _ _ => ⟨rfl, rfl⟩⟩ nS (Nat.le_refl _)
  have hMB : MBI ce r.2.1 (nS : Int) (mr_b pw ph tu sw sh ce nS nP K le S (i : Int) r) := MBI_go hH hK (by omega) ht m1 ⟨⟨by show (-1 : Int) ≤ -1; omega, by show (-1 : Int) < 0; omega⟩, ⟨by show (0 : Int) ≤ 0; omega, by show (0 : Int) ≤ 256; omega⟩, fun q => by have : (0 : Int) ≤ -1 := q; omega⟩ nS (Nat.le_refl _)
  have hRI := RI_fl (S := S) d1 hP hS.2 hK
  refine ⟨⟨hRI.1, ⟨m1, m2, hMI, hH⟩, ?_, d4, d5, d6, fun j hj => ?_⟩, ⟨rfl, hC, hM⟩, hBR.1, hMB⟩
  · intro m hm
    have e : m = rn_m nP u := by
      have hm2 : (m : Int) = ((rn_m nP u : Nat) : Int) := hm
      omega
    rw [e]
    exact c1
  · exact QR_keep (t := i) hj (fun j' hj' => by
      have := QR_nc hK hS.2 htd (d7 j' hj')
      omega) (d7 j hj) (fun p _ hb => hb) rfl (Int.le_refl _) (Int.le_refl _) (fun _ _ => rfl) (fun _ _ => rfl) (fun j' hj' => hBR.2.2.2.2.2.2 j' hj') hBR.2.2.2.2.2.1
theorem DR_c {i b : Nat} {u : RS} {r : mr_T} (hK : 0 ≤ K) (hS : 1 ≤ S ∧ S ≤ 3) (hP : nP ≤ 8) (hN : nS ≤ 4) (ht : told nS sw sh ce) (hi : i < 20) (hb : b < nS) (hun : 0 < r.2.1 b) (h : DR K S nS nP R0 sw sh ce i u r) (hT : TBS K S nP u r) : DR K S nS nP R0 sw sh ce (i + 1) (co_step le K S b i u) (mr_c sw sh K le S (i : Int) b r) := by
  obtain ⟨d1, d2, d3, d4, d5, d6, d7⟩ := h
  obtain ⟨m1, m2, m3, m4⟩ := d2
  obtain ⟨t1, t2, t3⟩ := hT
  have htd : TOLD nS sw sh := fun k hk => ⟨(ht k hk).1, (ht k hk).2.1⟩
  obtain ⟨so, e1, e2, e3, e4⟩ := d6 b hb
  have hr : rg S (sw b) (sh b) := ⟨hS.2, (htd b hb).1, (htd b hb).2⟩
  have eT : ((i : Int)).toNat = i := Int.toNat_natCast i
  have hm8 : rn_m nP u < 256 := pu_256 hP
  -- the layout and the walk
  have hIN := one_IN (le := le) (t := i) (wa := r.1) (s0 := (u.nT, u.nR, u.tk, u.rs, u.R, cs_from (co_c K S b i u) u.nT u.nR)) hK t2 t3 m4 hr ⟨d1.t0, d1.r0⟩ rfl rfl (fun p hp => ⟨d5 p hp, (m1 p hp).1⟩) u.st r.2.2.2.2.1
  have eL : lay u.T K S (sw b) (sh b) u.st = sh_l u.T K S (u.Sh b) u.st := by
    unfold sh_l
    rw [e1, e2]
  rw [eL] at hIN
  have eX : tsl le (u.nT, u.nR, u.tk, u.rs, u.R, cs_from (co_c K S b i u) u.nT u.nR) (sh_l u.T K S (u.Sh b) u.st) = co_ts le K S b i u := rfl
  obtain ⟨i1, i2, i3, i4, i5, i6⟩ := hIN
  rw [eX] at i3
  have eV : (mr_c sw sh K le S (i : Int) b r).2.2.2.2.1.2.2 = (mw_all r.2.2.2.2.2 K le S (i : Int) (sw b) (sh b) r.1 r.2.2.2.2.1).2.2 := rfl
  have hok := mw_all_ok (T := r.2.2.2.2.2) (K := K) (le := le) (S := (S : Int)) (t := (i : Int)) (w := sw b) (h := sh b) (wa := r.1) (u := r.2.2.2.2.1) m4 hK (by omega) hr.2.1 hr.2.2 m1
  have hW := MWI_go (le := le) m4 hK 512 _ (MWI_0 (T := r.2.2.2.2.2) (S := (S : Int)) (t := (i : Int)) (u := r.2.2.2.2.1) (by omega) hr.2.1 hr.2.2 m1).1
  have hSA := SA_ge _ hW.1
  have hcnt := hW.2.2.1
  rw [eT] at hcnt
  have htc : mv_T.tc (mw_all r.2.2.2.2.2 K le S (i : Int) (sw b) (sh b) r.1 r.2.2.2.2.1).2.2 i ≤ 256 ∧ mv_T.rc (mw_all r.2.2.2.2.2 K le S (i : Int) (sw b) (sh b) r.1 r.2.2.2.2.1).2.2 i ≤ 256 := by
    obtain ⟨x1, x2, x3⟩ := hcnt
    have y1 : 0 ≤ mv_T.tc (mw_all r.2.2.2.2.2 K le S (i : Int) (sw b) (sh b) r.1 r.2.2.2.2.1).2.2 i := x1
    have y2 : 0 ≤ mv_T.rc (mw_all r.2.2.2.2.2 K le S (i : Int) (sw b) (sh b) r.1 r.2.2.2.2.1).2.2 i := x2
    constructor
    · show mw_T.tc (mw_go _ _ _ _ _ _) i ≤ 256
      omega
    · show mw_T.rc (mw_go _ _ _ _ _ _) i ≤ 256
      omega
  have est : (mw_all r.2.2.2.2.2 K le S (i : Int) (sw b) (sh b) r.1 r.2.2.2.2.1).st = mv_T.st (mw_all r.2.2.2.2.2 K le S (i : Int) (sw b) (sh b) r.1 r.2.2.2.2.1).2.2 := rfl
  rw [est] at hok
  obtain ⟨v, hv⟩ : ∃ v : mv_T, (mw_all r.2.2.2.2.2 K le S (i : Int) (sw b) (sh b) r.1 r.2.2.2.2.1).2.2 = v := ⟨_, rfl⟩
  rw [hv] at i1 i2 i3 i4 i6 eV htc hok
  obtain ⟨a1, a2, a3, a4, a5, a6, a7, a8, a9, a10⟩ := i3
  have hwy : wy r.2.2.2.2.2 S (sw b) (sh b) = bz (wyd (fit R0 (rn_m nP u)) K S (sw b) (sh b)) := by
    rw [← wyb_z, one_wyb t3 hr, fit_ext d4]
  have hsw : sh_w u.T S (u.Sh b) = bz (wyd (fit R0 (rn_m nP u)) K S (sw b) (sh b)) := by
    unfold sh_w
    rw [e1, e2, one_way t2 hr, fit_ext d4]
  have eTR : TR K S u.R (rn_m nP u) (sw b) (sh b) = TR K S R0 (rn_m nP u) (sw b) (sh b) := by
    unfold TR
    rw [fit_ext d4]
  rw [eTR] at i1 i2 i5
  -- the new state's parts
  have hwa' : ∀ p : Nat, p < 8 → cp r.1 v.st 8 p = v.st p := fun p hp => by rw [cp_at 8 p, if_pos hp]
  have hleft : ∀ p : Nat, p < 8 → ((co_ts le K S b i u).R p).2.2.2.2 ≤ (u.R p).2.2.2.2 := fun p hp => by
    have h1 := (i4.1 p hp)
    have h2 := a4 p hp
    have h3 := m1 p hp
    have h4 := d5 p hp
    have h5 : v.st p = max 0 ((u.R p).2.2.2.2 - (sh_l u.T K S (u.Sh b) u.st).2.2.2.2 p) := h1.2
    have h6 := h1.1
    omega
  have hmask : ∀ p : Nat, p < 8 → bitm (rn_m nP (co_step le K S b i u)) p → bitm (rn_m nP u) p := fun p hp hbp => by
    have h1 := (pu_bit (co := fun p => ((co_step le K S b i u).R p).2.2.2.2) (p := p) nP).mp hbp
    refine (pu_bit (co := fun p => (u.R p).2.2.2.2) (p := p) nP).mpr ⟨h1.1, ?_⟩
    have h2 : 0 < ((co_ts le K S b i u).R p).2.2.2.2 := h1.2
    have h3 := hleft p hp
    show 0 < (u.R p).2.2.2.2
    omega
  have eCs : ∀ j : Nat, j ≠ i → (co_step le K S b i u).Cs j = u.Cs j := fun j hj => va_up_ne _ _ hj
  have eCi : (co_step le K S b i u).Cs i = va_up (cs_to (co_ts le K S b i u)) 12 (co_fa le K S b i u : Nat) := va_up_self _ _ _
  have hofr : ∀ j : Nat, j ≠ i → (mr_c sw sh K le S (i : Int) b r).2.2.1 j = r.2.2.1 j ∧ (mr_c sw sh K le S (i : Int) b r).2.2.2.1 j = r.2.2.2.1 j := fun j hj => by
    show va_up r.2.2.1 ((i : Int)).toNat (b : Int) j = _ ∧ va_up r.2.2.2.1 ((i : Int)).toNat _ j = _
    rw [eT, va_up_ne _ _ hj, va_up_ne _ _ hj]
    exact ⟨rfl, rfl⟩
  have hofi : (mr_c sw sh K le S (i : Int) b r).2.2.1 i = (b : Int) := by
    show va_up r.2.2.1 ((i : Int)).toNat (b : Int) i = _
    rw [eT, va_up_self]
  have hfwi : (mr_c sw sh K le S (i : Int) b r).2.2.2.1 i = wy r.2.2.2.2.2 S (sw b) (sh b) := by
    show va_up r.2.2.2.1 ((i : Int)).toNat _ i = _
    rw [eT, va_up_self]
  have hnc : ∀ j : Nat, j < i → 0 ≤ mv_T.nc r.2.2.2.2.1.2.2 j ∧ mv_T.nc r.2.2.2.2.1.2.2 j ≤ 600 := fun j hj => by
    have := QR_nc hK hS.2 htd (d7 j hj)
    omega
  -- the older records
  have hold : ∀ j : Nat, j < i → QR K S nS R0 sw sh ce (rn_m nP (co_step le K S b i u)) (co_step le K S b i u) (mr_c sw sh K le S (i : Int) b r).2.2.1 (mr_c sw sh K le S (i : Int) b r).2.2.2.1 v j := fun j hj =>
    QR_keep (t := i) hj hnc (d7 j hj) hmask (eCs j (by omega)) (by show u.nT ≤ (co_ts le K S b i u).1; have : v.tc i = (co_ts le K S b i u).1 - u.nT := a1.1; have := a1.2; omega) (by show u.nR ≤ (co_ts le K S b i u).2.1; have : v.rc i = (co_ts le K S b i u).2.1 - u.nR := a2.1; have := a2.2; omega) a8 a9 hofr i6
  have hCx : ∀ k : Nat, k ≠ 9 → (co_ts le K S b i u).c k = cs_from (co_c K S b i u) u.nT u.nR k := a10
  have c7 : (co_ts le K S b i u).c 7 = u.nT := hCx 7 (by decide)
  have c10 : (co_ts le K S b i u).c 10 = u.nR := hCx 10 (by decide)
  have n0 : (co_step le K S b i u).Cs i 0 = (b : Int) := by
    rw [eCi]
    exact co_c0
  have n7 : (co_step le K S b i u).Cs i 7 = u.nT := by
    rw [eCi]
    exact c7
  have n10 : (co_step le K S b i u).Cs i 10 = u.nR := by
    rw [eCi]
    exact c10
  have n8 : (co_step le K S b i u).Cs i 8 = v.tc i := by
    rw [eCi]
    show (co_ts le K S b i u).1 - (co_ts le K S b i u).c 7 = _
    rw [c7]
    exact a1.1.symm
  have n11 : (co_step le K S b i u).Cs i 11 = v.rc i := by
    rw [eCi]
    show (co_ts le K S b i u).2.1 - (co_ts le K S b i u).c 10 = _
    rw [c10]
    exact a2.1.symm
  have n9 : (co_step le K S b i u).Cs i 9 = v.ta i := by
    rw [eCi]
    exact a3.symm
  have n1 : (co_step le K S b i u).Cs i 1 = ce b := by
    rw [eCi]
    exact (hCx 1 (by decide)).trans e3
  have n2 : (co_step le K S b i u).Cs i 2 = sw b * sh b := by
    rw [eCi]
    refine (hCx 2 (by decide)).trans ?_
    show (u.Sh b).1 * (u.Sh b).2.1 = _
    rw [e1, e2]
  have n3 : (co_step le K S b i u).Cs i 3 = sh_w u.T S (u.Sh b) := by
    rw [eCi]
    exact hCx 3 (by decide)
  have n4 : (co_step le K S b i u).Cs i 4 = v.cc i := by
    rw [eCi]
    exact (hCx 4 (by decide)).trans i1.2.1
  have n5 : (co_step le K S b i u).Cs i 5 = v.mi i := by
    rw [eCi]
    exact (hCx 5 (by decide)).trans i1.2.2
  have n6 : (co_step le K S b i u).Cs i 6 = ((pu_m (sh_l u.T K S (u.Sh b) u.st).2.2.2.2 8 : Nat) : Int) := by
    rw [eCi]
    exact hCx 6 (by decide)
  have n12 : (co_step le K S b i u).Cs i 12 = ((co_fa le K S b i u : Nat) : Int) := by
    rw [eCi, va_up_self]
  -- who is alike
  have hal : ∀ j : Nat, j < i → (iaP (mr_c sw sh K le S (i : Int) b r).2.2.1 v.nc (mr_c sw sh K le S (i : Int) b r).2.2.2.1 v.no (j : Int) (i : Int) ↔ (u.Cs j 0 = (b : Int) ∧ al_z (u.Cs j 6) u.W = 0)) := fun j hj => by
    obtain ⟨k', m', pu, f, q1, q2, _⟩ := hold j hj
    obtain ⟨k2, m2', pu2, f2, p1, p2, _⟩ := d7 j hj
    have hc := eCs j (by omega)
    rw [hc] at q1 q2
    rw [q1.2.2.1, q2.2.2.2.2.1, t1]
    exact alike_iff (k := b) (m := rn_m nP u) (m' := m2') (pu := pu) hK hS.2 htd hb q1.1 hofi q1.2.1 hm8 q2.2.2.2.2.2.1 p2.1 (hfwi.trans hwy) (by
      have z1 := p2.2.1
      have z2 := p1.2.2.1
      have z3 := q1.2.2.1
      have z4 : k2 = k' := by omega
      rw [(hofr j (by omega)).2, z1, z4]) i2 (by
      have z2 := p1.2.2.1
      have z3 := q1.2.2.1
      have z4 : k2 = k' := by omega
      have z5 := p2.2.2.2.1
      rw [z4] at z5
      refine ⟨by rw [(i6.1 j (by omega)).2.2.2.2.2]; exact z5.1, fun n q hq => ?_⟩
      have hlt := (List.getElem?_eq_some_iff.mp hq).1
      have hl : (n : Int) < mv_T.nc r.2.2.2.2.1.2.2 j := by rw [z5.1]; omega
      rw [i6.2.1 _ (by have := hnc j hj; omega)]
      exact z5.2 n q hq) (fun p hp => by
      have z2 := p1.2.2.1
      have z3 := q1.2.2.1
      have z4 : k2 = k' := by omega
      have z6 := p2.2.2.2.2.1
      have z7 := q2.2.2.2.2.1
      have z8 : pu2 = pu := by omega
      have z9 := p2.2.2.2.2.2.2 p hp
      rw [z8, z4] at z9
      exact z9)
  have hfa := fa_spec (Cs := co_cs le K S b i u) (sh := co_cs le K S b i u i 0) (W := u.W) i 0
  have ecs : ∀ j : Nat, j < i → co_cs le K S b i u j = u.Cs j := fun j hj => va_up_ne _ _ (by omega)
  have eci0 : co_cs le K S b i u i 0 = (b : Int) := by
    show va_up u.Cs i _ i 0 = _
    rw [va_up_self]
    exact co_c0
  have efa : fa_at (co_cs le K S b i u) (co_cs le K S b i u i 0) u.W i 0 = co_fa le K S b i u := rfl
  rw [efa, eci0] at hfa
  obtain ⟨_, fa2, fa3, fa4⟩ := hfa
  have hnew : QR K S nS R0 sw sh ce (rn_m nP (co_step le K S b i u)) (co_step le K S b i u) (mr_c sw sh K le S (i : Int) b r).2.2.1 (mr_c sw sh K le S (i : Int) b r).2.2.2.1 v i := by
    refine ⟨b, rn_m nP u, pu_m (sh_l u.T K S (u.Sh b) u.st).2.2.2.2 8, co_fa le K S b i u, ⟨hb, hofi, n0, n1, n2⟩, ⟨hmask, hfwi.trans hwy, ?_, i2, n6, pu_256 (Nat.le_refl 8), fun p hp => ?_⟩, ⟨n4, n5, n8, n9, n11⟩, ⟨?_, a1.2, htc.1, ?_, fun j g hj hg => ?_⟩, ⟨?_, a2.2, htc.2, ?_, fun j g hj hg => ?_⟩, ⟨n12, by omega, ?_, fun j hj => ?_⟩⟩
    · rw [n3, hfwi, hwy, hsw]
    · refine (pu_bit (co := (sh_l u.T K S (u.Sh b) u.st).2.2.2.2) (p := p) 8).trans ?_
      rw [i5 p hp |>.symm]
      exact ⟨fun x => x.2, fun x => ⟨hp, x⟩⟩
    · rw [n7]
      exact d1.t0
    · rw [n7]
      show u.nT + v.tc i ≤ (co_ts le K S b i u).1
      have : v.tc i = (co_ts le K S b i u).1 - u.nT := a1.1
      omega
    · rw [n7]
      exact a6 j g hj hg
    · rw [n10]
      exact d1.r0
    · rw [n10]
      show u.nR + v.rc i ≤ (co_ts le K S b i u).2.1
      have : v.rc i = (co_ts le K S b i u).2.1 - u.nR := a2.1
      omega
    · rw [n10]
      exact a7 j g hj hg
    · by_cases e : co_fa le K S b i u = i
      · rw [e]
        exact ⟨⟨rfl, rfl, rfl⟩, fun _ _ => rfl⟩
      · have hlt : co_fa le K S b i u < i := by omega
        have h4 := fa4 (by omega)
        rw [ecs _ hlt] at h4
        exact (hal _ hlt).mpr h4
    · intro hia
      have hlt : j < i := by omega
      have h3 := fa3 j (by omega) hj
      rw [ecs j hlt] at h3
      exact h3 ((hal j hlt).mp hia)
  refine ⟨RI_co (le := le) (K := K) (S := S) (m := rn_m nP u) d1 hS.2 hK hb (by omega) hi t1 (by rw [e4]; exact hun), ⟨?_, ?_, m3, m4⟩, ?_, ?_, ?_, ?_, ?_⟩
  · intro p hp
    show 0 ≤ cp r.1 _ 8 p ∧ cp r.1 _ 8 p ≤ 50
    have e0 : cp r.1 (mb_u r.2.2.2.2.2 K le S (i : Int) r.1 sw sh b r.2.2.2.2.1).st 8 p = v.st p := by
      rw [cp_at 8 p, if_pos hp]
      show mv_T.st (mw_all r.2.2.2.2.2 K le S (i : Int) (sw b) (sh b) r.1 r.2.2.2.2.1).2.2 p = v.st p
      rw [hv]
    rw [e0]
    exact hok.2 p hp
  · intro k hk
    show 0 ≤ va_up r.2.1 b (r.2.1 b - 1) k ∧ va_up r.2.1 b (r.2.1 b - 1) k ≤ 20
    by_cases e : k = b
    · subst e
      rw [va_up_self]
      have := m2 k hk
      omega
    · rw [va_up_ne _ _ e]
      exact m2 k hk
  · intro m hm
    have h1 := d3 m hm
    have e : ux (co_step le K S b i u).R m = ux u.R m := ux_ext (fun p _ _ => ⟨(a5 p).1, (a5 p).2.1, (a5 p).2.2.1⟩)
    rw [e]
    exact h1
  · intro p
    obtain ⟨x1, x2, x3, _⟩ := a5 p
    obtain ⟨y1, y2, y3⟩ := d4 p
    exact ⟨x1.trans y1, x2.trans y2, x3.trans y3⟩
  · intro p hp
    show cp r.1 _ 8 p = ((co_ts le K S b i u).R p).2.2.2.2
    have e0 : cp r.1 (mb_u r.2.2.2.2.2 K le S (i : Int) r.1 sw sh b r.2.2.2.2.1).st 8 p = v.st p := by
      rw [cp_at 8 p, if_pos hp]
      show mv_T.st (mw_all r.2.2.2.2.2 K le S (i : Int) (sw b) (sh b) r.1 r.2.2.2.2.1).2.2 p = v.st p
      rw [hv]
    rw [e0]
    exact a4 p hp
  · intro k hk
    obtain ⟨s1, s2, s3, s4, s5⟩ := d6 k hk
    show SO (va_up u.Sh b (co_r (u.Sh b)) k) ∧ (va_up u.Sh b (co_r (u.Sh b)) k).1 = _ ∧ (va_up u.Sh b (co_r (u.Sh b)) k).2.1 = _ ∧ (va_up u.Sh b (co_r (u.Sh b)) k).2.2.1 = _ ∧ (va_up u.Sh b (co_r (u.Sh b)) k).2.2.2.2 = va_up r.2.1 b (r.2.1 b - 1) k
    by_cases e : k = b
    · subst e
      rw [va_up_self, va_up_self]
      refine ⟨?_, s2, s3, s4, ?_⟩
      · unfold SO at s1 ⊢
        unfold co_r
        exact ⟨s1.1, s1.2.1, s1.2.2.1, by show 0 ≤ (u.Sh k).2.2.2.2 - 1; omega, by show (u.Sh k).2.2.2.2 - 1 ≤ 20; omega⟩
      · show (u.Sh k).2.2.2.2 - 1 = _
        rw [s5]
    · rw [va_up_ne _ _ e, va_up_ne _ _ e]
      exact ⟨s1, s2, s3, s4, s5⟩
  · intro j hj
    rw [eV]
    by_cases e : j = i
    · subst e
      exact hnew
    · exact hold j (by omega)
/-- a run's rounds -/
theorem run_sim (hK : 0 ≤ K) (hS : 1 ≤ S ∧ S ≤ 3) (hP : nP ≤ 8) (hN : nS ≤ 4) (hPR : ∀ p : Nat, p < nP → (R0 p).1 = pw p ∧ (R0 p).2.1 = ph p ∧ (R0 p).2.2.1 = tu p) (ht : told nS sw sh ce) : ∀ (n i : Nat) (u : RS) (r : mr_T), i + n ≤ 20 → DR K S nS nP R0 sw sh ce i u r → (run_go le K S nS nP n i u).1 = (mr_go pw ph tu sw sh ce nS nP K le S n i r).1 ∧ DR K S nS nP R0 sw sh ce (run_go le K S nS nP n i u).1 (run_go le K S nS nP n i u).2 (mr_go pw ph tu sw sh ce nS nP K le S n i r).2 ∧ (run_go le K S nS nP n i u).1 ≤ 20
  | 0, i, u, r, hi, h => ⟨rfl, h, by show i ≤ 20; omega⟩
  | n + 1, i, u, r, hi, h => by
    obtain ⟨h1, h2, h3, h4⟩ := DR_e (le := le) hK hS hP hPR ht h
    unfold run_go mr_go
    by_cases e : (bs_of K S nS (fl_u K S nP u)).1 = -1
    · rw [if_pos e, if_pos (by rw [← h3]; omega)]
      exact ⟨rfl, h1, by show i ≤ 20; omega⟩
    · have hb := h4.1
      have hb2 := h4.2.2
      rw [if_neg e, if_neg (by omega), h3]
      have hbn : (mr_b pw ph tu sw sh ce nS nP K le S (i : Int) r).1.toNat < nS := by omega
      have hc := DR_c (le := le) (i := i) (r := mr_e pw ph tu sw sh ce nS nP K le S (i : Int) r) hK hS hP hN ht (by omega) hbn (hb2 (by omega)) h1 h2
      exact run_sim hK hS hP hN hPR ht n (i + 1) _ _ (by omega) hc
end RUN
