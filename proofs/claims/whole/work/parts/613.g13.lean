/-! pure: bounds that a run keeps -/
/-- pieces are numbers of 31 bits -/
def BU (nT nR : Int) (tk rs : Nat → Int) : Prop := (∀ i : Nat, (i : Int) < nT → 0 ≤ tk i ∧ tk i < 2147483648) ∧ ∀ i : Nat, (i : Int) < nR → 0 ≤ rs i ∧ rs i < 2147483648
theorem BU_step {le q : Int} {s : ts_T} (h : BU s.1 s.2.1 s.2.2.1 s.2.2.2.1) (h0 : 0 ≤ s.1 ∧ 0 ≤ s.2.1) (hq : 0 ≤ q ∧ q < 2147483648) : BU (ts_step le q s).1 (ts_step le q s).2.1 (ts_step le q s).2.2.1 (ts_step le q s).2.2.2.1 ∧ 0 ≤ (ts_step le q s).1 ∧ 0 ≤ (ts_step le q s).2.1 := by
  obtain ⟨h1, h2⟩ := h
  unfold ts_step
  split
  · split
    · refine ⟨⟨h1, fun i hi => ?_⟩, h0.1, by show 0 ≤ s.2.1 + 1; omega⟩
      have hi2 : (i : Int) < s.2.1 + 1 := hi
      show 0 ≤ va_up s.2.2.2.1 s.2.1.toNat q i ∧ va_up s.2.2.2.1 s.2.1.toNat q i < 2147483648
      by_cases e : i = s.2.1.toNat
      · rw [e, va_up_self]
        exact hq
      · rw [va_up_ne _ _ e]
        exact h2 i (by omega)
    · exact ⟨⟨h1, h2⟩, h0⟩
  · split
    · split
      · refine ⟨⟨fun i hi => ?_, h2⟩, by show 0 ≤ s.1 + 1; omega, h0.2⟩
        have hi2 : (i : Int) < s.1 + 1 := hi
        show 0 ≤ va_up s.2.2.1 s.1.toNat q i ∧ va_up s.2.2.1 s.1.toNat q i < 2147483648
        by_cases e : i = s.1.toNat
        · rw [e, va_up_self]
          exact hq
        · rw [va_up_ne _ _ e]
          exact h1 i (by omega)
      · exact ⟨⟨h1, h2⟩, h0⟩
    · exact ⟨⟨h1, h2⟩, h0⟩
theorem BU_go {le : Int} {ps : Nat → Int} {s : ts_T} (h : BU s.1 s.2.1 s.2.2.1 s.2.2.2.1) (h0 : 0 ≤ s.1 ∧ 0 ≤ s.2.1) : ∀ n : Nat, (∀ i : Nat, i < n → 0 ≤ ps i ∧ ps i < 2147483648) → BU (ts_go le ps s n).1 (ts_go le ps s n).2.1 (ts_go le ps s n).2.2.1 (ts_go le ps s n).2.2.2.1 ∧ 0 ≤ (ts_go le ps s n).1 ∧ 0 ≤ (ts_go le ps s n).2.1
  | 0, _ => ⟨h, h0⟩
  | n + 1, hp => by
    have ih := BU_go (le := le) (ps := ps) h h0 n (fun i hi => hp i (by omega))
    unfold ts_go
    exact BU_step ih.1 ih.2 (hp n (by omega))
/-- the reference's rows -/
def GV (v : mv_T) : Prop := (∀ i : Nat, i < 20 → 0 ≤ v.nc i ∧ v.nc i ≤ 600) ∧ ∀ i : Nat, -1 ≤ v.no i ∧ v.no i ≤ 100
theorem no_go {le : Int} {t : Nat} : ∀ (l : List nd_T) (v : mv_T), (∀ q ∈ l, 0 ≤ q.1 ∧ q.1 ≤ 24) → (∀ i : Nat, -1 ≤ v.no i ∧ v.no i ≤ 100) → ∀ i : Nat, -1 ≤ mv_T.no (List.foldl (rst le t) v l) i ∧ mv_T.no (List.foldl (rst le t) v l) i ≤ 100
  | [], _, _, h => h
  | q :: l, v, hq, h => by
    refine no_go l (rst le t v q) (fun q' h' => hq q' (List.mem_cons_of_mem _ h')) (fun i => ?_)
    rw [(rst_nc le t v q).2]
    show -1 ≤ va_up v.no _ _ i ∧ va_up v.no _ _ i ≤ 100
    have hb := hq q List.mem_cons_self
    have hd : -1 ≤ dec q.1 ∧ dec q.1 ≤ 100 := by
      unfold dec
      split
      · omega
      · split <;> omega
    by_cases e : i = (600 * (t : Int) + v.nc t).toNat
    · rw [e, va_up_self]
      exact hd
    · rw [va_up_ne _ _ e]
      exact h i
theorem TR_24 {K : Int} {S : Nat} {R : Nat → pa_T} {m : Nat} {w h : Int} (hK : 0 ≤ K) (hr : rg S w h) : ∀ q ∈ TR K S R m w h, 0 ≤ q.1 ∧ q.1 ≤ 24 := by
  intro q hq
  obtain ⟨_, _, b3⟩ := nod_b (C := chs (fit R m) K) hK (idl_cv (Fit := fit R m) hK) S (wyd (fit R m) K S w h) 0 0 w h hr.1 (by unfold okp; have := hr.2; omega)
  obtain ⟨n1, s, n2, n3⟩ := b3 q hq
  unfold okp at n1
  have n4 := idl_cv (Fit := fit R m) hK s q.2.2.2.2.2 q.2.2.2.1 q.2.2.2.2.1 ⟨n2, by omega, by omega⟩
  have n5 : q.1 = (idl (uo (fit R m)) K s q.2.2.2.2.2 q.2.2.2.1 q.2.2.2.2.1).2 := n3
  dsimp only at n4
  rw [← n5] at n4
  refine ⟨n4.1, ?_⟩
  by_cases e : 8 < q.1
  · have := (n4.2 e).2
    split at this <;> omega
  · omega
section GB
variable {K le : Int} {S m : Nat} {R : Nat → pa_T} {M : mt_T} {w h : Int} {t : Nat} {wa : Nat → Int}
theorem GV_walk (hK : 0 ≤ K) (hM : RTb (uo (fit R m)) K M (fun s' _ _ _ => s' < 4)) (hH : MCH M.2.2) (hr : rg S w h) (u : mw_T) (hG : GV u.2.2) : GV (mw_all M K le S t w h wa u).2.2 := by
  have hb := TR_b (R := R) (m := m) hK hr
  have e := one_walk (le := le) hK hM hH hr (t : Int) wa u
  have eno : mv_T.no (mv_0 t wa u.2.2) = mv_T.no u.2.2 := rfl
  have key : ∀ (l dn : List nd_T) (v : mv_T), I2 t dn v → (∀ i : Nat, i ≠ t → v.nc i = mv_T.nc u.2.2 i) → I2 t (dn ++ l) (List.foldl (rst le t) v l) ∧ ∀ i : Nat, i ≠ t → mv_T.nc (List.foldl (rst le t) v l) i = mv_T.nc u.2.2 i := by
    intro l
    induction l with
    | nil =>
      intro dn v h1 h2
      rw [List.append_nil]
      exact ⟨h1, h2⟩
    | cons q l ih =>
      intro dn v h1 h2
      have := ih (dn ++ [q]) (rst le t v q) (I2_step h1) (fun i hi => by
        rw [(rst_nc le t v q).1]
        show va_up v.nc t _ i = _
        rw [va_up_ne _ _ hi]
        exact h2 i hi)
      rw [List.append_assoc] at this
      exact this
  have ht : ((t : Int)).toNat = t := Int.toNat_natCast t
  have enc0 : mv_T.nc (mv_0 t wa u.2.2) = va_up (mv_T.nc u.2.2) t 0 := by
    show va_up _ ((t : Int)).toNat 0 = _
    rw [ht]
  obtain ⟨k1, k2⟩ := key (TR K S R m w h) [] (mv_0 t wa u.2.2) ⟨by rw [enc0, va_up_self]; rfl, fun i q hi => by cases hi⟩ (fun i hi => by rw [enc0, va_up_ne _ _ hi])
  rw [List.nil_append, ← e] at k1
  rw [← e] at k2
  refine ⟨fun i hi => ?_, fun i => ?_⟩
  · by_cases ei : i = t
    · rw [ei, k1.1]
      omega
    · rw [k2 i ei]
      exact hG.1 i hi
  · rw [e]
    exact no_go (TR K S R m w h) _ (TR_24 hK hr) (fun i => by rw [eno]; exact hG.2 i) i
def BG (b : mb_T) : Prop := GV b.2.2.2.2.2.2 ∧ (∀ i : Nat, i < 20 → 0 ≤ b.2.2.1 i ∧ b.2.2.1 i < 4) ∧ ∀ i : Nat, i < 20 → 0 ≤ b.2.2.2.1 i ∧ b.2.2.2.1 i ≤ 1
theorem up_bd {g : Nat → Int} {t : Nat} {z lo hi : Int} (hg : ∀ i : Nat, i < 20 → lo ≤ g i ∧ g i ≤ hi) (hz : lo ≤ z ∧ z ≤ hi) : ∀ i : Nat, i < 20 → lo ≤ va_up g t z i ∧ va_up g t z i ≤ hi := fun i h => by
  by_cases e : i = t
  · rw [e, va_up_self]
    exact hz
  · rw [va_up_ne _ _ e]
    exact hg i h
theorem wy_bd {T : mt_T} {S w h : Int} : 0 ≤ wy T S w h ∧ wy T S w h ≤ 1 := by
  unfold wy
  split <;> omega
theorem BG_step {sw sh ce is_ : Nat → Int} {k : Nat} {b : mb_T} (hK : 0 ≤ K) (hM : RTb (uo (fit R m)) K M (fun s' _ _ _ => s' < 4)) (hH : MCH M.2.2) (hr : rg S (sw k) (sh k)) (hk : k < 4) (h : BG b) : BG (mb_step M K le S t wa sw sh ce is_ k b) := by
  obtain ⟨h1, h2, h3⟩ := h
  have g1 := GV_walk (le := le) (t := t) (wa := wa) hK hM hH hr b.2.2.2.2 h1
  have ht : ((t : Int)).toNat = t := Int.toNat_natCast t
  have g2 : ∀ i : Nat, i < 20 → 0 ≤ va_up b.2.2.1 t (k : Int) i ∧ va_up b.2.2.1 t (k : Int) i < 4 := fun i hi => by
    have := up_bd (g := b.2.2.1) (t := t) (z := (k : Int)) (lo := 0) (hi := 3) (fun i hi => by have := h2 i hi; omega) (by omega) i hi
    omega
  have g3 : ∀ i : Nat, i < 20 → 0 ≤ va_up b.2.2.2.1 t (wy M S (sw k) (sh k)) i ∧ va_up b.2.2.2.1 t (wy M S (sw k) (sh k)) i ≤ 1 := up_bd h3 wy_bd
  unfold mb_step
  rw [ht]
  split
  · split
    · exact ⟨g1, g2, g3⟩
    · exact ⟨g1, g2, g3⟩
  · exact ⟨h1, h2, h3⟩
theorem BG_go {sw sh ce is_ : Nat → Int} {nS : Nat} {b : mb_T} (hK : 0 ≤ K) (hS : S ≤ 3) (hN : nS ≤ 4) (ht : TOLD nS sw sh) (hM : RTb (uo (fit R m)) K M (fun s' _ _ _ => s' < 4)) (hH : MCH M.2.2) (h : BG b) : ∀ n : Nat, n ≤ nS → BG (mb_go M K le S t wa sw sh ce is_ b n)
  | 0, _ => h
  | n + 1, hn => BG_step hK hM hH ⟨hS, (ht n (by omega)).1, (ht n (by omega)).2⟩ (by omega) (BG_go hK hS hN ht hM hH h n (by omega))
end GB
theorem ts_le {le : Int} {ps : Nat → Int} {s : ts_T} : ∀ n p : Nat, same4 (s.R p) ((ts_go le ps s n).R p)
  | 0, p => same4_refl _
  | n + 1, p => same4_trans (ts_le n p) (ts_same.1 p)
/-- what a run keeps besides -/
def DX (nP : Nat) (R0 Sh0 : Nat → pa_T) (u : RS) (r : mr_T) : Prop := BU u.nT u.nR u.tk u.rs ∧ BG (0, 0, r.2.2.1, r.2.2.2.1, r.2.2.2.2.1) ∧ (∀ p : Nat, same4 (R0 p) (u.R p)) ∧ (∀ k : Nat, k < 4 → 0 ≤ (u.Sh k).2.2.2.2 ∧ (u.Sh k).2.2.2.2 ≤ 20) ∧ (∀ k : Nat, (u.Sh k).2.2.2.1 = (Sh0 k).2.2.2.1) ∧ ∀ m : Nat, (m : Int) = u.W → ∀ p : Nat, p < 8 → bitm m p → p < nP
section RX
variable {K le : Int} {S nS nP : Nat} {R0 Sh0 : Nat → pa_T} {pw ph tu sw sh ce : Nat → Int}
theorem DX_e {i : Nat} {u : RS} {r : mr_T} (hK : 0 ≤ K) (hS : 1 ≤ S ∧ S ≤ 3) (hN : nS ≤ 4) (ht : told nS sw sh ce) (hT : TBS K S nP (bs_u K S nS (fl_u K S nP u)) (mr_e pw ph tu sw sh ce nS nP K le S (i : Int) r)) (hM : MRI nS (mr_e pw ph tu sw sh ce nS nP K le S (i : Int) r)) (h : DX nP R0 Sh0 u r) : DX nP R0 Sh0 (bs_u K S nS (fl_u K S nP u)) (mr_e pw ph tu sw sh ce nS nP K le S (i : Int) r) := by
  have hb := BG_go (le := le) (t := i) (wa := r.1) (ce := ce) (is_ := r.2.1) (b := (-1, 0, r.2.2.1, r.2.2.2.1, r.2.2.2.2.1)) hK hS.2 hN (fun k hk => ⟨(ht k hk).1, (ht k hk).2.1⟩) hT.2.2 hM.2.2.2 h.2.1 nS (Nat.le_refl _)
  refine ⟨h.1, hb, h.2.2.1, h.2.2.2.1, h.2.2.2.2.1, fun m hm p hp hbp => ?_⟩
  have e : m = rn_m nP u := by
    have hm2 : (m : Int) = ((rn_m nP u : Nat) : Int) := hm
    omega
  rw [e] at hbp
  exact ((pu_bit (co := fun p => (u.R p).2.2.2.2) (p := p) nP).mp hbp).1
theorem DX_c {i b : Nat} {u : RS} {r : mr_T} (hK : 0 ≤ K) (hS : 1 ≤ S ∧ S ≤ 3) (hN : nS ≤ 4) (ht : told nS sw sh ce) (hb : b < nS) (hun : 0 < r.2.1 b) (hD : DR K S nS nP R0 sw sh ce i u r) (hT : TBS K S nP u r) (h : DX nP R0 Sh0 u r) : DX nP R0 Sh0 (co_step le K S b i u) (mr_c sw sh K le S (i : Int) b r) := by
  obtain ⟨h1, ⟨h2, h3, h4⟩, h5, h6, h7, h8⟩ := h
  obtain ⟨d1, d2, d3, d4, d5, d6, d7⟩ := hD
  have eT : ((i : Int)).toNat = i := Int.toNat_natCast i
  obtain ⟨so, e1, e2, _, e4⟩ := d6 b hb
  unfold SO at so
  have hr : rg S (sw b) (sh b) := ⟨hS.2, (ht b hb).1, (ht b hb).2.1⟩
  refine ⟨?_, ⟨GV_walk (le := le) (t := i) (wa := r.1) hK hT.2.2 d2.2.2.2 hr r.2.2.2.2.1 h2, ?_, ?_⟩, fun p => ?_, fun k hk => ?_, fun k => ?_, h8⟩
  · have hC := (d1.ht (rn_m nP u) hT.1.symm).2
    have hL := LB_lay (st := u.st) hC hK hS.2 so.1 so.2.1
    exact (BU_go (le := le) (ps := (sh_l u.T K S (u.Sh b) u.st).2.2.2.1) (s := (u.nT, u.nR, u.tk, u.rs, u.R, cs_from (co_c K S b i u) u.nT u.nR)) h1 ⟨d1.t0, d1.r0⟩ (sh_l u.T K S (u.Sh b) u.st).1.toNat (fun j hj => hL.2.2.2 j (by
      have hj2 : j < (lay u.T K S (u.Sh b).1 (u.Sh b).2.1 u.st).1.toNat := hj
      omega))).1
  · intro j hj
    show 0 ≤ va_up r.2.2.1 ((i : Int)).toNat (b : Int) j ∧ va_up r.2.2.1 ((i : Int)).toNat (b : Int) j < 4
    rw [eT]
    have := up_bd (g := r.2.2.1) (t := i) (z := (b : Int)) (lo := 0) (hi := 3) (fun i hi => by have hq : 0 ≤ r.2.2.1 i ∧ r.2.2.1 i < 4 := h3 i hi; omega) (by omega) j hj
    omega
  · show ∀ j : Nat, j < 20 → 0 ≤ va_up r.2.2.2.1 ((i : Int)).toNat (wy r.2.2.2.2.2 S (sw b) (sh b)) j ∧ va_up r.2.2.2.1 ((i : Int)).toNat (wy r.2.2.2.2.2 S (sw b) (sh b)) j ≤ 1
    rw [eT]
    exact up_bd h4 wy_bd
  · exact same4_trans (h5 p) (ts_le (s := (u.nT, u.nR, u.tk, u.rs, u.R, cs_from (co_c K S b i u) u.nT u.nR)) _ p)
  · show 0 ≤ (va_up u.Sh b (co_r (u.Sh b)) k).2.2.2.2 ∧ (va_up u.Sh b (co_r (u.Sh b)) k).2.2.2.2 ≤ 20
    by_cases e : k = b
    · rw [e, va_up_self]
      have := h6 b (by omega)
      show 0 ≤ (u.Sh b).2.2.2.2 - 1 ∧ (u.Sh b).2.2.2.2 - 1 ≤ 20
      omega
    · rw [va_up_ne _ _ e]
      exact h6 k hk
  · show (va_up u.Sh b (co_r (u.Sh b)) k).2.2.2.1 = _
    by_cases e : k = b
    · rw [e, va_up_self]
      exact h7 b
    · rw [va_up_ne _ _ e]
      exact h7 k
theorem run_sim2 (hK : 0 ≤ K) (hS : 1 ≤ S ∧ S ≤ 3) (hP : nP ≤ 8) (hN : nS ≤ 4) (hPR : ∀ p : Nat, p < nP → (R0 p).1 = pw p ∧ (R0 p).2.1 = ph p ∧ (R0 p).2.2.1 = tu p) (ht : told nS sw sh ce) : ∀ (n i : Nat) (u : RS) (r : mr_T), i + n ≤ 20 → DR K S nS nP R0 sw sh ce i u r → DX nP R0 Sh0 u r → DX nP R0 Sh0 (run_go le K S nS nP n i u).2 (mr_go pw ph tu sw sh ce nS nP K le S n i r).2
  | 0, i, u, r, hi, h, hx => hx
  | n + 1, i, u, r, hi, h, hx => by
    obtain ⟨h1, h2, h3, h4⟩ := DR_e (le := le) hK hS hP hPR ht h
    have hx1 := DX_e (le := le) (i := i) hK hS hN ht h2 h1.2.1 hx
    unfold run_go mr_go
    by_cases e : (bs_of K S nS (fl_u K S nP u)).1 = -1
    · rw [if_pos e, if_pos (by rw [← h3]; omega)]
      exact hx1
    · have hb := h4.1
      have hb2 := h4.2.2
      rw [if_neg e, if_neg (by omega), h3]
      have hbn : (mr_b pw ph tu sw sh ce nS nP K le S (i : Int) r).1.toNat < nS := by omega
      have hc := DR_c (le := le) (i := i) (r := mr_e pw ph tu sw sh ce nS nP K le S (i : Int) r) hK hS hP hN ht (by omega) hbn (hb2 (by omega)) h1 h2
      exact run_sim2 hK hS hP hN hPR ht n (i + 1) _ _ (by omega) hc (DX_c (le := le) (i := i) (r := mr_e pw ph tu sw sh ce nS nP K le S (i : Int) r) hK hS hN ht hbn (hb2 (by omega)) h1 h2 hx1)
end RX
