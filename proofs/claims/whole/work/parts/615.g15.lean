/-! pure: run and the answers -/
section LRA
variable {K le : Int} {S nS nP nC : Nat} {rn : Int} {u : RS} {sw sh ce sk pw ph co tu : Nat → Int} {r : mr_T}
/-- the reference's state as its run begins -/
abbrev r_0 (co sk : Nat → Int) (nP : Nat) (r : mr_T) : mr_T := (wl co nP r.1 8, cp r.2.1 sk 4, r.2.2.1, r.2.2.2.1, r.2.2.2.2.1, r.2.2.2.2.2)
theorem sr_lt {Sh : Nat → pa_T} {n k : Nat} (h : k < n) : sr_S Sh n k = ((Sh k).1, (Sh k).2.1, (Sh k).2.2.1, (Sh k).2.2.2.1, (Sh k).2.2.2.1) := if_pos h
theorem sr_dim (R : Nat → pa_T) (n p : Nat) : (sr_S R n p).1 = (R p).1 ∧ (sr_S R n p).2.1 = (R p).2.1 ∧ (sr_S R n p).2.2.1 = (R p).2.2.1 ∧ (sr_S R n p).2.2.2.1 = (R p).2.2.2.1 := by
  unfold sr_S
  split <;> exact ⟨rfl, rfl, rfl, rfl⟩
theorem LR_told (hL : LR K S nS nP nC rn u sw sh ce sk pw ph co tu r) : told nS sw sh ce := fun k hk => by
  obtain ⟨s1, s2, s3, s4, _⟩ := hL.2.1 k hk
  unfold SO at s1
  rw [s2, s3, s4] at s1
  exact ⟨s1.1, s1.2.1, s1.2.2.1⟩
theorem LR_left (hL : LR K S nS nP nC rn u sw sh ce sk pw ph co tu r) : ∀ p : Nat, p < 8 → PO (sr_S u.R nP p) ∧ (sr_S u.R nP p).2.2.2.2 = (if p < nP then co p else 0) := fun p hp => by
  obtain ⟨l1, l2, l3, l4, l5, _⟩ := hL
  obtain ⟨a1, a2, a3, a4, a5⟩ := l4 p hp
  unfold PO at a1
  by_cases e : p < nP
  · rw [sr_lt e, if_pos e]
    exact ⟨⟨a1.1, a1.2.1, a1.2.2.1, a1.2.2.1⟩, a5⟩
  · have e2 : sr_S u.R nP p = u.R p := if_neg e
    rw [e2, if_neg e]
    exact ⟨a1, l5.2.2 p (by omega) hp⟩
theorem LR_RI (hL : LR K S nS nP nC rn u sw sh ce sk pw ph co tu r) : RI nS nP 0 (st_u nS nP u) := by
  have hlf := LR_left hL
  obtain ⟨l1, l2, l3, l4, l5, l6, l7, l8, l9⟩ := hL
  have h50 : ∀ p : Nat, p < 8 → (sr_S u.R nP p).2.2.2.2 ≤ 50 := fun p hp => (hlf p hp).1.2.2.2.2
  have hs := sumL_le h50 8 (Nat.le_refl _)
  refine ⟨Int.le_refl 0, ?_, Int.le_refl 0, Int.le_refl 0, fun k hk => ?_, fun p hp => (hlf p hp).1, fun p hp => ?_, fun p hp => ?_, ?_, l6.2.1, l6.2.2.1, l7⟩
  · show 0 + sumL (sr_S u.R nP) 8 ≤ 400
    omega
  · obtain ⟨s1, s2, s3, s4, s5⟩ := l2 k hk
    have h3 := (l3 k (by omega)).1
    show SO (sr_S u.Sh nS k)
    rw [sr_lt hk]
    unfold SO at s1
    exact ⟨s1.1, s1.2.1, s1.2.2.1, by show 0 ≤ (u.Sh k).2.2.2.1; omega, by show (u.Sh k).2.2.2.1 ≤ 20; omega⟩
  · show (sr_S u.R nP p).2.2.1 = 0 ∨ (sr_S u.R nP p).2.2.1 = 1
    rw [(sr_dim u.R nP p).2.2.1]
    exact l5.1 p hp
  · show 1 ≤ (sr_S u.R nP p).1 ∧ 1 ≤ (sr_S u.R nP p).2.1
    rw [(sr_dim u.R nP p).1, (sr_dim u.R nP p).2.1]
    exact l5.2.1 p hp
  · have e : ar_of (sr_S u.R nP) = ar_of u.R := by
      funext p
      show (sr_S u.R nP p).1 * (sr_S u.R nP p).2.1 = _
      rw [(sr_dim u.R nP p).1, (sr_dim u.R nP p).2.1]
    show HT (ar_of (sr_S u.R nP)) u.W u.T
    rw [e]
    exact l6.1
theorem LR_run (hK : 0 ≤ K) (hS : 1 ≤ S ∧ S ≤ 3) (hL : LR K S nS nP nC rn u sw sh ce sk pw ph co tu r) : (run_go le K S nS nP 20 0 (st_u nS nP u)).1 = (mr_go pw ph tu sw sh ce nS nP K le S 20 0 (r_0 co sk nP r)).1 ∧ LR K S nS nP (run_go le K S nS nP 20 0 (st_u nS nP u)).1 1 (run_go le K S nS nP 20 0 (st_u nS nP u)).2 sw sh ce sk pw ph co tu (mr_go pw ph tu sw sh ce nS nP K le S 20 0 (r_0 co sk nP r)).2 := by
  have hRI := LR_RI hL
  have htd := LR_told hL
  have hlf := LR_left hL
  obtain ⟨l1, l2, l3, l4, l5, l6, l7, l8, l9⟩ := hL
  have hwl : ∀ p : Nat, p < 8 → wl co nP r.1 8 p = (sr_S u.R nP p).2.2.2.2 := fun p hp => by rw [wl_at 8 p, if_pos hp, (hlf p hp).2]
  have hDR : DR K S nS nP (st_u nS nP u).R sw sh ce 0 (st_u nS nP u) (r_0 co sk nP r) := by
    refine ⟨hRI, ⟨fun p hp => ?_, fun k hk => ?_, l8.1, l8.2.1⟩, ?_, fun _ => ⟨rfl, rfl, rfl⟩, hwl, fun k hk => ?_, fun j hj => by omega⟩
    · have := (hlf p hp).1.2.2.2
      show 0 ≤ wl co nP r.1 8 p ∧ wl co nP r.1 8 p ≤ 50
      rw [hwl p hp]
      exact this
    · show 0 ≤ cp r.2.1 sk 4 k ∧ cp r.2.1 sk 4 k ≤ 20
      rw [cp_at 4 k, if_pos (by omega)]
      exact (l3 k (by omega)).1
    · intro m hm
      have e : ux (st_u nS nP u).R m = ux u.R m := ux_ext (fun p _ _ => ⟨(sr_dim u.R nP p).1, (sr_dim u.R nP p).2.1, (sr_dim u.R nP p).2.2.1⟩)
      rw [e]
      exact l6.2.2.2.1 m hm
    · obtain ⟨s1, s2, s3, s4, s5⟩ := l2 k hk
      refine ⟨hRI.so k hk, ?_⟩
      show (sr_S u.Sh nS k).1 = _ ∧ (sr_S u.Sh nS k).2.1 = _ ∧ (sr_S u.Sh nS k).2.2.1 = _ ∧ (sr_S u.Sh nS k).2.2.2.2 = cp r.2.1 sk 4 k
      rw [sr_lt hk, cp_at 4 k, if_pos (by omega)]
      exact ⟨s2, s3, s4, s5⟩
  have hDX : DX nP (st_u nS nP u).R (st_u nS nP u).Sh (st_u nS nP u) (r_0 co sk nP r) := by
    refine ⟨⟨fun i hi => ?_, fun i hi => ?_⟩, l8.2.2, fun p => same4_refl _, fun k hk => ?_, fun _ => rfl, l6.2.2.2.2⟩
    · have : (i : Int) < 0 := hi
      omega
    · have : (i : Int) < 0 := hi
      omega
    · show 0 ≤ (sr_S u.Sh nS k).2.2.2.2 ∧ (sr_S u.Sh nS k).2.2.2.2 ≤ 20
      have h3 := l3 k hk
      by_cases e : k < nS
      · rw [sr_lt e]
        obtain ⟨s1, s2, s3, s4, s5⟩ := l2 k e
        show 0 ≤ (u.Sh k).2.2.2.1 ∧ (u.Sh k).2.2.2.1 ≤ 20
        omega
      · have e2 : sr_S u.Sh nS k = u.Sh k := if_neg e
        rw [e2]
        exact h3.2
  have hPR : ∀ p : Nat, p < nP → ((st_u nS nP u).R p).1 = pw p ∧ ((st_u nS nP u).R p).2.1 = ph p ∧ ((st_u nS nP u).R p).2.2.1 = tu p := fun p hp => by
    obtain ⟨_, a2, a3, a4, a5⟩ := l4 p (by omega)
    obtain ⟨b1, b2, b3, _⟩ := sr_dim u.R nP p
    exact ⟨b1.trans a2, b2.trans a3, b3.trans a4⟩
  obtain ⟨r1, r2, r3⟩ := run_sim (le := le) hK hS l1.2.1 l1.1 hPR htd 20 0 (st_u nS nP u) (r_0 co sk nP r) (by omega) hDR
  have r4 := run_sim2 (le := le) (Sh0 := (st_u nS nP u).Sh) hK hS l1.2.1 l1.1 hPR htd 20 0 (st_u nS nP u) (r_0 co sk nP r) (by omega) hDR hDX
  refine ⟨r1, ?_⟩
  generalize (mr_go pw ph tu sw sh ce nS nP K le S 20 0 (r_0 co sk nP r)).2 = r' at *
  generalize (run_go le K S nS nP 20 0 (st_u nS nP u)).2 = u' at *
  generalize (run_go le K S nS nP 20 0 (st_u nS nP u)).1 = n' at *
  obtain ⟨d1, d2, d3, d4, d5, d6, d7⟩ := r2
  obtain ⟨x1, x2, x3, x4, x5, x6⟩ := r4
  have hleft0 : ∀ p : Nat, nP ≤ p → p < 8 → (u'.R p).2.2.2.2 = 0 := fun p h1 h2 => by
    have a := (x3 p).2.2.2.2
    have b := (hlf p h2).2
    have c := (d1.po p h2).2.2.2.1
    rw [if_neg (by omega)] at b
    have b' : ((st_u nS nP u).R p).2.2.2.2 = 0 := b
    omega
  refine ⟨⟨l1.1, l1.2.1, r3, Or.inr rfl⟩, fun k hk => ?_, fun k hk => ⟨(l3 k hk).1, x4 k hk⟩, fun p hp => ?_, ⟨d1.pz, d1.pw, hleft0⟩, ⟨d1.ht, d1.w0, d1.f0, d3, x6⟩, d1.cb, ⟨d2.2.2.1, d2.2.2.2, x2⟩, fun _ => ⟨d5, ⟨(st_u nS nP u).R, rn_m nP u', d7⟩, x1, ?_, ?_⟩⟩
  · obtain ⟨s1, s2, s3, s4, _⟩ := d6 k hk
    refine ⟨s1, s2, s3, s4, ?_⟩
    rw [x5 k]
    show (sr_S u.Sh nS k).2.2.2.1 = _
    rw [sr_lt hk]
    exact (l2 k hk).2.2.2.2
  · obtain ⟨_, a2, a3, a4, a5⟩ := l4 p hp
    obtain ⟨b1, b2, b3, b4⟩ := sr_dim u.R nP p
    obtain ⟨c1, c2, c3, c4, _⟩ := x3 p
    exact ⟨d1.po p hp, c1.trans (b1.trans a2), c2.trans (b2.trans a3), c3.trans (b3.trans a4), c4.trans (b4.trans a5)⟩
  · have h1 := d1.t1
    have h2 := sumL_ge0 (R := u'.R) (fun p hp => (d1.po p hp).2.2.2.1) 8 (Nat.le_refl _)
    omega
  · have h1 := d1.r1
    omega
end LRA
