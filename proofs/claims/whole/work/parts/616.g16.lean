/-! pure: the answers -/
section LRB
variable {K : Int} {S nS nP nC : Nat} {rn : Int} {u : RS} {sw sh ce sk pw ph co tu : Nat → Int} {r : mr_T}
theorem bd_mm : ∀ n : Nat, (∀ k : Nat, k < n → SO (u.Sh k) ∧ (u.Sh k).1 = sw k ∧ (u.Sh k).2.1 = sh k) → bd_m u.Sh n = mb_m sw sh n ∧ 0 ≤ mb_m sw sh n
  | 0, _ => ⟨rfl, Int.le_refl 0⟩
  | n + 1, h => by
    obtain ⟨i1, i2⟩ := bd_mm n (fun k hk => h k (by omega))
    obtain ⟨s1, s2, s3⟩ := h n (by omega)
    unfold bd_m mb_m
    rw [i1, s2, s3]
    split
    · exact ⟨by omega, by omega⟩
    · exact ⟨by omega, i2⟩
theorem bd_ss : ∀ n : Nat, (∀ p : Nat, p < n → (u.R p).1 = pw p ∧ (u.R p).2.1 = ph p ∧ (u.R p).2.2.2.1 = co p) → bd_s u.R n = mb_s co pw ph n
  | 0, _ => rfl
  | n + 1, h => by
    obtain ⟨s1, s2, s3⟩ := h n (by omega)
    unfold bd_s mb_s
    rw [bd_ss n (fun k hk => h k (by omega)), s1, s2, s3, Int.mul_comm (pw n * ph n) (co n), Int.mul_assoc]
theorem LR_bound (hL : LR K S nS nP nC rn u sw sh ce sk pw ph co tu r) : bd_r u.Sh u.R nS nP = mb_r co pw ph sw sh nS nP := by
  obtain ⟨l1, l2, l3, l4, l5, l6, l7, l8, l9⟩ := hL
  obtain ⟨a1, a2⟩ := bd_mm (u := u) nS (fun k hk => ⟨(l2 k hk).1, (l2 k hk).2.1, (l2 k hk).2.2.1⟩)
  have a3 := bd_ss (u := u) nP (fun p hp => ⟨(l4 p (by omega)).2.1, (l4 p (by omega)).2.2.1, (l4 p (by omega)).2.2.2.2⟩)
  unfold bd_r mb_r
  rw [a1, a3]
  by_cases e : mb_m sw sh nS = 0
  · rw [if_pos (by omega), if_pos e]
  · rw [if_neg (by omega), if_neg e]
theorem LR_cut {k : Nat} {w : Int} (hL : LR K S nS nP nC 1 u sw sh ce sk pw ph co tu r) (hk : k < nC) (hw : 0 ≤ w ∧ w ≤ 6) : u.Cs k (ct_k w) = ct_m w r.2.2.1 r.2.2.2.2.1.tc r.2.2.2.2.1.ta r.2.2.2.2.1.cc r.2.2.2.1 r.2.2.2.2.1.mi r.2.2.2.2.1.rc k := by
  obtain ⟨_, ⟨R0, m0, q⟩, _⟩ := hL.2.2.2.2.2.2.2.2 rfl
  obtain ⟨k', m, pu, f, q1, q2, q3, _⟩ := q k hk
  have c0 : u.Cs k 0 = r.2.2.1 k := q1.2.2.1.trans q1.2.1.symm
  have c3 : u.Cs k 3 = r.2.2.2.1 k := q2.2.2.1
  obtain ⟨c4, c5, c8, c9, c11⟩ := q3
  rcases (show w = 0 ∨ w = 1 ∨ w = 2 ∨ w = 3 ∨ w = 4 ∨ w = 5 ∨ w = 6 by omega) with rfl | rfl | rfl | rfl | rfl | rfl | rfl
  · exact c0
  · exact c8
  · exact c9
  · exact c4
  · exact c3
  · exact c5
  · exact c11
theorem LR_cut7 {k f' : Nat} (hL : LR K S nS nP nC 1 u sw sh ce sk pw ph co tu r) (hk : k < nC) (h1 : iaP r.2.2.1 r.2.2.2.2.1.nc r.2.2.2.1 r.2.2.2.2.1.no (f' : Int) (k : Int)) (h2 : ∀ j : Nat, j < f' → ¬ iaP r.2.2.1 r.2.2.2.2.1.nc r.2.2.2.1 r.2.2.2.2.1.no (j : Int) (k : Int)) : u.Cs k (ct_k 7) = (f' : Int) := by
  obtain ⟨_, ⟨R0, m0, q⟩, _⟩ := hL.2.2.2.2.2.2.2.2 rfl
  obtain ⟨k', m, pu, f, _, _, _, _, _, q6⟩ := q k hk
  obtain ⟨a1, a2, a3, a4⟩ := q6
  have e : f = f' := by
    rcases Nat.lt_trichotomy f f' with h | h | h
    · exact absurd a3 (h2 f h)
    · exact h
    · exact absurd h1 (a4 f' h)
  rw [← e]
  exact a1
theorem LR_tc {k : Nat} (hL : LR K S nS nP nC 1 u sw sh ce sk pw ph co tu r) (hk : k < nC) : u.Cs k 8 = r.2.2.2.2.1.tc k ∧ u.Cs k 11 = r.2.2.2.2.1.rc k ∧ (0 ≤ r.2.2.2.2.1.tc k ∧ r.2.2.2.2.1.tc k ≤ 256) ∧ 0 ≤ r.2.2.2.2.1.rc k ∧ r.2.2.2.2.1.rc k ≤ 256 := by
  obtain ⟨_, ⟨R0, m0, q⟩, _⟩ := hL.2.2.2.2.2.2.2.2 rfl
  obtain ⟨k', m, pu, f, _, _, q3, q4, q5, _⟩ := q k hk
  exact ⟨q3.2.2.1, q3.2.2.2.2, ⟨q4.2.1, q4.2.2.1⟩, q5.2.1, q5.2.2.1⟩
theorem LR_taken {k : Nat} {j w : Int} (hL : LR K S nS nP nC 1 u sw sh ce sk pw ph co tu r) (hk : k < nC) (hj : 0 ≤ j ∧ j < r.2.2.2.2.1.tc k) (hw : 0 ≤ w ∧ w ≤ 4) : pf_z (u.tk (u.Cs k 7 + j).toNat) w = r.2.2.2.2.1.tk (5 * (256 * (k : Int) + j) + w).toNat ∧ (0 ≤ u.Cs k 7 + j ∧ u.Cs k 7 + j < 400) ∧ 0 ≤ u.tk (u.Cs k 7 + j).toNat ∧ u.tk (u.Cs k 7 + j).toNat < 2147483648 := by
  obtain ⟨_, ⟨R0, m0, q⟩, b1, b2, b3⟩ := hL.2.2.2.2.2.2.2.2 rfl
  obtain ⟨k', m, pu, f, _, _, q3, q4, q5, _⟩ := q k hk
  obtain ⟨a1, a2, a3, a4, a5⟩ := q4
  obtain ⟨j', rfl⟩ : ∃ j' : Nat, j = (j' : Int) := ⟨j.toNat, by omega⟩
  obtain ⟨w', rfl⟩ : ∃ w' : Nat, w = (w' : Int) := ⟨w.toNat, by omega⟩
  have h1 := a5 j' w' hj.2 (by omega)
  have hlt : u.Cs k 7 + (j' : Int) < u.nT := by
    have : u.Cs k 7 + r.2.2.2.2.1.tc k ≤ u.nT := a4
    omega
  refine ⟨?_, ⟨by omega, by omega⟩, b1.1 _ (by omega)⟩
  rw [← h1, show (5 * (256 * (k : Int) + (j' : Int)) + (w' : Int)).toNat = 5 * (256 * k + j') + w' by omega]
theorem LR_rest {k : Nat} {j w : Int} (hL : LR K S nS nP nC 1 u sw sh ce sk pw ph co tu r) (hk : k < nC) (hj : 0 ≤ j ∧ j < r.2.2.2.2.1.rc k) (hw : 0 ≤ w ∧ w ≤ 3) : pf_z (u.rs (u.Cs k 10 + j).toNat) (1 + w) = r.2.2.2.2.1.rs (4 * (256 * (k : Int) + j) + w).toNat ∧ (0 ≤ u.Cs k 10 + j ∧ u.Cs k 10 + j < 5120) ∧ 0 ≤ u.rs (u.Cs k 10 + j).toNat ∧ u.rs (u.Cs k 10 + j).toNat < 2147483648 := by
  obtain ⟨_, ⟨R0, m0, q⟩, b1, b2, b3⟩ := hL.2.2.2.2.2.2.2.2 rfl
  obtain ⟨k', m, pu, f, _, _, q3, q4, q5, _⟩ := q k hk
  obtain ⟨a1, a2, a3, a4, a5⟩ := q5
  obtain ⟨j', rfl⟩ : ∃ j' : Nat, j = (j' : Int) := ⟨j.toNat, by omega⟩
  obtain ⟨w', rfl⟩ : ∃ w' : Nat, w = (w' : Int) := ⟨w.toNat, by omega⟩
  have h1 := a5 j' w' hj.2 (by omega)
  have hlt : u.Cs k 10 + (j' : Int) < u.nR := by
    have : u.Cs k 10 + r.2.2.2.2.1.rc k ≤ u.nR := a4
    omega
  refine ⟨?_, ⟨by omega, by omega⟩, b1.2 _ (by omega)⟩
  rw [← h1, show (4 * (256 * (k : Int) + (j' : Int)) + (w' : Int)).toNat = 4 * (256 * k + j') + w' by omega]
theorem LR_lft {p : Nat} (hL : LR K S nS nP nC 1 u sw sh ce sk pw ph co tu r) (hp : p < 8) : (u.R p).2.2.2.2 = r.1 p := ((hL.2.2.2.2.2.2.2.2 rfl).1 p hp).symm
theorem LR_all {w : Int} (hL : LR K S nS nP nC 1 u sw sh ce sk pw ph co tu r) : ∀ n : Nat, n ≤ nC → al_s w u.Cs n = ml_s w r.2.2.1 ce sw sh r.2.2.2.2.1.ta n
  | 0, _ => rfl
  | n + 1, hn => by
    obtain ⟨_, ⟨R0, m0, q⟩, _⟩ := hL.2.2.2.2.2.2.2.2 rfl
    obtain ⟨k', m, pu, f, q1, q2, q3, _⟩ := q n (by omega)
    unfold al_s ml_s
    rw [LR_all hL n (by omega)]
    have e : al_g w (u.Cs n) = ml_g w r.2.2.1 ce sw sh r.2.2.2.2.1.ta n := by
      unfold al_g ml_g
      rw [q1.2.1, q1.2.2.2.1, q1.2.2.2.2, Int.toNat_natCast, q3.2.2.2.1]
    rw [e]
theorem LR_of (hL : LR K S nS nP nC rn u sw sh ce sk pw ph co tu r) : (∀ i : Nat, i < 20 → 0 ≤ r.2.2.1 i ∧ r.2.2.1 i < 4) ∧ (∀ i : Nat, i < 20 → 0 ≤ r.2.2.2.2.1.nc i ∧ r.2.2.2.2.1.nc i ≤ 600) ∧ (∀ i : Nat, i < 20 → 0 ≤ r.2.2.2.1 i ∧ r.2.2.2.1 i ≤ 1) ∧ ∀ i : Nat, i < 12000 → -1 ≤ r.2.2.2.2.1.no i ∧ r.2.2.2.2.1.no i ≤ 100 := by
  obtain ⟨g1, g2, g3⟩ := hL.2.2.2.2.2.2.2.1.2.2
  exact ⟨g2, g1.1, g3, fun i _ => g1.2 i⟩
end LRB
abbrev z1 : Nat → Int := fun _ => 0
abbrev z5 : Nat → pa_T := fun _ => (0, 0, 0, 0, 0)
abbrev u_0 : RS := (0, 0, z1, z1, z5, z5, (fun _ _ => 0), 0, (0, 0, 0, z1, z1), (z1, z1), -1, 0)
abbrev m_0 : mr_T := (z1, z1, z1, z1, (0, z1, z1, z1, z1, z1, z1, z1, z1, z1, z1, z1), (z1, z1, z1))
theorem LR_0 {K : Int} {S : Nat} : LR K S 0 0 0 0 u_0 z1 z1 z1 z1 z1 z1 z1 z1 m_0 := by
  have h20 : (0 : Int) ≤ 0 ∧ (0 : Int) ≤ 20 := by omega
  have h4 : (0 : Int) ≤ 0 ∧ (0 : Int) < 4 := by omega
  have h600 : (0 : Int) ≤ 0 ∧ (0 : Int) ≤ 600 := by omega
  have h100 : (-1 : Int) ≤ 0 ∧ (0 : Int) ≤ 100 := by omega
  have h1 : (0 : Int) ≤ 0 ∧ (0 : Int) ≤ 1 := by omega
  have h8 : (0 : Int) ≤ 0 ∧ (0 : Int) < 8 := by omega
  have hPO : PO ((0, 0, 0, 0, 0) : pa_T) := by
    unfold PO
    exact ⟨⟨by decide, by decide⟩, ⟨by decide, by decide⟩, ⟨by decide, by decide⟩, by decide, by decide⟩
  refine ⟨⟨by decide, by decide, by decide, Or.inl rfl⟩, fun k hk => by omega, fun k _ => ⟨h20, h20⟩, fun p _ => ⟨hPO, rfl, rfl, rfl, rfl⟩, ⟨fun p _ => Or.inl rfl, fun p hp => by omega, fun _ _ _ => rfl⟩, ⟨fun m hm => ?_, ⟨by decide, by decide⟩, ⟨by decide, by decide⟩, fun m hm => ?_, fun m hm => ?_⟩, fun k _ => h4, ⟨?_, ?_, ⟨⟨fun i _ => h600, fun i => h100⟩, fun i _ => h4, fun i _ => h1⟩⟩, fun q => by omega⟩
  · have : (m : Int) = -1 := hm
    omega
  · have : (m : Int) = -1 := hm
    omega
  · have : (m : Int) = -1 := hm
    omega
  · intro s d w h a1 a2 a3 a4 a5 a6 a7 a8
    have := wh1 (w := w) (h := h) ⟨a5, a6⟩ ⟨a7, a8⟩
    exact ⟨⟨Int.le_refl 0, by show (0 : Int) ≤ w * h; omega⟩, Int.le_refl 0, by show (0 : Int) ≤ w * h - 1; omega⟩
  · intro s d w h a1 a2 a3 a4 a5 a6 a7 a8
    exact Or.inl (Or.inr h8)
