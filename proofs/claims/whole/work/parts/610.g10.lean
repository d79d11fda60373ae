/-! pure: the sheet that is cut next -/
theorem I6_trans {t : Nat} {a b c : mv_T} (h : I6 t a b) (k : I6 t b c) : I6 t a c := by
  obtain ⟨h1, h2, h3, h4⟩ := h
  obtain ⟨k1, k2, k3, k4⟩ := k
  refine ⟨fun i hi => ?_, fun i hi => (k2 i hi).trans (h2 i hi), fun i hi => (k3 i hi).trans (h3 i hi), fun i hi => (k4 i hi).trans (h4 i hi)⟩
  obtain ⟨a1, a2, a3, a4, a5, a6⟩ := h1 i hi
  obtain ⟨b1, b2, b3, b4, b5, b6⟩ := k1 i hi
  exact ⟨b1.trans a1, b2.trans a2, b3.trans a3, b4.trans a4, b5.trans a5, b6.trans a6⟩
theorem I6_refl (t : Nat) (v : mv_T) : I6 t v v := ⟨fun _ _ => ⟨rfl, rfl, rfl, rfl, rfl, rfl⟩, fun _ _ => rfl, fun _ _ => rfl, fun _ _ => rfl⟩
section BS
variable {K le : Int} {S m : Nat} {R Sh : Nat → pa_T} {T : tp_T} {M : mt_T} {wa sw sh ce is_ : Nat → Int} {t nS : Nat}
/-- a layout and a walk of the same sheet -/
theorem one_IN (hK : 0 ≤ K) (hC : CTb (ux R m) K T (fun s' _ _ _ => s' ≤ S)) (hM : RTb (uo (fit R m)) K M (fun s' _ _ _ => s' < 4)) (hH : MCH M.2.2) {w h : Int} (hr : rg S w h) {s0 : ts_T} (h0 : 0 ≤ s0.1 ∧ 0 ≤ s0.2.1) (h9 : s0.c 9 = 0) (hR : s0.R = R) (hwa : ∀ p : Nat, p < 8 → wa p = (R p).2.2.2.2 ∧ 0 ≤ wa p) (st : ly_T) (u : mw_T) : IN le t s0 u.2.2 (TR K S R m w h) (lay T K S w h st) (mw_all M K le S t w h wa u).2.2 := by
  rw [one_lay hK hC hr, one_walk hK hM hH hr]
  have hb := TR_b (R := R) (m := m) hK hr
  have := IN_go (ar := ar_of R) (le := le) (t := t) (s0 := s0) (v0 := u.2.2) h0 (fun p _ => by rw [hR]) (TR K S R m w h) [] (ly0 st) (mv_0 t wa u.2.2) (fun q hq => (hb.1 q hq).1) (by show 0 + _ ≤ 256; have := hb.2.1; omega) (IN_0 (fun p hp => by rw [hR]; exact hwa p hp) h9)
  rw [List.nil_append] at this
  exact this
theorem one_area (hK : 0 ≤ K) (hC : CTb (ux R m) K T (fun s' _ _ _ => s' ≤ S)) (hM : RTb (uo (fit R m)) K M (fun s' _ _ _ => s' < 4)) (hH : MCH M.2.2) {w h : Int} (hr : rg S w h) (hwa : ∀ p : Nat, p < 8 → wa p = (R p).2.2.2.2 ∧ 0 ≤ wa p) (st : ly_T) (u : mw_T) : at_sum (lay T K S w h st).2.2.2.2 R 8 = (mw_all M K le S t w h wa u).ta t ∧ I6 t u.2.2 (mw_all M K le S t w h wa u).2.2 := by
  have h1 := one_IN (le := le) (t := t) (s0 := (0, 0, (fun _ => 0), (fun _ => 0), R, (fun _ => 0))) hK hC hM hH hr ⟨Int.le_refl 0, Int.le_refl 0⟩ rfl rfl hwa st u
  exact ⟨h1.2.2.2.1.2.symm, h1.2.2.2.2.2⟩
/-- sheets, class and reference -/
def SHR (nS : Nat) (Sh : Nat → pa_T) (sw sh ce is_ : Nat → Int) : Prop := ∀ k : Nat, k < nS → SO (Sh k) ∧ (Sh k).1 = sw k ∧ (Sh k).2.1 = sh k ∧ (Sh k).2.2.1 = ce k ∧ (Sh k).2.2.2.2 = is_ k
def BR (ce of0 fw0 : Nat → Int) (v0 : mv_T) (t : Nat) (n : Int) (b : bs_T) (b' : mb_T) : Prop := b.1 = b'.1 ∧ -1 ≤ b.1 ∧ b.1 < n ∧ (b.1 = -1 → b.2.1 = 0 ∧ b.2.2.1 = 1) ∧ (0 ≤ b.1 → b.2.1 = b'.2.1 ∧ b.2.2.1 = ce b.1.toNat ∧ 0 < b.2.1) ∧ I6 t v0 b'.2.2.2.2.2.2 ∧ ∀ i : Nat, i ≠ t → b'.2.2.1 i = of0 i ∧ b'.2.2.2.1 i = fw0 i
theorem BR_step {of0 fw0 : Nat → Int} {v0 : mv_T} {k : Nat} {b : bs_T} {b' : mb_T} (hK : 0 ≤ K) (hS : S ≤ 3) (hC : CTb (ux R m) K T (fun s' _ _ _ => s' ≤ S)) (hM : RTb (uo (fit R m)) K M (fun s' _ _ _ => s' < 4)) (hH : MCH M.2.2) (hwa : ∀ p : Nat, p < 8 → wa p = (R p).2.2.2.2 ∧ 0 ≤ wa p ∧ wa p ≤ 50) (hsh : SHR nS Sh sw sh ce is_) (hk : k < nS) (h : BR ce of0 fw0 v0 t (k : Int) b b') : BR ce of0 fw0 v0 t ((k : Int) + 1) (bs_step T K S R (Sh k) k b) (mb_step M K le S t wa sw sh ce is_ k b') := by
  obtain ⟨so, e1, e2, e3, e4⟩ := hsh k hk
  obtain ⟨r1, r2, r3, r4, r5, r6, r7⟩ := h
  unfold bs_step mb_step
  rw [e4]
  by_cases hi : 0 < is_ k
  · rw [if_pos hi, if_pos hi]
    have hso := so
    unfold SO at hso
    have hr : rg S (sw k) (sh k) := ⟨hS, by omega, by omega⟩
    obtain ⟨q1, q2⟩ := one_area (le := le) (t := t) hK hC hM hH hr (fun p hp => ⟨(hwa p hp).1, (hwa p hp).2.1⟩) b.2.2.2.2 b'.2.2.2.2
    have q0 := (mw_all_ok (T := M) (K := K) (le := le) (S := (S : Int)) (t := (t : Int)) (w := sw k) (h := sh k) (wa := wa) (u := b'.2.2.2.2) hH hK (by omega) hr.2.1 hr.2.2 (fun p hp => (hwa p hp).2)).1
    rw [Int.toNat_natCast] at q0
    have eA : at_sum (sh_l T K S (Sh k) b.2.2.2.2).2.2.2.2 R 8 = (mb_u M K le S t wa sw sh k b'.2.2.2.2).ta t := by
      unfold sh_l mb_u
      rw [e1, e2]
      exact q1
    have eT : ((t : Int)).toNat = t := Int.toNat_natCast t
    have q0' : 0 ≤ (mb_u M K le S t wa sw sh k b'.2.2.2.2).ta t := q0.1
    have q2' : I6 t v0 (mb_u M K le S t wa sw sh k b'.2.2.2.2).2.2 := I6_trans r6 q2
    rw [eA, e3, eT]
    generalize (mb_u M K le S t wa sw sh k b'.2.2.2.2).ta t = A at q0' ⊢
    have hce : 1 ≤ ce k := by rw [← e3]; omega
    have hof : ∀ (g g0 : Nat → Int) (z : Int), (∀ i : Nat, i ≠ t → g i = g0 i) → ∀ i : Nat, i ≠ t → va_up g t z i = g0 i := fun g g0 z hg i hi => by
      rw [va_up_ne _ _ hi]
      exact hg i hi
    have hofw : ∀ i : Nat, i ≠ t → va_up b'.2.2.1 t (k : Int) i = of0 i ∧ va_up b'.2.2.2.1 t (wy M S (sw k) (sh k)) i = fw0 i := fun i hi => ⟨hof _ _ _ (fun i hi => (r7 i hi).1) i hi, hof _ _ _ (fun i hi => (r7 i hi).2) i hi⟩
    have iff1 : b.2.1 * ce k < A * b.2.2.1 ↔ (0 < A ∧ (b'.1 < 0 ∨ b'.2.1 * ce k < A * ce b'.1.toNat)) := by
      by_cases hb : b.1 = -1
      · obtain ⟨z1, z2⟩ := r4 hb
        rw [z1, z2, Int.zero_mul, Int.mul_one]
        exact ⟨fun q => ⟨q, Or.inl (by omega)⟩, fun q => q.1⟩
      · obtain ⟨z1, z2, z3⟩ := r5 (by omega)
        rw [z2, ← r1, ← z1]
        have hp : 0 ≤ b.2.1 * ce k := Int.mul_nonneg (by omega) (by omega)
        constructor
        · intro q
          refine ⟨?_, Or.inr q⟩
          by_cases hA : A = 0
          · rw [hA, Int.zero_mul] at q
            omega
          · omega
        · rintro ⟨_, q | q⟩
          · omega
          · exact q
    by_cases hc : b.2.1 * ce k < A * b.2.2.1
    · have hc2 := iff1.mp hc
      rw [if_pos hc, if_pos hc2]
      refine ⟨rfl, by show -1 ≤ (k : Int); omega, by show (k : Int) < (k : Int) + 1; omega, fun q => ?_, fun _ => ⟨rfl, ?_, hc2.1⟩, q2', hofw⟩
      · have : (k : Int) = -1 := q
        omega
      · show ce k = ce ((k : Int)).toNat
        rw [Int.toNat_natCast]
    · rw [if_neg hc, if_neg (fun q => hc (iff1.mpr q))]
      exact ⟨r1, r2, by show b.1 < (k : Int) + 1; omega, r4, r5, q2', hofw⟩
  · rw [if_neg hi, if_neg hi]
    exact ⟨r1, r2, by omega, r4, r5, r6, r7⟩
theorem BR_go {of0 fw0 : Nat → Int} {v0 : mv_T} {b : bs_T} {b' : mb_T} (hK : 0 ≤ K) (hS : S ≤ 3) (hC : CTb (ux R m) K T (fun s' _ _ _ => s' ≤ S)) (hM : RTb (uo (fit R m)) K M (fun s' _ _ _ => s' < 4)) (hH : MCH M.2.2) (hwa : ∀ p : Nat, p < 8 → wa p = (R p).2.2.2.2 ∧ 0 ≤ wa p ∧ wa p ≤ 50) (hsh : SHR nS Sh sw sh ce is_) (h : BR ce of0 fw0 v0 t 0 b b') : ∀ n : Nat, n ≤ nS → BR ce of0 fw0 v0 t (n : Int) (bs_go T K S R Sh b n) (mb_go M K le S t wa sw sh ce is_ b' n)
  | 0, _ => h
  | n + 1, hn => BR_step hK hS hC hM hH hwa hsh (by omega) (BR_go hK hS hC hM hH hwa hsh h n (by omega))
end BS
