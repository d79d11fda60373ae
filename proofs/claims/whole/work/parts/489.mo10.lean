/-! SheetTreesModel.run -/
theorem lgc {a b : Int} (h : (-9223372036854775808 ≤ a ∧ a < 9223372036854775808) ∧ -9223372036854775808 ≤ b ∧ b < 9223372036854775808) : lg_cmp (iL a) (iL b) = iI (cmz a b) := by
  have ea := iL_toInt h.1.1 h.1.2
  have eb := iL_toInt h.2.1 h.2.2
  unfold lg_cmp cmz
  simp only [gt_iff_lt, Int64.lt_iff_toInt_lt, ← Int64.toInt_inj, ea, eb]
  split
  · decide +kernel
  · split
    · decide +kernel
    · decide +kernel
theorem cmz_c (a b : Int) : (cmz a b = 1 ∧ b < a) ∨ (cmz a b = 0 ∧ a = b) ∨ (cmz a b = -1 ∧ a < b) := by
  unfold cmz
  split
  · exact Or.inl ⟨rfl, by omega⟩
  · split
    · exact Or.inr (Or.inl ⟨rfl, by omega⟩)
    · exact Or.inr (Or.inr ⟨rfl, by omega⟩)
/-- best, area, ofSheet, firstWay, the walk's state -/
abbrev mb_T : Type := Int × Int × (Nat → Int) × (Nat → Int) × mw_T
def mb_u (T : mt_T) (K le S t : Int) (wa sw sh : Nat → Int) (k : Nat) (u : mw_T) : mw_T := mw_all T K le S t (sw k) (sh k) wa u
def mb_step (T : mt_T) (K le S t : Int) (wa sw sh ce is_ : Nat → Int) (k : Nat) (b : mb_T) : mb_T :=
  if 0 < is_ k then (if 0 < (mb_u T K le S t wa sw sh k b.2.2.2.2).ta t.toNat ∧ (b.1 < 0 ∨ b.2.1 * ce k < (mb_u T K le S t wa sw sh k b.2.2.2.2).ta t.toNat * ce b.1.toNat) then ((k : Int), (mb_u T K le S t wa sw sh k b.2.2.2.2).ta t.toNat, va_up b.2.2.1 t.toNat (k : Int), va_up b.2.2.2.1 t.toNat (wy T S (sw k) (sh k)), mb_u T K le S t wa sw sh k b.2.2.2.2) else (b.1, b.2.1, va_up b.2.2.1 t.toNat (k : Int), va_up b.2.2.2.1 t.toNat (wy T S (sw k) (sh k)), mb_u T K le S t wa sw sh k b.2.2.2.2)) else b
def mb_go (T : mt_T) (K le S t : Int) (wa sw sh ce is_ : Nat → Int) (b : mb_T) : Nat → mb_T
  | 0 => b
  | n + 1 => mb_step T K le S t wa sw sh ce is_ n (mb_go T K le S t wa sw sh ce is_ b n)
/-- wanted, inStock, ofSheet, firstWay, the walk's state, tables -/
abbrev mr_T : Type := (Nat → Int) × (Nat → Int) × (Nat → Int) × (Nat → Int) × mw_T × mt_T
def mr_b (pw ph tu sw sh ce : Nat → Int) (nS nP : Nat) (K le S t : Int) (r : mr_T) : mb_T := mb_go (fi_s pw ph tu r.1 nP K r.2.2.2.2.2 4) K le S t r.1 sw sh ce r.2.1 (-1, 0, r.2.2.1, r.2.2.2.1, r.2.2.2.2.1) nS
def mr_e (pw ph tu sw sh ce : Nat → Int) (nS nP : Nat) (K le S t : Int) (r : mr_T) : mr_T := (r.1, r.2.1, (mr_b pw ph tu sw sh ce nS nP K le S t r).2.2.1, (mr_b pw ph tu sw sh ce nS nP K le S t r).2.2.2.1, (mr_b pw ph tu sw sh ce nS nP K le S t r).2.2.2.2, fi_s pw ph tu r.1 nP K r.2.2.2.2.2 4)
/-- one more sheet k is cut -/
def mr_c (sw sh : Nat → Int) (K le S t : Int) (k : Nat) (r : mr_T) : mr_T := (cp r.1 (mb_u r.2.2.2.2.2 K le S t r.1 sw sh k r.2.2.2.2.1).st 8, va_up r.2.1 k (r.2.1 k - 1), va_up r.2.2.1 t.toNat (k : Int), va_up r.2.2.2.1 t.toNat (wy r.2.2.2.2.2 S (sw k) (sh k)), mb_u r.2.2.2.2.2 K le S t r.1 sw sh k r.2.2.2.2.1, r.2.2.2.2.2)
def mr_go (pw ph tu sw sh ce : Nat → Int) (nS nP : Nat) (K le S : Int) : Nat → Nat → mr_T → Nat × mr_T
  | 0, i, r => (i, r)
  | n + 1, i, r => if (mr_b pw ph tu sw sh ce nS nP K le S (i : Int) r).1 < 0 then (i, mr_e pw ph tu sw sh ce nS nP K le S (i : Int) r) else mr_go pw ph tu sw sh ce nS nP K le S n (i + 1) (mr_c sw sh K le S (i : Int) (mr_b pw ph tu sw sh ce nS nP K le S (i : Int) r).1.toNat (mr_e pw ph tu sw sh ce nS nP K le S (i : Int) r))
def MBI (ce is_ : Nat → Int) (k : Int) (b : mb_T) : Prop := (-1 ≤ b.1 ∧ b.1 < k) ∧ (0 ≤ b.2.1 ∧ b.2.1 ≤ 256) ∧ (0 ≤ b.1 → 0 < is_ b.1.toNat)
/-- what a round finds -/
def MRI (nS : Nat) (r : mr_T) : Prop := (∀ i : Nat, i < 8 → 0 ≤ r.1 i ∧ r.1 i ≤ 50) ∧ (∀ i : Nat, i < nS → 0 ≤ r.2.1 i ∧ r.2.1 i ≤ 20) ∧ MI r.2.2.2.2.2 ∧ MCH r.2.2.2.2.2.2.2
def told (nS : Nat) (sw sh ce : Nat → Int) : Prop := ∀ i : Nat, i < nS → (1 ≤ sw i ∧ sw i ≤ 16) ∧ (1 ≤ sh i ∧ sh i ≤ 16) ∧ 1 ≤ ce i ∧ ce i ≤ 10000
theorem MBI_step {T : mt_T} {K le S t : Int} {wa sw sh ce is_ : Nat → Int} {k : Nat} {b : mb_T} (hC : MCH T.2.2) (hK : 0 ≤ K) (hS : 0 ≤ S ∧ S ≤ 3) (hw : 1 ≤ sw k ∧ sw k ≤ 16) (hh : 1 ≤ sh k ∧ sh k ≤ 16) (hwa : ∀ i : Nat, i < 8 → 0 ≤ wa i ∧ wa i ≤ 50) (h : MBI ce is_ (k : Int) b) : MBI ce is_ ((k : Int) + 1) (mb_step T K le S t wa sw sh ce is_ k b) := by
  have h1 := (mw_all_ok (le := le) (t := t) (u := b.2.2.2.2) hC hK hS hw hh hwa).1
  obtain ⟨a1, a2, a3⟩ := h
  unfold mb_step
  split
  · rename_i hi
    split
    · refine ⟨⟨by show -1 ≤ (k : Int); omega, by show (k : Int) < k + 1; omega⟩, h1, fun _ => ?_⟩
      show 0 < is_ ((k : Int)).toNat
      rw [Int.toNat_natCast]
      exact hi
    · exact ⟨⟨a1.1, by show b.1 < (k : Int) + 1; omega⟩, a2, a3⟩
  · exact ⟨⟨a1.1, by omega⟩, a2, a3⟩
theorem MBI_go {T : mt_T} {K le S t : Int} {wa sw sh ce is_ : Nat → Int} {b : mb_T} {nS : Nat} (hC : MCH T.2.2) (hK : 0 ≤ K) (hS : 0 ≤ S ∧ S ≤ 3) (ht : told nS sw sh ce) (hwa : ∀ i : Nat, i < 8 → 0 ≤ wa i ∧ wa i ≤ 50) (h : MBI ce is_ 0 b) : ∀ n : Nat, n ≤ nS → MBI ce is_ (n : Int) (mb_go T K le S t wa sw sh ce is_ b n)
  | 0, _ => h
  | n + 1, hn => MBI_step hC hK hS (ht n (by omega)).1 (ht n (by omega)).2.1 hwa (MBI_go hC hK hS ht hwa h n (by omega))
set_option maxHeartbeats 4000000 in
set_option maxRecDepth 100000 in
theorem c_MO_run (l : Launch) (D : va_G) (m nS nP : Nat) (q : Nat → Nat) (K S le cd rn dn : Int) (cI cZ : ClassId) (pw ph tu co sk is0 sw sh ce wa0 : Nat → Int) (of0 fw0 : Nat → Int) (u0 : mw_T) (T0 : mt_T) (hnS : nS ≤ 4) (hnP : nP ≤ 8) (hK : 0 ≤ K ∧ K ≤ 3) (hS : 0 ≤ S ∧ S ≤ 3) (hle : 1 ≤ le ∧ le ≤ 16) (hb : ∀ i : Nat, i < 8 → (0 ≤ pw i ∧ pw i ≤ 16) ∧ (0 ≤ ph i ∧ ph i ≤ 16) ∧ 0 ≤ tu i ∧ tu i ≤ 1) (hco : ∀ i : Nat, i < 8 → 0 ≤ co i ∧ co i ≤ 50) (hsk : ∀ i : Nat, i < 4 → 0 ≤ sk i ∧ sk i ≤ 20) (htold : told nS sw sh ce) (hT0 : MI T0) (hC0 : MCH T0.2.2) : CM l y_MO_run b_MO_run 8 (some .int) rm_3 [.ref m] D [(cI, .int), (cZ, .boolean)] ([ob_MO m q K S le cd (nS : Int) (nP : Int) rn dn, ar_I (q 23) cI 20 of0, ar_I (q 24) cI 20 fw0, ar_I (q 25) cI 20 u0.cc, ar_I (q 26) cI 20 u0.mi, ar_I (q 27) cI 20 u0.tc, ar_I (q 28) cI 20 u0.ta, ar_I (q 29) cI 20 u0.rc, ar_I (q 30) cI 20 u0.nc, ar_I (q 31) cI 12000 u0.no, ar_I (q 32) cI 25600 u0.tk, ar_I (q 33) cI 20480 u0.rs, ar_I (q 20) cI 3600 u0.wt, ar_I (q 16) cI 8 u0.st, ar_I (q 14) cI 8 wa0, ar_I (q 5) cI 4 sw, ar_I (q 6) cI 4 sh, ar_I (q 17) cI 2312 T0.1, ar_I (q 18) cI 2312 T0.2.1, ar_I (q 19) cI 2312 T0.2.2, ar_I (q 12) cI 8 co, ar_I (q 8) cI 4 sk, ar_I (q 15) cI 4 is0, ar_I (q 7) cI 4 ce, ar_I (q 10) cI 8 pw, ar_I (q 11) cI 8 ph, ar_I (q 13) cZ 8 tu] ++ []) (fun r w1 p1 _ => r = some (.int (iI (((mr_go pw ph tu sw sh ce nS nP K le S 20 0 ((wl co nP wa0 8, cp is0 sk 4, of0, fw0, u0, T0) : mr_T)).1 : Nat) : Int))) ∧ w1 = [ob_MO m q K S le 0 (nS : Int) (nP : Int) 1 (((mr_go pw ph tu sw sh ce nS nP K le S 20 0 ((wl co nP wa0 8, cp is0 sk 4, of0, fw0, u0, T0) : mr_T)).1 : Nat) : Int), ar_I (q 23) cI 20 (mr_go pw ph tu sw sh ce nS nP K le S 20 0 ((wl co nP wa0 8, cp is0 sk 4, of0, fw0, u0, T0) : mr_T)).2.2.2.1, ar_I (q 24) cI 20 (mr_go pw ph tu sw sh ce nS nP K le S 20 0 ((wl co nP wa0 8, cp is0 sk 4, of0, fw0, u0, T0) : mr_T)).2.2.2.2.1, ar_I (q 25) cI 20 (mr_go pw ph tu sw sh ce nS nP K le S 20 0 ((wl co nP wa0 8, cp is0 sk 4, of0, fw0, u0, T0) : mr_T)).2.2.2.2.2.1.cc, ar_I (q 26) cI 20 (mr_go pw ph tu sw sh ce nS nP K le S 20 0 ((wl co nP wa0 8, cp is0 sk 4, of0, fw0, u0, T0) : mr_T)).2.2.2.2.2.1.mi, ar_I (q 27) cI 20 (mr_go pw ph tu sw sh ce nS nP K le S 20 0 ((wl co nP wa0 8, cp is0 sk 4, of0, fw0, u0, T0) : mr_T)).2.2.2.2.2.1.tc, ar_I (q 28) cI 20 (mr_go pw ph tu sw sh ce nS nP K le S 20 0 ((wl co nP wa0 8, cp is0 sk 4, of0, fw0, u0, T0) : mr_T)).2.2.2.2.2.1.ta, ar_I (q 29) cI 20 (mr_go pw ph tu sw sh ce nS nP K le S 20 0 ((wl co nP wa0 8, cp is0 sk 4, of0, fw0, u0, T0) : mr_T)).2.2.2.2.2.1.rc, ar_I (q 30) cI 20 (mr_go pw ph tu sw sh ce nS nP K le S 20 0 ((wl co nP wa0 8, cp is0 sk 4, of0, fw0, u0, T0) : mr_T)).2.2.2.2.2.1.nc, ar_I (q 31) cI 12000 (mr_go pw ph tu sw sh ce nS nP K le S 20 0 ((wl co nP wa0 8, cp is0 sk 4, of0, fw0, u0, T0) : mr_T)).2.2.2.2.2.1.no, ar_I (q 32) cI 25600 (mr_go pw ph tu sw sh ce nS nP K le S 20 0 ((wl co nP wa0 8, cp is0 sk 4, of0, fw0, u0, T0) : mr_T)).2.2.2.2.2.1.tk, ar_I (q 33) cI 20480 (mr_go pw ph tu sw sh ce nS nP K le S 20 0 ((wl co nP wa0 8, cp is0 sk 4, of0, fw0, u0, T0) : mr_T)).2.2.2.2.2.1.rs, ar_I (q 20) cI 3600 (mr_go pw ph tu sw sh ce nS nP K le S 20 0 ((wl co nP wa0 8, cp is0 sk 4, of0, fw0, u0, T0) : mr_T)).2.2.2.2.2.1.wt, ar_I (q 16) cI 8 (mr_go pw ph tu sw sh ce nS nP K le S 20 0 ((wl co nP wa0 8, cp is0 sk 4, of0, fw0, u0, T0) : mr_T)).2.2.2.2.2.1.st, ar_I (q 14) cI 8 (mr_go pw ph tu sw sh ce nS nP K le S 20 0 ((wl co nP wa0 8, cp is0 sk 4, of0, fw0, u0, T0) : mr_T)).2.1, ar_I (q 5) cI 4 sw, ar_I (q 6) cI 4 sh, ar_I (q 17) cI 2312 (mr_go pw ph tu sw sh ce nS nP K le S 20 0 ((wl co nP wa0 8, cp is0 sk 4, of0, fw0, u0, T0) : mr_T)).2.2.2.2.2.2.1, ar_I (q 18) cI 2312 (mr_go pw ph tu sw sh ce nS nP K le S 20 0 ((wl co nP wa0 8, cp is0 sk 4, of0, fw0, u0, T0) : mr_T)).2.2.2.2.2.2.2.1, ar_I (q 19) cI 2312 (mr_go pw ph tu sw sh ce nS nP K le S 20 0 ((wl co nP wa0 8, cp is0 sk 4, of0, fw0, u0, T0) : mr_T)).2.2.2.2.2.2.2.2, ar_I (q 12) cI 8 co, ar_I (q 8) cI 4 sk, ar_I (q 15) cI 4 (mr_go pw ph tu sw sh ce nS nP K le S 20 0 ((wl co nP wa0 8, cp is0 sk 4, of0, fw0, u0, T0) : mr_T)).2.2.1, ar_I (q 7) cI 4 ce, ar_I (q 10) cI 8 pw, ar_I (q 11) cI 8 ph, ar_I (q 13) cZ 8 tu] ∧ p1 = []) := by
  refine cm_of (by decide) (Nat.le_of_ble_eq_true rfl) ?_
  intro X sz hl hr hnm hD hA hw
  subst hD
  have fin0 : ∀ (i : Nat) (r : mr_T), (i, r) = (mr_go pw ph tu sw sh ce nS nP K le S 20 0 ((wl co nP wa0 8, cp is0 sk 4, of0, fw0, u0, T0) : mr_T)) → VV X (b_MO_run, 8, "SheetTreesModel", rm_3) (cq X ([ob_MO m q K S le cd (nS : Int) (nP : Int) rn dn, ar_I (q 23) cI 20 of0, ar_I (q 24) cI 20 fw0, ar_I (q 25) cI 20 u0.cc, ar_I (q 26) cI 20 u0.mi, ar_I (q 27) cI 20 u0.tc, ar_I (q 28) cI 20 u0.ta, ar_I (q 29) cI 20 u0.rc, ar_I (q 30) cI 20 u0.nc, ar_I (q 31) cI 12000 u0.no, ar_I (q 32) cI 25600 u0.tk, ar_I (q 33) cI 20480 u0.rs, ar_I (q 20) cI 3600 u0.wt, ar_I (q 16) cI 8 u0.st, ar_I (q 14) cI 8 wa0, ar_I (q 5) cI 4 sw, ar_I (q 6) cI 4 sh, ar_I (q 17) cI 2312 T0.1, ar_I (q 18) cI 2312 T0.2.1, ar_I (q 19) cI 2312 T0.2.2, ar_I (q 12) cI 8 co, ar_I (q 8) cI 4 sk, ar_I (q 15) cI 4 is0, ar_I (q 7) cI 4 ce, ar_I (q 10) cI 8 pw, ar_I (q 11) cI 8 ph, ar_I (q 13) cZ 8 tu] ++ []) sz (fun r w1 p1 _ => r = some (.int (iI (((mr_go pw ph tu sw sh ce nS nP K le S 20 0 ((wl co nP wa0 8, cp is0 sk 4, of0, fw0, u0, T0) : mr_T)).1 : Nat) : Int))) ∧ w1 = [ob_MO m q K S le 0 (nS : Int) (nP : Int) 1 (((mr_go pw ph tu sw sh ce nS nP K le S 20 0 ((wl co nP wa0 8, cp is0 sk 4, of0, fw0, u0, T0) : mr_T)).1 : Nat) : Int), ar_I (q 23) cI 20 (mr_go pw ph tu sw sh ce nS nP K le S 20 0 ((wl co nP wa0 8, cp is0 sk 4, of0, fw0, u0, T0) : mr_T)).2.2.2.1, ar_I (q 24) cI 20 (mr_go pw ph tu sw sh ce nS nP K le S 20 0 ((wl co nP wa0 8, cp is0 sk 4, of0, fw0, u0, T0) : mr_T)).2.2.2.2.1, ar_I (q 25) cI 20 (mr_go pw ph tu sw sh ce nS nP K le S 20 0 ((wl co nP wa0 8, cp is0 sk 4, of0, fw0, u0, T0) : mr_T)).2.2.2.2.2.1.cc, ar_I (q 26) cI 20 (mr_go pw ph tu sw sh ce nS nP K le S 20 0 ((wl co nP wa0 8, cp is0 sk 4, of0, fw0, u0, T0) : mr_T)).2.2.2.2.2.1.mi, ar_I (q 27) cI 20 (mr_go pw ph tu sw sh ce nS nP K le S 20 0 ((wl co nP wa0 8, cp is0 sk 4, of0, fw0, u0, T0) : mr_T)).2.2.2.2.2.1.tc, ar_I (q 28) cI 20 (mr_go pw ph tu sw sh ce nS nP K le S 20 0 ((wl co nP wa0 8, cp is0 sk 4, of0, fw0, u0, T0) : mr_T)).2.2.2.2.2.1.ta, ar_I (q 29) cI 20 (mr_go pw ph tu sw sh ce nS nP K le S 20 0 ((wl co nP wa0 8, cp is0 sk 4, of0, fw0, u0, T0) : mr_T)).2.2.2.2.2.1.rc, ar_I (q 30) cI 20 (mr_go pw ph tu sw sh ce nS nP K le S 20 0 ((wl co nP wa0 8, cp is0 sk 4, of0, fw0, u0, T0) : mr_T)).2.2.2.2.2.1.nc, ar_I (q 31) cI 12000 (mr_go pw ph tu sw sh ce nS nP K le S 20 0 ((wl co nP wa0 8, cp is0 sk 4, of0, fw0, u0, T0) : mr_T)).2.2.2.2.2.1.no, ar_I (q 32) cI 25600 (mr_go pw ph tu sw sh ce nS nP K le S 20 0 ((wl co nP wa0 8, cp is0 sk 4, of0, fw0, u0, T0) : mr_T)).2.2.2.2.2.1.tk, ar_I (q 33) cI 20480 (mr_go pw ph tu sw sh ce nS nP K le S 20 0 ((wl co nP wa0 8, cp is0 sk 4, of0, fw0, u0, T0) : mr_T)).2.2.2.2.2.1.rs, ar_I (q 20) cI 3600 (mr_go pw ph tu sw sh ce nS nP K le S 20 0 ((wl co nP wa0 8, cp is0 sk 4, of0, fw0, u0, T0) : mr_T)).2.2.2.2.2.1.wt, ar_I (q 16) cI 8 (mr_go pw ph tu sw sh ce nS nP K le S 20 0 ((wl co nP wa0 8, cp is0 sk 4, of0, fw0, u0, T0) : mr_T)).2.2.2.2.2.1.st, ar_I (q 14) cI 8 (mr_go pw ph tu sw sh ce nS nP K le S 20 0 ((wl co nP wa0 8, cp is0 sk 4, of0, fw0, u0, T0) : mr_T)).2.1, ar_I (q 5) cI 4 sw, ar_I (q 6) cI 4 sh, ar_I (q 17) cI 2312 (mr_go pw ph tu sw sh ce nS nP K le S 20 0 ((wl co nP wa0 8, cp is0 sk 4, of0, fw0, u0, T0) : mr_T)).2.2.2.2.2.2.1, ar_I (q 18) cI 2312 (mr_go pw ph tu sw sh ce nS nP K le S 20 0 ((wl co nP wa0 8, cp is0 sk 4, of0, fw0, u0, T0) : mr_T)).2.2.2.2.2.2.2.1, ar_I (q 19) cI 2312 (mr_go pw ph tu sw sh ce nS nP K le S 20 0 ((wl co nP wa0 8, cp is0 sk 4, of0, fw0, u0, T0) : mr_T)).2.2.2.2.2.2.2.2, ar_I (q 12) cI 8 co, ar_I (q 8) cI 4 sk, ar_I (q 15) cI 4 (mr_go pw ph tu sw sh ce nS nP K le S 20 0 ((wl co nP wa0 8, cp is0 sk 4, of0, fw0, u0, T0) : mr_T)).2.2.1, ar_I (q 7) cI 4 ce, ar_I (q 10) cI 8 pw, ar_I (q 11) cI 8 ph, ar_I (q 13) cZ 8 tu] ∧ p1 = []) rm_3) 0 0 [(cI, .int), (cZ, .boolean)] [ob_MO m q K S le 0 (nS : Int) (nP : Int) 1 (i : Int), ar_I (q 23) cI 20 r.2.2.1, ar_I (q 24) cI 20 r.2.2.2.1, ar_I (q 25) cI 20 r.2.2.2.2.1.cc, ar_I (q 26) cI 20 r.2.2.2.2.1.mi, ar_I (q 27) cI 20 r.2.2.2.2.1.tc, ar_I (q 28) cI 20 r.2.2.2.2.1.ta, ar_I (q 29) cI 20 r.2.2.2.2.1.rc, ar_I (q 30) cI 20 r.2.2.2.2.1.nc, ar_I (q 31) cI 12000 r.2.2.2.2.1.no, ar_I (q 32) cI 25600 r.2.2.2.2.1.tk, ar_I (q 33) cI 20480 r.2.2.2.2.1.rs, ar_I (q 20) cI 3600 r.2.2.2.2.1.wt, ar_I (q 16) cI 8 r.2.2.2.2.1.st, ar_I (q 14) cI 8 r.1, ar_I (q 5) cI 4 sw, ar_I (q 6) cI 4 sh, ar_I (q 17) cI 2312 r.2.2.2.2.2.1, ar_I (q 18) cI 2312 r.2.2.2.2.2.2.1, ar_I (q 19) cI 2312 r.2.2.2.2.2.2.2, ar_I (q 12) cI 8 co, ar_I (q 8) cI 4 sk, ar_I (q 15) cI 4 r.2.1, ar_I (q 7) cI 4 ce, ar_I (q 10) cI 8 pw, ar_I (q 11) cI 8 ph, ar_I (q 13) cZ 8 tu] [] [some (.ref m), some (.int (iI 0)), none, none, none, none, none, none] [] 46 := by
    intro i r hfin
    refine vv_iload_n d_MO_run_46 rfl ?_
    refine vv_if_eq (tgt := 234) d_MO_run_47 (by decide) (by omega) (fun c47 => ?_) (fun c47 => ?_)
    · skip
      refine vv_aload_n d_MO_run_234 rfl ?_
      refine vv_get d_MO_run_235 0 rfl fl_MO_152 rfl ?_
      exact vv_iret hA hw hr d_MO_run_238 (by decide) (by decide) (by rw [← hfin]; exact ⟨rfl, rfl, rfl⟩)
    · exfalso; omega
  have loop : ∀ (n i : Nat) (r : mr_T), i + n = 20 → MRI nS r → mr_go pw ph tu sw sh ce nS nP K le S n i r = (mr_go pw ph tu sw sh ce nS nP K le S 20 0 ((wl co nP wa0 8, cp is0 sk 4, of0, fw0, u0, T0) : mr_T)) → VV X (b_MO_run, 8, "SheetTreesModel", rm_3) (cq X ([ob_MO m q K S le cd (nS : Int) (nP : Int) rn dn, ar_I (q 23) cI 20 of0, ar_I (q 24) cI 20 fw0, ar_I (q 25) cI 20 u0.cc, ar_I (q 26) cI 20 u0.mi, ar_I (q 27) cI 20 u0.tc, ar_I (q 28) cI 20 u0.ta, ar_I (q 29) cI 20 u0.rc, ar_I (q 30) cI 20 u0.nc, ar_I (q 31) cI 12000 u0.no, ar_I (q 32) cI 25600 u0.tk, ar_I (q 33) cI 20480 u0.rs, ar_I (q 20) cI 3600 u0.wt, ar_I (q 16) cI 8 u0.st, ar_I (q 14) cI 8 wa0, ar_I (q 5) cI 4 sw, ar_I (q 6) cI 4 sh, ar_I (q 17) cI 2312 T0.1, ar_I (q 18) cI 2312 T0.2.1, ar_I (q 19) cI 2312 T0.2.2, ar_I (q 12) cI 8 co, ar_I (q 8) cI 4 sk, ar_I (q 15) cI 4 is0, ar_I (q 7) cI 4 ce, ar_I (q 10) cI 8 pw, ar_I (q 11) cI 8 ph, ar_I (q 13) cZ 8 tu] ++ []) sz (fun r w1 p1 _ => r = some (.int (iI (((mr_go pw ph tu sw sh ce nS nP K le S 20 0 ((wl co nP wa0 8, cp is0 sk 4, of0, fw0, u0, T0) : mr_T)).1 : Nat) : Int))) ∧ w1 = [ob_MO m q K S le 0 (nS : Int) (nP : Int) 1 (((mr_go pw ph tu sw sh ce nS nP K le S 20 0 ((wl co nP wa0 8, cp is0 sk 4, of0, fw0, u0, T0) : mr_T)).1 : Nat) : Int), ar_I (q 23) cI 20 (mr_go pw ph tu sw sh ce nS nP K le S 20 0 ((wl co nP wa0 8, cp is0 sk 4, of0, fw0, u0, T0) : mr_T)).2.2.2.1, ar_I (q 24) cI 20 (mr_go pw ph tu sw sh ce nS nP K le S 20 0 ((wl co nP wa0 8, cp is0 sk 4, of0, fw0, u0, T0) : mr_T)).2.2.2.2.1, ar_I (q 25) cI 20 (mr_go pw ph tu sw sh ce nS nP K le S 20 0 ((wl co nP wa0 8, cp is0 sk 4, of0, fw0, u0, T0) : mr_T)).2.2.2.2.2.1.cc, ar_I (q 26) cI 20 (mr_go pw ph tu sw sh ce nS nP K le S 20 0 ((wl co nP wa0 8, cp is0 sk 4, of0, fw0, u0, T0) : mr_T)).2.2.2.2.2.1.mi, ar_I (q 27) cI 20 (mr_go pw ph tu sw sh ce nS nP K le S 20 0 ((wl co nP wa0 8, cp is0 sk 4, of0, fw0, u0, T0) : mr_T)).2.2.2.2.2.1.tc, ar_I (q 28) cI 20 (mr_go pw ph tu sw sh ce nS nP K le S 20 0 ((wl co nP wa0 8, cp is0 sk 4, of0, fw0, u0, T0) : mr_T)).2.2.2.2.2.1.ta, ar_I (q 29) cI 20 (mr_go pw ph tu sw sh ce nS nP K le S 20 0 ((wl co nP wa0 8, cp is0 sk 4, of0, fw0, u0, T0) : mr_T)).2.2.2.2.2.1.rc, ar_I (q 30) cI 20 (mr_go pw ph tu sw sh ce nS nP K le S 20 0 ((wl co nP wa0 8, cp is0 sk 4, of0, fw0, u0, T0) : mr_T)).2.2.2.2.2.1.nc, ar_I (q 31) cI 12000 (mr_go pw ph tu sw sh ce nS nP K le S 20 0 ((wl co nP wa0 8, cp is0 sk 4, of0, fw0, u0, T0) : mr_T)).2.2.2.2.2.1.no, ar_I (q 32) cI 25600 (mr_go pw ph tu sw sh ce nS nP K le S 20 0 ((wl co nP wa0 8, cp is0 sk 4, of0, fw0, u0, T0) : mr_T)).2.2.2.2.2.1.tk, ar_I (q 33) cI 20480 (mr_go pw ph tu sw sh ce nS nP K le S 20 0 ((wl co nP wa0 8, cp is0 sk 4, of0, fw0, u0, T0) : mr_T)).2.2.2.2.2.1.rs, ar_I (q 20) cI 3600 (mr_go pw ph tu sw sh ce nS nP K le S 20 0 ((wl co nP wa0 8, cp is0 sk 4, of0, fw0, u0, T0) : mr_T)).2.2.2.2.2.1.wt, ar_I (q 16) cI 8 (mr_go pw ph tu sw sh ce nS nP K le S 20 0 ((wl co nP wa0 8, cp is0 sk 4, of0, fw0, u0, T0) : mr_T)).2.2.2.2.2.1.st, ar_I (q 14) cI 8 (mr_go pw ph tu sw sh ce nS nP K le S 20 0 ((wl co nP wa0 8, cp is0 sk 4, of0, fw0, u0, T0) : mr_T)).2.1, ar_I (q 5) cI 4 sw, ar_I (q 6) cI 4 sh, ar_I (q 17) cI 2312 (mr_go pw ph tu sw sh ce nS nP K le S 20 0 ((wl co nP wa0 8, cp is0 sk 4, of0, fw0, u0, T0) : mr_T)).2.2.2.2.2.2.1, ar_I (q 18) cI 2312 (mr_go pw ph tu sw sh ce nS nP K le S 20 0 ((wl co nP wa0 8, cp is0 sk 4, of0, fw0, u0, T0) : mr_T)).2.2.2.2.2.2.2.1, ar_I (q 19) cI 2312 (mr_go pw ph tu sw sh ce nS nP K le S 20 0 ((wl co nP wa0 8, cp is0 sk 4, of0, fw0, u0, T0) : mr_T)).2.2.2.2.2.2.2.2, ar_I (q 12) cI 8 co, ar_I (q 8) cI 4 sk, ar_I (q 15) cI 4 (mr_go pw ph tu sw sh ce nS nP K le S 20 0 ((wl co nP wa0 8, cp is0 sk 4, of0, fw0, u0, T0) : mr_T)).2.2.1, ar_I (q 7) cI 4 ce, ar_I (q 10) cI 8 pw, ar_I (q 11) cI 8 ph, ar_I (q 13) cZ 8 tu] ∧ p1 = []) rm_3) 0 0 [(cI, .int), (cZ, .boolean)] [ob_MO m q K S le 0 (nS : Int) (nP : Int) 1 (i : Int), ar_I (q 23) cI 20 r.2.2.1, ar_I (q 24) cI 20 r.2.2.2.1, ar_I (q 25) cI 20 r.2.2.2.2.1.cc, ar_I (q 26) cI 20 r.2.2.2.2.1.mi, ar_I (q 27) cI 20 r.2.2.2.2.1.tc, ar_I (q 28) cI 20 r.2.2.2.2.1.ta, ar_I (q 29) cI 20 r.2.2.2.2.1.rc, ar_I (q 30) cI 20 r.2.2.2.2.1.nc, ar_I (q 31) cI 12000 r.2.2.2.2.1.no, ar_I (q 32) cI 25600 r.2.2.2.2.1.tk, ar_I (q 33) cI 20480 r.2.2.2.2.1.rs, ar_I (q 20) cI 3600 r.2.2.2.2.1.wt, ar_I (q 16) cI 8 r.2.2.2.2.1.st, ar_I (q 14) cI 8 r.1, ar_I (q 5) cI 4 sw, ar_I (q 6) cI 4 sh, ar_I (q 17) cI 2312 r.2.2.2.2.2.1, ar_I (q 18) cI 2312 r.2.2.2.2.2.2.1, ar_I (q 19) cI 2312 r.2.2.2.2.2.2.2, ar_I (q 12) cI 8 co, ar_I (q 8) cI 4 sk, ar_I (q 15) cI 4 r.2.1, ar_I (q 7) cI 4 ce, ar_I (q 10) cI 8 pw, ar_I (q 11) cI 8 ph, ar_I (q 13) cZ 8 tu] [] [some (.ref m), some (.int (iI 1)), none, none, none, none, none, none] [] 46 := by
    intro n
    induction n with
    | zero =>
      intro i r hi hI hgo
      have hfin : (i, r) = (mr_go pw ph tu sw sh ce nS nP K le S 20 0 ((wl co nP wa0 8, cp is0 sk 4, of0, fw0, u0, T0) : mr_T)) := hgo
      refine vv_iload_n d_MO_run_46 rfl ?_
      refine vv_if_eq (tgt := 234) d_MO_run_47 (by decide) (by omega) (fun c47 => ?_) (fun c47 => ?_)
      · exfalso; omega
      · skip
        refine vv_aload_n d_MO_run_50 rfl ?_
        refine vv_get d_MO_run_51 0 rfl fl_MO_152 rfl ?_
        refine vv_bipush d_MO_run_54 (by decide +kernel) ?_
        refine vv_icmp_ge (tgt := 234) d_MO_run_56 (by decide) ⟨by omega, by omega⟩ (fun c56 => ?_) (fun c56 => ?_)
        · skip
          refine vv_aload_n d_MO_run_234 rfl ?_
          refine vv_get d_MO_run_235 0 rfl fl_MO_152 rfl ?_
          exact vv_iret hA hw hr d_MO_run_238 (by decide) (by decide) (by rw [← hfin]; exact ⟨rfl, rfl, rfl⟩)
        · exfalso; omega
    | succ n ih =>
      intro i r hi hI hgo
      have hi20 : i < 20 := by omega
      have hMI1 : MI (fi_s pw ph tu r.1 nP K r.2.2.2.2.2 4) := MI_fs hI.2.2.1 hK.1 4 (by omega)
      have hMC1 : MCH (fi_s pw ph tu r.1 nP K r.2.2.2.2.2 4).2.2 := MCH_fs hI.2.2.2 hnP 4 (by omega)
      have hwa := hI.1
      have hwa2 : ∀ j : Nat, j < 8 → 0 ≤ r.1 j ∧ r.1 j ≤ 1000000 := fun j hj => by have := hwa j hj; omega
      have hb0 : MBI ce r.2.1 0 (-1, 0, r.2.2.1, r.2.2.2.1, r.2.2.2.2.1) := ⟨⟨by show (-1 : Int) ≤ -1; omega, by show (-1 : Int) < 0; omega⟩, ⟨by show (0 : Int) ≤ 0; omega, by show (0 : Int) ≤ 256; omega⟩, fun z => by have z2 : (0 : Int) ≤ -1 := z; omega⟩
      have hbF := MBI_go (le := le) (t := (i : Int)) hMC1 hK.1 hS htold hwa hb0 nS (Nat.le_refl nS)
      have hgo := hgo
      unfold mr_go at hgo
      have behind : VV X (b_MO_run, 8, "SheetTreesModel", rm_3) (cq X ([ob_MO m q K S le cd (nS : Int) (nP : Int) rn dn, ar_I (q 23) cI 20 of0, ar_I (q 24) cI 20 fw0, ar_I (q 25) cI 20 u0.cc, ar_I (q 26) cI 20 u0.mi, ar_I (q 27) cI 20 u0.tc, ar_I (q 28) cI 20 u0.ta, ar_I (q 29) cI 20 u0.rc, ar_I (q 30) cI 20 u0.nc, ar_I (q 31) cI 12000 u0.no, ar_I (q 32) cI 25600 u0.tk, ar_I (q 33) cI 20480 u0.rs, ar_I (q 20) cI 3600 u0.wt, ar_I (q 16) cI 8 u0.st, ar_I (q 14) cI 8 wa0, ar_I (q 5) cI 4 sw, ar_I (q 6) cI 4 sh, ar_I (q 17) cI 2312 T0.1, ar_I (q 18) cI 2312 T0.2.1, ar_I (q 19) cI 2312 T0.2.2, ar_I (q 12) cI 8 co, ar_I (q 8) cI 4 sk, ar_I (q 15) cI 4 is0, ar_I (q 7) cI 4 ce, ar_I (q 10) cI 8 pw, ar_I (q 11) cI 8 ph, ar_I (q 13) cZ 8 tu] ++ []) sz (fun r w1 p1 _ => r = some (.int (iI (((mr_go pw ph tu sw sh ce nS nP K le S 20 0 ((wl co nP wa0 8, cp is0 sk 4, of0, fw0, u0, T0) : mr_T)).1 : Nat) : Int))) ∧ w1 = [ob_MO m q K S le 0 (nS : Int) (nP : Int) 1 (((mr_go pw ph tu sw sh ce nS nP K le S 20 0 ((wl co nP wa0 8, cp is0 sk 4, of0, fw0, u0, T0) : mr_T)).1 : Nat) : Int), ar_I (q 23) cI 20 (mr_go pw ph tu sw sh ce nS nP K le S 20 0 ((wl co nP wa0 8, cp is0 sk 4, of0, fw0, u0, T0) : mr_T)).2.2.2.1, ar_I (q 24) cI 20 (mr_go pw ph tu sw sh ce nS nP K le S 20 0 ((wl co nP wa0 8, cp is0 sk 4, of0, fw0, u0, T0) : mr_T)).2.2.2.2.1, ar_I (q 25) cI 20 (mr_go pw ph tu sw sh ce nS nP K le S 20 0 ((wl co nP wa0 8, cp is0 sk 4, of0, fw0, u0, T0) : mr_T)).2.2.2.2.2.1.cc, ar_I (q 26) cI 20 (mr_go pw ph tu sw sh ce nS nP K le S 20 0 ((wl co nP wa0 8, cp is0 sk 4, of0, fw0, u0, T0) : mr_T)).2.2.2.2.2.1.mi, ar_I (q 27) cI 20 (mr_go pw ph tu sw sh ce nS nP K le S 20 0 ((wl co nP wa0 8, cp is0 sk 4, of0, fw0, u0, T0) : mr_T)).2.2.2.2.2.1.tc, ar_I (q 28) cI 20 (mr_go pw ph tu sw sh ce nS nP K le S 20 0 ((wl co nP wa0 8, cp is0 sk 4, of0, fw0, u0, T0) : mr_T)).2.2.2.2.2.1.ta, ar_I (q 29) cI 20 (mr_go pw ph tu sw sh ce nS nP K le S 20 0 ((wl co nP wa0 8, cp is0 sk 4, of0, fw0, u0, T0) : mr_T)).2.2.2.2.2.1.rc, ar_I (q 30) cI 20 (mr_go pw ph tu sw sh ce nS nP K le S 20 0 ((wl co nP wa0 8, cp is0 sk 4, of0, fw0, u0, T0) : mr_T)).2.2.2.2.2.1.nc, ar_I (q 31) cI 12000 (mr_go pw ph tu sw sh ce nS nP K le S 20 0 ((wl co nP wa0 8, cp is0 sk 4, of0, fw0, u0, T0) : mr_T)).2.2.2.2.2.1.no, ar_I (q 32) cI 25600 (mr_go pw ph tu sw sh ce nS nP K le S 20 0 ((wl co nP wa0 8, cp is0 sk 4, of0, fw0, u0, T0) : mr_T)).2.2.2.2.2.1.tk, ar_I (q 33) cI 20480 (mr_go pw ph tu sw sh ce nS nP K le S 20 0 ((wl co nP wa0 8, cp is0 sk 4, of0, fw0, u0, T0) : mr_T)).2.2.2.2.2.1.rs, ar_I (q 20) cI 3600 (mr_go pw ph tu sw sh ce nS nP K le S 20 0 ((wl co nP wa0 8, cp is0 sk 4, of0, fw0, u0, T0) : mr_T)).2.2.2.2.2.1.wt, ar_I (q 16) cI 8 (mr_go pw ph tu sw sh ce nS nP K le S 20 0 ((wl co nP wa0 8, cp is0 sk 4, of0, fw0, u0, T0) : mr_T)).2.2.2.2.2.1.st, ar_I (q 14) cI 8 (mr_go pw ph tu sw sh ce nS nP K le S 20 0 ((wl co nP wa0 8, cp is0 sk 4, of0, fw0, u0, T0) : mr_T)).2.1, ar_I (q 5) cI 4 sw, ar_I (q 6) cI 4 sh, ar_I (q 17) cI 2312 (mr_go pw ph tu sw sh ce nS nP K le S 20 0 ((wl co nP wa0 8, cp is0 sk 4, of0, fw0, u0, T0) : mr_T)).2.2.2.2.2.2.1, ar_I (q 18) cI 2312 (mr_go pw ph tu sw sh ce nS nP K le S 20 0 ((wl co nP wa0 8, cp is0 sk 4, of0, fw0, u0, T0) : mr_T)).2.2.2.2.2.2.2.1, ar_I (q 19) cI 2312 (mr_go pw ph tu sw sh ce nS nP K le S 20 0 ((wl co nP wa0 8, cp is0 sk 4, of0, fw0, u0, T0) : mr_T)).2.2.2.2.2.2.2.2, ar_I (q 12) cI 8 co, ar_I (q 8) cI 4 sk, ar_I (q 15) cI 4 (mr_go pw ph tu sw sh ce nS nP K le S 20 0 ((wl co nP wa0 8, cp is0 sk 4, of0, fw0, u0, T0) : mr_T)).2.2.1, ar_I (q 7) cI 4 ce, ar_I (q 10) cI 8 pw, ar_I (q 11) cI 8 ph, ar_I (q 13) cZ 8 tu] ∧ p1 = []) rm_3) 0 0 [(cI, .int), (cZ, .boolean)] [ob_MO m q K S le 0 (nS : Int) (nP : Int) 1 (i : Int), ar_I (q 23) cI 20 (mr_b pw ph tu sw sh ce nS nP K le S (i : Int) r).2.2.1, ar_I (q 24) cI 20 (mr_b pw ph tu sw sh ce nS nP K le S (i : Int) r).2.2.2.1, ar_I (q 25) cI 20 (mr_b pw ph tu sw sh ce nS nP K le S (i : Int) r).2.2.2.2.cc, ar_I (q 26) cI 20 (mr_b pw ph tu sw sh ce nS nP K le S (i : Int) r).2.2.2.2.mi, ar_I (q 27) cI 20 (mr_b pw ph tu sw sh ce nS nP K le S (i : Int) r).2.2.2.2.tc, ar_I (q 28) cI 20 (mr_b pw ph tu sw sh ce nS nP K le S (i : Int) r).2.2.2.2.ta, ar_I (q 29) cI 20 (mr_b pw ph tu sw sh ce nS nP K le S (i : Int) r).2.2.2.2.rc, ar_I (q 30) cI 20 (mr_b pw ph tu sw sh ce nS nP K le S (i : Int) r).2.2.2.2.nc, ar_I (q 31) cI 12000 (mr_b pw ph tu sw sh ce nS nP K le S (i : Int) r).2.2.2.2.no, ar_I (q 32) cI 25600 (mr_b pw ph tu sw sh ce nS nP K le S (i : Int) r).2.2.2.2.tk, ar_I (q 33) cI 20480 (mr_b pw ph tu sw sh ce nS nP K le S (i : Int) r).2.2.2.2.rs, ar_I (q 20) cI 3600 (mr_b pw ph tu sw sh ce nS nP K le S (i : Int) r).2.2.2.2.wt, ar_I (q 16) cI 8 (mr_b pw ph tu sw sh ce nS nP K le S (i : Int) r).2.2.2.2.st, ar_I (q 14) cI 8 r.1, ar_I (q 5) cI 4 sw, ar_I (q 6) cI 4 sh, ar_I (q 17) cI 2312 (fi_s pw ph tu r.1 nP K r.2.2.2.2.2 4).1, ar_I (q 18) cI 2312 (fi_s pw ph tu r.1 nP K r.2.2.2.2.2 4).2.1, ar_I (q 19) cI 2312 (fi_s pw ph tu r.1 nP K r.2.2.2.2.2 4).2.2, ar_I (q 12) cI 8 co, ar_I (q 8) cI 4 sk, ar_I (q 15) cI 4 r.2.1, ar_I (q 7) cI 4 ce, ar_I (q 10) cI 8 pw, ar_I (q 11) cI 8 ph, ar_I (q 13) cZ 8 tu] [] [some (.ref m), some (.int (iI 1)), some (.int (iI (mr_b pw ph tu sw sh ce nS nP K le S (i : Int) r).1)), none, none, none, none, none] [] 158 := by
        have hbF1 : (-1 ≤ (mr_b pw ph tu sw sh ce nS nP K le S (i : Int) r).1 ∧ (mr_b pw ph tu sw sh ce nS nP K le S (i : Int) r).1 < nS) := hbF.1
        have hbF3 : 0 ≤ (mr_b pw ph tu sw sh ce nS nP K le S (i : Int) r).1 → 0 < r.2.1 (mr_b pw ph tu sw sh ce nS nP K le S (i : Int) r).1.toNat := hbF.2.2
        by_cases hneg : (mr_b pw ph tu sw sh ce nS nP K le S (i : Int) r).1 < 0
        · rw [if_pos hneg] at hgo
          refine vv_iload_n d_MO_run_158 rfl ?_
          refine vv_if_lt (tgt := 166) d_MO_run_159 (by decide) (by omega) (fun c159 => ?_) (fun c159 => ?_)
          · skip
            refine vv_iconst d_MO_run_166 ?_
            refine vv_istore_n d_MO_run_167 rfl (by decide) ?_
            dsimp only [List.set]
            refine vv_iload_n d_MO_run_168 rfl ?_
            refine vv_if_eq (tgt := 231) d_MO_run_169 (by decide) (by omega) (fun c169 => ?_) (fun c169 => ?_)
            · skip
              refine vv_goto (tgt := 46) d_MO_run_231 (by decide) ?_
              exact vv_le (by repeat (first | exact lo_le_nil _ | refine lo_le_cons _ ?_ | refine lo_le_none _ ?_)) (fin0 i (mr_e pw ph tu sw sh ce nS nP K le S (i : Int) r) hgo)
            · exfalso; omega
          · exfalso; omega
        · rw [if_neg hneg] at hgo
          have htk := htold (mr_b pw ph tu sw sh ce nS nP K le S (i : Int) r).1.toNat (by omega)
          have hisk := hI.2.1 (mr_b pw ph tu sw sh ce nS nP K le S (i : Int) r).1.toNat (by omega)
          have hpos := hbF3 (by omega)
          have eb : iI (mr_b pw ph tu sw sh ce nS nP K le S (i : Int) r).1 = iI (((mr_b pw ph tu sw sh ce nS nP K le S (i : Int) r).1.toNat : Nat) : Int) := by rw [Int.toNat_of_nonneg (by omega)]
          have hok := mw_all_ok (le := le) (t := (i : Int)) (u := (mr_b pw ph tu sw sh ce nS nP K le S (i : Int) r).2.2.2.2) hMC1 hK.1 hS htk.1 htk.2.1 hwa
          have hI2 : MRI nS (mr_c sw sh K le S (i : Int) (mr_b pw ph tu sw sh ce nS nP K le S (i : Int) r).1.toNat (mr_e pw ph tu sw sh ce nS nP K le S (i : Int) r)) := by
            refine ⟨fun j hj => ?_, fun j hj => ?_, hMI1, hMC1⟩
            · show 0 ≤ cp r.1 (mb_u (fi_s pw ph tu r.1 nP K r.2.2.2.2.2 4) K le S (i : Int) r.1 sw sh (mr_b pw ph tu sw sh ce nS nP K le S (i : Int) r).1.toNat (mr_b pw ph tu sw sh ce nS nP K le S (i : Int) r).2.2.2.2).st 8 j ∧ cp r.1 (mb_u (fi_s pw ph tu r.1 nP K r.2.2.2.2.2 4) K le S (i : Int) r.1 sw sh (mr_b pw ph tu sw sh ce nS nP K le S (i : Int) r).1.toNat (mr_b pw ph tu sw sh ce nS nP K le S (i : Int) r).2.2.2.2).st 8 j ≤ 50
              rw [cp_at 8 j, if_pos hj]
              exact hok.2 j hj
            · show 0 ≤ va_up r.2.1 (mr_b pw ph tu sw sh ce nS nP K le S (i : Int) r).1.toNat (r.2.1 (mr_b pw ph tu sw sh ce nS nP K le S (i : Int) r).1.toNat - 1) j ∧ va_up r.2.1 (mr_b pw ph tu sw sh ce nS nP K le S (i : Int) r).1.toNat (r.2.1 (mr_b pw ph tu sw sh ce nS nP K le S (i : Int) r).1.toNat - 1) j ≤ 20
              by_cases e : j = (mr_b pw ph tu sw sh ce nS nP K le S (i : Int) r).1.toNat
              · rw [e, va_up_self]
                omega
              · rw [va_up_ne _ _ e]
                exact hI.2.1 j hj
          have loopW : ∀ n2 k : Nat, k + n2 = 8 → ∀ g : Nat → Int, cp r.1 (mb_u (fi_s pw ph tu r.1 nP K r.2.2.2.2.2 4) K le S (i : Int) r.1 sw sh (mr_b pw ph tu sw sh ce nS nP K le S (i : Int) r).1.toNat (mr_b pw ph tu sw sh ce nS nP K le S (i : Int) r).2.2.2.2).st k = g → VV X (b_MO_run, 8, "SheetTreesModel", rm_3) (cq X ([ob_MO m q K S le cd (nS : Int) (nP : Int) rn dn, ar_I (q 23) cI 20 of0, ar_I (q 24) cI 20 fw0, ar_I (q 25) cI 20 u0.cc, ar_I (q 26) cI 20 u0.mi, ar_I (q 27) cI 20 u0.tc, ar_I (q 28) cI 20 u0.ta, ar_I (q 29) cI 20 u0.rc, ar_I (q 30) cI 20 u0.nc, ar_I (q 31) cI 12000 u0.no, ar_I (q 32) cI 25600 u0.tk, ar_I (q 33) cI 20480 u0.rs, ar_I (q 20) cI 3600 u0.wt, ar_I (q 16) cI 8 u0.st, ar_I (q 14) cI 8 wa0, ar_I (q 5) cI 4 sw, ar_I (q 6) cI 4 sh, ar_I (q 17) cI 2312 T0.1, ar_I (q 18) cI 2312 T0.2.1, ar_I (q 19) cI 2312 T0.2.2, ar_I (q 12) cI 8 co, ar_I (q 8) cI 4 sk, ar_I (q 15) cI 4 is0, ar_I (q 7) cI 4 ce, ar_I (q 10) cI 8 pw, ar_I (q 11) cI 8 ph, ar_I (q 13) cZ 8 tu] ++ []) sz (fun r w1 p1 _ => r = some (.int (iI (((mr_go pw ph tu sw sh ce nS nP K le S 20 0 ((wl co nP wa0 8, cp is0 sk 4, of0, fw0, u0, T0) : mr_T)).1 : Nat) : Int))) ∧ w1 = [ob_MO m q K S le 0 (nS : Int) (nP : Int) 1 (((mr_go pw ph tu sw sh ce nS nP K le S 20 0 ((wl co nP wa0 8, cp is0 sk 4, of0, fw0, u0, T0) : mr_T)).1 : Nat) : Int), ar_I (q 23) cI 20 (mr_go pw ph tu sw sh ce nS nP K le S 20 0 ((wl co nP wa0 8, cp is0 sk 4, of0, fw0, u0, T0) : mr_T)).2.2.2.1, ar_I (q 24) cI 20 (mr_go pw ph tu sw sh ce nS nP K le S 20 0 ((wl co nP wa0 8, cp is0 sk 4, of0, fw0, u0, T0) : mr_T)).2.2.2.2.1, ar_I (q 25) cI 20 (mr_go pw ph tu sw sh ce nS nP K le S 20 0 ((wl co nP wa0 8, cp is0 sk 4, of0, fw0, u0, T0) : mr_T)).2.2.2.2.2.1.cc, ar_I (q 26) cI 20 (mr_go pw ph tu sw sh ce nS nP K le S 20 0 ((wl co nP wa0 8, cp is0 sk 4, of0, fw0, u0, T0) : mr_T)).2.2.2.2.2.1.mi, ar_I (q 27) cI 20 (mr_go pw ph tu sw sh ce nS nP K le S 20 0 ((wl co nP wa0 8, cp is0 sk 4, of0, fw0, u0, T0) : mr_T)).2.2.2.2.2.1.tc, ar_I (q 28) cI 20 (mr_go pw ph tu sw sh ce nS nP K le S 20 0 ((wl co nP wa0 8, cp is0 sk 4, of0, fw0, u0, T0) : mr_T)).2.2.2.2.2.1.ta, ar_I (q 29) cI 20 (mr_go pw ph tu sw sh ce nS nP K le S 20 0 ((wl co nP wa0 8, cp is0 sk 4, of0, fw0, u0, T0) : mr_T)).2.2.2.2.2.1.rc, ar_I (q 30) cI 20 (mr_go pw ph tu sw sh ce nS nP K le S 20 0 ((wl co nP wa0 8, cp is0 sk 4, of0, fw0, u0, T0) : mr_T)).2.2.2.2.2.1.nc, ar_I (q 31) cI 12000 (mr_go pw ph tu sw sh ce nS nP K le S 20 0 ((wl co nP wa0 8, cp is0 sk 4, of0, fw0, u0, T0) : mr_T)).2.2.2.2.2.1.no, ar_I (q 32) cI 25600 (mr_go pw ph tu sw sh ce nS nP K le S 20 0 ((wl co nP wa0 8, cp is0 sk 4, of0, fw0, u0, T0) : mr_T)).2.2.2.2.2.1.tk, ar_I (q 33) cI 20480 (mr_go pw ph tu sw sh ce nS nP K le S 20 0 ((wl co nP wa0 8, cp is0 sk 4, of0, fw0, u0, T0) : mr_T)).2.2.2.2.2.1.rs, ar_I (q 20) cI 3600 (mr_go pw ph tu sw sh ce nS nP K le S 20 0 ((wl co nP wa0 8, cp is0 sk 4, of0, fw0, u0, T0) : mr_T)).2.2.2.2.2.1.wt, ar_I (q 16) cI 8 (mr_go pw ph tu sw sh ce nS nP K le S 20 0 ((wl co nP wa0 8, cp is0 sk 4, of0, fw0, u0, T0) : mr_T)).2.2.2.2.2.1.st, ar_I (q 14) cI 8 (mr_go pw ph tu sw sh ce nS nP K le S 20 0 ((wl co nP wa0 8, cp is0 sk 4, of0, fw0, u0, T0) : mr_T)).2.1, ar_I (q 5) cI 4 sw, ar_I (q 6) cI 4 sh, ar_I (q 17) cI 2312 (mr_go pw ph tu sw sh ce nS nP K le S 20 0 ((wl co nP wa0 8, cp is0 sk 4, of0, fw0, u0, T0) : mr_T)).2.2.2.2.2.2.1, ar_I (q 18) cI 2312 (mr_go pw ph tu sw sh ce nS nP K le S 20 0 ((wl co nP wa0 8, cp is0 sk 4, of0, fw0, u0, T0) : mr_T)).2.2.2.2.2.2.2.1, ar_I (q 19) cI 2312 (mr_go pw ph tu sw sh ce nS nP K le S 20 0 ((wl co nP wa0 8, cp is0 sk 4, of0, fw0, u0, T0) : mr_T)).2.2.2.2.2.2.2.2, ar_I (q 12) cI 8 co, ar_I (q 8) cI 4 sk, ar_I (q 15) cI 4 (mr_go pw ph tu sw sh ce nS nP K le S 20 0 ((wl co nP wa0 8, cp is0 sk 4, of0, fw0, u0, T0) : mr_T)).2.2.1, ar_I (q 7) cI 4 ce, ar_I (q 10) cI 8 pw, ar_I (q 11) cI 8 ph, ar_I (q 13) cZ 8 tu] ∧ p1 = []) rm_3) 0 0 [(cI, .int), (cZ, .boolean)] [ob_MO m q K S le 0 (nS : Int) (nP : Int) 1 (i : Int), ar_I (q 23) cI 20 (va_up (mr_b pw ph tu sw sh ce nS nP K le S (i : Int) r).2.2.1 (i : Int).toNat (((mr_b pw ph tu sw sh ce nS nP K le S (i : Int) r).1.toNat : Nat) : Int)), ar_I (q 24) cI 20 (va_up (mr_b pw ph tu sw sh ce nS nP K le S (i : Int) r).2.2.2.1 (i : Int).toNat (wy (fi_s pw ph tu r.1 nP K r.2.2.2.2.2 4) S (sw (mr_b pw ph tu sw sh ce nS nP K le S (i : Int) r).1.toNat) (sh (mr_b pw ph tu sw sh ce nS nP K le S (i : Int) r).1.toNat))), ar_I (q 25) cI 20 (mb_u (fi_s pw ph tu r.1 nP K r.2.2.2.2.2 4) K le S (i : Int) r.1 sw sh (mr_b pw ph tu sw sh ce nS nP K le S (i : Int) r).1.toNat (mr_b pw ph tu sw sh ce nS nP K le S (i : Int) r).2.2.2.2).cc, ar_I (q 26) cI 20 (mb_u (fi_s pw ph tu r.1 nP K r.2.2.2.2.2 4) K le S (i : Int) r.1 sw sh (mr_b pw ph tu sw sh ce nS nP K le S (i : Int) r).1.toNat (mr_b pw ph tu sw sh ce nS nP K le S (i : Int) r).2.2.2.2).mi, ar_I (q 27) cI 20 (mb_u (fi_s pw ph tu r.1 nP K r.2.2.2.2.2 4) K le S (i : Int) r.1 sw sh (mr_b pw ph tu sw sh ce nS nP K le S (i : Int) r).1.toNat (mr_b pw ph tu sw sh ce nS nP K le S (i : Int) r).2.2.2.2).tc, ar_I (q 28) cI 20 (mb_u (fi_s pw ph tu r.1 nP K r.2.2.2.2.2 4) K le S (i : Int) r.1 sw sh (mr_b pw ph tu sw sh ce nS nP K le S (i : Int) r).1.toNat (mr_b pw ph tu sw sh ce nS nP K le S (i : Int) r).2.2.2.2).ta, ar_I (q 29) cI 20 (mb_u (fi_s pw ph tu r.1 nP K r.2.2.2.2.2 4) K le S (i : Int) r.1 sw sh (mr_b pw ph tu sw sh ce nS nP K le S (i : Int) r).1.toNat (mr_b pw ph tu sw sh ce nS nP K le S (i : Int) r).2.2.2.2).rc, ar_I (q 30) cI 20 (mb_u (fi_s pw ph tu r.1 nP K r.2.2.2.2.2 4) K le S (i : Int) r.1 sw sh (mr_b pw ph tu sw sh ce nS nP K le S (i : Int) r).1.toNat (mr_b pw ph tu sw sh ce nS nP K le S (i : Int) r).2.2.2.2).nc, ar_I (q 31) cI 12000 (mb_u (fi_s pw ph tu r.1 nP K r.2.2.2.2.2 4) K le S (i : Int) r.1 sw sh (mr_b pw ph tu sw sh ce nS nP K le S (i : Int) r).1.toNat (mr_b pw ph tu sw sh ce nS nP K le S (i : Int) r).2.2.2.2).no, ar_I (q 32) cI 25600 (mb_u (fi_s pw ph tu r.1 nP K r.2.2.2.2.2 4) K le S (i : Int) r.1 sw sh (mr_b pw ph tu sw sh ce nS nP K le S (i : Int) r).1.toNat (mr_b pw ph tu sw sh ce nS nP K le S (i : Int) r).2.2.2.2).tk, ar_I (q 33) cI 20480 (mb_u (fi_s pw ph tu r.1 nP K r.2.2.2.2.2 4) K le S (i : Int) r.1 sw sh (mr_b pw ph tu sw sh ce nS nP K le S (i : Int) r).1.toNat (mr_b pw ph tu sw sh ce nS nP K le S (i : Int) r).2.2.2.2).rs, ar_I (q 20) cI 3600 (mb_u (fi_s pw ph tu r.1 nP K r.2.2.2.2.2 4) K le S (i : Int) r.1 sw sh (mr_b pw ph tu sw sh ce nS nP K le S (i : Int) r).1.toNat (mr_b pw ph tu sw sh ce nS nP K le S (i : Int) r).2.2.2.2).wt, ar_I (q 16) cI 8 (mb_u (fi_s pw ph tu r.1 nP K r.2.2.2.2.2 4) K le S (i : Int) r.1 sw sh (mr_b pw ph tu sw sh ce nS nP K le S (i : Int) r).1.toNat (mr_b pw ph tu sw sh ce nS nP K le S (i : Int) r).2.2.2.2).st, ar_I (q 14) cI 8 g, ar_I (q 5) cI 4 sw, ar_I (q 6) cI 4 sh, ar_I (q 17) cI 2312 (fi_s pw ph tu r.1 nP K r.2.2.2.2.2 4).1, ar_I (q 18) cI 2312 (fi_s pw ph tu r.1 nP K r.2.2.2.2.2 4).2.1, ar_I (q 19) cI 2312 (fi_s pw ph tu r.1 nP K r.2.2.2.2.2 4).2.2, ar_I (q 12) cI 8 co, ar_I (q 8) cI 4 sk, ar_I (q 15) cI 4 (va_up r.2.1 (mr_b pw ph tu sw sh ce nS nP K le S (i : Int) r).1.toNat (r.2.1 (mr_b pw ph tu sw sh ce nS nP K le S (i : Int) r).1.toNat - 1)), ar_I (q 7) cI 4 ce, ar_I (q 10) cI 8 pw, ar_I (q 11) cI 8 ph, ar_I (q 13) cZ 8 tu] [] [some (.ref m), some (.int (iI 1)), none, none, none, some (.int (iI (k : Int))), none, none] [] 194 := by
            intro n2
            induction n2 with
            | zero =>
              intro k hk g hg
              have e : k = 8 := by omega
              subst e
              subst hg
              refine vv_iload d_MO_run_194 rfl ?_
              refine vv_bipush d_MO_run_196 (by decide +kernel) ?_
              refine vv_icmp_ge (tgt := 221) d_MO_run_198 (by decide) ⟨by omega, by omega⟩ (fun c198 => ?_) (fun c198 => ?_)
              · skip
                refine vv_aload_n d_MO_run_221 rfl ?_
                refine vv_dup d_MO_run_222 rfl ?_
                refine vv_get d_MO_run_223 0 rfl fl_MO_152 rfl ?_
                refine vv_iconst d_MO_run_226 ?_
                refine vv_iadd d_MO_run_227 ?_
                refine vv_put hw d_MO_run_228 0 rfl fp_MO_152 rfl rfl (Nat.le_of_ble_eq_true rfl) ?_
                dsimp only [List.set]
                refine vv_goto (tgt := 46) d_MO_run_231 (by decide) ?_
                exact vv_le (by repeat (first | exact lo_le_nil _ | refine lo_le_cons _ ?_ | refine lo_le_none _ ?_)) (ih (i + 1) (mr_c sw sh K le S (i : Int) (mr_b pw ph tu sw sh ce nS nP K le S (i : Int) r).1.toNat (mr_e pw ph tu sw sh ce nS nP K le S (i : Int) r)) (by omega) hI2 hgo)
              · exfalso; omega
            | succ n2 ih2 =>
              intro k hk g hg
              have h9 := ih2 (k + 1) (by omega) (va_up g k ((mb_u (fi_s pw ph tu r.1 nP K r.2.2.2.2.2 4) K le S (i : Int) r.1 sw sh (mr_b pw ph tu sw sh ce nS nP K le S (i : Int) r).1.toNat (mr_b pw ph tu sw sh ce nS nP K le S (i : Int) r).2.2.2.2).st k)) (by rw [← hg]; rfl)
              refine vv_iload d_MO_run_194 rfl ?_
              refine vv_bipush d_MO_run_196 (by decide +kernel) ?_
              refine vv_icmp_ge (tgt := 221) d_MO_run_198 (by decide) ⟨by omega, by omega⟩ (fun c198 => ?_) (fun c198 => ?_)
              · exfalso; omega
              · skip
                refine vv_aload_n d_MO_run_201 rfl ?_
                refine vv_get d_MO_run_202 0 rfl fl_MO_35 rfl ?_
                refine vv_iload d_MO_run_205 rfl ?_
                refine vv_aload_n d_MO_run_207 rfl ?_
                refine vv_get d_MO_run_208 0 rfl fl_MO_41 rfl ?_
                refine vv_iload d_MO_run_211 rfl ?_
                refine vv_iald d_MO_run_213 13 0 rfl rfl (by omega) ?_
                refine vv_iast hw d_MO_run_214 14 0 rfl rfl (by omega) ?_
                dsimp only [List.set]
                refine vv_iinc d_MO_run_215 rfl rfl (by decide) ?_
                dsimp only [List.set]
                refine vv_goto (tgt := 194) d_MO_run_218 (by decide) ?_
                simp only [Int.toNat_natCast] at h9 ⊢
                exact h9
          rw [eb]
          refine vv_iload_n d_MO_run_158 rfl ?_
          refine vv_if_lt (tgt := 166) d_MO_run_159 (by decide) (by omega) (fun c159 => ?_) (fun c159 => ?_)
          · exfalso; omega
          · skip
            refine vv_iconst d_MO_run_162 ?_
            refine vv_goto (tgt := 167) d_MO_run_163 (by decide) ?_
            refine vv_istore_n d_MO_run_167 rfl (by decide) ?_
            dsimp only [List.set]
            refine vv_iload_n d_MO_run_168 rfl ?_
            refine vv_if_eq (tgt := 231) d_MO_run_169 (by decide) (by omega) (fun c169 => ?_) (fun c169 => ?_)
            · exfalso; omega
            · skip
              refine vv_aload_n d_MO_run_172 rfl ?_
              refine vv_iload_n d_MO_run_173 rfl ?_
              refine vv_aload_n d_MO_run_174 rfl ?_
              refine vv_get d_MO_run_175 0 rfl fl_MO_152 rfl ?_
              refine vv_nV hw (wc := [ob_MO m q K S le 0 (nS : Int) (nP : Int) 1 (i : Int), ar_I (q 23) cI 20 (mr_b pw ph tu sw sh ce nS nP K le S (i : Int) r).2.2.1, ar_I (q 24) cI 20 (mr_b pw ph tu sw sh ce nS nP K le S (i : Int) r).2.2.2.1, ar_I (q 25) cI 20 (mr_b pw ph tu sw sh ce nS nP K le S (i : Int) r).2.2.2.2.cc, ar_I (q 26) cI 20 (mr_b pw ph tu sw sh ce nS nP K le S (i : Int) r).2.2.2.2.mi, ar_I (q 27) cI 20 (mr_b pw ph tu sw sh ce nS nP K le S (i : Int) r).2.2.2.2.tc, ar_I (q 28) cI 20 (mr_b pw ph tu sw sh ce nS nP K le S (i : Int) r).2.2.2.2.ta, ar_I (q 29) cI 20 (mr_b pw ph tu sw sh ce nS nP K le S (i : Int) r).2.2.2.2.rc, ar_I (q 30) cI 20 (mr_b pw ph tu sw sh ce nS nP K le S (i : Int) r).2.2.2.2.nc, ar_I (q 31) cI 12000 (mr_b pw ph tu sw sh ce nS nP K le S (i : Int) r).2.2.2.2.no, ar_I (q 32) cI 25600 (mr_b pw ph tu sw sh ce nS nP K le S (i : Int) r).2.2.2.2.tk, ar_I (q 33) cI 20480 (mr_b pw ph tu sw sh ce nS nP K le S (i : Int) r).2.2.2.2.rs, ar_I (q 20) cI 3600 (mr_b pw ph tu sw sh ce nS nP K le S (i : Int) r).2.2.2.2.wt, ar_I (q 16) cI 8 (mr_b pw ph tu sw sh ce nS nP K le S (i : Int) r).2.2.2.2.st, ar_I (q 14) cI 8 r.1, ar_I (q 5) cI 4 sw, ar_I (q 6) cI 4 sh, ar_I (q 17) cI 2312 (fi_s pw ph tu r.1 nP K r.2.2.2.2.2 4).1, ar_I (q 18) cI 2312 (fi_s pw ph tu r.1 nP K r.2.2.2.2.2 4).2.1, ar_I (q 19) cI 2312 (fi_s pw ph tu r.1 nP K r.2.2.2.2.2 4).2.2]) (wr := [ar_I (q 12) cI 8 co, ar_I (q 8) cI 4 sk, ar_I (q 15) cI 4 r.2.1, ar_I (q 7) cI 4 ce, ar_I (q 10) cI 8 pw, ar_I (q 11) cI 8 ph, ar_I (q 13) cZ 8 tu]) [] (c_MO_walk (cx_l X) (cx_D X) m q K S le 0 (nS : Int) (nP : Int) 1 (i : Int) cI (mr_b pw ph tu sw sh ce nS nP K le S (i : Int) r).2.2.1 (mr_b pw ph tu sw sh ce nS nP K le S (i : Int) r).2.2.2.1 r.1 sw sh (fi_s pw ph tu r.1 nP K r.2.2.2.2.2 4) (mr_b pw ph tu sw sh ce nS nP K le S (i : Int) r).2.2.2.2 (((mr_b pw ph tu sw sh ce nS nP K le S (i : Int) r).1.toNat : Nat) : Int) (i : Int) (by omega) (by omega) hS hK hle hMI1 hMC1 htk.1 htk.2.1 hwa) lk_MO_155 d_MO_run_178 rfl (rc_at 0 rfl rfl rfl) [0, 1, 2, 3, 4, 5, 6, 7, 8, 9, 10, 11, 12, 13, 14, 15, 16, 17, 18, 19] [20, 21, 22, 23, 24, 25, 26] ⟨rfl, rfl⟩ ⟨rfl, rfl, by decide⟩ [0] rfl ⟨⟨by decide, by decide⟩, ⟨by decide, by decide⟩, Nat.le_of_ble_eq_true rfl⟩ ⟨rfl, rfl⟩ ?_
              rintro v w1 p1 t1 ⟨rfl, rfl, rfl⟩
              dsimp only [Option.toList, List.cons_append, List.nil_append, List.append_nil]
              refine vv_sub (ws' := [ob_MO m q K S le 0 (nS : Int) (nP : Int) 1 (i : Int), ar_I (q 23) cI 20 (va_up (mr_b pw ph tu sw sh ce nS nP K le S (i : Int) r).2.2.1 (i : Int).toNat (((mr_b pw ph tu sw sh ce nS nP K le S (i : Int) r).1.toNat : Nat) : Int)), ar_I (q 24) cI 20 (va_up (mr_b pw ph tu sw sh ce nS nP K le S (i : Int) r).2.2.2.1 (i : Int).toNat (wy (fi_s pw ph tu r.1 nP K r.2.2.2.2.2 4) S (sw (mr_b pw ph tu sw sh ce nS nP K le S (i : Int) r).1.toNat) (sh (mr_b pw ph tu sw sh ce nS nP K le S (i : Int) r).1.toNat))), ar_I (q 25) cI 20 (mb_u (fi_s pw ph tu r.1 nP K r.2.2.2.2.2 4) K le S (i : Int) r.1 sw sh (mr_b pw ph tu sw sh ce nS nP K le S (i : Int) r).1.toNat (mr_b pw ph tu sw sh ce nS nP K le S (i : Int) r).2.2.2.2).cc, ar_I (q 26) cI 20 (mb_u (fi_s pw ph tu r.1 nP K r.2.2.2.2.2 4) K le S (i : Int) r.1 sw sh (mr_b pw ph tu sw sh ce nS nP K le S (i : Int) r).1.toNat (mr_b pw ph tu sw sh ce nS nP K le S (i : Int) r).2.2.2.2).mi, ar_I (q 27) cI 20 (mb_u (fi_s pw ph tu r.1 nP K r.2.2.2.2.2 4) K le S (i : Int) r.1 sw sh (mr_b pw ph tu sw sh ce nS nP K le S (i : Int) r).1.toNat (mr_b pw ph tu sw sh ce nS nP K le S (i : Int) r).2.2.2.2).tc, ar_I (q 28) cI 20 (mb_u (fi_s pw ph tu r.1 nP K r.2.2.2.2.2 4) K le S (i : Int) r.1 sw sh (mr_b pw ph tu sw sh ce nS nP K le S (i : Int) r).1.toNat (mr_b pw ph tu sw sh ce nS nP K le S (i : Int) r).2.2.2.2).ta, ar_I (q 29) cI 20 (mb_u (fi_s pw ph tu r.1 nP K r.2.2.2.2.2 4) K le S (i : Int) r.1 sw sh (mr_b pw ph tu sw sh ce nS nP K le S (i : Int) r).1.toNat (mr_b pw ph tu sw sh ce nS nP K le S (i : Int) r).2.2.2.2).rc, ar_I (q 30) cI 20 (mb_u (fi_s pw ph tu r.1 nP K r.2.2.2.2.2 4) K le S (i : Int) r.1 sw sh (mr_b pw ph tu sw sh ce nS nP K le S (i : Int) r).1.toNat (mr_b pw ph tu sw sh ce nS nP K le S (i : Int) r).2.2.2.2).nc, ar_I (q 31) cI 12000 (mb_u (fi_s pw ph tu r.1 nP K r.2.2.2.2.2 4) K le S (i : Int) r.1 sw sh (mr_b pw ph tu sw sh ce nS nP K le S (i : Int) r).1.toNat (mr_b pw ph tu sw sh ce nS nP K le S (i : Int) r).2.2.2.2).no, ar_I (q 32) cI 25600 (mb_u (fi_s pw ph tu r.1 nP K r.2.2.2.2.2 4) K le S (i : Int) r.1 sw sh (mr_b pw ph tu sw sh ce nS nP K le S (i : Int) r).1.toNat (mr_b pw ph tu sw sh ce nS nP K le S (i : Int) r).2.2.2.2).tk, ar_I (q 33) cI 20480 (mb_u (fi_s pw ph tu r.1 nP K r.2.2.2.2.2 4) K le S (i : Int) r.1 sw sh (mr_b pw ph tu sw sh ce nS nP K le S (i : Int) r).1.toNat (mr_b pw ph tu sw sh ce nS nP K le S (i : Int) r).2.2.2.2).rs, ar_I (q 20) cI 3600 (mb_u (fi_s pw ph tu r.1 nP K r.2.2.2.2.2 4) K le S (i : Int) r.1 sw sh (mr_b pw ph tu sw sh ce nS nP K le S (i : Int) r).1.toNat (mr_b pw ph tu sw sh ce nS nP K le S (i : Int) r).2.2.2.2).wt, ar_I (q 16) cI 8 (mb_u (fi_s pw ph tu r.1 nP K r.2.2.2.2.2 4) K le S (i : Int) r.1 sw sh (mr_b pw ph tu sw sh ce nS nP K le S (i : Int) r).1.toNat (mr_b pw ph tu sw sh ce nS nP K le S (i : Int) r).2.2.2.2).st, ar_I (q 14) cI 8 r.1, ar_I (q 5) cI 4 sw, ar_I (q 6) cI 4 sh, ar_I (q 17) cI 2312 (fi_s pw ph tu r.1 nP K r.2.2.2.2.2 4).1, ar_I (q 18) cI 2312 (fi_s pw ph tu r.1 nP K r.2.2.2.2.2 4).2.1, ar_I (q 19) cI 2312 (fi_s pw ph tu r.1 nP K r.2.2.2.2.2 4).2.2, ar_I (q 12) cI 8 co, ar_I (q 8) cI 4 sk, ar_I (q 15) cI 4 r.2.1, ar_I (q 7) cI 4 ce, ar_I (q 10) cI 8 pw, ar_I (q 11) cI 8 ph, ar_I (q 13) cZ 8 tu]) [7, 8, 9, 10, 11, 12, 13, 14, 15, 16, 17, 18, 19, 20, 21, 22, 23, 24, 25, 26, 0, 1, 2, 3, 4, 5, 6] rfl rfl ?_
              refine vv_aload_n d_MO_run_181 rfl ?_
              refine vv_get d_MO_run_182 0 rfl fl_MO_38 rfl ?_
              refine vv_iload_n d_MO_run_185 rfl ?_
              refine vv_dup2 d_MO_run_186 rfl rfl ?_
              refine vv_iald d_MO_run_187 22 0 rfl rfl (by omega) ?_
              refine vv_iconst d_MO_run_188 ?_
              refine vv_isub d_MO_run_189 ?_
              refine vv_iast hw d_MO_run_190 22 0 rfl rfl (by omega) ?_
              dsimp only [List.set]
              refine vv_iconst d_MO_run_191 ?_
              refine vv_istore d_MO_run_192 rfl (by decide) ?_
              dsimp only [List.set]
              exact vv_le (by repeat (first | exact lo_le_nil _ | refine lo_le_cons _ ?_ | refine lo_le_none _ ?_)) (loopW 8 0 (by omega) r.1 rfl)
      have loopB : ∀ n2 k : Nat, k + n2 = nS → ∀ b : mb_T, mb_go (fi_s pw ph tu r.1 nP K r.2.2.2.2.2 4) K le S (i : Int) r.1 sw sh ce r.2.1 (-1, 0, r.2.2.1, r.2.2.2.1, r.2.2.2.2.1) k = b → VV X (b_MO_run, 8, "SheetTreesModel", rm_3) (cq X ([ob_MO m q K S le cd (nS : Int) (nP : Int) rn dn, ar_I (q 23) cI 20 of0, ar_I (q 24) cI 20 fw0, ar_I (q 25) cI 20 u0.cc, ar_I (q 26) cI 20 u0.mi, ar_I (q 27) cI 20 u0.tc, ar_I (q 28) cI 20 u0.ta, ar_I (q 29) cI 20 u0.rc, ar_I (q 30) cI 20 u0.nc, ar_I (q 31) cI 12000 u0.no, ar_I (q 32) cI 25600 u0.tk, ar_I (q 33) cI 20480 u0.rs, ar_I (q 20) cI 3600 u0.wt, ar_I (q 16) cI 8 u0.st, ar_I (q 14) cI 8 wa0, ar_I (q 5) cI 4 sw, ar_I (q 6) cI 4 sh, ar_I (q 17) cI 2312 T0.1, ar_I (q 18) cI 2312 T0.2.1, ar_I (q 19) cI 2312 T0.2.2, ar_I (q 12) cI 8 co, ar_I (q 8) cI 4 sk, ar_I (q 15) cI 4 is0, ar_I (q 7) cI 4 ce, ar_I (q 10) cI 8 pw, ar_I (q 11) cI 8 ph, ar_I (q 13) cZ 8 tu] ++ []) sz (fun r w1 p1 _ => r = some (.int (iI (((mr_go pw ph tu sw sh ce nS nP K le S 20 0 ((wl co nP wa0 8, cp is0 sk 4, of0, fw0, u0, T0) : mr_T)).1 : Nat) : Int))) ∧ w1 = [ob_MO m q K S le 0 (nS : Int) (nP : Int) 1 (((mr_go pw ph tu sw sh ce nS nP K le S 20 0 ((wl co nP wa0 8, cp is0 sk 4, of0, fw0, u0, T0) : mr_T)).1 : Nat) : Int), ar_I (q 23) cI 20 (mr_go pw ph tu sw sh ce nS nP K le S 20 0 ((wl co nP wa0 8, cp is0 sk 4, of0, fw0, u0, T0) : mr_T)).2.2.2.1, ar_I (q 24) cI 20 (mr_go pw ph tu sw sh ce nS nP K le S 20 0 ((wl co nP wa0 8, cp is0 sk 4, of0, fw0, u0, T0) : mr_T)).2.2.2.2.1, ar_I (q 25) cI 20 (mr_go pw ph tu sw sh ce nS nP K le S 20 0 ((wl co nP wa0 8, cp is0 sk 4, of0, fw0, u0, T0) : mr_T)).2.2.2.2.2.1.cc, ar_I (q 26) cI 20 (mr_go pw ph tu sw sh ce nS nP K le S 20 0 ((wl co nP wa0 8, cp is0 sk 4, of0, fw0, u0, T0) : mr_T)).2.2.2.2.2.1.mi, ar_I (q 27) cI 20 (mr_go pw ph tu sw sh ce nS nP K le S 20 0 ((wl co nP wa0 8, cp is0 sk 4, of0, fw0, u0, T0) : mr_T)).2.2.2.2.2.1.tc, ar_I (q 28) cI 20 (mr_go pw ph tu sw sh ce nS nP K le S 20 0 ((wl co nP wa0 8, cp is0 sk 4, of0, fw0, u0, T0) : mr_T)).2.2.2.2.2.1.ta, ar_I (q 29) cI 20 (mr_go pw ph tu sw sh ce nS nP K le S 20 0 ((wl co nP wa0 8, cp is0 sk 4, of0, fw0, u0, T0) : mr_T)).2.2.2.2.2.1.rc, ar_I (q 30) cI 20 (mr_go pw ph tu sw sh ce nS nP K le S 20 0 ((wl co nP wa0 8, cp is0 sk 4, of0, fw0, u0, T0) : mr_T)).2.2.2.2.2.1.nc, ar_I (q 31) cI 12000 (mr_go pw ph tu sw sh ce nS nP K le S 20 0 ((wl co nP wa0 8, cp is0 sk 4, of0, fw0, u0, T0) : mr_T)).2.2.2.2.2.1.no, ar_I (q 32) cI 25600 (mr_go pw ph tu sw sh ce nS nP K le S 20 0 ((wl co nP wa0 8, cp is0 sk 4, of0, fw0, u0, T0) : mr_T)).2.2.2.2.2.1.tk, ar_I (q 33) cI 20480 (mr_go pw ph tu sw sh ce nS nP K le S 20 0 ((wl co nP wa0 8, cp is0 sk 4, of0, fw0, u0, T0) : mr_T)).2.2.2.2.2.1.rs, ar_I (q 20) cI 3600 (mr_go pw ph tu sw sh ce nS nP K le S 20 0 ((wl co nP wa0 8, cp is0 sk 4, of0, fw0, u0, T0) : mr_T)).2.2.2.2.2.1.wt, ar_I (q 16) cI 8 (mr_go pw ph tu sw sh ce nS nP K le S 20 0 ((wl co nP wa0 8, cp is0 sk 4, of0, fw0, u0, T0) : mr_T)).2.2.2.2.2.1.st, ar_I (q 14) cI 8 (mr_go pw ph tu sw sh ce nS nP K le S 20 0 ((wl co nP wa0 8, cp is0 sk 4, of0, fw0, u0, T0) : mr_T)).2.1, ar_I (q 5) cI 4 sw, ar_I (q 6) cI 4 sh, ar_I (q 17) cI 2312 (mr_go pw ph tu sw sh ce nS nP K le S 20 0 ((wl co nP wa0 8, cp is0 sk 4, of0, fw0, u0, T0) : mr_T)).2.2.2.2.2.2.1, ar_I (q 18) cI 2312 (mr_go pw ph tu sw sh ce nS nP K le S 20 0 ((wl co nP wa0 8, cp is0 sk 4, of0, fw0, u0, T0) : mr_T)).2.2.2.2.2.2.2.1, ar_I (q 19) cI 2312 (mr_go pw ph tu sw sh ce nS nP K le S 20 0 ((wl co nP wa0 8, cp is0 sk 4, of0, fw0, u0, T0) : mr_T)).2.2.2.2.2.2.2.2, ar_I (q 12) cI 8 co, ar_I (q 8) cI 4 sk, ar_I (q 15) cI 4 (mr_go pw ph tu sw sh ce nS nP K le S 20 0 ((wl co nP wa0 8, cp is0 sk 4, of0, fw0, u0, T0) : mr_T)).2.2.1, ar_I (q 7) cI 4 ce, ar_I (q 10) cI 8 pw, ar_I (q 11) cI 8 ph, ar_I (q 13) cZ 8 tu] ∧ p1 = []) rm_3) 0 0 [(cI, .int), (cZ, .boolean)] [ob_MO m q K S le 0 (nS : Int) (nP : Int) 1 (i : Int), ar_I (q 23) cI 20 b.2.2.1, ar_I (q 24) cI 20 b.2.2.2.1, ar_I (q 25) cI 20 b.2.2.2.2.cc, ar_I (q 26) cI 20 b.2.2.2.2.mi, ar_I (q 27) cI 20 b.2.2.2.2.tc, ar_I (q 28) cI 20 b.2.2.2.2.ta, ar_I (q 29) cI 20 b.2.2.2.2.rc, ar_I (q 30) cI 20 b.2.2.2.2.nc, ar_I (q 31) cI 12000 b.2.2.2.2.no, ar_I (q 32) cI 25600 b.2.2.2.2.tk, ar_I (q 33) cI 20480 b.2.2.2.2.rs, ar_I (q 20) cI 3600 b.2.2.2.2.wt, ar_I (q 16) cI 8 b.2.2.2.2.st, ar_I (q 14) cI 8 r.1, ar_I (q 5) cI 4 sw, ar_I (q 6) cI 4 sh, ar_I (q 17) cI 2312 (fi_s pw ph tu r.1 nP K r.2.2.2.2.2 4).1, ar_I (q 18) cI 2312 (fi_s pw ph tu r.1 nP K r.2.2.2.2.2 4).2.1, ar_I (q 19) cI 2312 (fi_s pw ph tu r.1 nP K r.2.2.2.2.2 4).2.2, ar_I (q 12) cI 8 co, ar_I (q 8) cI 4 sk, ar_I (q 15) cI 4 r.2.1, ar_I (q 7) cI 4 ce, ar_I (q 10) cI 8 pw, ar_I (q 11) cI 8 ph, ar_I (q 13) cZ 8 tu] [] [some (.ref m), some (.int (iI 1)), some (.int (iI b.1)), some (.long (iL b.2.1)), none, some (.int (iI (k : Int))), none, none] [] 70 := by
        intro n2
        induction n2 with
        | zero =>
          intro k hk b hb2
          have e : k = nS := by omega
          subst e
          have hb3 : (mr_b pw ph tu sw sh ce k nP K le S (i : Int) r) = b := hb2
          rw [← hb3]
          refine vv_iload d_MO_run_70 rfl ?_
          refine vv_aload_n d_MO_run_72 rfl ?_
          refine vv_get d_MO_run_73 0 rfl fl_MO_106 rfl ?_
          refine vv_icmp_ge (tgt := 158) d_MO_run_76 (by decide) ⟨by omega, by omega⟩ (fun c76 => ?_) (fun c76 => ?_)
          · skip
            exact vv_le (by repeat (first | exact lo_le_nil _ | refine lo_le_cons _ ?_ | refine lo_le_none _ ?_)) behind
          · exfalso; omega
        | succ n2 ih2 =>
          intro k hk b hb2
          have hkS : k < nS := by omega
          have htk := htold k hkS
          have hisk := hI.2.1 k hkS
          have hbi := MBI_go (le := le) (t := (i : Int)) hMC1 hK.1 hS htold hwa hb0 k (by omega)
          rw [hb2] at hbi
          obtain ⟨hq1, hq2, hq3⟩ := hbi
          have hok := (mw_all_ok (le := le) (t := (i : Int)) (u := b.2.2.2.2) hMC1 hK.1 hS htk.1 htk.2.1 hwa).1
          have hown : 0 ≤ (mb_u (fi_s pw ph tu r.1 nP K r.2.2.2.2.2 4) K le S (i : Int) r.1 sw sh k b.2.2.2.2).ta (i : Int).toNat ∧ (mb_u (fi_s pw ph tu r.1 nP K r.2.2.2.2.2 4) K le S (i : Int) r.1 sw sh k b.2.2.2.2).ta (i : Int).toNat ≤ 256 := hok
          have h9 := ih2 (k + 1) (by omega)
          have hstep : mb_go (fi_s pw ph tu r.1 nP K r.2.2.2.2.2 4) K le S (i : Int) r.1 sw sh ce r.2.1 (-1, 0, r.2.2.1, r.2.2.2.1, r.2.2.2.2.1) (k + 1) = mb_step (fi_s pw ph tu r.1 nP K r.2.2.2.2.2 4) K le S (i : Int) r.1 sw sh ce r.2.1 k b := by rw [← hb2]; rfl
          refine vv_iload d_MO_run_70 rfl ?_
          refine vv_aload_n d_MO_run_72 rfl ?_
          refine vv_get d_MO_run_73 0 rfl fl_MO_106 rfl ?_
          refine vv_icmp_ge (tgt := 158) d_MO_run_76 (by decide) ⟨by omega, by omega⟩ (fun c76 => ?_) (fun c76 => ?_)
          · exfalso; omega
          · skip
            refine vv_aload_n d_MO_run_79 rfl ?_
            refine vv_get d_MO_run_80 0 rfl fl_MO_38 rfl ?_
            refine vv_iload d_MO_run_83 rfl ?_
            refine vv_iald d_MO_run_85 22 0 rfl rfl (by omega) ?_
            rw [Int.toNat_natCast]
            refine vv_if_le (tgt := 152) d_MO_run_86 (by decide) (by omega) (fun c86 => ?_) (fun c86 => ?_)
            · skip
              refine vv_iinc d_MO_run_152 rfl rfl (by decide) ?_
              dsimp only [List.set]
              refine vv_goto (tgt := 70) d_MO_run_155 (by decide) ?_
              have e9 : mb_step (fi_s pw ph tu r.1 nP K r.2.2.2.2.2 4) K le S (i : Int) r.1 sw sh ce r.2.1 k b = b := by unfold mb_step; rw [if_neg (by omega)]
              rw [e9] at hstep
              exact vv_le (by repeat (first | exact lo_le_nil _ | refine lo_le_cons _ ?_ | refine lo_le_none _ ?_)) (h9 _ hstep)
            · skip
              refine vv_aload_n d_MO_run_89 rfl ?_
              refine vv_iload d_MO_run_90 rfl ?_
              refine vv_aload_n d_MO_run_92 rfl ?_
              refine vv_get d_MO_run_93 0 rfl fl_MO_152 rfl ?_
              refine vv_nV hw (wc := [ob_MO m q K S le 0 (nS : Int) (nP : Int) 1 (i : Int), ar_I (q 23) cI 20 b.2.2.1, ar_I (q 24) cI 20 b.2.2.2.1, ar_I (q 25) cI 20 b.2.2.2.2.cc, ar_I (q 26) cI 20 b.2.2.2.2.mi, ar_I (q 27) cI 20 b.2.2.2.2.tc, ar_I (q 28) cI 20 b.2.2.2.2.ta, ar_I (q 29) cI 20 b.2.2.2.2.rc, ar_I (q 30) cI 20 b.2.2.2.2.nc, ar_I (q 31) cI 12000 b.2.2.2.2.no, ar_I (q 32) cI 25600 b.2.2.2.2.tk, ar_I (q 33) cI 20480 b.2.2.2.2.rs, ar_I (q 20) cI 3600 b.2.2.2.2.wt, ar_I (q 16) cI 8 b.2.2.2.2.st, ar_I (q 14) cI 8 r.1, ar_I (q 5) cI 4 sw, ar_I (q 6) cI 4 sh, ar_I (q 17) cI 2312 (fi_s pw ph tu r.1 nP K r.2.2.2.2.2 4).1, ar_I (q 18) cI 2312 (fi_s pw ph tu r.1 nP K r.2.2.2.2.2 4).2.1, ar_I (q 19) cI 2312 (fi_s pw ph tu r.1 nP K r.2.2.2.2.2 4).2.2]) (wr := [ar_I (q 12) cI 8 co, ar_I (q 8) cI 4 sk, ar_I (q 15) cI 4 r.2.1, ar_I (q 7) cI 4 ce, ar_I (q 10) cI 8 pw, ar_I (q 11) cI 8 ph, ar_I (q 13) cZ 8 tu]) [] (c_MO_walk (cx_l X) (cx_D X) m q K S le 0 (nS : Int) (nP : Int) 1 (i : Int) cI b.2.2.1 b.2.2.2.1 r.1 sw sh (fi_s pw ph tu r.1 nP K r.2.2.2.2.2 4) b.2.2.2.2 (k : Int) (i : Int) (by omega) (by omega) hS hK hle hMI1 hMC1 htk.1 htk.2.1 hwa) lk_MO_155 d_MO_run_96 rfl (rc_at 0 rfl rfl rfl) [0, 1, 2, 3, 4, 5, 6, 7, 8, 9, 10, 11, 12, 13, 14, 15, 16, 17, 18, 19] [20, 21, 22, 23, 24, 25, 26] ⟨rfl, rfl⟩ ⟨rfl, rfl, by decide⟩ [0] rfl ⟨⟨by decide, by decide⟩, ⟨by decide, by decide⟩, Nat.le_of_ble_eq_true rfl⟩ ⟨rfl, rfl⟩ ?_
              rintro v w1 p1 t1 ⟨rfl, rfl, rfl⟩
              dsimp only [Option.toList, List.cons_append, List.nil_append, List.append_nil]
              refine vv_sub (ws' := [ob_MO m q K S le 0 (nS : Int) (nP : Int) 1 (i : Int), ar_I (q 23) cI 20 (va_up b.2.2.1 (i : Int).toNat (k : Int)), ar_I (q 24) cI 20 (va_up b.2.2.2.1 (i : Int).toNat (wy (fi_s pw ph tu r.1 nP K r.2.2.2.2.2 4) S (sw k) (sh k))), ar_I (q 25) cI 20 (mb_u (fi_s pw ph tu r.1 nP K r.2.2.2.2.2 4) K le S (i : Int) r.1 sw sh k b.2.2.2.2).cc, ar_I (q 26) cI 20 (mb_u (fi_s pw ph tu r.1 nP K r.2.2.2.2.2 4) K le S (i : Int) r.1 sw sh k b.2.2.2.2).mi, ar_I (q 27) cI 20 (mb_u (fi_s pw ph tu r.1 nP K r.2.2.2.2.2 4) K le S (i : Int) r.1 sw sh k b.2.2.2.2).tc, ar_I (q 28) cI 20 (mb_u (fi_s pw ph tu r.1 nP K r.2.2.2.2.2 4) K le S (i : Int) r.1 sw sh k b.2.2.2.2).ta, ar_I (q 29) cI 20 (mb_u (fi_s pw ph tu r.1 nP K r.2.2.2.2.2 4) K le S (i : Int) r.1 sw sh k b.2.2.2.2).rc, ar_I (q 30) cI 20 (mb_u (fi_s pw ph tu r.1 nP K r.2.2.2.2.2 4) K le S (i : Int) r.1 sw sh k b.2.2.2.2).nc, ar_I (q 31) cI 12000 (mb_u (fi_s pw ph tu r.1 nP K r.2.2.2.2.2 4) K le S (i : Int) r.1 sw sh k b.2.2.2.2).no, ar_I (q 32) cI 25600 (mb_u (fi_s pw ph tu r.1 nP K r.2.2.2.2.2 4) K le S (i : Int) r.1 sw sh k b.2.2.2.2).tk, ar_I (q 33) cI 20480 (mb_u (fi_s pw ph tu r.1 nP K r.2.2.2.2.2 4) K le S (i : Int) r.1 sw sh k b.2.2.2.2).rs, ar_I (q 20) cI 3600 (mb_u (fi_s pw ph tu r.1 nP K r.2.2.2.2.2 4) K le S (i : Int) r.1 sw sh k b.2.2.2.2).wt, ar_I (q 16) cI 8 (mb_u (fi_s pw ph tu r.1 nP K r.2.2.2.2.2 4) K le S (i : Int) r.1 sw sh k b.2.2.2.2).st, ar_I (q 14) cI 8 r.1, ar_I (q 5) cI 4 sw, ar_I (q 6) cI 4 sh, ar_I (q 17) cI 2312 (fi_s pw ph tu r.1 nP K r.2.2.2.2.2 4).1, ar_I (q 18) cI 2312 (fi_s pw ph tu r.1 nP K r.2.2.2.2.2 4).2.1, ar_I (q 19) cI 2312 (fi_s pw ph tu r.1 nP K r.2.2.2.2.2 4).2.2, ar_I (q 12) cI 8 co, ar_I (q 8) cI 4 sk, ar_I (q 15) cI 4 r.2.1, ar_I (q 7) cI 4 ce, ar_I (q 10) cI 8 pw, ar_I (q 11) cI 8 ph, ar_I (q 13) cZ 8 tu]) [7, 8, 9, 10, 11, 12, 13, 14, 15, 16, 17, 18, 19, 20, 21, 22, 23, 24, 25, 26, 0, 1, 2, 3, 4, 5, 6] rfl rfl ?_
              refine vv_aload_n d_MO_run_99 rfl ?_
              refine vv_get d_MO_run_100 0 rfl fl_MO_71 rfl ?_
              refine vv_aload_n d_MO_run_103 rfl ?_
              refine vv_get d_MO_run_104 0 rfl fl_MO_152 rfl ?_
              refine vv_iald d_MO_run_107 6 0 rfl rfl (by omega) ?_
              refine vv_i2l d_MO_run_108 (iL_of (z := ((mb_u (fi_s pw ph tu r.1 nP K r.2.2.2.2.2 4) K le S (i : Int) r.1 sw sh k b.2.2.2.2).ta (i : Int).toNat)) (by omega) (by omega)) ?_
              refine vv_lstore d_MO_run_109 rfl (by decide) ?_
              dsimp only [List.set]
              refine vv_lload d_MO_run_111 rfl ?_
              refine vv_lconst (v := iL 0) d_MO_run_113 (by decide +kernel) ?_
              refine vv_lcmp d_MO_run_114 (lgc (a := ((mb_u (fi_s pw ph tu r.1 nP K r.2.2.2.2.2 4) K le S (i : Int) r.1 sw sh k b.2.2.2.2).ta (i : Int).toNat)) (b := 0) (by omega)) ?_
              have hz1 := cmz_c ((mb_u (fi_s pw ph tu r.1 nP K r.2.2.2.2.2 4) K le S (i : Int) r.1 sw sh k b.2.2.2.2).ta (i : Int).toNat) 0
              refine vv_if_le (tgt := 152) d_MO_run_115 (by decide) (by omega) (fun c115 => ?_) (fun c115 => ?_)
              · skip
                refine vv_iinc d_MO_run_152 rfl rfl (by decide) ?_
                dsimp only [List.set]
                refine vv_goto (tgt := 70) d_MO_run_155 (by decide) ?_
                have e9 : mb_step (fi_s pw ph tu r.1 nP K r.2.2.2.2.2 4) K le S (i : Int) r.1 sw sh ce r.2.1 k b = (b.1, b.2.1, (va_up b.2.2.1 (i : Int).toNat (k : Int)), (va_up b.2.2.2.1 (i : Int).toNat (wy (fi_s pw ph tu r.1 nP K r.2.2.2.2.2 4) S (sw k) (sh k))), (mb_u (fi_s pw ph tu r.1 nP K r.2.2.2.2.2 4) K le S (i : Int) r.1 sw sh k b.2.2.2.2)) := by unfold mb_step; rw [if_pos (by omega), if_neg (by omega)]
                rw [e9] at hstep
                exact vv_le (by repeat (first | exact lo_le_nil _ | refine lo_le_cons _ ?_ | refine lo_le_none _ ?_)) (h9 _ hstep)
              · skip
                refine vv_iload_n d_MO_run_118 rfl ?_
                refine vv_if_lt (tgt := 146) d_MO_run_119 (by decide) (by omega) (fun c119 => ?_) (fun c119 => ?_)
                · skip
                  refine vv_iload d_MO_run_146 rfl ?_
                  refine vv_istore_n d_MO_run_148 rfl (by decide) ?_
                  dsimp only [List.set]
                  refine vv_lload d_MO_run_149 rfl ?_
                  refine vv_lstore_n d_MO_run_151 rfl (by decide) ?_
                  dsimp only [List.set]
                  refine vv_iinc d_MO_run_152 rfl rfl (by decide) ?_
                  dsimp only [List.set]
                  refine vv_goto (tgt := 70) d_MO_run_155 (by decide) ?_
                  have e9 : mb_step (fi_s pw ph tu r.1 nP K r.2.2.2.2.2 4) K le S (i : Int) r.1 sw sh ce r.2.1 k b = ((k : Int), ((mb_u (fi_s pw ph tu r.1 nP K r.2.2.2.2.2 4) K le S (i : Int) r.1 sw sh k b.2.2.2.2).ta (i : Int).toNat), (va_up b.2.2.1 (i : Int).toNat (k : Int)), (va_up b.2.2.2.1 (i : Int).toNat (wy (fi_s pw ph tu r.1 nP K r.2.2.2.2.2 4) S (sw k) (sh k))), (mb_u (fi_s pw ph tu r.1 nP K r.2.2.2.2.2 4) K le S (i : Int) r.1 sw sh k b.2.2.2.2)) := by unfold mb_step; rw [if_pos (by omega), if_pos (by omega)]
                  rw [e9] at hstep
                  exact vv_le (by repeat (first | exact lo_le_nil _ | refine lo_le_cons _ ?_ | refine lo_le_none _ ?_)) (h9 _ hstep)
                · have htb := htold b.1.toNat (by omega)
                  have hm1 := mul_bd (a := ((mb_u (fi_s pw ph tu r.1 nP K r.2.2.2.2.2 4) K le S (i : Int) r.1 sw sh k b.2.2.2.2).ta (i : Int).toNat)) (b := ce b.1.toNat) hown htb.2.2
                  have hm2 := mul_bd (a := b.2.1) (b := ce k) hq2 htk.2.2
                  refine vv_lload d_MO_run_122 rfl ?_
                  refine vv_aload_n d_MO_run_124 rfl ?_
                  refine vv_get d_MO_run_125 0 rfl fl_MO_16 rfl ?_
                  refine vv_iload_n d_MO_run_128 rfl ?_
                  refine vv_iald d_MO_run_129 23 0 rfl rfl (by omega) ?_
                  refine vv_i2l d_MO_run_130 (iL_of (z := ce b.1.toNat) (by omega) (by omega)) ?_
                  refine vv_lmul d_MO_run_131 (iL_mul _ _) ?_
                  refine vv_lload_n d_MO_run_132 rfl ?_
                  refine vv_aload_n d_MO_run_133 rfl ?_
                  refine vv_get d_MO_run_134 0 rfl fl_MO_16 rfl ?_
                  refine vv_iload d_MO_run_137 rfl ?_
                  refine vv_iald d_MO_run_139 23 0 rfl rfl (by omega) ?_
                  rw [Int.toNat_natCast]
                  refine vv_i2l d_MO_run_140 (iL_of (z := ce k) (by omega) (by omega)) ?_
                  refine vv_lmul d_MO_run_141 (iL_mul _ _) ?_
                  refine vv_lcmp d_MO_run_142 (lgc (a := ((mb_u (fi_s pw ph tu r.1 nP K r.2.2.2.2.2 4) K le S (i : Int) r.1 sw sh k b.2.2.2.2).ta (i : Int).toNat) * ce b.1.toNat) (b := b.2.1 * ce k) (by omega)) ?_
                  have hz2 := cmz_c (((mb_u (fi_s pw ph tu r.1 nP K r.2.2.2.2.2 4) K le S (i : Int) r.1 sw sh k b.2.2.2.2).ta (i : Int).toNat) * ce b.1.toNat) (b.2.1 * ce k)
                  refine vv_if_le (tgt := 152) d_MO_run_143 (by decide) (by omega) (fun c143 => ?_) (fun c143 => ?_)
                  · skip
                    refine vv_iinc d_MO_run_152 rfl rfl (by decide) ?_
                    dsimp only [List.set]
                    refine vv_goto (tgt := 70) d_MO_run_155 (by decide) ?_
                    have e9 : mb_step (fi_s pw ph tu r.1 nP K r.2.2.2.2.2 4) K le S (i : Int) r.1 sw sh ce r.2.1 k b = (b.1, b.2.1, (va_up b.2.2.1 (i : Int).toNat (k : Int)), (va_up b.2.2.2.1 (i : Int).toNat (wy (fi_s pw ph tu r.1 nP K r.2.2.2.2.2 4) S (sw k) (sh k))), (mb_u (fi_s pw ph tu r.1 nP K r.2.2.2.2.2 4) K le S (i : Int) r.1 sw sh k b.2.2.2.2)) := by unfold mb_step; rw [if_pos (by omega), if_neg (by omega)]
                    rw [e9] at hstep
                    exact vv_le (by repeat (first | exact lo_le_nil _ | refine lo_le_cons _ ?_ | refine lo_le_none _ ?_)) (h9 _ hstep)
                  · skip
                    refine vv_iload d_MO_run_146 rfl ?_
                    refine vv_istore_n d_MO_run_148 rfl (by decide) ?_
                    dsimp only [List.set]
                    refine vv_lload d_MO_run_149 rfl ?_
                    refine vv_lstore_n d_MO_run_151 rfl (by decide) ?_
                    dsimp only [List.set]
                    refine vv_iinc d_MO_run_152 rfl rfl (by decide) ?_
                    dsimp only [List.set]
                    refine vv_goto (tgt := 70) d_MO_run_155 (by decide) ?_
                    have e9 : mb_step (fi_s pw ph tu r.1 nP K r.2.2.2.2.2 4) K le S (i : Int) r.1 sw sh ce r.2.1 k b = ((k : Int), ((mb_u (fi_s pw ph tu r.1 nP K r.2.2.2.2.2 4) K le S (i : Int) r.1 sw sh k b.2.2.2.2).ta (i : Int).toNat), (va_up b.2.2.1 (i : Int).toNat (k : Int)), (va_up b.2.2.2.1 (i : Int).toNat (wy (fi_s pw ph tu r.1 nP K r.2.2.2.2.2 4) S (sw k) (sh k))), (mb_u (fi_s pw ph tu r.1 nP K r.2.2.2.2.2 4) K le S (i : Int) r.1 sw sh k b.2.2.2.2)) := by unfold mb_step; rw [if_pos (by omega), if_pos (by omega)]
                    rw [e9] at hstep
                    exact vv_le (by repeat (first | exact lo_le_nil _ | refine lo_le_cons _ ?_ | refine lo_le_none _ ?_)) (h9 _ hstep)
      refine vv_iload_n d_MO_run_46 rfl ?_
      refine vv_if_eq (tgt := 234) d_MO_run_47 (by decide) (by omega) (fun c47 => ?_) (fun c47 => ?_)
      · exfalso; omega
      · skip
        refine vv_aload_n d_MO_run_50 rfl ?_
        refine vv_get d_MO_run_51 0 rfl fl_MO_152 rfl ?_
        refine vv_bipush d_MO_run_54 (by decide +kernel) ?_
        refine vv_icmp_ge (tgt := 234) d_MO_run_56 (by decide) ⟨by omega, by omega⟩ (fun c56 => ?_) (fun c56 => ?_)
        · exfalso; omega
        · skip
          refine vv_aload_n d_MO_run_59 rfl ?_
          refine vv_nV hw (wc := [ob_MO m q K S le 0 (nS : Int) (nP : Int) 1 (i : Int), ar_I (q 10) cI 8 pw, ar_I (q 11) cI 8 ph, ar_I (q 13) cZ 8 tu, ar_I (q 14) cI 8 r.1, ar_I (q 17) cI 2312 r.2.2.2.2.2.1, ar_I (q 18) cI 2312 r.2.2.2.2.2.2.1, ar_I (q 19) cI 2312 r.2.2.2.2.2.2.2]) (wr := [ar_I (q 23) cI 20 r.2.2.1, ar_I (q 24) cI 20 r.2.2.2.1, ar_I (q 25) cI 20 r.2.2.2.2.1.cc, ar_I (q 26) cI 20 r.2.2.2.2.1.mi, ar_I (q 27) cI 20 r.2.2.2.2.1.tc, ar_I (q 28) cI 20 r.2.2.2.2.1.ta, ar_I (q 29) cI 20 r.2.2.2.2.1.rc, ar_I (q 30) cI 20 r.2.2.2.2.1.nc, ar_I (q 31) cI 12000 r.2.2.2.2.1.no, ar_I (q 32) cI 25600 r.2.2.2.2.1.tk, ar_I (q 33) cI 20480 r.2.2.2.2.1.rs, ar_I (q 20) cI 3600 r.2.2.2.2.1.wt, ar_I (q 16) cI 8 r.2.2.2.2.1.st, ar_I (q 5) cI 4 sw, ar_I (q 6) cI 4 sh, ar_I (q 12) cI 8 co, ar_I (q 8) cI 4 sk, ar_I (q 15) cI 4 r.2.1, ar_I (q 7) cI 4 ce]) [] (c_MO_fill (cx_l X) (cx_D X) m nP q K S le 0 (nS : Int) 1 (i : Int) cI cZ pw ph tu r.1 r.2.2.2.2.2 hnP hK hb hwa2 hI.2.2.1) lk_MO_133 d_MO_run_60 rfl (rc_at 0 rfl rfl rfl) [0, 24, 25, 26, 14, 17, 18, 19] [1, 2, 3, 4, 5, 6, 7, 8, 9, 10, 11, 12, 13, 15, 16, 20, 21, 22, 23] ⟨rfl, rfl⟩ ⟨rfl, rfl, by decide⟩ [0, 1] rfl ⟨⟨by decide, by decide⟩, ⟨by decide, by decide⟩, Nat.le_of_ble_eq_true rfl⟩ ⟨rfl, rfl⟩ ?_
          rintro v w1 p1 t1 ⟨rfl, rfl, rfl⟩
          dsimp only [Option.toList, List.cons_append, List.nil_append, List.append_nil]
          refine vv_sub (ws' := [ob_MO m q K S le 0 (nS : Int) (nP : Int) 1 (i : Int), ar_I (q 23) cI 20 r.2.2.1, ar_I (q 24) cI 20 r.2.2.2.1, ar_I (q 25) cI 20 r.2.2.2.2.1.cc, ar_I (q 26) cI 20 r.2.2.2.2.1.mi, ar_I (q 27) cI 20 r.2.2.2.2.1.tc, ar_I (q 28) cI 20 r.2.2.2.2.1.ta, ar_I (q 29) cI 20 r.2.2.2.2.1.rc, ar_I (q 30) cI 20 r.2.2.2.2.1.nc, ar_I (q 31) cI 12000 r.2.2.2.2.1.no, ar_I (q 32) cI 25600 r.2.2.2.2.1.tk, ar_I (q 33) cI 20480 r.2.2.2.2.1.rs, ar_I (q 20) cI 3600 r.2.2.2.2.1.wt, ar_I (q 16) cI 8 r.2.2.2.2.1.st, ar_I (q 14) cI 8 r.1, ar_I (q 5) cI 4 sw, ar_I (q 6) cI 4 sh, ar_I (q 17) cI 2312 (fi_s pw ph tu r.1 nP K r.2.2.2.2.2 4).1, ar_I (q 18) cI 2312 (fi_s pw ph tu r.1 nP K r.2.2.2.2.2 4).2.1, ar_I (q 19) cI 2312 (fi_s pw ph tu r.1 nP K r.2.2.2.2.2 4).2.2, ar_I (q 12) cI 8 co, ar_I (q 8) cI 4 sk, ar_I (q 15) cI 4 r.2.1, ar_I (q 7) cI 4 ce, ar_I (q 10) cI 8 pw, ar_I (q 11) cI 8 ph, ar_I (q 13) cZ 8 tu]) [19, 0, 1, 2, 3, 4, 5, 6, 7, 8, 9, 10, 11, 12, 23, 13, 14, 24, 25, 26, 15, 16, 17, 18, 20, 21, 22] rfl rfl ?_
          refine vv_iconst d_MO_run_63 ?_
          refine vv_istore_n d_MO_run_64 rfl (by decide) ?_
          dsimp only [List.set]
          refine vv_lconst (v := iL 0) d_MO_run_65 (by decide +kernel) ?_
          refine vv_lstore_n d_MO_run_66 rfl (by decide) ?_
          dsimp only [List.set]
          refine vv_iconst d_MO_run_67 ?_
          refine vv_istore d_MO_run_68 rfl (by decide) ?_
          dsimp only [List.set]
          exact vv_le (by repeat (first | exact lo_le_nil _ | refine lo_le_cons _ ?_ | refine lo_le_none _ ?_)) (loopB nS 0 (by omega) (-1, 0, r.2.2.1, r.2.2.2.1, r.2.2.2.2.1) rfl)
  have hI0 : MRI nS ((wl co nP wa0 8, cp is0 sk 4, of0, fw0, u0, T0) : mr_T) := by
    refine ⟨fun j hj => ?_, fun j hj => ?_, hT0, hC0⟩
    · show 0 ≤ wl co nP wa0 8 j ∧ wl co nP wa0 8 j ≤ 50
      rw [wl_at 8 j, if_pos hj]
      have := hco j hj
      split <;> omega
    · show 0 ≤ cp is0 sk 4 j ∧ cp is0 sk 4 j ≤ 20
      rw [cp_at 4 j, if_pos (by omega)]
      exact hsk j (by omega)
  have loopI : ∀ n k : Nat, k + n = 4 → ∀ g : Nat → Int, cp is0 sk k = g → VV X (b_MO_run, 8, "SheetTreesModel", rm_3) (cq X ([ob_MO m q K S le cd (nS : Int) (nP : Int) rn dn, ar_I (q 23) cI 20 of0, ar_I (q 24) cI 20 fw0, ar_I (q 25) cI 20 u0.cc, ar_I (q 26) cI 20 u0.mi, ar_I (q 27) cI 20 u0.tc, ar_I (q 28) cI 20 u0.ta, ar_I (q 29) cI 20 u0.rc, ar_I (q 30) cI 20 u0.nc, ar_I (q 31) cI 12000 u0.no, ar_I (q 32) cI 25600 u0.tk, ar_I (q 33) cI 20480 u0.rs, ar_I (q 20) cI 3600 u0.wt, ar_I (q 16) cI 8 u0.st, ar_I (q 14) cI 8 wa0, ar_I (q 5) cI 4 sw, ar_I (q 6) cI 4 sh, ar_I (q 17) cI 2312 T0.1, ar_I (q 18) cI 2312 T0.2.1, ar_I (q 19) cI 2312 T0.2.2, ar_I (q 12) cI 8 co, ar_I (q 8) cI 4 sk, ar_I (q 15) cI 4 is0, ar_I (q 7) cI 4 ce, ar_I (q 10) cI 8 pw, ar_I (q 11) cI 8 ph, ar_I (q 13) cZ 8 tu] ++ []) sz (fun r w1 p1 _ => r = some (.int (iI (((mr_go pw ph tu sw sh ce nS nP K le S 20 0 ((wl co nP wa0 8, cp is0 sk 4, of0, fw0, u0, T0) : mr_T)).1 : Nat) : Int))) ∧ w1 = [ob_MO m q K S le 0 (nS : Int) (nP : Int) 1 (((mr_go pw ph tu sw sh ce nS nP K le S 20 0 ((wl co nP wa0 8, cp is0 sk 4, of0, fw0, u0, T0) : mr_T)).1 : Nat) : Int), ar_I (q 23) cI 20 (mr_go pw ph tu sw sh ce nS nP K le S 20 0 ((wl co nP wa0 8, cp is0 sk 4, of0, fw0, u0, T0) : mr_T)).2.2.2.1, ar_I (q 24) cI 20 (mr_go pw ph tu sw sh ce nS nP K le S 20 0 ((wl co nP wa0 8, cp is0 sk 4, of0, fw0, u0, T0) : mr_T)).2.2.2.2.1, ar_I (q 25) cI 20 (mr_go pw ph tu sw sh ce nS nP K le S 20 0 ((wl co nP wa0 8, cp is0 sk 4, of0, fw0, u0, T0) : mr_T)).2.2.2.2.2.1.cc, ar_I (q 26) cI 20 (mr_go pw ph tu sw sh ce nS nP K le S 20 0 ((wl co nP wa0 8, cp is0 sk 4, of0, fw0, u0, T0) : mr_T)).2.2.2.2.2.1.mi, ar_I (q 27) cI 20 (mr_go pw ph tu sw sh ce nS nP K le S 20 0 ((wl co nP wa0 8, cp is0 sk 4, of0, fw0, u0, T0) : mr_T)).2.2.2.2.2.1.tc, ar_I (q 28) cI 20 (mr_go pw ph tu sw sh ce nS nP K le S 20 0 ((wl co nP wa0 8, cp is0 sk 4, of0, fw0, u0, T0) : mr_T)).2.2.2.2.2.1.ta, ar_I (q 29) cI 20 (mr_go pw ph tu sw sh ce nS nP K le S 20 0 ((wl co nP wa0 8, cp is0 sk 4, of0, fw0, u0, T0) : mr_T)).2.2.2.2.2.1.rc, ar_I (q 30) cI 20 (mr_go pw ph tu sw sh ce nS nP K le S 20 0 ((wl co nP wa0 8, cp is0 sk 4, of0, fw0, u0, T0) : mr_T)).2.2.2.2.2.1.nc, ar_I (q 31) cI 12000 (mr_go pw ph tu sw sh ce nS nP K le S 20 0 ((wl co nP wa0 8, cp is0 sk 4, of0, fw0, u0, T0) : mr_T)).2.2.2.2.2.1.no, ar_I (q 32) cI 25600 (mr_go pw ph tu sw sh ce nS nP K le S 20 0 ((wl co nP wa0 8, cp is0 sk 4, of0, fw0, u0, T0) : mr_T)).2.2.2.2.2.1.tk, ar_I (q 33) cI 20480 (mr_go pw ph tu sw sh ce nS nP K le S 20 0 ((wl co nP wa0 8, cp is0 sk 4, of0, fw0, u0, T0) : mr_T)).2.2.2.2.2.1.rs, ar_I (q 20) cI 3600 (mr_go pw ph tu sw sh ce nS nP K le S 20 0 ((wl co nP wa0 8, cp is0 sk 4, of0, fw0, u0, T0) : mr_T)).2.2.2.2.2.1.wt, ar_I (q 16) cI 8 (mr_go pw ph tu sw sh ce nS nP K le S 20 0 ((wl co nP wa0 8, cp is0 sk 4, of0, fw0, u0, T0) : mr_T)).2.2.2.2.2.1.st, ar_I (q 14) cI 8 (mr_go pw ph tu sw sh ce nS nP K le S 20 0 ((wl co nP wa0 8, cp is0 sk 4, of0, fw0, u0, T0) : mr_T)).2.1, ar_I (q 5) cI 4 sw, ar_I (q 6) cI 4 sh, ar_I (q 17) cI 2312 (mr_go pw ph tu sw sh ce nS nP K le S 20 0 ((wl co nP wa0 8, cp is0 sk 4, of0, fw0, u0, T0) : mr_T)).2.2.2.2.2.2.1, ar_I (q 18) cI 2312 (mr_go pw ph tu sw sh ce nS nP K le S 20 0 ((wl co nP wa0 8, cp is0 sk 4, of0, fw0, u0, T0) : mr_T)).2.2.2.2.2.2.2.1, ar_I (q 19) cI 2312 (mr_go pw ph tu sw sh ce nS nP K le S 20 0 ((wl co nP wa0 8, cp is0 sk 4, of0, fw0, u0, T0) : mr_T)).2.2.2.2.2.2.2.2, ar_I (q 12) cI 8 co, ar_I (q 8) cI 4 sk, ar_I (q 15) cI 4 (mr_go pw ph tu sw sh ce nS nP K le S 20 0 ((wl co nP wa0 8, cp is0 sk 4, of0, fw0, u0, T0) : mr_T)).2.2.1, ar_I (q 7) cI 4 ce, ar_I (q 10) cI 8 pw, ar_I (q 11) cI 8 ph, ar_I (q 13) cZ 8 tu] ∧ p1 = []) rm_3) 0 0 [(cI, .int), (cZ, .boolean)] [ob_MO m q K S le 0 (nS : Int) (nP : Int) rn dn, ar_I (q 23) cI 20 of0, ar_I (q 24) cI 20 fw0, ar_I (q 25) cI 20 u0.cc, ar_I (q 26) cI 20 u0.mi, ar_I (q 27) cI 20 u0.tc, ar_I (q 28) cI 20 u0.ta, ar_I (q 29) cI 20 u0.rc, ar_I (q 30) cI 20 u0.nc, ar_I (q 31) cI 12000 u0.no, ar_I (q 32) cI 25600 u0.tk, ar_I (q 33) cI 20480 u0.rs, ar_I (q 20) cI 3600 u0.wt, ar_I (q 16) cI 8 u0.st, ar_I (q 14) cI 8 (wl co nP wa0 8), ar_I (q 5) cI 4 sw, ar_I (q 6) cI 4 sh, ar_I (q 17) cI 2312 T0.1, ar_I (q 18) cI 2312 T0.2.1, ar_I (q 19) cI 2312 T0.2.2, ar_I (q 12) cI 8 co, ar_I (q 8) cI 4 sk, ar_I (q 15) cI 4 g, ar_I (q 7) cI 4 ce, ar_I (q 10) cI 8 pw, ar_I (q 11) cI 8 ph, ar_I (q 13) cZ 8 tu] [] [some (.ref m), some (.int (iI (k : Int))), none, none, none, none, none, none] [] 11 := by
    intro n
    induction n with
    | zero =>
      intro k hk g hg
      have e : k = 4 := by omega
      subst e
      subst hg
      refine vv_iload_n d_MO_run_11 rfl ?_
      refine vv_iconst d_MO_run_12 ?_
      refine vv_icmp_ge (tgt := 34) d_MO_run_13 (by decide) ⟨by omega, by omega⟩ (fun c13 => ?_) (fun c13 => ?_)
      · skip
        refine vv_aload_n d_MO_run_34 rfl ?_
        refine vv_iconst d_MO_run_35 ?_
        refine vv_put hw d_MO_run_36 0 rfl fp_MO_152 rfl rfl (Nat.le_of_ble_eq_true rfl) ?_
        dsimp only [List.set]
        refine vv_aload_n d_MO_run_39 rfl ?_
        refine vv_iconst d_MO_run_40 ?_
        refine vv_put hw d_MO_run_41 0 rfl fp_MO_109 rfl rfl (Nat.le_of_ble_eq_true rfl) ?_
        dsimp only [List.set]
        refine vv_iconst d_MO_run_44 ?_
        refine vv_istore_n d_MO_run_45 rfl (by decide) ?_
        dsimp only [List.set]
        exact vv_le (by repeat (first | exact lo_le_nil _ | refine lo_le_cons _ ?_ | refine lo_le_none _ ?_)) (loop 20 0 ((wl co nP wa0 8, cp is0 sk 4, of0, fw0, u0, T0) : mr_T) (by omega) hI0 rfl)
      · exfalso; omega
    | succ n ih =>
      intro k hk g hg
      have h9 := ih (k + 1) (by omega) (va_up g k (sk k)) (by rw [← hg]; rfl)
      refine vv_iload_n d_MO_run_11 rfl ?_
      refine vv_iconst d_MO_run_12 ?_
      refine vv_icmp_ge (tgt := 34) d_MO_run_13 (by decide) ⟨by omega, by omega⟩ (fun c13 => ?_) (fun c13 => ?_)
      · exfalso; omega
      · skip
        refine vv_aload_n d_MO_run_16 rfl ?_
        refine vv_get d_MO_run_17 0 rfl fl_MO_38 rfl ?_
        refine vv_iload_n d_MO_run_20 rfl ?_
        refine vv_aload_n d_MO_run_21 rfl ?_
        refine vv_get d_MO_run_22 0 rfl fl_MO_19 rfl ?_
        refine vv_iload_n d_MO_run_25 rfl ?_
        refine vv_iald d_MO_run_26 21 0 rfl rfl (by omega) ?_
        refine vv_iast hw d_MO_run_27 22 0 rfl rfl (by omega) ?_
        dsimp only [List.set]
        refine vv_iinc d_MO_run_28 rfl rfl (by decide) ?_
        dsimp only [List.set]
        refine vv_goto (tgt := 11) d_MO_run_31 (by decide) ?_
        simp only [Int.toNat_natCast]
        exact h9
  show VV X (b_MO_run, 8, "SheetTreesModel", rm_3) _ 0 0 [(cI, .int), (cZ, .boolean)] [ob_MO m q K S le cd (nS : Int) (nP : Int) rn dn, ar_I (q 23) cI 20 of0, ar_I (q 24) cI 20 fw0, ar_I (q 25) cI 20 u0.cc, ar_I (q 26) cI 20 u0.mi, ar_I (q 27) cI 20 u0.tc, ar_I (q 28) cI 20 u0.ta, ar_I (q 29) cI 20 u0.rc, ar_I (q 30) cI 20 u0.nc, ar_I (q 31) cI 12000 u0.no, ar_I (q 32) cI 25600 u0.tk, ar_I (q 33) cI 20480 u0.rs, ar_I (q 20) cI 3600 u0.wt, ar_I (q 16) cI 8 u0.st, ar_I (q 14) cI 8 wa0, ar_I (q 5) cI 4 sw, ar_I (q 6) cI 4 sh, ar_I (q 17) cI 2312 T0.1, ar_I (q 18) cI 2312 T0.2.1, ar_I (q 19) cI 2312 T0.2.2, ar_I (q 12) cI 8 co, ar_I (q 8) cI 4 sk, ar_I (q 15) cI 4 is0, ar_I (q 7) cI 4 ce, ar_I (q 10) cI 8 pw, ar_I (q 11) cI 8 ph, ar_I (q 13) cZ 8 tu] [] [some (.ref m), none, none, none, none, none, none, none] [] 0
  refine vv_aload_n d_MO_run_0 rfl ?_
  refine vv_iconst d_MO_run_1 ?_
  refine vv_put hw d_MO_run_2 0 rfl fp_MO_99 rfl rfl (Nat.le_of_ble_eq_true rfl) ?_
  dsimp only [List.set]
  refine vv_aload_n d_MO_run_5 rfl ?_
  refine vv_nV hw (wc := [ob_MO m q K S le 0 (nS : Int) (nP : Int) rn dn, ar_I (q 12) cI 8 co, ar_I (q 14) cI 8 wa0]) (wr := [ar_I (q 23) cI 20 of0, ar_I (q 24) cI 20 fw0, ar_I (q 25) cI 20 u0.cc, ar_I (q 26) cI 20 u0.mi, ar_I (q 27) cI 20 u0.tc, ar_I (q 28) cI 20 u0.ta, ar_I (q 29) cI 20 u0.rc, ar_I (q 30) cI 20 u0.nc, ar_I (q 31) cI 12000 u0.no, ar_I (q 32) cI 25600 u0.tk, ar_I (q 33) cI 20480 u0.rs, ar_I (q 20) cI 3600 u0.wt, ar_I (q 16) cI 8 u0.st, ar_I (q 5) cI 4 sw, ar_I (q 6) cI 4 sh, ar_I (q 17) cI 2312 T0.1, ar_I (q 18) cI 2312 T0.2.1, ar_I (q 19) cI 2312 T0.2.2, ar_I (q 8) cI 4 sk, ar_I (q 15) cI 4 is0, ar_I (q 7) cI 4 ce, ar_I (q 10) cI 8 pw, ar_I (q 11) cI 8 ph, ar_I (q 13) cZ 8 tu]) [] (c_MO_wantAll (cx_l X) (cx_D X) m nP q K S le 0 (nS : Int) rn dn cI co wa0 hnP) lk_MO_130 d_MO_run_6 rfl (rc_at 0 rfl rfl rfl) [0, 20, 14] [1, 2, 3, 4, 5, 6, 7, 8, 9, 10, 11, 12, 13, 15, 16, 17, 18, 19, 21, 22, 23, 24, 25, 26] ⟨rfl, rfl⟩ ⟨rfl, rfl, by decide⟩ [0] rfl ⟨⟨by decide, by decide⟩, ⟨by decide, by decide⟩, Nat.le_of_ble_eq_true rfl⟩ ⟨rfl, rfl⟩ ?_
  rintro v w1 p1 t1 ⟨rfl, rfl, rfl⟩
  dsimp only [Option.toList, List.cons_append, List.nil_append, List.append_nil]
  refine vv_sub (ws' := [ob_MO m q K S le 0 (nS : Int) (nP : Int) rn dn, ar_I (q 23) cI 20 of0, ar_I (q 24) cI 20 fw0, ar_I (q 25) cI 20 u0.cc, ar_I (q 26) cI 20 u0.mi, ar_I (q 27) cI 20 u0.tc, ar_I (q 28) cI 20 u0.ta, ar_I (q 29) cI 20 u0.rc, ar_I (q 30) cI 20 u0.nc, ar_I (q 31) cI 12000 u0.no, ar_I (q 32) cI 25600 u0.tk, ar_I (q 33) cI 20480 u0.rs, ar_I (q 20) cI 3600 u0.wt, ar_I (q 16) cI 8 u0.st, ar_I (q 14) cI 8 (wl co nP wa0 8), ar_I (q 5) cI 4 sw, ar_I (q 6) cI 4 sh, ar_I (q 17) cI 2312 T0.1, ar_I (q 18) cI 2312 T0.2.1, ar_I (q 19) cI 2312 T0.2.2, ar_I (q 12) cI 8 co, ar_I (q 8) cI 4 sk, ar_I (q 15) cI 4 is0, ar_I (q 7) cI 4 ce, ar_I (q 10) cI 8 pw, ar_I (q 11) cI 8 ph, ar_I (q 13) cZ 8 tu]) [24, 0, 1, 2, 3, 4, 5, 6, 7, 8, 9, 10, 11, 12, 26, 13, 14, 15, 16, 17, 25, 18, 19, 20, 21, 22, 23] rfl rfl ?_
  refine vv_iconst d_MO_run_9 ?_
  refine vv_istore_n d_MO_run_10 rfl (by decide) ?_
  dsimp only [List.set]
  exact loopI 4 0 (by omega) is0 rfl
