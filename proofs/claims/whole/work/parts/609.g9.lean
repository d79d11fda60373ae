/-! pure: one sheet -/
theorem bitm_tb (m p : Nat) : bitm m p ↔ m.testBit p = true := by
  unfold bitm
  rw [Nat.testBit_eq_decide_div_mod_eq, decide_eq_true_iff]
theorem al_0 {u m : Nat} (hu : u < 256) (hm : m < 256) : al_z (u : Int) (m : Int) = 0 ↔ ∀ p : Nat, p < 8 → bitm u p → bitm m p := by
  have eb : ∀ n : Nat, (iI (n : Int)).toBitVec = BitVec.ofNat 32 n := fun n => by
    show (Int32.ofInt (n : Int)).toBitVec = _
    rfl
  have em : (iI (-1)).toBitVec = BitVec.allOnes 32 := by decide
  have e0 : al_z (u : Int) (m : Int) = 0 ↔ (BitVec.ofNat 32 u &&& (BitVec.ofNat 32 m ^^^ BitVec.allOnes 32)) = (0 : BitVec 32) := by
    unfold al_z
    have e1 : (iI (u : Int) &&& (iI (m : Int) ^^^ iI (-1))).toBitVec = BitVec.ofNat 32 u &&& (BitVec.ofNat 32 m ^^^ BitVec.allOnes 32) := by
      rw [Int32.toBitVec_and, Int32.toBitVec_xor, eb, eb, em]
    rw [← e1]
    constructor
    · intro h
      have h2 : (iI (u : Int) &&& (iI (m : Int) ^^^ iI (-1))) = 0 := Int32.toInt_inj.mp (by rw [h]; rfl)
      rw [h2]
      rfl
    · intro h
      have h2 : (iI (u : Int) &&& (iI (m : Int) ^^^ iI (-1))) = 0 := Int32.toBitVec_inj.mp (by rw [h]; rfl)
      rw [h2]
      rfl
  rw [e0]
  have key : ∀ p : Nat, p < 32 → (BitVec.ofNat 32 u &&& (BitVec.ofNat 32 m ^^^ BitVec.allOnes 32)).getLsbD p = (u.testBit p && !m.testBit p) := fun p hp => by
    rw [BitVec.getLsbD_and, BitVec.getLsbD_xor, BitVec.getLsbD_ofNat, BitVec.getLsbD_ofNat, BitVec.getLsbD_allOnes, decide_eq_true hp, Bool.true_and, Bool.true_and, Bool.xor_true]
  constructor
  · intro h p hp hb
    rw [bitm_tb] at hb ⊢
    have h1 := key p (by omega)
    rw [h, hb, Bool.true_and] at h1
    cases q : m.testBit p with
    | true => rfl
    | false =>
      rw [q] at h1
      simp at h1
  · intro h
    refine BitVec.eq_of_getLsbD_eq (fun p hp => ?_)
    rw [key p hp]
    have e1 : (0 : BitVec 32).getLsbD p = false := by simp
    rw [e1]
    cases q : u.testBit p with
    | false => rfl
    | true =>
      by_cases h8 : p < 8
      · have := h p h8 ((bitm_tb u p).mpr q)
        rw [bitm_tb] at this
        rw [this]
        rfl
      · have : u.testBit p = false := Nat.testBit_lt_two_pow (Nat.lt_of_lt_of_le hu (show 256 ≤ 2 ^ p from Nat.pow_le_pow_right (by decide : 0 < 2) (show 8 ≤ p by omega)))
        rw [this] at q
        exact absurd q (by decide)
abbrev TR (K : Int) (S : Nat) (R : Nat → pa_T) (m : Nat) (w h : Int) : List nd_T := nod (chs (fit R m) K) K S (wyd (fit R m) K S w h) 0 0 w h
theorem ch_fit {F : Nat → Int → Int → Bool} {K : Int} {s : Nat} {d : Bool} {w h : Int} (hK : 0 ≤ K) (hr : rg s w h) (h8 : chs F K s d w h < 8) : F (chs F K s d w h).toNat w h = true := by
  have key : chs F K s d w h = (uo F w h).2 := by
    cases s with
    | zero => rfl
    | succ s =>
      cases d with
      | false =>
        have h9 : (idl (uo F) K (s + 1) false w h).2 < 8 := h8
        show (idl (uo F) K (s + 1) false w h).2 = _
        rw [idl_e0 hK hr.2.1.1] at h9 ⊢
        rcases fm_ch (a := fun c => (idl (uo F) K s true c h).1 + (idl (uo F) K (s + 1) false (max 0 (w - c - K)) h).1 - 1) (p0 := uo F w h) (w - 1).toNat with e | ⟨c, h1, h2, e⟩
        · rw [e]
        · rw [e] at h9
          have h10 : 8 + c < 8 := h9
          omega
      | true =>
        have h9 : (idl (uo F) K (s + 1) true w h).2 < 8 := h8
        show (idl (uo F) K (s + 1) true w h).2 = _
        rw [idl_e1 hK hr.2.2.1] at h9 ⊢
        rcases fm_ch (a := fun c => (idl (uo F) K s false w c).1 + (idl (uo F) K (s + 1) true w (max 0 (h - c - K))).1 - 1) (p0 := uo F w h) (h - 1).toNat with e | ⟨c, h1, h2, e⟩
        · rw [e]
        · rw [e] at h9
          have h10 : 8 + c < 8 := h9
          omega
  rw [key] at h8 ⊢
  rcases uo_cases F w h with ⟨e, _⟩ | ⟨p, _, h2, _, e⟩
  · rw [e] at h8
    exact absurd h8 (by decide)
  · rw [e]
    show F ((p : Int)).toNat w h = true
    rw [Int.toNat_natCast]
    exact h2
theorem fit_ar {R : Nat → pa_T} {m p : Nat} {w h : Int} (hf : fit R m p w h = true) : bitm m p ∧ ar_of R p = w * h := by
  have h1 := of_decide_eq_true hf
  refine ⟨h1.1, ?_⟩
  show (R p).1 * (R p).2.1 = w * h
  rcases h1.2 with ⟨x, y⟩ | ⟨_, x, y⟩
  · rw [x, y]
  · rw [x, y]
    exact Int.mul_comm _ _
theorem TR_b {K : Int} {S : Nat} {R : Nat → pa_T} {m : Nat} {w h : Int} (hK : 0 ≤ K) (hr : rg S w h) : (∀ q ∈ TR K S R m w h, QB (ar_of R) q ∧ (q.1 < 8 → bitm m q.1.toNat)) ∧ lfc (TR K S R m w h) ≤ 256 ∧ (TR K S R m w h).length ≤ 511 := by
  have h2 := wh1 hr.2.1 hr.2.2
  obtain ⟨b1, b2, b3⟩ := nod_b (C := chs (fit R m) K) hK (idl_cv (Fit := fit R m) hK) S (wyd (fit R m) K S w h) 0 0 w h hr.1 (by unfold okp; have := hr.2; omega)
  refine ⟨fun q hq => ?_, by show lfc (nod _ _ _ _ _ _ _ _) ≤ 256; omega, by show (nod _ _ _ _ _ _ _ _).length ≤ 511; omega⟩
  obtain ⟨n1, s, n2, n3⟩ := b3 q hq
  have n1' := n1
  unfold okp at n1'
  have hr2 : rg s q.2.2.2.1 q.2.2.2.2.1 := ⟨n2, by omega, by omega⟩
  have n4 := idl_cv (Fit := fit R m) hK s q.2.2.2.2.2 _ _ hr2
  dsimp only at n3 n4
  have n5 : q.1 < 8 → fit R m q.1.toNat q.2.2.2.1 q.2.2.2.2.1 = true := fun h8 => by
    rw [n3] at h8 ⊢
    exact ch_fit hK hr2 h8
  exact ⟨⟨by rw [n3]; exact n4.1, n1, fun h8 => (fit_ar (n5 h8)).2⟩, fun h8 => (fit_ar (n5 h8)).1⟩
theorem dec_enc {x c : Int} (h : enc x = c) (hx : (x = -1 ∨ (0 ≤ x ∧ x < 8)) ∨ 16 < x) : x = dec c := by
  unfold enc at h
  unfold dec
  split at h
  · rw [if_pos h.symm]
    assumption
  · split at h
    · rw [if_neg (by omega), if_pos (by omega)]
      exact h
    · rw [if_neg (by omega), if_neg (by omega)]
      omega
section ONE
variable {K le : Int} {S m : Nat} {R : Nat → pa_T} {T : tp_T} {M : mt_T} {w h : Int}
theorem one_way (hC : CTb (ux R m) K T (fun s' _ _ _ => s' ≤ S)) (hr : rg S w h) : lyw T.1 S w h = wyd (fit R m) K S w h := by
  have a := (hC.2 S false w h hr (Nat.le_refl _)).1
  have b := (hC.2 S true w h hr (Nat.le_refl _)).1
  unfold lyw wyd
  have hS := hr.1
  rw [rd_pl (by omega) (by omega) (by have := hr.2; omega) (by have := hr.2; omega), rd_pl (by omega) (by omega) (by have := hr.2; omega) (by have := hr.2; omega)]
  have a' : T.1 (pl_at S 0 w h).toNat = (idl (uo (fit R m)) K S false w h).1 := a
  have b' : T.1 (pl_at S 1 w h).toNat = (idl (uo (fit R m)) K S true w h).1 := b
  rw [a', b']
theorem one_lay (hK : 0 ≤ K) (hC : CTb (ux R m) K T (fun s' _ _ _ => s' ≤ S)) (hr : rg S w h) (st : ly_T) : lay T K S w h st = List.foldl cstep (ly0 st) (TR K S R m w h) := by
  unfold lay
  rw [one_way hC hr]
  exact lt_nod (C := chs (fit R m) K) hK (idl_cv hK) S _ 0 0 w h _ (fun s' d w h hs hr' => (hC.2 s' d w h hr' hs).2) hr
theorem one_wyb (hM : RTb (uo (fit R m)) K M (fun s' _ _ _ => s' < 4)) (hr : rg S w h) : wyb M S w h = wyd (fit R m) K S w h := by
  have hS := hr.1
  have a := (hM.2 S false w h hr (by omega)).1
  have b := (hM.2 S true w h hr (by omega)).1
  have a2 := hM.1 S 0 w h (by omega) (by omega) (by omega) (by omega) hr.2.1.1 hr.2.1.2 hr.2.2.1 hr.2.2.2
  have b2 := hM.1 S 1 w h (by omega) (by omega) (by omega) (by omega) hr.2.1.1 hr.2.1.2 hr.2.2.1 hr.2.2.2
  have h2 := wh1 hr.2.1 hr.2.2
  have a' : 1024 * M.1 (mp S 0 w h).toNat - M.2.1 (mp S 0 w h).toNat = (idl (uo (fit R m)) K S false w h).1 := a
  have b' : 1024 * M.1 (mp S 1 w h).toNat - M.2.1 (mp S 1 w h).toNat = (idl (uo (fit R m)) K S true w h).1 := b
  unfold wyb wyd wy
  by_cases e : (idl (uo (fit R m)) K S false w h).1 < (idl (uo (fit R m)) K S true w h).1
  · rw [if_pos (by omega), decide_eq_true e]
    rfl
  · rw [if_neg (by omega), decide_eq_false e]
    rfl
theorem one_walk (hK : 0 ≤ K) (hM : RTb (uo (fit R m)) K M (fun s' _ _ _ => s' < 4)) (hH : MCH M.2.2) (hr : rg S w h) (t : Int) (wa : Nat → Int) (u : mw_T) : (mw_all M K le S t w h wa u).2.2 = List.foldl (rst le t) (mv_0 t wa u.2.2) (TR K S R m w h) := by
  have e := mw_all_f (C := chs (fit R m) K) (T := M) (K := K) (le := le) (t := t) (w := w) (h := h) (S := S) (wa := wa) (u := u) hK (idl_cv hK) (fun s d w h hr' => ?_) hr
  · rw [e, one_wyb hM hr]
  · have h3 := hr'.1
    have hb := bz_r d
    refine dec_enc (hM.2 s d w h hr' (by omega)).2 ?_
    rcases hH s (bz d) w h (by omega) (by omega) hb.1 hb.2 hr'.2.1.1 hr'.2.1.2 hr'.2.2.1 hr'.2.2.2 with x | x
    · exact Or.inl x
    · exact Or.inr x.1
end ONE
