/-! pure: the reference's tables are the ideal ones -/
def enc (x : Int) : Int := if x = -1 then 8 else if x < 16 then x else x - 8
def RTb (u : Int → Int → Int × Int) (K : Int) (T : mt_T) (D : Nat → Bool → Int → Int → Prop) : Prop := MI T ∧ ∀ (s : Nat) (d : Bool) (w h : Int), rg s w h → D s d w h → 1024 * T.1 (mp s (bz d) w h).toNat - T.2.1 (mp s (bz d) w h).toNat = (idl u K s d w h).1 ∧ enc (T.2.2 (mp s (bz d) w h).toNat) = (idl u K s d w h).2
theorem RTb_mono {u : Int → Int → Int × Int} {K : Int} {T : mt_T} {D E : Nat → Bool → Int → Int → Prop} (h : RTb u K T D) (hE : ∀ s d w h, rg s w h → E s d w h → D s d w h) : RTb u K T E := ⟨h.1, fun s d w h' hr he => h.2 s d w h' hr (hE s d w h' hr he)⟩
theorem mp_inj {s s' : Nat} {d d' : Bool} {w h w' h' : Int} (hs : s ≤ 3) (hs' : s' ≤ 3) (hw : 0 ≤ w ∧ w ≤ 16) (hh : 0 ≤ h ∧ h ≤ 16) (hw' : 0 ≤ w' ∧ w' ≤ 16) (hh' : 0 ≤ h' ∧ h' ≤ 16) (e : (mp s (bz d) w h).toNat = (mp s' (bz d') w' h').toNat) : s = s' ∧ d = d' ∧ w = w' ∧ h = h' := by
  obtain ⟨e1, e2, e3, e4⟩ := mp_ne (by omega) (bz_r d) hw hh (by omega) (bz_r d') hw' hh' e
  refine ⟨by omega, ?_, e3, e4⟩
  cases d <;> cases d' <;> first | rfl | exact absurd e2 (by decide)
theorem bu_ne {a j : Nat} {v c x : Int} {T : mt_T} (h : j ≠ a) : (bt_up a v c x T).1 j = T.1 j ∧ (bt_up a v c x T).2.1 j = T.2.1 j ∧ (bt_up a v c x T).2.2 j = T.2.2 j := ⟨va_up_ne _ _ h, va_up_ne _ _ h, va_up_ne _ _ h⟩
theorem bu_at {a : Nat} {v c x : Int} {T : mt_T} : (bt_up a v c x T).1 a = v ∧ (bt_up a v c x T).2.1 a = c ∧ (bt_up a v c x T).2.2 a = x := ⟨va_up_self _ _ _, va_up_self _ _ _, va_up_self _ _ _⟩
theorem bt_ne {a j : Nat} {v c x : Int} {T : mt_T} (h : j ≠ a) : (bt a v c x T).1 j = T.1 j ∧ (bt a v c x T).2.1 j = T.2.1 j ∧ (bt a v c x T).2.2 j = T.2.2 j := by
  unfold bt
  split
  · exact bu_ne h
  · exact ⟨rfl, rfl, rfl⟩
theorem fop {pw ph tu wa : Nat → Int} {Fit : Nat → Int → Int → Bool} {w h : Int} {a nP : Nat} {T : mt_T} (hwh : 1 ≤ w * h) (h0 : T.1 a = 0 ∧ T.2.1 a = 0 ∧ T.2.2 a = -1) (hF : ∀ k : Nat, k < nP → ((0 < wa k ∧ jst pw ph tu k w h = 1) ↔ Fit k w h = true)) : ∀ k : Nat, k ≤ nP → (∀ j : Nat, j ≠ a → (fo_p pw ph tu wa a w h T k).1 j = T.1 j ∧ (fo_p pw ph tu wa a w h T k).2.1 j = T.2.1 j ∧ (fo_p pw ph tu wa a w h T k).2.2 j = T.2.2 j) ∧ (((∀ p : Nat, p < k → Fit p w h = false) ∧ (fo_p pw ph tu wa a w h T k).1 a = 0 ∧ (fo_p pw ph tu wa a w h T k).2.1 a = 0 ∧ (fo_p pw ph tu wa a w h T k).2.2 a = -1) ∨ (∃ p : Nat, p < k ∧ Fit p w h = true ∧ (∀ j : Nat, j < p → Fit j w h = false) ∧ (fo_p pw ph tu wa a w h T k).1 a = w * h ∧ (fo_p pw ph tu wa a w h T k).2.1 a = 0 ∧ (fo_p pw ph tu wa a w h T k).2.2 a = (p : Int)))
  | 0, _ => ⟨fun j _ => ⟨rfl, rfl, rfl⟩, Or.inl ⟨fun p hp => by omega, h0⟩⟩
  | k + 1, hk => by
    obtain ⟨i1, i2⟩ := fop (pw := pw) (ph := ph) (tu := tu) (wa := wa) (Fit := Fit) (nP := nP) hwh h0 hF k (by omega)
    have hf := hF k (by omega)
    unfold fo_p
    split
    · rename_i hc
      have hk1 := hf.mp hc
      refine ⟨fun j hj => ?_, ?_⟩
      · obtain ⟨e1, e2, e3⟩ := bt_ne (v := w * h) (c := 0) (x := (k : Int)) (T := fo_p pw ph tu wa a w h T k) hj
        rw [e1, e2, e3]
        exact i1 j hj
      · rcases i2 with ⟨n1, n2, n3, n4⟩ | ⟨p, p1, p2, p3, p4, p5, p6⟩
        · refine Or.inr ⟨k, by omega, hk1, n1, ?_⟩
          unfold bt
          rw [if_pos (Or.inl (by rw [n2]; omega))]
          exact bu_at
        · refine Or.inr ⟨p, by omega, p2, p3, ?_⟩
          unfold bt
          rw [if_neg (by rw [p4, p5]; omega)]
          exact ⟨p4, p5, p6⟩
    · rename_i hc
      refine ⟨i1, ?_⟩
      rcases i2 with ⟨n1, n2⟩ | ⟨p, p1, p2, p3, p4⟩
      · refine Or.inl ⟨fun p hp => ?_, n2⟩
        by_cases e : p = k
        · rw [e]
          cases q : Fit k w h with
          | false => rfl
          | true => exact absurd (hf.mpr q) hc
        · exact n1 p (by omega)
      · exact Or.inr ⟨p, by omega, p2, p3, p4⟩
theorem fo_ne {s d w h c : Int} (hs : 1 ≤ s ∧ s ≤ 3) (hd : d = 0 ∨ d = 1) (hw : 1 ≤ w ∧ w ≤ 16) (hh : 1 ≤ h ∧ h ≤ 16) (hc : 1 ≤ c ∧ c < (if d = 0 then w else h)) : fo_one s d w h c ≠ (mp s d w h).toNat ∧ fo_two s d w h c ≠ (mp s d w h).toNat := by
  unfold fo_one fo_two
  rcases hd with rfl | rfl
  · rw [if_pos rfl] at hc
    rw [if_pos rfl, if_pos rfl]
    unfold mp
    omega
  · rw [if_neg (by decide)] at hc
    rw [if_neg (by decide), if_neg (by decide)]
    unfold mp
    omega
theorem foc {K s d w h : Int} {T : mt_T} {a : Int → Int} (hK : 0 ≤ K) (hs : 1 ≤ s ∧ s ≤ 3) (hd : d = 0 ∨ d = 1) (hw : 1 ≤ w ∧ w ≤ 16) (hh : 1 ≤ h ∧ h ≤ 16) (hT : MI T) (ha : ∀ c : Int, 1 ≤ c → c < (if d = 0 then w else h) → 1024 * fo_v K s d w h c T - fo_n K s d w h c T = a c) : ∀ n : Nat, (n : Int) < (if d = 0 then w else h) → (∀ j : Nat, j ≠ (mp s d w h).toNat → (fo_c K s d w h T n).1 j = T.1 j ∧ (fo_c K s d w h T n).2.1 j = T.2.1 j ∧ (fo_c K s d w h T n).2.2 j = T.2.2 j) ∧ 1024 * (fo_c K s d w h T n).1 (mp s d w h).toNat - (fo_c K s d w h T n).2.1 (mp s d w h).toNat = (fm a (1024 * T.1 (mp s d w h).toNat - T.2.1 (mp s d w h).toNat, enc (T.2.2 (mp s d w h).toNat)) n).1 ∧ enc ((fo_c K s d w h T n).2.2 (mp s d w h).toNat) = (fm a (1024 * T.1 (mp s d w h).toNat - T.2.1 (mp s d w h).toNat, enc (T.2.2 (mp s d w h).toNat)) n).2
  | 0, _ => ⟨fun j _ => ⟨rfl, rfl, rfl⟩, rfl, rfl⟩
  | n + 1, hn => by
    obtain ⟨i1, i2, i3⟩ := foc hK hs hd hw hh hT ha n (by omega)
    have hc : 1 ≤ (n : Int) + 1 ∧ (n : Int) + 1 < (if d = 0 then w else h) := by omega
    have h1 := fo_ne hs hd hw hh hc
    have hMI := MI_c hT hK hs hd hw hh n (by omega)
    have hb := fo_bd hMI hK hs hd hw hh hc
    have hm := hMI s d w h (by omega) (by omega) (by omega) (by omega) hw.1 hw.2 hh.1 hh.2
    have hwh := wh1 hw hh
    have e1 := i1 _ h1.1
    have ev : fo_v K s d w h ((n : Int) + 1) (fo_c K s d w h T n) = fo_v K s d w h ((n : Int) + 1) T := by
      unfold fo_v
      rw [e1.1]
      by_cases hr : 0 < (if d = 0 then w else h) - ((n : Int) + 1) - K
      · have h2 := fo_ne (c := (if d = 0 then w else h) - ((n : Int) + 1) - K) hs hd hw hh (by omega)
        rw [if_pos hr, if_pos hr, (i1 _ h2.2).1]
      · rw [if_neg hr, if_neg hr]
    have en : fo_n K s d w h ((n : Int) + 1) (fo_c K s d w h T n) = fo_n K s d w h ((n : Int) + 1) T := by
      unfold fo_n
      rw [e1.2.1]
      by_cases hr : 0 < (if d = 0 then w else h) - ((n : Int) + 1) - K
      · have h2 := fo_ne (c := (if d = 0 then w else h) - ((n : Int) + 1) - K) hs hd hw hh (by omega)
        rw [if_pos hr, if_pos hr, (i1 _ h2.2).2.1]
      · rw [if_neg hr, if_neg hr]
    have hac := ha _ hc.1 hc.2
    rw [ev, en] at hb
    unfold fo_c
    rw [ev, en]
    generalize fo_v K s d w h ((n : Int) + 1) T = v at *
    generalize fo_n K s d w h ((n : Int) + 1) T = c at *
    refine ⟨fun j hj => ?_, ?_⟩
    · obtain ⟨q1, q2, q3⟩ := bt_ne (v := v) (c := c) (x := 16 + ((n : Int) + 1)) (T := fo_c K s d w h T n) hj
      rw [q1, q2, q3]
      exact i1 j hj
    · unfold fm
      unfold bt
      split
      · rename_i hi
        rw [if_pos (by omega)]
        rw [bu_at.1, bu_at.2.1, bu_at.2.2]
        refine ⟨hac, ?_⟩
        show enc (16 + ((n : Int) + 1)) = 8 + ((n : Int) + 1)
        unfold enc
        rw [if_neg (by omega), if_neg (by omega)]
        omega
      · rename_i hi
        rw [if_neg (by omega)]
        exact ⟨i2, i3⟩
theorem RTb_fo {pw ph tu wa : Nat → Int} {Fit : Nat → Int → Int → Bool} {nP : Nat} {K : Int} {T : mt_T} {D : Nat → Bool → Int → Int → Prop} {s : Nat} {d : Bool} {w h : Int} (hC : RTb (uo Fit) K T D) (hK : 0 ≤ K) (hP : nP ≤ 8) (hF : ∀ k : Nat, k < nP → ((0 < wa k ∧ jst pw ph tu k w h = 1) ↔ Fit k w h = true)) (hF2 : ∀ k : Nat, nP ≤ k → k < 8 → Fit k w h = false) (hr : rg s w h) (h1 : ∀ s' : Nat, s = s' + 1 → ∀ c : Int, 1 ≤ c → c < (if d = true then h else w) → D s' (!d) (if d = true then w else c) (if d = true then c else h)) (h2 : ∀ c : Int, 1 ≤ c → c < (if d = true then h else w) → D s d (if d = true then w else c) (if d = true then c else h)) : RTb (uo Fit) K (fo pw ph tu wa nP K (s : Int) (bz d) w h T) (fun s' d' w' h' => D s' d' w' h' ∨ (s' = s ∧ d' = d ∧ w' = w ∧ h' = h)) := by
  obtain ⟨hs, hw, hh⟩ := hr
  have hwh := wh1 hw hh
  have hd01 : bz d = 0 ∨ bz d = 1 := by cases d <;> decide
  have hM0 : MI (bt_up (mp s (bz d) w h).toNat 0 0 (-1) T) := MI_up hC.1 (by omega) (bz_r d) hw hh (by omega) (by omega)
  obtain ⟨p1, p2⟩ := fop (T := bt_up (mp s (bz d) w h).toNat 0 0 (-1) T) (a := (mp s (bz d) w h).toNat) (pw := pw) (ph := ph) (tu := tu) (wa := wa) (Fit := Fit) (nP := nP) hwh.1 bu_at hF nP (Nat.le_refl _)
  have hM1 : MI (fo_p pw ph tu wa (mp s (bz d) w h).toNat w h (bt_up (mp s (bz d) w h).toNat 0 0 (-1) T) nP) := MI_p hM0 (by omega) (bz_r d) hw hh nP
  have pu : (1024 * (fo_p pw ph tu wa (mp s (bz d) w h).toNat w h (bt_up (mp s (bz d) w h).toNat 0 0 (-1) T) nP).1 (mp s (bz d) w h).toNat - (fo_p pw ph tu wa (mp s (bz d) w h).toNat w h (bt_up (mp s (bz d) w h).toNat 0 0 (-1) T) nP).2.1 (mp s (bz d) w h).toNat, enc ((fo_p pw ph tu wa (mp s (bz d) w h).toNat w h (bt_up (mp s (bz d) w h).toNat 0 0 (-1) T) nP).2.2 (mp s (bz d) w h).toNat)) = uo Fit w h := by
    rcases p2 with ⟨n1, n2, n3, n4⟩ | ⟨p, q1, q2, q3, q4, q5, q6⟩
    · rw [n2, n3, n4, uo_none (fun p hp => by
        by_cases e : p < nP
        · exact n1 p e
        · exact hF2 p (by omega) hp)]
      rfl
    · rw [q4, q5, q6, uo_some (by omega) q2 q3]
      refine Prod.ext ?_ ?_
      · show 1024 * (w * h) - 0 = w * h * 1024
        omega
      · show enc (p : Int) = (p : Int)
        unfold enc
        rw [if_neg (by omega), if_pos (by omega)]
  generalize hT1 : fo_p pw ph tu wa (mp s (bz d) w h).toNat w h (bt_up (mp s (bz d) w h).toNat 0 0 (-1) T) nP = T1 at *
  have o1 : ∀ j : Nat, j ≠ (mp s (bz d) w h).toNat → T1.1 j = T.1 j ∧ T1.2.1 j = T.2.1 j ∧ T1.2.2 j = T.2.2 j := fun j hj => by
    obtain ⟨a1, a2, a3⟩ := p1 j hj
    obtain ⟨b1, b2, b3⟩ := bu_ne (v := 0) (c := 0) (x := -1) (T := T) hj
    rw [a1, a2, a3, b1, b2, b3]
    exact ⟨rfl, rfl, rfl⟩
  have key : (∀ j : Nat, j ≠ (mp s (bz d) w h).toNat → (fo pw ph tu wa nP K (s : Int) (bz d) w h T).1 j = T.1 j ∧ (fo pw ph tu wa nP K (s : Int) (bz d) w h T).2.1 j = T.2.1 j ∧ (fo pw ph tu wa nP K (s : Int) (bz d) w h T).2.2 j = T.2.2 j) ∧ 1024 * (fo pw ph tu wa nP K (s : Int) (bz d) w h T).1 (mp s (bz d) w h).toNat - (fo pw ph tu wa nP K (s : Int) (bz d) w h T).2.1 (mp s (bz d) w h).toNat = (idl (uo Fit) K s d w h).1 ∧ enc ((fo pw ph tu wa nP K (s : Int) (bz d) w h T).2.2 (mp s (bz d) w h).toNat) = (idl (uo Fit) K s d w h).2 := by
    unfold fo
    rw [hT1]
    cases s with
    | zero =>
      have e : fo_L ((0 : Nat) : Int) (bz d) w h = 0 := if_neg (by omega)
      rw [e]
      exact ⟨o1, congrArg Prod.fst pu, congrArg Prod.snd pu⟩
    | succ s =>
      have e : fo_L ((s + 1 : Nat) : Int) (bz d) w h = ((if bz d = 0 then w else h) - 1).toNat := if_pos (by omega)
      rw [e]
      have eL : (if bz d = 0 then w else h) = (if d = true then h else w) := by cases d <;> rfl
      have eI : idl (uo Fit) K (s + 1) d w h = fm (fun c => (idl (uo Fit) K s (!d) (if d = true then w else c) (if d = true then c else h)).1 + (idl (uo Fit) K (s + 1) d (if d = true then w else max 0 (w - c - K)) (if d = true then max 0 (h - c - K) else h)).1 - 1) (uo Fit w h) ((if bz d = 0 then w else h) - 1).toNat := by
        cases d with
        | false => exact idl_e0 hK hw.1
        | true => exact idl_e1 hK hh.1
      have ha : ∀ c : Int, 1 ≤ c → c < (if bz d = 0 then w else h) → 1024 * fo_v K ((s + 1 : Nat) : Int) (bz d) w h c T1 - fo_n K ((s + 1 : Nat) : Int) (bz d) w h c T1 = (idl (uo Fit) K s (!d) (if d = true then w else c) (if d = true then c else h)).1 + (idl (uo Fit) K (s + 1) d (if d = true then w else max 0 (w - c - K)) (if d = true then max 0 (h - c - K) else h)).1 - 1 := by
        intro c g1 g2
        have n1 := fo_ne (s := ((s + 1 : Nat) : Int)) (d := bz d) (w := w) (h := h) (c := c) (by omega) hd01 hw hh ⟨g1, g2⟩
        unfold fo_v fo_n
        rw [(o1 _ n1.1).1, (o1 _ n1.1).2.1]
        have c1 := h1 s rfl c g1 (by rw [← eL]; exact g2)
        have c2 := h2 ((if bz d = 0 then w else h) - c - K)
        have n2 := fo_ne (s := ((s + 1 : Nat) : Int)) (d := bz d) (w := w) (h := h) (c := (if bz d = 0 then w else h) - c - K) (by omega) hd01 hw hh
        have es : ((s + 1 : Nat) : Int) - 1 = (s : Int) := by omega
        cases d with
        | false =>
          have g2' : c < w := g2
          have d1 := (hC.2 s true c h ⟨by omega, by omega, hh⟩ c1).1
          have f1 : fo_one ((s + 1 : Nat) : Int) (bz false) w h c = (mp (s : Int) (bz true) c h).toNat := by
            show (mp (((s + 1 : Nat) : Int) - 1) 1 c h).toNat = _
            rw [es]
            rfl
          rw [f1]
          show 1024 * (_ + if 0 < w - c - K then T1.1 (fo_two ((s + 1 : Nat) : Int) (bz false) w h (w - c - K)) else 0) - (1 + _ + if 0 < w - c - K then T1.2.1 (fo_two ((s + 1 : Nat) : Int) (bz false) w h (w - c - K)) else 0) = (idl (uo Fit) K s true c h).1 + (idl (uo Fit) K (s + 1) false (max 0 (w - c - K)) h).1 - 1
          by_cases hz : 0 < w - c - K
          · rw [if_pos hz, if_pos hz]
            have n3 := (n2 ⟨by show 1 ≤ w - c - K; omega, by show w - c - K < w; omega⟩).2
            have n4 := o1 _ n3
            have c3 := c2 (by show 1 ≤ w - c - K; omega) (by show w - c - K < w; omega)
            have d2 := (hC.2 (s + 1) false (w - c - K) h ⟨by omega, by omega, hh⟩ c3).1
            have q1 : T1.1 (fo_two ((s + 1 : Nat) : Int) (bz false) w h (w - c - K)) = T.1 (mp ((s + 1 : Nat) : Int) (bz false) (w - c - K) h).toNat := n4.1
            have q2 : T1.2.1 (fo_two ((s + 1 : Nat) : Int) (bz false) w h (w - c - K)) = T.2.1 (mp ((s + 1 : Nat) : Int) (bz false) (w - c - K) h).toNat := n4.2.1
            rw [q1, q2]
            have e3 : max 0 (w - c - K) = w - c - K := by omega
            rw [e3]
            omega
          · rw [if_neg hz, if_neg hz]
            have e3 : max 0 (w - c - K) = 0 := by omega
            have e4 : (idl (uo Fit) K (s + 1) false 0 h).1 = 0 := rfl
            rw [e3, e4]
            omega
        | true =>
          have g2' : c < h := g2
          have d1 := (hC.2 s false w c ⟨by omega, hw, by omega⟩ c1).1
          have f1 : fo_one ((s + 1 : Nat) : Int) (bz true) w h c = (mp (s : Int) (bz false) w c).toNat := by
            show (mp (((s + 1 : Nat) : Int) - 1) 0 w c).toNat = _
            rw [es]
            rfl
          rw [f1]
          show 1024 * (_ + if 0 < h - c - K then T1.1 (fo_two ((s + 1 : Nat) : Int) (bz true) w h (h - c - K)) else 0) - (1 + _ + if 0 < h - c - K then T1.2.1 (fo_two ((s + 1 : Nat) : Int) (bz true) w h (h - c - K)) else 0) = (idl (uo Fit) K s false w c).1 + (idl (uo Fit) K (s + 1) true w (max 0 (h - c - K))).1 - 1
          by_cases hz : 0 < h - c - K
          · rw [if_pos hz, if_pos hz]
            have n3 := (n2 ⟨by show 1 ≤ h - c - K; omega, by show h - c - K < h; omega⟩).2
            have n4 := o1 _ n3
            have c3 := c2 (by show 1 ≤ h - c - K; omega) (by show h - c - K < h; omega)
            have d2 := (hC.2 (s + 1) true w (h - c - K) ⟨by omega, hw, by omega⟩ c3).1
            have q1 : T1.1 (fo_two ((s + 1 : Nat) : Int) (bz true) w h (h - c - K)) = T.1 (mp ((s + 1 : Nat) : Int) (bz true) w (h - c - K)).toNat := n4.1
            have q2 : T1.2.1 (fo_two ((s + 1 : Nat) : Int) (bz true) w h (h - c - K)) = T.2.1 (mp ((s + 1 : Nat) : Int) (bz true) w (h - c - K)).toNat := n4.2.1
            rw [q1, q2]
            have e3 : max 0 (h - c - K) = h - c - K := by omega
            rw [e3]
            omega
          · rw [if_neg hz, if_neg hz]
            have e3 : max 0 (h - c - K) = 0 := by omega
            have e4 : (idl (uo Fit) K (s + 1) true w 0).1 = 0 := rfl
            rw [e3, e4]
            omega
      have hn : (((if bz d = 0 then w else h) - 1).toNat : Int) < (if bz d = 0 then w else h) := by cases d <;> (simp; omega)
      obtain ⟨r1, r2, r3⟩ := foc hK (by omega) hd01 hw hh hM1 ha _ hn
      rw [pu, ← eI] at r2 r3
      refine ⟨fun j hj => ?_, r2, r3⟩
      obtain ⟨a1, a2, a3⟩ := r1 j hj
      obtain ⟨b1, b2, b3⟩ := o1 j hj
      rw [a1, a2, a3, b1, b2, b3]
      exact ⟨rfl, rfl, rfl⟩
  refine ⟨MI_fo hC.1 hK (by omega) hd01 hw hh, fun s' d' w' h' hr' hd => ?_⟩
  obtain ⟨hs', hw', hh'⟩ := hr'
  by_cases q : (mp s' (bz d') w' h').toNat = (mp s (bz d) w h).toNat
  · obtain ⟨q1, q2, q3, q4⟩ := mp_inj hs' hs (by omega) (by omega) (by omega) (by omega) q
    subst q1; subst q2; subst q3; subst q4
    exact key.2
  · obtain ⟨a1, a2, a3⟩ := key.1 _ q
    rw [a1, a2, a3]
    refine hC.2 s' d' w' h' ⟨hs', hw', hh'⟩ ?_
    rcases hd with hd | ⟨q1, q2, q3, q4⟩
    · exact hd
    · subst q1; subst q2; subst q3; subst q4
      exact absurd rfl q
section RF
variable {pw ph tu wa : Nat → Int} {Fit : Nat → Int → Int → Bool} {nP : Nat} {K : Int}
/-- stages below s, ways below e, heights up to n, of the next height the widths up to k -/
def RN (s : Nat) (e n k : Int) : Nat → Bool → Int → Int → Prop := fun s' d' w h => s' < s ∨ (s' = s ∧ (bz d' < e ∨ (bz d' = e ∧ (h ≤ n ∨ (h = n + 1 ∧ w ≤ k)))))
theorem RTb_w {s n : Nat} {d : Bool} {T : mt_T} (hK : 0 ≤ K) (hP : nP ≤ 8) (hF : ∀ (k : Nat) (w h : Int), k < nP → ((0 < wa k ∧ jst pw ph tu k w h = 1) ↔ Fit k w h = true)) (hF2 : ∀ (k : Nat) (w h : Int), nP ≤ k → k < 8 → Fit k w h = false) (hs : s ≤ 3) (hn : n < 16) (hC : RTb (uo Fit) K T (RN s (bz d) n 0)) : ∀ k : Nat, k ≤ 16 → RTb (uo Fit) K (fi_w pw ph tu wa nP K (s : Int) (bz d) ((n : Int) + 1) T k) (RN s (bz d) n k)
  | 0, _ => hC
  | k + 1, hk => by
    have ih := RTb_w hK hP hF hF2 hs hn hC k (by omega)
    have r1 : rg s ((k : Int) + 1) ((n : Int) + 1) := ⟨hs, by omega, by omega⟩
    have s1 := RTb_fo ih hK hP (fun j hj => hF j _ _ hj) (fun j h1 h2 => hF2 j _ _ h1 h2) r1 (d := d) (fun s' e c _ _ => Or.inl (by omega)) (fun c g1 g2 => Or.inr ⟨rfl, Or.inr ⟨rfl, by
      cases d with
      | false => exact Or.inr ⟨rfl, by have : c < (k : Int) + 1 := g2; show c ≤ (k : Int); omega⟩
      | true => exact Or.inl (by have : c < (n : Int) + 1 := g2; show c ≤ (n : Int); omega)⟩⟩)
    refine RTb_mono s1 (fun s' d' w' h' hr hd => ?_)
    rcases hd with hd | ⟨e1, hd⟩
    · exact Or.inl (Or.inl hd)
    · rcases hd with hd | ⟨e2, hd⟩
      · exact Or.inl (Or.inr ⟨e1, Or.inl hd⟩)
      · rcases hd with hd | ⟨e3, e4⟩
        · exact Or.inl (Or.inr ⟨e1, Or.inr ⟨e2, Or.inl hd⟩⟩)
        · by_cases e5 : w' ≤ (k : Int)
          · exact Or.inl (Or.inr ⟨e1, Or.inr ⟨e2, Or.inr ⟨e3, e5⟩⟩⟩)
          · refine Or.inr ⟨e1, ?_, by omega, e3⟩
            cases d <;> cases d' <;> first | rfl | exact absurd e2 (by decide)
theorem RTb_h {s : Nat} {d : Bool} {T : mt_T} (hK : 0 ≤ K) (hP : nP ≤ 8) (hF : ∀ (k : Nat) (w h : Int), k < nP → ((0 < wa k ∧ jst pw ph tu k w h = 1) ↔ Fit k w h = true)) (hF2 : ∀ (k : Nat) (w h : Int), nP ≤ k → k < 8 → Fit k w h = false) (hs : s ≤ 3) (hC : RTb (uo Fit) K T (RN s (bz d) 0 0)) : ∀ n : Nat, n ≤ 16 → RTb (uo Fit) K (fi_h pw ph tu wa nP K (s : Int) (bz d) T n) (RN s (bz d) n 0)
  | 0, _ => hC
  | n + 1, hn => by
    refine RTb_mono (RTb_w hK hP hF hF2 hs (by omega) (RTb_h hK hP hF hF2 hs hC n (by omega)) 16 (by omega)) (fun s' d' w' h' hr hd => ?_)
    rcases hd with hd | ⟨e1, hd⟩
    · exact Or.inl hd
    · rcases hd with hd | ⟨e2, hd⟩
      · exact Or.inr ⟨e1, Or.inl hd⟩
      · refine Or.inr ⟨e1, Or.inr ⟨e2, ?_⟩⟩
        rcases hd with hd | ⟨_, hd⟩
        · have hd2 : h' ≤ ((n + 1 : Nat) : Int) := hd
          by_cases e3 : h' ≤ (n : Int)
          · exact Or.inl e3
          · exact Or.inr ⟨by omega, hr.2.1.2⟩
        · have := hr.2.1.1
          have hd2 : w' ≤ 0 := hd
          omega
theorem RTb_s {T : mt_T} (hK : 0 ≤ K) (hP : nP ≤ 8) (hF : ∀ (k : Nat) (w h : Int), k < nP → ((0 < wa k ∧ jst pw ph tu k w h = 1) ↔ Fit k w h = true)) (hF2 : ∀ (k : Nat) (w h : Int), nP ≤ k → k < 8 → Fit k w h = false) (hT : MI T) : ∀ n : Nat, n ≤ 4 → RTb (uo Fit) K (fi_s pw ph tu wa nP K T n) (fun s' _ _ _ => s' < n)
  | 0, _ => ⟨hT, fun s d w h _ hd => by have hd2 : s < 0 := hd; omega⟩
  | n + 1, hn => by
    have ih := RTb_s hK hP hF hF2 hT n (by omega)
    have a1 := RTb_h (d := false) hK hP hF hF2 (s := n) (by omega) (RTb_mono ih (fun s' d' w' h' hr hd => by
      rcases hd with hd | ⟨e1, hd⟩
      · exact hd
      · rcases hd with hd | ⟨e2, hd⟩
        · have h0 := bz_r d'
          have hd2 : bz d' < 0 := hd
          omega
        · have := hr.2.1.1
          have := hr.2.2.1
          rcases hd with hd | ⟨_, hd⟩
          · omega
          · omega)) 16 (by omega)
    have a2 := RTb_h (d := true) hK hP hF hF2 (s := n) (by omega) (RTb_mono a1 (fun s' d' w' h' hr hd => by
      rcases hd with hd | ⟨e1, hd⟩
      · exact Or.inl hd
      · rcases hd with hd | ⟨e2, hd⟩
        · refine Or.inr ⟨e1, Or.inr ⟨?_, Or.inl hr.2.2.2⟩⟩
          cases d' with
          | false => rfl
          | true => exact absurd hd (by decide)
        · have := hr.2.1.1
          have := hr.2.2.1
          rcases hd with hd | ⟨_, hd⟩
          · omega
          · omega)) 16 (by omega)
    refine RTb_mono a2 (fun s' d' w' h' hr hd => ?_)
    by_cases e : s' < n
    · exact Or.inl e
    · refine Or.inr ⟨by omega, ?_⟩
      cases d' with
      | false => exact Or.inl (by decide)
      | true => exact Or.inr ⟨rfl, Or.inl hr.2.2.2⟩
end RF
