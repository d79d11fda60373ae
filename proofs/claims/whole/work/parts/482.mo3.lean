/-! SheetTreesModel: fill, wantAll, wayOf, push, keepRest, take, look, thrown -/
section FI
variable (pw ph tu wa : Nat → Int) (nP : Nat) (K : Int)
def fi_w (s d h : Int) (T : mt_T) : Nat → mt_T
  | 0 => T
  | n + 1 => fo pw ph tu wa nP K s d ((n : Int) + 1) h (fi_w s d h T n)
def fi_h (s d : Int) (T : mt_T) : Nat → mt_T
  | 0 => T
  | n + 1 => fi_w pw ph tu wa nP K s d ((n : Int) + 1) (fi_h s d T n) 16
def fi_d (s : Int) (T : mt_T) : Nat → mt_T
  | 0 => T
  | n + 1 => fi_h pw ph tu wa nP K s (n : Int) (fi_d s T n) 16
def fi_s (T : mt_T) : Nat → mt_T
  | 0 => T
  | n + 1 => fi_d pw ph tu wa nP K (n : Int) (fi_s T n) 2
end FI
theorem MI_fw {pw ph tu wa : Nat → Int} {nP : Nat} {K s d h : Int} {T : mt_T} (hT : MI T) (hK : 0 ≤ K) (hs : 0 ≤ s ∧ s ≤ 3) (hd : d = 0 ∨ d = 1) (hh : 1 ≤ h ∧ h ≤ 16) : ∀ n : Nat, n ≤ 16 → MI (fi_w pw ph tu wa nP K s d h T n)
  | 0, _ => hT
  | n + 1, hn => MI_fo (MI_fw hT hK hs hd hh n (by omega)) hK hs hd (by omega) hh
theorem MI_fh {pw ph tu wa : Nat → Int} {nP : Nat} {K s d : Int} {T : mt_T} (hT : MI T) (hK : 0 ≤ K) (hs : 0 ≤ s ∧ s ≤ 3) (hd : d = 0 ∨ d = 1) : ∀ n : Nat, n ≤ 16 → MI (fi_h pw ph tu wa nP K s d T n)
  | 0, _ => hT
  | n + 1, hn => MI_fw (MI_fh hT hK hs hd n (by omega)) hK hs hd (by omega) 16 (by omega)
theorem MI_fd {pw ph tu wa : Nat → Int} {nP : Nat} {K s : Int} {T : mt_T} (hT : MI T) (hK : 0 ≤ K) (hs : 0 ≤ s ∧ s ≤ 3) : ∀ n : Nat, n ≤ 2 → MI (fi_d pw ph tu wa nP K s T n)
  | 0, _ => hT
  | n + 1, hn => MI_fh (MI_fd hT hK hs n (by omega)) hK hs (by omega) 16 (by omega)
theorem MI_fs {pw ph tu wa : Nat → Int} {nP : Nat} {K : Int} {T : mt_T} (hT : MI T) (hK : 0 ≤ K) : ∀ n : Nat, n ≤ 4 → MI (fi_s pw ph tu wa nP K T n)
  | 0, _ => hT
  | n + 1, hn => MI_fd (MI_fs hT hK n (by omega)) hK (by omega) 2 (by omega)
theorem c_MO_fillOne (l : Launch) (D : va_G) (m nP : Nat) (q : Nat → Nat) (K S le cd nS rn dn : Int) (cI cZ : ClassId) (pw ph tu wa : Nat → Int) (T : mt_T) (s d w h : Int) (hnP : nP ≤ 8) (hK : 0 ≤ K ∧ K ≤ 3) (hb : ∀ i : Nat, i < 8 → (0 ≤ pw i ∧ pw i ≤ 16) ∧ (0 ≤ ph i ∧ ph i ≤ 16) ∧ 0 ≤ tu i ∧ tu i ≤ 1) (hwa : ∀ i : Nat, i < 8 → 0 ≤ wa i ∧ wa i ≤ 1000000) (hT : MI T) (hs : 0 ≤ s ∧ s ≤ 3) (hd : d = 0 ∨ d = 1) (hw1 : 1 ≤ w ∧ w ≤ 16) (hh1 : 1 ≤ h ∧ h ≤ 16) : CM l y_MO_fillOne b_MO_fillOne 13 none rm_1 [.ref m, .int (iI s), .int (iI d), .int (iI w), .int (iI h)] D [(cI, .int), (cZ, .boolean)] ([ob_MO m q K S le cd nS (nP : Int) rn dn, ar_I (q 10) cI 8 pw, ar_I (q 11) cI 8 ph, ar_I (q 13) cZ 8 tu, ar_I (q 14) cI 8 wa, ar_I (q 17) cI 2312 T.1, ar_I (q 18) cI 2312 T.2.1, ar_I (q 19) cI 2312 T.2.2] ++ []) (fun r w1 p1 _ => r = none ∧ w1 = [ob_MO m q K S le cd nS (nP : Int) rn dn, ar_I (q 10) cI 8 pw, ar_I (q 11) cI 8 ph, ar_I (q 13) cZ 8 tu, ar_I (q 14) cI 8 wa, ar_I (q 17) cI 2312 (fo pw ph tu wa nP K s d w h T).1, ar_I (q 18) cI 2312 (fo pw ph tu wa nP K s d w h T).2.1, ar_I (q 19) cI 2312 (fo pw ph tu wa nP K s d w h T).2.2] ∧ p1 = []) := by
  rcases hd with rfl | rfl
  · exact c_MO_fillOne_0 l D m nP q K S le cd nS rn dn cI cZ pw ph tu wa T s w h hnP hK hb hwa hT hs hw1 hh1
  · exact c_MO_fillOne_1 l D m nP q K S le cd nS rn dn cI cZ pw ph tu wa T s w h hnP hK hb hwa hT hs hw1 hh1
set_option maxHeartbeats 4000000 in
set_option maxRecDepth 100000 in
theorem c_MO_fill (l : Launch) (D : va_G) (m nP : Nat) (q : Nat → Nat) (K S le cd nS rn dn : Int) (cI cZ : ClassId) (pw ph tu wa : Nat → Int) (T : mt_T) (hnP : nP ≤ 8) (hK : 0 ≤ K ∧ K ≤ 3) (hb : ∀ i : Nat, i < 8 → (0 ≤ pw i ∧ pw i ≤ 16) ∧ (0 ≤ ph i ∧ ph i ≤ 16) ∧ 0 ≤ tu i ∧ tu i ≤ 1) (hwa : ∀ i : Nat, i < 8 → 0 ≤ wa i ∧ wa i ≤ 1000000) (hT : MI T) : CM l y_MO_fill b_MO_fill 5 none rm_2 [.ref m] D [(cI, .int), (cZ, .boolean)] ([ob_MO m q K S le cd nS (nP : Int) rn dn, ar_I (q 10) cI 8 pw, ar_I (q 11) cI 8 ph, ar_I (q 13) cZ 8 tu, ar_I (q 14) cI 8 wa, ar_I (q 17) cI 2312 T.1, ar_I (q 18) cI 2312 T.2.1, ar_I (q 19) cI 2312 T.2.2] ++ []) (fun r w1 p1 _ => r = none ∧ w1 = [ob_MO m q K S le cd nS (nP : Int) rn dn, ar_I (q 10) cI 8 pw, ar_I (q 11) cI 8 ph, ar_I (q 13) cZ 8 tu, ar_I (q 14) cI 8 wa, ar_I (q 17) cI 2312 (fi_s pw ph tu wa nP K T 4).1, ar_I (q 18) cI 2312 (fi_s pw ph tu wa nP K T 4).2.1, ar_I (q 19) cI 2312 (fi_s pw ph tu wa nP K T 4).2.2] ∧ p1 = []) := by
  refine cm_of (by decide) (Nat.le_of_ble_eq_true rfl) ?_
  intro X sz hl hr hnm hD hA hw
  subst hD
  have kS : ∀ s : Nat, s ≤ 3 → MI (fi_s pw ph tu wa nP K T s) := fun s hs => MI_fs hT hK.1 s (by omega)
  have kD : ∀ s d : Nat, s ≤ 3 → d ≤ 1 → MI (fi_d pw ph tu wa nP K (s : Int) (fi_s pw ph tu wa nP K T s) d) := fun s d hs hd => MI_fd (kS s hs) hK.1 (by omega) d (by omega)
  have kH : ∀ s d h : Nat, s ≤ 3 → d ≤ 1 → h ≤ 15 → MI (fi_h pw ph tu wa nP K (s : Int) (d : Int) (fi_d pw ph tu wa nP K (s : Int) (fi_s pw ph tu wa nP K T s) d) h) := fun s d h hs hd hh => MI_fh (kD s d hs hd) hK.1 (by omega) (by omega) h (by omega)
  have kW : ∀ s d h w : Nat, s ≤ 3 → d ≤ 1 → h ≤ 15 → w ≤ 15 → MI (fi_w pw ph tu wa nP K (s : Int) (d : Int) ((h : Int) + 1) (fi_h pw ph tu wa nP K (s : Int) (d : Int) (fi_d pw ph tu wa nP K (s : Int) (fi_s pw ph tu wa nP K T s) d) h) w) := fun s d h w hs hd hh hw => MI_fw (kH s d h hs hd hh) hK.1 (by omega) (by omega) (by omega) w (by omega)
  have loopS : ∀ n s : Nat, s + n = 4 → ∀ (T1 : mt_T) (v2 v3 v4 : Option Value), fi_s pw ph tu wa nP K T s = T1 → VV X (b_MO_fill, 5, "SheetTreesModel", rm_2) (cq X ([ob_MO m q K S le cd nS (nP : Int) rn dn, ar_I (q 10) cI 8 pw, ar_I (q 11) cI 8 ph, ar_I (q 13) cZ 8 tu, ar_I (q 14) cI 8 wa, ar_I (q 17) cI 2312 T.1, ar_I (q 18) cI 2312 T.2.1, ar_I (q 19) cI 2312 T.2.2] ++ []) sz (fun r w1 p1 _ => r = none ∧ w1 = [ob_MO m q K S le cd nS (nP : Int) rn dn, ar_I (q 10) cI 8 pw, ar_I (q 11) cI 8 ph, ar_I (q 13) cZ 8 tu, ar_I (q 14) cI 8 wa, ar_I (q 17) cI 2312 (fi_s pw ph tu wa nP K T 4).1, ar_I (q 18) cI 2312 (fi_s pw ph tu wa nP K T 4).2.1, ar_I (q 19) cI 2312 (fi_s pw ph tu wa nP K T 4).2.2] ∧ p1 = []) rm_2) 0 0 [(cI, .int), (cZ, .boolean)] [ob_MO m q K S le cd nS (nP : Int) rn dn, ar_I (q 10) cI 8 pw, ar_I (q 11) cI 8 ph, ar_I (q 13) cZ 8 tu, ar_I (q 14) cI 8 wa, ar_I (q 17) cI 2312 T1.1, ar_I (q 18) cI 2312 T1.2.1, ar_I (q 19) cI 2312 T1.2.2] [] [some (.ref m), some (.int (iI (s : Int))), v2, v3, v4] [] 2 := by
    intro n
    induction n with
    | zero =>
      intro s hs T1 v2 v3 v4 hT1
      have e : s = 4 := by omega
      subst e
      refine vv_iload_n d_MO_fill_2 rfl ?_
      refine vv_iconst d_MO_fill_3 ?_
      refine vv_icmp_ge (tgt := 65) d_MO_fill_4 (by decide) ⟨by omega, by omega⟩ (fun c4 => ?_) (fun c4 => ?_)
      · skip
        exact vv_vret hA hw hr d_MO_fill_65 (by decide) (by decide) ⟨rfl, by rw [hT1], rfl⟩
      · exfalso; omega
    | succ n ihS =>
      intro s hs T1 v2 v3 v4 hT1
      subst hT1
      have hs3 : s ≤ 3 := by omega
      have loopD : ∀ n d : Nat, d + n = 2 → ∀ (T1 : mt_T) (v3 v4 : Option Value), fi_d pw ph tu wa nP K (s : Int) (fi_s pw ph tu wa nP K T s) d = T1 → VV X (b_MO_fill, 5, "SheetTreesModel", rm_2) (cq X ([ob_MO m q K S le cd nS (nP : Int) rn dn, ar_I (q 10) cI 8 pw, ar_I (q 11) cI 8 ph, ar_I (q 13) cZ 8 tu, ar_I (q 14) cI 8 wa, ar_I (q 17) cI 2312 T.1, ar_I (q 18) cI 2312 T.2.1, ar_I (q 19) cI 2312 T.2.2] ++ []) sz (fun r w1 p1 _ => r = none ∧ w1 = [ob_MO m q K S le cd nS (nP : Int) rn dn, ar_I (q 10) cI 8 pw, ar_I (q 11) cI 8 ph, ar_I (q 13) cZ 8 tu, ar_I (q 14) cI 8 wa, ar_I (q 17) cI 2312 (fi_s pw ph tu wa nP K T 4).1, ar_I (q 18) cI 2312 (fi_s pw ph tu wa nP K T 4).2.1, ar_I (q 19) cI 2312 (fi_s pw ph tu wa nP K T 4).2.2] ∧ p1 = []) rm_2) 0 0 [(cI, .int), (cZ, .boolean)] [ob_MO m q K S le cd nS (nP : Int) rn dn, ar_I (q 10) cI 8 pw, ar_I (q 11) cI 8 ph, ar_I (q 13) cZ 8 tu, ar_I (q 14) cI 8 wa, ar_I (q 17) cI 2312 T1.1, ar_I (q 18) cI 2312 T1.2.1, ar_I (q 19) cI 2312 T1.2.2] [] [some (.ref m), some (.int (iI (s : Int))), some (.int (iI (d : Int))), v3, v4] [] 9 := by
        intro n
        induction n with
        | zero =>
          intro d hd T1 v3 v4 hT1
          have e : d = 2 := by omega
          subst e
          have h9 := ihS (s + 1) (by omega) T1 (some (.int (iI ((2 : Nat) : Int)))) v3 v4 hT1
          refine vv_iload_n d_MO_fill_9 rfl ?_
          refine vv_iconst d_MO_fill_10 ?_
          refine vv_icmp_ge (tgt := 59) d_MO_fill_11 (by decide) ⟨by omega, by omega⟩ (fun c11 => ?_) (fun c11 => ?_)
          · skip
            refine vv_iinc d_MO_fill_59 rfl rfl (by decide) ?_
            dsimp only [List.set]
            refine vv_goto (tgt := 2) d_MO_fill_62 (by decide) ?_
            exact h9
          · exfalso; omega
        | succ n ihD =>
          intro d hd T1 v3 v4 hT1
          subst hT1
          have hd1 : d ≤ 1 := by omega
          have loopH : ∀ n h : Nat, h + n = 16 → ∀ (T1 : mt_T) (v4 : Option Value), fi_h pw ph tu wa nP K (s : Int) (d : Int) (fi_d pw ph tu wa nP K (s : Int) (fi_s pw ph tu wa nP K T s) d) h = T1 → VV X (b_MO_fill, 5, "SheetTreesModel", rm_2) (cq X ([ob_MO m q K S le cd nS (nP : Int) rn dn, ar_I (q 10) cI 8 pw, ar_I (q 11) cI 8 ph, ar_I (q 13) cZ 8 tu, ar_I (q 14) cI 8 wa, ar_I (q 17) cI 2312 T.1, ar_I (q 18) cI 2312 T.2.1, ar_I (q 19) cI 2312 T.2.2] ++ []) sz (fun r w1 p1 _ => r = none ∧ w1 = [ob_MO m q K S le cd nS (nP : Int) rn dn, ar_I (q 10) cI 8 pw, ar_I (q 11) cI 8 ph, ar_I (q 13) cZ 8 tu, ar_I (q 14) cI 8 wa, ar_I (q 17) cI 2312 (fi_s pw ph tu wa nP K T 4).1, ar_I (q 18) cI 2312 (fi_s pw ph tu wa nP K T 4).2.1, ar_I (q 19) cI 2312 (fi_s pw ph tu wa nP K T 4).2.2] ∧ p1 = []) rm_2) 0 0 [(cI, .int), (cZ, .boolean)] [ob_MO m q K S le cd nS (nP : Int) rn dn, ar_I (q 10) cI 8 pw, ar_I (q 11) cI 8 ph, ar_I (q 13) cZ 8 tu, ar_I (q 14) cI 8 wa, ar_I (q 17) cI 2312 T1.1, ar_I (q 18) cI 2312 T1.2.1, ar_I (q 19) cI 2312 T1.2.2] [] [some (.ref m), some (.int (iI (s : Int))), some (.int (iI (d : Int))), some (.int (iI ((h : Int) + 1))), v4] [] 16 := by
            intro n
            induction n with
            | zero =>
              intro h hh T1 v4 hT1
              have e : h = 16 := by omega
              subst e
              have h9 := ihD (d + 1) (by omega) T1 (some (.int (iI (((16 : Nat) : Int) + 1)))) v4 hT1
              refine vv_iload_n d_MO_fill_16 rfl ?_
              refine vv_bipush d_MO_fill_17 (by decide +kernel) ?_
              refine vv_icmp_ge (tgt := 53) d_MO_fill_19 (by decide) ⟨by omega, by omega⟩ (fun c19 => ?_) (fun c19 => ?_)
              · skip
                refine vv_iinc d_MO_fill_53 rfl rfl (by decide) ?_
                dsimp only [List.set]
                refine vv_goto (tgt := 9) d_MO_fill_56 (by decide) ?_
                exact h9
              · exfalso; omega
            | succ n ihH =>
              intro h hh T1 v4 hT1
              subst hT1
              have hh1 : h ≤ 15 := by omega
              have loopW : ∀ n w : Nat, w + n = 16 → ∀ (T1 : mt_T), fi_w pw ph tu wa nP K (s : Int) (d : Int) ((h : Int) + 1) (fi_h pw ph tu wa nP K (s : Int) (d : Int) (fi_d pw ph tu wa nP K (s : Int) (fi_s pw ph tu wa nP K T s) d) h) w = T1 → VV X (b_MO_fill, 5, "SheetTreesModel", rm_2) (cq X ([ob_MO m q K S le cd nS (nP : Int) rn dn, ar_I (q 10) cI 8 pw, ar_I (q 11) cI 8 ph, ar_I (q 13) cZ 8 tu, ar_I (q 14) cI 8 wa, ar_I (q 17) cI 2312 T.1, ar_I (q 18) cI 2312 T.2.1, ar_I (q 19) cI 2312 T.2.2] ++ []) sz (fun r w1 p1 _ => r = none ∧ w1 = [ob_MO m q K S le cd nS (nP : Int) rn dn, ar_I (q 10) cI 8 pw, ar_I (q 11) cI 8 ph, ar_I (q 13) cZ 8 tu, ar_I (q 14) cI 8 wa, ar_I (q 17) cI 2312 (fi_s pw ph tu wa nP K T 4).1, ar_I (q 18) cI 2312 (fi_s pw ph tu wa nP K T 4).2.1, ar_I (q 19) cI 2312 (fi_s pw ph tu wa nP K T 4).2.2] ∧ p1 = []) rm_2) 0 0 [(cI, .int), (cZ, .boolean)] [ob_MO m q K S le cd nS (nP : Int) rn dn, ar_I (q 10) cI 8 pw, ar_I (q 11) cI 8 ph, ar_I (q 13) cZ 8 tu, ar_I (q 14) cI 8 wa, ar_I (q 17) cI 2312 T1.1, ar_I (q 18) cI 2312 T1.2.1, ar_I (q 19) cI 2312 T1.2.2] [] [some (.ref m), some (.int (iI (s : Int))), some (.int (iI (d : Int))), some (.int (iI ((h : Int) + 1))), some (.int (iI ((w : Int) + 1)))] [] 25 := by
                intro n
                induction n with
                | zero =>
                  intro w hw2 T1 hT1
                  have e : w = 16 := by omega
                  subst e
                  have h9 := ihH (h + 1) (by omega) T1 (some (.int (iI (((16 : Nat) : Int) + 1)))) hT1
                  refine vv_iload d_MO_fill_25 rfl ?_
                  refine vv_bipush d_MO_fill_27 (by decide +kernel) ?_
                  refine vv_icmp_ge (tgt := 47) d_MO_fill_29 (by decide) ⟨by omega, by omega⟩ (fun c29 => ?_) (fun c29 => ?_)
                  · skip
                    refine vv_iinc d_MO_fill_47 rfl rfl (by decide) ?_
                    dsimp only [List.set]
                    refine vv_goto (tgt := 16) d_MO_fill_50 (by decide) ?_
                    exact h9
                  · exfalso; omega
                | succ n ihW =>
                  intro w hw2 T1 hT1
                  subst hT1
                  have hw3 : w ≤ 15 := by omega
                  have h9 := ihW (w + 1) (by omega) (fo pw ph tu wa nP K (s : Int) (d : Int) ((w : Int) + 1) ((h : Int) + 1) (fi_w pw ph tu wa nP K (s : Int) (d : Int) ((h : Int) + 1) (fi_h pw ph tu wa nP K (s : Int) (d : Int) (fi_d pw ph tu wa nP K (s : Int) (fi_s pw ph tu wa nP K T s) d) h) w)) rfl
                  refine vv_iload d_MO_fill_25 rfl ?_
                  refine vv_bipush d_MO_fill_27 (by decide +kernel) ?_
                  refine vv_icmp_ge (tgt := 47) d_MO_fill_29 (by decide) ⟨by omega, by omega⟩ (fun c29 => ?_) (fun c29 => ?_)
                  · exfalso; omega
                  · skip
                    refine vv_aload_n d_MO_fill_32 rfl ?_
                    refine vv_iload_n d_MO_fill_33 rfl ?_
                    refine vv_iload_n d_MO_fill_34 rfl ?_
                    refine vv_iload d_MO_fill_35 rfl ?_
                    refine vv_iload_n d_MO_fill_37 rfl ?_
                    refine vv_nV hw (wc := [ob_MO m q K S le cd nS (nP : Int) rn dn, ar_I (q 10) cI 8 pw, ar_I (q 11) cI 8 ph, ar_I (q 13) cZ 8 tu, ar_I (q 14) cI 8 wa, ar_I (q 17) cI 2312 (fi_w pw ph tu wa nP K (s : Int) (d : Int) ((h : Int) + 1) (fi_h pw ph tu wa nP K (s : Int) (d : Int) (fi_d pw ph tu wa nP K (s : Int) (fi_s pw ph tu wa nP K T s) d) h) w).1, ar_I (q 18) cI 2312 (fi_w pw ph tu wa nP K (s : Int) (d : Int) ((h : Int) + 1) (fi_h pw ph tu wa nP K (s : Int) (d : Int) (fi_d pw ph tu wa nP K (s : Int) (fi_s pw ph tu wa nP K T s) d) h) w).2.1, ar_I (q 19) cI 2312 (fi_w pw ph tu wa nP K (s : Int) (d : Int) ((h : Int) + 1) (fi_h pw ph tu wa nP K (s : Int) (d : Int) (fi_d pw ph tu wa nP K (s : Int) (fi_s pw ph tu wa nP K T s) d) h) w).2.2]) (wr := []) [] (c_MO_fillOne (cx_l X) (cx_D X) m nP q K S le cd nS rn dn cI cZ pw ph tu wa (fi_w pw ph tu wa nP K (s : Int) (d : Int) ((h : Int) + 1) (fi_h pw ph tu wa nP K (s : Int) (d : Int) (fi_d pw ph tu wa nP K (s : Int) (fi_s pw ph tu wa nP K T s) d) h) w) (s : Int) (d : Int) ((w : Int) + 1) ((h : Int) + 1) hnP hK hb hwa (kW s d h w hs3 hd1 hh1 hw3) (by omega) (by omega) (by omega) (by omega)) lk_MO_127 d_MO_fill_38 rfl (rc_at 0 rfl rfl rfl) [0, 1, 2, 3, 4, 5, 6, 7] [] ⟨rfl, rfl⟩ ⟨rfl, rfl, by decide⟩ [0, 1] rfl ⟨⟨by decide, by decide⟩, ⟨by decide, by decide⟩, Nat.le_of_ble_eq_true rfl⟩ ⟨rfl, rfl⟩ ?_
                    rintro v w1 p1 t1 ⟨rfl, rfl, rfl⟩
                    dsimp only [Option.toList, List.cons_append, List.nil_append, List.append_nil]
                    refine vv_iinc d_MO_fill_41 rfl rfl (by decide) ?_
                    dsimp only [List.set]
                    refine vv_goto (tgt := 25) d_MO_fill_44 (by decide) ?_
                    exact h9
              refine vv_iload_n d_MO_fill_16 rfl ?_
              refine vv_bipush d_MO_fill_17 (by decide +kernel) ?_
              refine vv_icmp_ge (tgt := 53) d_MO_fill_19 (by decide) ⟨by omega, by omega⟩ (fun c19 => ?_) (fun c19 => ?_)
              · exfalso; omega
              · skip
                refine vv_iconst d_MO_fill_22 ?_
                refine vv_istore d_MO_fill_23 rfl (by decide) ?_
                dsimp only [List.set]
                exact loopW 16 0 (by omega) _ rfl
          refine vv_iload_n d_MO_fill_9 rfl ?_
          refine vv_iconst d_MO_fill_10 ?_
          refine vv_icmp_ge (tgt := 59) d_MO_fill_11 (by decide) ⟨by omega, by omega⟩ (fun c11 => ?_) (fun c11 => ?_)
          · exfalso; omega
          · skip
            refine vv_iconst d_MO_fill_14 ?_
            refine vv_istore_n d_MO_fill_15 rfl (by decide) ?_
            dsimp only [List.set]
            exact loopH 16 0 (by omega) _ _ rfl
      refine vv_iload_n d_MO_fill_2 rfl ?_
      refine vv_iconst d_MO_fill_3 ?_
      refine vv_icmp_ge (tgt := 65) d_MO_fill_4 (by decide) ⟨by omega, by omega⟩ (fun c4 => ?_) (fun c4 => ?_)
      · exfalso; omega
      · skip
        refine vv_iconst d_MO_fill_7 ?_
        refine vv_istore_n d_MO_fill_8 rfl (by decide) ?_
        dsimp only [List.set]
        exact loopD 2 0 (by omega) _ _ _ rfl
  show VV X (b_MO_fill, 5, "SheetTreesModel", rm_2) _ 0 0 [(cI, .int), (cZ, .boolean)] [ob_MO m q K S le cd nS (nP : Int) rn dn, ar_I (q 10) cI 8 pw, ar_I (q 11) cI 8 ph, ar_I (q 13) cZ 8 tu, ar_I (q 14) cI 8 wa, ar_I (q 17) cI 2312 T.1, ar_I (q 18) cI 2312 T.2.1, ar_I (q 19) cI 2312 T.2.2] [] [some (.ref m), none, none, none, none] [] 0
  refine vv_iconst d_MO_fill_0 ?_
  refine vv_istore_n d_MO_fill_1 rfl (by decide) ?_
  dsimp only [List.set]
  exact loopS 4 0 (by omega) T _ _ _ rfl
def wl (co : Nat → Int) (nP : Nat) (wa : Nat → Int) : Nat → Nat → Int
  | 0 => wa
  | k + 1 => va_up (wl co nP wa k) k (if k < nP then co k else 0)
theorem wl_at {co wa : Nat → Int} {nP : Nat} : ∀ (n k : Nat), wl co nP wa n k = if k < n then (if k < nP then co k else 0) else wa k
  | 0, k => by rw [if_neg (by omega)]; rfl
  | n + 1, k => by
    unfold wl
    by_cases e : k = n
    · subst e
      rw [va_up_self, if_pos (show k < k + 1 by omega)]
    · rw [va_up_ne _ _ e, wl_at n k]
      by_cases e2 : k < n
      · rw [if_pos e2, if_pos (show k < n + 1 by omega)]
      · rw [if_neg e2, if_neg (show ¬ k < n + 1 by omega)]
set_option maxHeartbeats 4000000 in
set_option maxRecDepth 100000 in
theorem c_MO_wantAll (l : Launch) (D : va_G) (m nP : Nat) (q : Nat → Nat) (K S le cd nS rn dn : Int) (cI : ClassId) (co wa : Nat → Int) (hnP : nP ≤ 8) : CM l y_MO_wantAll b_MO_wantAll 2 none rm_0 [.ref m] D [(cI, .int)] ([ob_MO m q K S le cd nS (nP : Int) rn dn, ar_I (q 12) cI 8 co, ar_I (q 14) cI 8 wa] ++ []) (fun r w1 p1 _ => r = none ∧ w1 = [ob_MO m q K S le cd nS (nP : Int) rn dn, ar_I (q 12) cI 8 co, ar_I (q 14) cI 8 (wl co nP wa 8)] ∧ p1 = []) := by
  refine cm_of (by decide) (Nat.le_of_ble_eq_true rfl) ?_
  intro X sz hl hr hnm hD hA hw
  subst hD
  have loop : ∀ n k : Nat, k + n = 8 → ∀ g : Nat → Int, wl co nP wa k = g → VV X (b_MO_wantAll, 2, "SheetTreesModel", rm_0) (cq X ([ob_MO m q K S le cd nS (nP : Int) rn dn, ar_I (q 12) cI 8 co, ar_I (q 14) cI 8 wa] ++ []) sz (fun r w1 p1 _ => r = none ∧ w1 = [ob_MO m q K S le cd nS (nP : Int) rn dn, ar_I (q 12) cI 8 co, ar_I (q 14) cI 8 (wl co nP wa 8)] ∧ p1 = []) rm_0) 0 0 [(cI, .int)] [ob_MO m q K S le cd nS (nP : Int) rn dn, ar_I (q 12) cI 8 co, ar_I (q 14) cI 8 g] [] [some (.ref m), some (.int (iI (k : Int)))] [] 2 := by
    intro n
    induction n with
    | zero =>
      intro k hk g hg
      have e : k = 8 := by omega
      subst e
      refine vv_iload_n d_MO_wantAll_2 rfl ?_
      refine vv_bipush d_MO_wantAll_3 (by decide +kernel) ?_
      refine vv_icmp_ge (tgt := 38) d_MO_wantAll_5 (by decide) ⟨by omega, by omega⟩ (fun c5 => ?_) (fun c5 => ?_)
      · skip
        exact vv_vret hA hw hr d_MO_wantAll_38 (by decide) (by decide) ⟨rfl, by rw [hg], rfl⟩
      · exfalso; omega
    | succ n ih =>
      intro k hk g hg
      have h9 := ih (k + 1) (by omega)
      have hgo : wl co nP wa (k + 1) = va_up g k (if k < nP then co k else 0) := by rw [← hg]; rfl
      refine vv_iload_n d_MO_wantAll_2 rfl ?_
      refine vv_bipush d_MO_wantAll_3 (by decide +kernel) ?_
      refine vv_icmp_ge (tgt := 38) d_MO_wantAll_5 (by decide) ⟨by omega, by omega⟩ (fun c5 => ?_) (fun c5 => ?_)
      · exfalso; omega
      · skip
        refine vv_aload_n d_MO_wantAll_8 rfl ?_
        refine vv_get d_MO_wantAll_9 0 rfl fl_MO_35 rfl ?_
        refine vv_iload_n d_MO_wantAll_12 rfl ?_
        refine vv_iload_n d_MO_wantAll_13 rfl ?_
        refine vv_aload_n d_MO_wantAll_14 rfl ?_
        refine vv_get d_MO_wantAll_15 0 rfl fl_MO_113 rfl ?_
        refine vv_icmp_ge (tgt := 30) d_MO_wantAll_18 (by decide) ⟨by omega, by omega⟩ (fun c18 => ?_) (fun c18 => ?_)
        · skip
          refine vv_iconst d_MO_wantAll_30 ?_
          refine vv_iast hw d_MO_wantAll_31 2 0 rfl rfl (by omega) ?_
          dsimp only [List.set]
          refine vv_iinc d_MO_wantAll_32 rfl rfl (by decide) ?_
          dsimp only [List.set]
          refine vv_goto (tgt := 2) d_MO_wantAll_35 (by decide) ?_
          simp only [Int.toNat_natCast]
          rw [if_neg (by omega)] at hgo
          exact h9 _ hgo
        · skip
          refine vv_aload_n d_MO_wantAll_21 rfl ?_
          refine vv_get d_MO_wantAll_22 0 rfl fl_MO_28 rfl ?_
          refine vv_iload_n d_MO_wantAll_25 rfl ?_
          refine vv_iald d_MO_wantAll_26 1 0 rfl rfl (by omega) ?_
          refine vv_goto (tgt := 31) d_MO_wantAll_27 (by decide) ?_
          refine vv_iast hw d_MO_wantAll_31 2 0 rfl rfl (by omega) ?_
          dsimp only [List.set]
          refine vv_iinc d_MO_wantAll_32 rfl rfl (by decide) ?_
          dsimp only [List.set]
          refine vv_goto (tgt := 2) d_MO_wantAll_35 (by decide) ?_
          simp only [Int.toNat_natCast]
          rw [if_pos (by omega)] at hgo
          exact h9 _ hgo
  show VV X (b_MO_wantAll, 2, "SheetTreesModel", rm_0) _ 0 0 [(cI, .int)] [ob_MO m q K S le cd nS (nP : Int) rn dn, ar_I (q 12) cI 8 co, ar_I (q 14) cI 8 wa] [] [some (.ref m), none] [] 0
  refine vv_iconst d_MO_wantAll_0 ?_
  refine vv_istore_n d_MO_wantAll_1 rfl (by decide) ?_
  dsimp only [List.set]
  exact loop 8 0 (by omega) wa rfl
def wy (T : mt_T) (S w h : Int) : Int := if T.1 (mp S 0 w h).toNat < T.1 (mp S 1 w h).toNat ∨ (T.1 (mp S 1 w h).toNat = T.1 (mp S 0 w h).toNat ∧ T.2.1 (mp S 1 w h).toNat < T.2.1 (mp S 0 w h).toNat) then 1 else 0
set_option maxHeartbeats 4000000 in
set_option maxRecDepth 100000 in
theorem c_MO_wayOf (l : Launch) (D : va_G) (m : Nat) (q : Nat → Nat) (K S le cd nS nP rn dn : Int) (cI : ClassId) (sw sh : Nat → Int) (T : mt_T) (k : Int) (hk : 0 ≤ k ∧ k < 4) (hS : 0 ≤ S ∧ S ≤ 3) (hT : MI T) (h1 : 1 ≤ sw k.toNat ∧ sw k.toNat ≤ 16) (h2 : 1 ≤ sh k.toNat ∧ sh k.toNat ≤ 16) : CP l y_MO_wayOf b_MO_wayOf 4 (some .int) rm_1 [.ref m, .int (iI k)] D [(cI, .int)] ([ob_MO m q K S le cd nS nP rn dn, ar_I (q 5) cI 4 sw, ar_I (q 6) cI 4 sh, ar_I (q 17) cI 2312 T.1, ar_I (q 18) cI 2312 T.2.1] ++ []) (fun r => r = some (.int (iI (wy T S (sw k.toNat) (sh k.toNat))))) := by
  refine cp_of (by decide) (Nat.le_of_ble_eq_true rfl) ?_
  intro X sz hl hr hD hA
  subst hD
  have ha := mp_bd (s := S) (d := 0) (w := sw k.toNat) (h := sh k.toNat) hS (by decide) (by omega) (by omega)
  have hb := mp_bd (s := S) (d := 1) (w := sw k.toNat) (h := sh k.toNat) hS (by decide) (by omega) (by omega)
  have ht0 := hT S 0 (sw k.toNat) (sh k.toNat) hS.1 hS.2 (by decide) (by decide) h1.1 h1.2 h2.1 h2.2
  have ht1 := hT S 1 (sw k.toNat) (sh k.toNat) hS.1 hS.2 (by decide) (by decide) h1.1 h1.2 h2.1 h2.2
  have hwh := wh1 h1 h2
  show VV X (b_MO_wayOf, 4, "SheetTreesModel", rm_1) _ 0 0 [(cI, .int)] [ob_MO m q K S le cd nS nP rn dn, ar_I (q 5) cI 4 sw, ar_I (q 6) cI 4 sh, ar_I (q 17) cI 2312 T.1, ar_I (q 18) cI 2312 T.2.1] [] [some (.ref m), some (.int (iI k)), none, none] [] 0
  refine vv_aload_n d_MO_wayOf_0 rfl ?_
  refine vv_get d_MO_wayOf_1 0 rfl fl_MO_93 rfl ?_
  refine vv_iconst d_MO_wayOf_4 ?_
  refine vv_aload_n d_MO_wayOf_5 rfl ?_
  refine vv_get d_MO_wayOf_6 0 rfl fl_MO_7 rfl ?_
  refine vv_iload_n d_MO_wayOf_9 rfl ?_
  refine vv_iald d_MO_wayOf_10 1 0 rfl rfl (by omega) ?_
  refine vv_aload_n d_MO_wayOf_11 rfl ?_
  refine vv_get d_MO_wayOf_12 0 rfl fl_MO_13 rfl ?_
  refine vv_iload_n d_MO_wayOf_15 rfl ?_
  refine vv_iald d_MO_wayOf_16 2 0 rfl rfl (by omega) ?_
  refine vv_pS (wc := []) (plc := []) [] (c_MO_place (cx_l X) (cx_D X) S 0 (sw k.toNat) (sh k.toNat)) lk_MO_116 d_MO_wayOf_17 rfl [] ⟨rfl, rfl, Or.inl rfl⟩ [] rfl ⟨⟨by decide, by decide⟩, ⟨by decide, by decide⟩, Nat.le_of_ble_eq_true rfl⟩ ⟨rfl, rfl⟩ ?_
  intro v hv
  subst hv
  dsimp only [Option.toList, List.cons_append, List.nil_append, List.append_nil]
  refine vv_istore_n d_MO_wayOf_20 rfl (by decide) ?_
  dsimp only [List.set]
  refine vv_aload_n d_MO_wayOf_21 rfl ?_
  refine vv_get d_MO_wayOf_22 0 rfl fl_MO_93 rfl ?_
  refine vv_iconst d_MO_wayOf_25 ?_
  refine vv_aload_n d_MO_wayOf_26 rfl ?_
  refine vv_get d_MO_wayOf_27 0 rfl fl_MO_7 rfl ?_
  refine vv_iload_n d_MO_wayOf_30 rfl ?_
  refine vv_iald d_MO_wayOf_31 1 0 rfl rfl (by omega) ?_
  refine vv_aload_n d_MO_wayOf_32 rfl ?_
  refine vv_get d_MO_wayOf_33 0 rfl fl_MO_13 rfl ?_
  refine vv_iload_n d_MO_wayOf_36 rfl ?_
  refine vv_iald d_MO_wayOf_37 2 0 rfl rfl (by omega) ?_
  refine vv_pS (wc := []) (plc := []) [] (c_MO_place (cx_l X) (cx_D X) S 1 (sw k.toNat) (sh k.toNat)) lk_MO_116 d_MO_wayOf_38 rfl [] ⟨rfl, rfl, Or.inl rfl⟩ [] rfl ⟨⟨by decide, by decide⟩, ⟨by decide, by decide⟩, Nat.le_of_ble_eq_true rfl⟩ ⟨rfl, rfl⟩ ?_
  intro v hv
  subst hv
  dsimp only [Option.toList, List.cons_append, List.nil_append, List.append_nil]
  refine vv_istore_n d_MO_wayOf_41 rfl (by decide) ?_
  dsimp only [List.set]
  refine vv_aload_n d_MO_wayOf_42 rfl ?_
  refine vv_get d_MO_wayOf_43 0 rfl fl_MO_44 rfl ?_
  refine vv_iload_n d_MO_wayOf_46 rfl ?_
  refine vv_iald d_MO_wayOf_47 3 0 rfl rfl (by omega) ?_
  refine vv_aload_n d_MO_wayOf_48 rfl ?_
  refine vv_get d_MO_wayOf_49 0 rfl fl_MO_44 rfl ?_
  refine vv_iload_n d_MO_wayOf_52 rfl ?_
  refine vv_iald d_MO_wayOf_53 3 0 rfl rfl (by omega) ?_
  refine vv_icmp_gt (tgt := 87) d_MO_wayOf_54 (by decide) ⟨by omega, by omega⟩ (fun c54 => ?_) (fun c54 => ?_)
  · skip
    refine vv_iconst d_MO_wayOf_87 ?_
    refine vv_goto (tgt := 92) d_MO_wayOf_88 (by decide) ?_
    exact vp_iret hA hr d_MO_wayOf_92 (by decide) (by decide) (by unfold wy; rw [if_pos (by omega)])
  · skip
    refine vv_aload_n d_MO_wayOf_57 rfl ?_
    refine vv_get d_MO_wayOf_58 0 rfl fl_MO_44 rfl ?_
    refine vv_iload_n d_MO_wayOf_61 rfl ?_
    refine vv_iald d_MO_wayOf_62 3 0 rfl rfl (by omega) ?_
    refine vv_aload_n d_MO_wayOf_63 rfl ?_
    refine vv_get d_MO_wayOf_64 0 rfl fl_MO_44 rfl ?_
    refine vv_iload_n d_MO_wayOf_67 rfl ?_
    refine vv_iald d_MO_wayOf_68 3 0 rfl rfl (by omega) ?_
    refine vv_icmp_ne (tgt := 91) d_MO_wayOf_69 (by decide) ⟨by omega, by omega⟩ (fun c69 => ?_) (fun c69 => ?_)
    · skip
      refine vv_iconst d_MO_wayOf_91 ?_
      exact vp_iret hA hr d_MO_wayOf_92 (by decide) (by decide) (by unfold wy; rw [if_neg (by omega)])
    · skip
      refine vv_aload_n d_MO_wayOf_72 rfl ?_
      refine vv_get d_MO_wayOf_73 0 rfl fl_MO_47 rfl ?_
      refine vv_iload_n d_MO_wayOf_76 rfl ?_
      refine vv_iald d_MO_wayOf_77 4 0 rfl rfl (by omega) ?_
      refine vv_aload_n d_MO_wayOf_78 rfl ?_
      refine vv_get d_MO_wayOf_79 0 rfl fl_MO_47 rfl ?_
      refine vv_iload_n d_MO_wayOf_82 rfl ?_
      refine vv_iald d_MO_wayOf_83 4 0 rfl rfl (by omega) ?_
      refine vv_icmp_ge (tgt := 91) d_MO_wayOf_84 (by decide) ⟨by omega, by omega⟩ (fun c84 => ?_) (fun c84 => ?_)
      · skip
        refine vv_iconst d_MO_wayOf_91 ?_
        exact vp_iret hA hr d_MO_wayOf_92 (by decide) (by decide) (by unfold wy; rw [if_neg (by omega)])
      · skip
        refine vv_iconst d_MO_wayOf_87 ?_
        refine vv_goto (tgt := 92) d_MO_wayOf_88 (by decide) ?_
        exact vp_iret hA hr d_MO_wayOf_92 (by decide) (by decide) (by unfold wy; rw [if_pos (by omega)])
def ps (n x y w h d s : Int) (g : Nat → Int) : Nat → Int := va_up (va_up (va_up (va_up (va_up (va_up g (6 * n).toNat x) (6 * n + 1).toNat y) (6 * n + 2).toNat w) (6 * n + 3).toNat h) (6 * n + 4).toNat d) (6 * n + 5).toNat s
set_option maxHeartbeats 4000000 in
set_option maxRecDepth 100000 in
theorem c_MO_push (l : Launch) (D : va_G) (m : Nat) (q : Nat → Nat) (K S le cd nS nP rn dn : Int) (cI : ClassId) (n x y w h d s : Int) (g : Nat → Int) (hn : 0 ≤ n ∧ n < 600) : CM l y_MO_push b_MO_push 8 none rm_0 [.ref m, .int (iI n), .int (iI x), .int (iI y), .int (iI w), .int (iI h), .int (iI d), .int (iI s)] D [(cI, .int)] ([ob_MO m q K S le cd nS nP rn dn, ar_I (q 20) cI 3600 g] ++ []) (fun r w1 p1 _ => r = none ∧ w1 = [ob_MO m q K S le cd nS nP rn dn, ar_I (q 20) cI 3600 (ps n x y w h d s g)] ∧ p1 = []) := by
  refine cm_of (by decide) (Nat.le_of_ble_eq_true rfl) ?_
  intro X sz hl hr hnm hD hA hw
  subst hD
  show VV X (b_MO_push, 8, "SheetTreesModel", rm_0) _ 0 0 [(cI, .int)] [ob_MO m q K S le cd nS nP rn dn, ar_I (q 20) cI 3600 g] [] [some (.ref m), some (.int (iI n)), some (.int (iI x)), some (.int (iI y)), some (.int (iI w)), some (.int (iI h)), some (.int (iI d)), some (.int (iI s))] [] 0
  refine vv_aload_n d_MO_push_0 rfl ?_
  refine vv_get d_MO_push_1 0 rfl fl_MO_53 rfl ?_
  refine vv_bipush d_MO_push_4 (by decide +kernel) ?_
  refine vv_iload_n d_MO_push_6 rfl ?_
  refine vv_imul d_MO_push_7 ?_
  refine vv_iload_n d_MO_push_8 rfl ?_
  refine vv_iast hw d_MO_push_9 1 0 rfl rfl (by omega) ?_
  dsimp only [List.set]
  refine vv_aload_n d_MO_push_10 rfl ?_
  refine vv_get d_MO_push_11 0 rfl fl_MO_53 rfl ?_
  refine vv_bipush d_MO_push_14 (by decide +kernel) ?_
  refine vv_iload_n d_MO_push_16 rfl ?_
  refine vv_imul d_MO_push_17 ?_
  refine vv_iconst d_MO_push_18 ?_
  refine vv_iadd d_MO_push_19 ?_
  refine vv_iload_n d_MO_push_20 rfl ?_
  refine vv_iast hw d_MO_push_21 1 0 rfl rfl (by omega) ?_
  dsimp only [List.set]
  refine vv_aload_n d_MO_push_22 rfl ?_
  refine vv_get d_MO_push_23 0 rfl fl_MO_53 rfl ?_
  refine vv_bipush d_MO_push_26 (by decide +kernel) ?_
  refine vv_iload_n d_MO_push_28 rfl ?_
  refine vv_imul d_MO_push_29 ?_
  refine vv_iconst d_MO_push_30 ?_
  refine vv_iadd d_MO_push_31 ?_
  refine vv_iload d_MO_push_32 rfl ?_
  refine vv_iast hw d_MO_push_34 1 0 rfl rfl (by omega) ?_
  dsimp only [List.set]
  refine vv_aload_n d_MO_push_35 rfl ?_
  refine vv_get d_MO_push_36 0 rfl fl_MO_53 rfl ?_
  refine vv_bipush d_MO_push_39 (by decide +kernel) ?_
  refine vv_iload_n d_MO_push_41 rfl ?_
  refine vv_imul d_MO_push_42 ?_
  refine vv_iconst d_MO_push_43 ?_
  refine vv_iadd d_MO_push_44 ?_
  refine vv_iload d_MO_push_45 rfl ?_
  refine vv_iast hw d_MO_push_47 1 0 rfl rfl (by omega) ?_
  dsimp only [List.set]
  refine vv_aload_n d_MO_push_48 rfl ?_
  refine vv_get d_MO_push_49 0 rfl fl_MO_53 rfl ?_
  refine vv_bipush d_MO_push_52 (by decide +kernel) ?_
  refine vv_iload_n d_MO_push_54 rfl ?_
  refine vv_imul d_MO_push_55 ?_
  refine vv_iconst d_MO_push_56 ?_
  refine vv_iadd d_MO_push_57 ?_
  refine vv_iload d_MO_push_58 rfl ?_
  refine vv_iast hw d_MO_push_60 1 0 rfl rfl (by omega) ?_
  dsimp only [List.set]
  refine vv_aload_n d_MO_push_61 rfl ?_
  refine vv_get d_MO_push_62 0 rfl fl_MO_53 rfl ?_
  refine vv_bipush d_MO_push_65 (by decide +kernel) ?_
  refine vv_iload_n d_MO_push_67 rfl ?_
  refine vv_imul d_MO_push_68 ?_
  refine vv_iconst d_MO_push_69 ?_
  refine vv_iadd d_MO_push_70 ?_
  refine vv_iload d_MO_push_71 rfl ?_
  refine vv_iast hw d_MO_push_73 1 0 rfl rfl (by omega) ?_
  dsimp only [List.set]
  exact vv_vret hA hw hr d_MO_push_74 (by decide) (by decide) (by exact ⟨rfl, rfl, rfl⟩)
def kr_z (rc : Nat → Int) (t : Int) : Int := 4 * (256 * t + rc t.toNat)
def kr (rc : Nat → Int) (t x y w h : Int) (g : Nat → Int) : Nat → Int := va_up (va_up (va_up (va_up g (kr_z rc t).toNat x) (kr_z rc t + 1).toNat y) (kr_z rc t + 2).toNat w) (kr_z rc t + 3).toNat h
def tk_z (tc : Nat → Int) (t : Int) : Int := 5 * (256 * t + tc t.toNat)
def tkg (tc : Nat → Int) (t k x y w h : Int) (g : Nat → Int) : Nat → Int := va_up (va_up (va_up (va_up (va_up g (tk_z tc t).toNat k) (tk_z tc t + 1).toNat x) (tk_z tc t + 2).toNat y) (tk_z tc t + 3).toNat w) (tk_z tc t + 4).toNat h
set_option maxHeartbeats 4000000 in
set_option maxRecDepth 100000 in
theorem c_MO_keepRest_y (l : Launch) (D : va_G) (m : Nat) (q : Nat → Nat) (K S le cd nS nP rn dn : Int) (cI : ClassId) (t x y w h : Int) (rc g : Nat → Int) (hle : 1 ≤ le ∧ le ≤ 16) (hw1 : 0 ≤ w ∧ w ≤ 16) (hh1 : 0 ≤ h ∧ h ≤ 16) (hp : le ≤ w ∧ le ≤ h) (ht : 0 ≤ t ∧ t < 20) (hc : 0 ≤ rc t.toNat ∧ rc t.toNat < 256) : CM l y_MO_keepRest b_MO_keepRest 7 none rm_0 [.ref m, .int (iI t), .int (iI x), .int (iI y), .int (iI w), .int (iI h)] D [(cI, .int)] ([ob_MO m q K S le cd nS nP rn dn, ar_I (q 29) cI 20 rc, ar_I (q 33) cI 20480 g] ++ []) (fun r w1 p1 _ => r = none ∧ w1 = [ob_MO m q K S le cd nS nP rn dn, ar_I (q 29) cI 20 (va_up rc t.toNat (rc t.toNat + 1)), ar_I (q 33) cI 20480 (kr rc t x y w h g)] ∧ p1 = []) := by
  refine cm_of (by decide) (Nat.le_of_ble_eq_true rfl) ?_
  intro X sz hl hr hnm hD hA hw
  subst hD
  show VV X (b_MO_keepRest, 7, "SheetTreesModel", rm_0) _ 0 0 [(cI, .int)] [ob_MO m q K S le cd nS nP rn dn, ar_I (q 29) cI 20 rc, ar_I (q 33) cI 20480 g] [] [some (.ref m), some (.int (iI t)), some (.int (iI x)), some (.int (iI y)), some (.int (iI w)), some (.int (iI h)), none] [] 0
  refine vv_iload d_MO_keepRest_0 rfl ?_
  refine vv_aload_n d_MO_keepRest_2 rfl ?_
  refine vv_get d_MO_keepRest_3 0 rfl fl_MO_96 rfl ?_
  refine vv_icmp_lt (tgt := 18) d_MO_keepRest_6 (by decide) ⟨by omega, by omega⟩ (fun c6 => ?_) (fun c6 => ?_)
  · exfalso; omega
  · skip
    refine vv_iload d_MO_keepRest_9 rfl ?_
    refine vv_aload_n d_MO_keepRest_11 rfl ?_
    refine vv_get d_MO_keepRest_12 0 rfl fl_MO_96 rfl ?_
    refine vv_icmp_ge (tgt := 19) d_MO_keepRest_15 (by decide) ⟨by omega, by omega⟩ (fun c15 => ?_) (fun c15 => ?_)
    · skip
      refine vv_iconst d_MO_keepRest_19 ?_
      refine vv_sipush d_MO_keepRest_20 (by decide +kernel) ?_
      refine vv_iload_n d_MO_keepRest_23 rfl ?_
      refine vv_imul d_MO_keepRest_24 ?_
      refine vv_aload_n d_MO_keepRest_25 rfl ?_
      refine vv_get d_MO_keepRest_26 0 rfl fl_MO_74 rfl ?_
      refine vv_iload_n d_MO_keepRest_29 rfl ?_
      refine vv_iald d_MO_keepRest_30 1 0 rfl rfl (by omega) ?_
      refine vv_iadd d_MO_keepRest_31 ?_
      refine vv_imul d_MO_keepRest_32 ?_
      refine vv_istore d_MO_keepRest_33 rfl (by decide) ?_
      dsimp only [List.set]
      refine vv_aload_n d_MO_keepRest_35 rfl ?_
      refine vv_get d_MO_keepRest_36 0 rfl fl_MO_86 rfl ?_
      refine vv_iload d_MO_keepRest_39 rfl ?_
      refine vv_iload_n d_MO_keepRest_41 rfl ?_
      refine vv_iast hw d_MO_keepRest_42 2 0 rfl rfl (by omega) ?_
      dsimp only [List.set]
      refine vv_aload_n d_MO_keepRest_43 rfl ?_
      refine vv_get d_MO_keepRest_44 0 rfl fl_MO_86 rfl ?_
      refine vv_iload d_MO_keepRest_47 rfl ?_
      refine vv_iconst d_MO_keepRest_49 ?_
      refine vv_iadd d_MO_keepRest_50 ?_
      refine vv_iload_n d_MO_keepRest_51 rfl ?_
      refine vv_iast hw d_MO_keepRest_52 2 0 rfl rfl (by omega) ?_
      dsimp only [List.set]
      refine vv_aload_n d_MO_keepRest_53 rfl ?_
      refine vv_get d_MO_keepRest_54 0 rfl fl_MO_86 rfl ?_
      refine vv_iload d_MO_keepRest_57 rfl ?_
      refine vv_iconst d_MO_keepRest_59 ?_
      refine vv_iadd d_MO_keepRest_60 ?_
      refine vv_iload d_MO_keepRest_61 rfl ?_
      refine vv_iast hw d_MO_keepRest_63 2 0 rfl rfl (by omega) ?_
      dsimp only [List.set]
      refine vv_aload_n d_MO_keepRest_64 rfl ?_
      refine vv_get d_MO_keepRest_65 0 rfl fl_MO_86 rfl ?_
      refine vv_iload d_MO_keepRest_68 rfl ?_
      refine vv_iconst d_MO_keepRest_70 ?_
      refine vv_iadd d_MO_keepRest_71 ?_
      refine vv_iload d_MO_keepRest_72 rfl ?_
      refine vv_iast hw d_MO_keepRest_74 2 0 rfl rfl (by omega) ?_
      dsimp only [List.set]
      refine vv_aload_n d_MO_keepRest_75 rfl ?_
      refine vv_get d_MO_keepRest_76 0 rfl fl_MO_74 rfl ?_
      refine vv_iload_n d_MO_keepRest_79 rfl ?_
      refine vv_dup2 d_MO_keepRest_80 rfl rfl ?_
      refine vv_iald d_MO_keepRest_81 1 0 rfl rfl (by omega) ?_
      refine vv_iconst d_MO_keepRest_82 ?_
      refine vv_iadd d_MO_keepRest_83 ?_
      refine vv_iast hw d_MO_keepRest_84 1 0 rfl rfl (by omega) ?_
      dsimp only [List.set]
      exact vv_vret hA hw hr d_MO_keepRest_85 (by decide) (by decide) (by exact ⟨rfl, rfl, rfl⟩)
    · exfalso; omega
set_option maxHeartbeats 4000000 in
set_option maxRecDepth 100000 in
theorem c_MO_keepRest_n (l : Launch) (D : va_G) (m : Nat) (q : Nat → Nat) (K S le cd nS nP rn dn : Int) (cI : ClassId) (t x y w h : Int) (rc g : Nat → Int) (hle : 1 ≤ le ∧ le ≤ 16) (hw1 : 0 ≤ w ∧ w ≤ 16) (hh1 : 0 ≤ h ∧ h ≤ 16) (hp : w < le ∨ h < le) : CM l y_MO_keepRest b_MO_keepRest 7 none rm_0 [.ref m, .int (iI t), .int (iI x), .int (iI y), .int (iI w), .int (iI h)] D [(cI, .int)] ([ob_MO m q K S le cd nS nP rn dn, ar_I (q 29) cI 20 rc, ar_I (q 33) cI 20480 g] ++ []) (fun r w1 p1 _ => r = none ∧ w1 = [ob_MO m q K S le cd nS nP rn dn, ar_I (q 29) cI 20 rc, ar_I (q 33) cI 20480 g] ∧ p1 = []) := by
  refine cm_of (by decide) (Nat.le_of_ble_eq_true rfl) ?_
  intro X sz hl hr hnm hD hA hw
  subst hD
  show VV X (b_MO_keepRest, 7, "SheetTreesModel", rm_0) _ 0 0 [(cI, .int)] [ob_MO m q K S le cd nS nP rn dn, ar_I (q 29) cI 20 rc, ar_I (q 33) cI 20480 g] [] [some (.ref m), some (.int (iI t)), some (.int (iI x)), some (.int (iI y)), some (.int (iI w)), some (.int (iI h)), none] [] 0
  refine vv_iload d_MO_keepRest_0 rfl ?_
  refine vv_aload_n d_MO_keepRest_2 rfl ?_
  refine vv_get d_MO_keepRest_3 0 rfl fl_MO_96 rfl ?_
  refine vv_icmp_lt (tgt := 18) d_MO_keepRest_6 (by decide) ⟨by omega, by omega⟩ (fun c6 => ?_) (fun c6 => ?_)
  · skip
    exact vv_vret hA hw hr d_MO_keepRest_18 (by decide) (by decide) (by exact ⟨rfl, rfl, rfl⟩)
  · skip
    refine vv_iload d_MO_keepRest_9 rfl ?_
    refine vv_aload_n d_MO_keepRest_11 rfl ?_
    refine vv_get d_MO_keepRest_12 0 rfl fl_MO_96 rfl ?_
    refine vv_icmp_ge (tgt := 19) d_MO_keepRest_15 (by decide) ⟨by omega, by omega⟩ (fun c15 => ?_) (fun c15 => ?_)
    · exfalso; omega
    · skip
      exact vv_vret hA hw hr d_MO_keepRest_18 (by decide) (by decide) (by exact ⟨rfl, rfl, rfl⟩)
set_option maxHeartbeats 4000000 in
set_option maxRecDepth 100000 in
theorem c_MO_take_y (l : Launch) (D : va_G) (m : Nat) (q : Nat → Nat) (K S le cd nS nP rn dn : Int) (cI : ClassId) (t k x y w h : Int) (st tc ta g : Nat → Int) (hk : 0 ≤ k ∧ k < 8) (ht : 0 ≤ t ∧ t < 20) (hst : 0 ≤ st k.toNat ∧ st k.toNat ≤ 1000000) (hp : 0 < st k.toNat) (hc : 0 ≤ tc t.toNat ∧ tc t.toNat < 256) : CM l y_MO_take b_MO_take 8 none rm_0 [.ref m, .int (iI t), .int (iI k), .int (iI x), .int (iI y), .int (iI w), .int (iI h)] D [(cI, .int)] ([ob_MO m q K S le cd nS nP rn dn, ar_I (q 16) cI 8 st, ar_I (q 27) cI 20 tc, ar_I (q 28) cI 20 ta, ar_I (q 32) cI 25600 g] ++ []) (fun r w1 p1 _ => r = none ∧ w1 = [ob_MO m q K S le cd nS nP rn dn, ar_I (q 16) cI 8 (va_up st k.toNat (st k.toNat - 1)), ar_I (q 27) cI 20 (va_up tc t.toNat (tc t.toNat + 1)), ar_I (q 28) cI 20 (va_up ta t.toNat (ta t.toNat + w * h)), ar_I (q 32) cI 25600 (tkg tc t k x y w h g)] ∧ p1 = []) := by
  refine cm_of (by decide) (Nat.le_of_ble_eq_true rfl) ?_
  intro X sz hl hr hnm hD hA hw
  subst hD
  show VV X (b_MO_take, 8, "SheetTreesModel", rm_0) _ 0 0 [(cI, .int)] [ob_MO m q K S le cd nS nP rn dn, ar_I (q 16) cI 8 st, ar_I (q 27) cI 20 tc, ar_I (q 28) cI 20 ta, ar_I (q 32) cI 25600 g] [] [some (.ref m), some (.int (iI t)), some (.int (iI k)), some (.int (iI x)), some (.int (iI y)), some (.int (iI w)), some (.int (iI h)), none] [] 0
  refine vv_aload_n d_MO_take_0 rfl ?_
  refine vv_get d_MO_take_1 0 rfl fl_MO_41 rfl ?_
  refine vv_iload_n d_MO_take_4 rfl ?_
  refine vv_iald d_MO_take_5 1 0 rfl rfl (by omega) ?_
  refine vv_if_ne (tgt := 10) d_MO_take_6 (by decide) (by omega) (fun c6 => ?_) (fun c6 => ?_)
  · skip
    refine vv_aload_n d_MO_take_10 rfl ?_
    refine vv_get d_MO_take_11 0 rfl fl_MO_41 rfl ?_
    refine vv_iload_n d_MO_take_14 rfl ?_
    refine vv_dup2 d_MO_take_15 rfl rfl ?_
    refine vv_iald d_MO_take_16 1 0 rfl rfl (by omega) ?_
    refine vv_iconst d_MO_take_17 ?_
    refine vv_isub d_MO_take_18 ?_
    refine vv_iast hw d_MO_take_19 1 0 rfl rfl (by omega) ?_
    dsimp only [List.set]
    refine vv_iconst d_MO_take_20 ?_
    refine vv_sipush d_MO_take_21 (by decide +kernel) ?_
    refine vv_iload_n d_MO_take_24 rfl ?_
    refine vv_imul d_MO_take_25 ?_
    refine vv_aload_n d_MO_take_26 rfl ?_
    refine vv_get d_MO_take_27 0 rfl fl_MO_68 rfl ?_
    refine vv_iload_n d_MO_take_30 rfl ?_
    refine vv_iald d_MO_take_31 2 0 rfl rfl (by omega) ?_
    refine vv_iadd d_MO_take_32 ?_
    refine vv_imul d_MO_take_33 ?_
    refine vv_istore d_MO_take_34 rfl (by decide) ?_
    dsimp only [List.set]
    refine vv_aload_n d_MO_take_36 rfl ?_
    refine vv_get d_MO_take_37 0 rfl fl_MO_83 rfl ?_
    refine vv_iload d_MO_take_40 rfl ?_
    refine vv_iload_n d_MO_take_42 rfl ?_
    refine vv_iast hw d_MO_take_43 4 0 rfl rfl (by omega) ?_
    dsimp only [List.set]
    refine vv_aload_n d_MO_take_44 rfl ?_
    refine vv_get d_MO_take_45 0 rfl fl_MO_83 rfl ?_
    refine vv_iload d_MO_take_48 rfl ?_
    refine vv_iconst d_MO_take_50 ?_
    refine vv_iadd d_MO_take_51 ?_
    refine vv_iload_n d_MO_take_52 rfl ?_
    refine vv_iast hw d_MO_take_53 4 0 rfl rfl (by omega) ?_
    dsimp only [List.set]
    refine vv_aload_n d_MO_take_54 rfl ?_
    refine vv_get d_MO_take_55 0 rfl fl_MO_83 rfl ?_
    refine vv_iload d_MO_take_58 rfl ?_
    refine vv_iconst d_MO_take_60 ?_
    refine vv_iadd d_MO_take_61 ?_
    refine vv_iload d_MO_take_62 rfl ?_
    refine vv_iast hw d_MO_take_64 4 0 rfl rfl (by omega) ?_
    dsimp only [List.set]
    refine vv_aload_n d_MO_take_65 rfl ?_
    refine vv_get d_MO_take_66 0 rfl fl_MO_83 rfl ?_
    refine vv_iload d_MO_take_69 rfl ?_
    refine vv_iconst d_MO_take_71 ?_
    refine vv_iadd d_MO_take_72 ?_
    refine vv_iload d_MO_take_73 rfl ?_
    refine vv_iast hw d_MO_take_75 4 0 rfl rfl (by omega) ?_
    dsimp only [List.set]
    refine vv_aload_n d_MO_take_76 rfl ?_
    refine vv_get d_MO_take_77 0 rfl fl_MO_83 rfl ?_
    refine vv_iload d_MO_take_80 rfl ?_
    refine vv_iconst d_MO_take_82 ?_
    refine vv_iadd d_MO_take_83 ?_
    refine vv_iload d_MO_take_84 rfl ?_
    refine vv_iast hw d_MO_take_86 4 0 rfl rfl (by omega) ?_
    dsimp only [List.set]
    refine vv_aload_n d_MO_take_87 rfl ?_
    refine vv_get d_MO_take_88 0 rfl fl_MO_68 rfl ?_
    refine vv_iload_n d_MO_take_91 rfl ?_
    refine vv_dup2 d_MO_take_92 rfl rfl ?_
    refine vv_iald d_MO_take_93 2 0 rfl rfl (by omega) ?_
    refine vv_iconst d_MO_take_94 ?_
    refine vv_iadd d_MO_take_95 ?_
    refine vv_iast hw d_MO_take_96 2 0 rfl rfl (by omega) ?_
    dsimp only [List.set]
    refine vv_aload_n d_MO_take_97 rfl ?_
    refine vv_get d_MO_take_98 0 rfl fl_MO_71 rfl ?_
    refine vv_iload_n d_MO_take_101 rfl ?_
    refine vv_dup2 d_MO_take_102 rfl rfl ?_
    refine vv_iald d_MO_take_103 3 0 rfl rfl (by omega) ?_
    refine vv_iload d_MO_take_104 rfl ?_
    refine vv_iload d_MO_take_106 rfl ?_
    refine vv_imul d_MO_take_108 ?_
    refine vv_iadd d_MO_take_109 ?_
    refine vv_iast hw d_MO_take_110 3 0 rfl rfl (by omega) ?_
    dsimp only [List.set]
    exact vv_vret hA hw hr d_MO_take_111 (by decide) (by decide) (by exact ⟨rfl, rfl, rfl⟩)
  · exfalso; omega
set_option maxHeartbeats 4000000 in
set_option maxRecDepth 100000 in
theorem c_MO_take_n (l : Launch) (D : va_G) (m : Nat) (q : Nat → Nat) (K S le cd nS nP rn dn : Int) (cI : ClassId) (t k x y w h : Int) (st tc ta g : Nat → Int) (hk : 0 ≤ k ∧ k < 8) (ht : 0 ≤ t ∧ t < 20) (hst : 0 ≤ st k.toNat ∧ st k.toNat ≤ 1000000) (hp : st k.toNat = 0) : CM l y_MO_take b_MO_take 8 none rm_0 [.ref m, .int (iI t), .int (iI k), .int (iI x), .int (iI y), .int (iI w), .int (iI h)] D [(cI, .int)] ([ob_MO m q K S le cd nS nP rn dn, ar_I (q 16) cI 8 st, ar_I (q 27) cI 20 tc, ar_I (q 28) cI 20 ta, ar_I (q 32) cI 25600 g] ++ []) (fun r w1 p1 _ => r = none ∧ w1 = [ob_MO m q K S le cd nS nP rn dn, ar_I (q 16) cI 8 st, ar_I (q 27) cI 20 tc, ar_I (q 28) cI 20 ta, ar_I (q 32) cI 25600 g] ∧ p1 = []) := by
  refine cm_of (by decide) (Nat.le_of_ble_eq_true rfl) ?_
  intro X sz hl hr hnm hD hA hw
  subst hD
  show VV X (b_MO_take, 8, "SheetTreesModel", rm_0) _ 0 0 [(cI, .int)] [ob_MO m q K S le cd nS nP rn dn, ar_I (q 16) cI 8 st, ar_I (q 27) cI 20 tc, ar_I (q 28) cI 20 ta, ar_I (q 32) cI 25600 g] [] [some (.ref m), some (.int (iI t)), some (.int (iI k)), some (.int (iI x)), some (.int (iI y)), some (.int (iI w)), some (.int (iI h)), none] [] 0
  refine vv_aload_n d_MO_take_0 rfl ?_
  refine vv_get d_MO_take_1 0 rfl fl_MO_41 rfl ?_
  refine vv_iload_n d_MO_take_4 rfl ?_
  refine vv_iald d_MO_take_5 1 0 rfl rfl (by omega) ?_
  refine vv_if_ne (tgt := 10) d_MO_take_6 (by decide) (by omega) (fun c6 => ?_) (fun c6 => ?_)
  · exfalso; omega
  · skip
    exact vv_vret hA hw hr d_MO_take_9 (by decide) (by decide) (by exact ⟨rfl, rfl, rfl⟩)
def lkc (rn dn k w most : Int) : Int := if rn = 0 then 1 else if (0 ≤ k ∧ k ≤ dn - 1) ∧ 0 ≤ w ∧ w ≤ most then 0 else 2
set_option maxHeartbeats 4000000 in
set_option maxRecDepth 100000 in
theorem c_MO_look (l : Launch) (D : va_G) (m : Nat) (q : Nat → Nat) (K S le cd nS nP rn dn : Int) (k w most : Int) (hk : -2147483648 ≤ k ∧ k < 2147483648) (hw1 : -2147483648 ≤ w ∧ w < 2147483648) (hm : 0 ≤ most ∧ most ≤ 16) (hdn : 0 ≤ dn ∧ dn ≤ 20) (hrn : rn = 0 ∨ rn = 1) : CM l y_MO_look b_MO_look 4 none rm_1 [.ref m, .int (iI k), .int (iI w), .int (iI most)] D [] ([ob_MO m q K S le cd nS nP rn dn] ++ []) (fun r w1 p1 _ => r = none ∧ w1 = [ob_MO m q K S le (lkc rn dn k w most) nS nP rn dn] ∧ p1 = []) := by
  refine cm_of (by decide) (Nat.le_of_ble_eq_true rfl) ?_
  intro X sz hl hr hnm hD hA hw
  subst hD
  show VV X (b_MO_look, 4, "SheetTreesModel", rm_1) _ 0 0 [] [ob_MO m q K S le cd nS nP rn dn] [] [some (.ref m), some (.int (iI k)), some (.int (iI w)), some (.int (iI most))] [] 0
  refine vv_aload_n d_MO_look_0 rfl ?_
  refine vv_aload_n d_MO_look_1 rfl ?_
  refine vv_get d_MO_look_2 0 rfl fl_MO_109 rfl ?_
  refine vv_if_ne (tgt := 12) d_MO_look_5 (by decide) (by omega) (fun c5 => ?_) (fun c5 => ?_)
  · skip
    refine vv_iload_n d_MO_look_12 rfl ?_
    refine vv_iconst d_MO_look_13 ?_
    refine vv_aload_n d_MO_look_14 rfl ?_
    refine vv_get d_MO_look_15 0 rfl fl_MO_152 rfl ?_
    refine vv_iconst d_MO_look_18 ?_
    refine vv_isub d_MO_look_19 ?_
    refine vv_pS (wc := []) (plc := []) [.ref m] (c_MO_in (cx_l X) (cx_D X) k 0 (dn - 1) (by omega) (by omega) (by omega)) lk_MO_102 d_MO_look_20 rfl [] ⟨rfl, rfl, Or.inl rfl⟩ [] rfl ⟨⟨by decide, by decide⟩, ⟨by decide, by decide⟩, Nat.le_of_ble_eq_true rfl⟩ ⟨rfl, rfl⟩ ?_
    intro v hv
    subst hv
    dsimp only [Option.toList, List.cons_append, List.nil_append, List.append_nil]
    have hc20 := isW_c k 0 (dn - 1)
    refine vv_if_eq (tgt := 35) d_MO_look_23 (by decide) (by omega) (fun c23 => ?_) (fun c23 => ?_)
    · skip
      refine vv_iconst d_MO_look_35 ?_
      refine vv_goto (tgt := 40) d_MO_look_36 (by decide) ?_
      refine vv_put hw d_MO_look_40 0 rfl fp_MO_99 rfl rfl (Nat.le_of_ble_eq_true rfl) ?_
      dsimp only [List.set]
      have e1 : lkc rn dn k w most = 2 := (by unfold lkc; rw [if_neg (by omega), if_neg (by omega)])
      exact vv_vret hA hw hr d_MO_look_43 (by decide) (by decide) ⟨rfl, by rw [e1], rfl⟩
    · skip
      refine vv_iload_n d_MO_look_26 rfl ?_
      refine vv_iconst d_MO_look_27 ?_
      refine vv_iload_n d_MO_look_28 rfl ?_
      refine vv_pS (wc := []) (plc := []) [.ref m] (c_MO_in (cx_l X) (cx_D X) w 0 most (by omega) (by omega) (by omega)) lk_MO_102 d_MO_look_29 rfl [] ⟨rfl, rfl, Or.inl rfl⟩ [] rfl ⟨⟨by decide, by decide⟩, ⟨by decide, by decide⟩, Nat.le_of_ble_eq_true rfl⟩ ⟨rfl, rfl⟩ ?_
      intro v hv
      subst hv
      dsimp only [Option.toList, List.cons_append, List.nil_append, List.append_nil]
      have hc29 := isW_c w 0 most
      refine vv_if_ne (tgt := 39) d_MO_look_32 (by decide) (by omega) (fun c32 => ?_) (fun c32 => ?_)
      · skip
        refine vv_iconst d_MO_look_39 ?_
        refine vv_put hw d_MO_look_40 0 rfl fp_MO_99 rfl rfl (Nat.le_of_ble_eq_true rfl) ?_
        dsimp only [List.set]
        have e1 : lkc rn dn k w most = 0 := (by unfold lkc; rw [if_neg (by omega), if_pos (by omega)])
        exact vv_vret hA hw hr d_MO_look_43 (by decide) (by decide) ⟨rfl, by rw [e1], rfl⟩
      · skip
        refine vv_iconst d_MO_look_35 ?_
        refine vv_goto (tgt := 40) d_MO_look_36 (by decide) ?_
        refine vv_put hw d_MO_look_40 0 rfl fp_MO_99 rfl rfl (Nat.le_of_ble_eq_true rfl) ?_
        dsimp only [List.set]
        have e1 : lkc rn dn k w most = 2 := (by unfold lkc; rw [if_neg (by omega), if_neg (by omega)])
        exact vv_vret hA hw hr d_MO_look_43 (by decide) (by decide) ⟨rfl, by rw [e1], rfl⟩
  · skip
    refine vv_iconst d_MO_look_8 ?_
    refine vv_goto (tgt := 40) d_MO_look_9 (by decide) ?_
    refine vv_put hw d_MO_look_40 0 rfl fp_MO_99 rfl rfl (Nat.le_of_ble_eq_true rfl) ?_
    dsimp only [List.set]
    have e1 : lkc rn dn k w most = 1 := (by unfold lkc; rw [if_pos (by omega)])
    exact vv_vret hA hw hr d_MO_look_43 (by decide) (by decide) ⟨rfl, by rw [e1], rfl⟩
set_option maxHeartbeats 4000000 in
set_option maxRecDepth 100000 in
theorem c_MO_thrown (l : Launch) (D : va_G) (m : Nat) (q : Nat → Nat) (K S le cd nS nP rn dn : Int) : CP l y_MO_thrown b_MO_thrown 1 (some .int) rm_0 [.ref m] D [] ([ob_MO m q K S le cd nS nP rn dn] ++ []) (fun r => r = some (.int (iI cd))) := by
  refine cp_of (by decide) (Nat.le_of_ble_eq_true rfl) ?_
  intro X sz hl hr hD hA
  subst hD
  show VV X (b_MO_thrown, 1, "SheetTreesModel", rm_0) _ 0 0 [] [ob_MO m q K S le cd nS nP rn dn] [] [some (.ref m)] [] 0
  refine vv_aload_n d_MO_thrown_0 rfl ?_
  refine vv_get d_MO_thrown_1 0 rfl fl_MO_99 rfl ?_
  exact vp_iret hA hr d_MO_thrown_4 (by decide) (by decide) (by rfl)
