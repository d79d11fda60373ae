/-! SheetTreesModel: fillOne, fill -/
def MI (T : mt_T) : Prop := ∀ s d w h : Int, 0 ≤ s → s ≤ 3 → 0 ≤ d → d ≤ 1 → 1 ≤ w → w ≤ 16 → 1 ≤ h → h ≤ 16 → (0 ≤ T.1 (mp s d w h).toNat ∧ T.1 (mp s d w h).toNat ≤ w * h) ∧ 0 ≤ T.2.1 (mp s d w h).toNat ∧ T.2.1 (mp s d w h).toNat ≤ w * h - 1
theorem MI_up {T : mt_T} {s d w h v c x : Int} (hT : MI T) (hs : 0 ≤ s ∧ s ≤ 3) (hd : 0 ≤ d ∧ d ≤ 1) (hw : 1 ≤ w ∧ w ≤ 16) (hh : 1 ≤ h ∧ h ≤ 16) (hv : 0 ≤ v ∧ v ≤ w * h) (hc : 0 ≤ c ∧ c ≤ w * h - 1) : MI (bt_up (mp s d w h).toNat v c x T) := by
  intro s' d' w' h' a1 a2 a3 a4 a5 a6 a7 a8
  show (0 ≤ va_up T.1 _ v _ ∧ va_up T.1 _ v _ ≤ _) ∧ 0 ≤ va_up T.2.1 _ c _ ∧ va_up T.2.1 _ c _ ≤ _
  by_cases e : (mp s' d' w' h').toNat = (mp s d w h).toNat
  · obtain ⟨e1, e2, e3, e4⟩ := mp_ne ⟨a1, a2⟩ ⟨a3, a4⟩ ⟨by omega, a6⟩ ⟨by omega, a8⟩ hs hd ⟨by omega, hw.2⟩ ⟨by omega, hh.2⟩ e
    subst e1; subst e2; subst e3; subst e4
    rw [va_up_self, va_up_self]
    exact ⟨hv, hc⟩
  · rw [va_up_ne _ _ e, va_up_ne _ _ e]
    exact hT s' d' w' h' a1 a2 a3 a4 a5 a6 a7 a8
theorem MI_bt {T : mt_T} {s d w h v c x : Int} (hT : MI T) (hs : 0 ≤ s ∧ s ≤ 3) (hd : 0 ≤ d ∧ d ≤ 1) (hw : 1 ≤ w ∧ w ≤ 16) (hh : 1 ≤ h ∧ h ≤ 16) (hv : 0 ≤ v ∧ v ≤ w * h) (hc : 0 ≤ c ∧ c ≤ w * h - 1) : MI (bt (mp s d w h).toNat v c x T) := by
  unfold bt
  split
  · exact MI_up hT hs hd hw hh hv hc
  · exact hT
def fo_p (pw ph tu wa : Nat → Int) (at_ : Nat) (w h : Int) (T : mt_T) : Nat → mt_T
  | 0 => T
  | k + 1 => if 0 < wa k ∧ jst pw ph tu k w h = 1 then bt at_ (w * h) 0 (k : Int) (fo_p pw ph tu wa at_ w h T k) else fo_p pw ph tu wa at_ w h T k
def fo_one (s d w h c : Int) : Nat := (if d = 0 then mp (s - 1) 1 c h else mp (s - 1) 0 w c).toNat
def fo_two (s d w h r : Int) : Nat := (if d = 0 then mp s 0 r h else mp s 1 w r).toNat
def fo_v (K s d w h c : Int) (T : mt_T) : Int := T.1 (fo_one s d w h c) + (if 0 < (if d = 0 then w else h) - c - K then T.1 (fo_two s d w h ((if d = 0 then w else h) - c - K)) else 0)
def fo_n (K s d w h c : Int) (T : mt_T) : Int := 1 + T.2.1 (fo_one s d w h c) + (if 0 < (if d = 0 then w else h) - c - K then T.2.1 (fo_two s d w h ((if d = 0 then w else h) - c - K)) else 0)
def fo_c (K s d w h : Int) (T : mt_T) : Nat → mt_T
  | 0 => T
  | n + 1 => bt (mp s d w h).toNat (fo_v K s d w h ((n : Int) + 1) (fo_c K s d w h T n)) (fo_n K s d w h ((n : Int) + 1) (fo_c K s d w h T n)) (16 + ((n : Int) + 1)) (fo_c K s d w h T n)
def fo_L (s d w h : Int) : Nat := if 0 < s then ((if d = 0 then w else h) - 1).toNat else 0
def fo (pw ph tu wa : Nat → Int) (nP : Nat) (K s d w h : Int) (T : mt_T) : mt_T := fo_c K s d w h (fo_p pw ph tu wa (mp s d w h).toNat w h (bt_up (mp s d w h).toNat 0 0 (-1) T) nP) (fo_L s d w h)
theorem wh1 {w h : Int} (hw : 1 ≤ w ∧ w ≤ 16) (hh : 1 ≤ h ∧ h ≤ 16) : 1 ≤ w * h ∧ w * h ≤ 256 := by
  have a := Int.mul_le_mul (a := 1) (b := 1) (c := w) (d := h) (by omega) (by omega) (by omega) (by omega)
  have b := area_le (w := w) (h := h) (by omega) (by omega) (by omega) (by omega)
  omega
theorem MI_p {pw ph tu wa : Nat → Int} {s d w h : Int} {T : mt_T} (hT : MI T) (hs : 0 ≤ s ∧ s ≤ 3) (hd : 0 ≤ d ∧ d ≤ 1) (hw : 1 ≤ w ∧ w ≤ 16) (hh : 1 ≤ h ∧ h ≤ 16) : ∀ k : Nat, MI (fo_p pw ph tu wa (mp s d w h).toNat w h T k)
  | 0 => hT
  | k + 1 => by
    have ih := MI_p (pw := pw) (ph := ph) (tu := tu) (wa := wa) hT hs hd hw hh k
    have h1 := wh1 hw hh
    unfold fo_p
    split
    · exact MI_bt ih hs hd hw hh (by omega) (by omega)
    · exact ih
theorem fo_bd {K s d w h c : Int} {T : mt_T} (hT : MI T) (hK : 0 ≤ K) (hs : 1 ≤ s ∧ s ≤ 3) (hd : d = 0 ∨ d = 1) (hw : 1 ≤ w ∧ w ≤ 16) (hh : 1 ≤ h ∧ h ≤ 16) (hc : 1 ≤ c ∧ c < (if d = 0 then w else h)) : (0 ≤ fo_v K s d w h c T ∧ fo_v K s d w h c T ≤ w * h) ∧ 0 ≤ fo_n K s d w h c T ∧ fo_n K s d w h c T ≤ w * h - 1 := by
  unfold fo_v fo_n fo_one fo_two
  rcases hd with rfl | rfl
  · simp only [if_true, eq_self] at hc ⊢
    have h1 := hT (s - 1) 1 c h (by omega) (by omega) (by decide) (by decide) hc.1 (by omega) hh.1 hh.2
    have e1 : c * h + (w - c) * h = w * h := by rw [← Int.add_mul]; congr 1; omega
    have e0 : 1 * h ≤ (w - c) * h := mono_le (by omega) (by omega)
    split
    · rename_i hr
      have h2 := hT s 0 (w - c - K) h (by omega) (by omega) (by decide) (by decide) (by omega) (by omega) hh.1 hh.2
      have e2 : (w - c - K) * h ≤ (w - c) * h := mono_le (by omega) (by omega)
      omega
    · omega
  · have hne : ¬ ((1 : Int) = 0) := by decide
    simp only [if_neg hne] at hc ⊢
    have h1 := hT (s - 1) 0 w c (by omega) (by omega) (by decide) (by decide) hw.1 hw.2 hc.1 (by omega)
    have e1 : w * c + w * (h - c) = w * h := by rw [← Int.mul_add]; congr 1; omega
    have e0 : w * 1 ≤ w * (h - c) := Int.mul_le_mul_of_nonneg_left (by omega) (by omega)
    split
    · rename_i hr
      have h2 := hT s 1 w (h - c - K) (by omega) (by omega) (by decide) (by decide) hw.1 hw.2 (by omega) (by omega)
      have e2 : w * (h - c - K) ≤ w * (h - c) := Int.mul_le_mul_of_nonneg_left (by omega) (by omega)
      omega
    · omega
theorem MI_c {K s d w h : Int} {T : mt_T} (hT : MI T) (hK : 0 ≤ K) (hs : 1 ≤ s ∧ s ≤ 3) (hd : d = 0 ∨ d = 1) (hw : 1 ≤ w ∧ w ≤ 16) (hh : 1 ≤ h ∧ h ≤ 16) : ∀ n : Nat, (n : Int) < (if d = 0 then w else h) → MI (fo_c K s d w h T n)
  | 0, _ => hT
  | n + 1, hn => by
    have ih := MI_c hT hK hs hd hw hh n (by omega)
    have h1 := fo_bd ih hK hs hd hw hh (c := (n : Int) + 1) (by omega)
    unfold fo_c
    exact MI_bt ih (by omega) (by omega) hw hh h1.1 h1.2
theorem MI_fo {pw ph tu wa : Nat → Int} {nP : Nat} {K s d w h : Int} {T : mt_T} (hT : MI T) (hK : 0 ≤ K) (hs : 0 ≤ s ∧ s ≤ 3) (hd : d = 0 ∨ d = 1) (hw : 1 ≤ w ∧ w ≤ 16) (hh : 1 ≤ h ∧ h ≤ 16) : MI (fo pw ph tu wa nP K s d w h T) := by
  have h0 := wh1 hw hh
  have h1 : MI (fo_p pw ph tu wa (mp s d w h).toNat w h (bt_up (mp s d w h).toNat 0 0 (-1) T) nP) := MI_p (MI_up hT hs (by omega) hw hh (by omega) (by omega)) hs (by omega) hw hh nP
  unfold fo fo_L
  split
  · exact MI_c h1 hK (by omega) hd hw hh _ (by rcases hd with rfl | rfl <;> simp <;> omega)
  · exact h1
set_option maxHeartbeats 4000000 in
set_option maxRecDepth 100000 in
theorem c_MO_fillOne_0 (l : Launch) (D : va_G) (m nP : Nat) (q : Nat → Nat) (K S le cd nS rn dn : Int) (cI cZ : ClassId) (pw ph tu wa : Nat → Int) (T : mt_T) (s w h : Int) (hnP : nP ≤ 8) (hK : 0 ≤ K ∧ K ≤ 3) (hb : ∀ i : Nat, i < 8 → (0 ≤ pw i ∧ pw i ≤ 16) ∧ (0 ≤ ph i ∧ ph i ≤ 16) ∧ 0 ≤ tu i ∧ tu i ≤ 1) (hwa : ∀ i : Nat, i < 8 → 0 ≤ wa i ∧ wa i ≤ 1000000) (hT : MI T) (hs : 0 ≤ s ∧ s ≤ 3) (hw1 : 1 ≤ w ∧ w ≤ 16) (hh1 : 1 ≤ h ∧ h ≤ 16) : CM l y_MO_fillOne b_MO_fillOne 13 none rm_1 [.ref m, .int (iI s), .int (iI 0), .int (iI w), .int (iI h)] D [(cI, .int), (cZ, .boolean)] ([ob_MO m q K S le cd nS (nP : Int) rn dn, ar_I (q 10) cI 8 pw, ar_I (q 11) cI 8 ph, ar_I (q 13) cZ 8 tu, ar_I (q 14) cI 8 wa, ar_I (q 17) cI 2312 T.1, ar_I (q 18) cI 2312 T.2.1, ar_I (q 19) cI 2312 T.2.2] ++ []) (fun r w1 p1 _ => r = none ∧ w1 = [ob_MO m q K S le cd nS (nP : Int) rn dn, ar_I (q 10) cI 8 pw, ar_I (q 11) cI 8 ph, ar_I (q 13) cZ 8 tu, ar_I (q 14) cI 8 wa, ar_I (q 17) cI 2312 (fo pw ph tu wa nP K s 0 w h T).1, ar_I (q 18) cI 2312 (fo pw ph tu wa nP K s 0 w h T).2.1, ar_I (q 19) cI 2312 (fo pw ph tu wa nP K s 0 w h T).2.2] ∧ p1 = []) := by
  refine cm_of (by decide) (Nat.le_of_ble_eq_true rfl) ?_
  intro X sz hl hr hnm hD hA hw
  subst hD
  have hat := mp_bd (s := s) (d := 0) (w := w) (h := h) hs (by decide) (by omega) (by omega)
  have hwh := wh1 hw1 hh1
  have hT0 : MI (bt_up (mp s 0 w h).toNat 0 0 (-1) T) := MI_up hT hs (by decide) hw1 hh1 (by omega) (by omega)
  have loopC : 1 ≤ s → ∀ n i : Nat, i + n = (w - 1).toNat → ∀ (T1 : mt_T) (v8 v9 v10 v11 v12 : Option Value), fo_c K s 0 w h (fo_p pw ph tu wa (mp s 0 w h).toNat w h (bt_up (mp s 0 w h).toNat 0 0 (-1) T) nP) i = T1 → VV X (b_MO_fillOne, 13, "SheetTreesModel", rm_1) (cq X ([ob_MO m q K S le cd nS (nP : Int) rn dn, ar_I (q 10) cI 8 pw, ar_I (q 11) cI 8 ph, ar_I (q 13) cZ 8 tu, ar_I (q 14) cI 8 wa, ar_I (q 17) cI 2312 T.1, ar_I (q 18) cI 2312 T.2.1, ar_I (q 19) cI 2312 T.2.2] ++ []) sz (fun r w1 p1 _ => r = none ∧ w1 = [ob_MO m q K S le cd nS (nP : Int) rn dn, ar_I (q 10) cI 8 pw, ar_I (q 11) cI 8 ph, ar_I (q 13) cZ 8 tu, ar_I (q 14) cI 8 wa, ar_I (q 17) cI 2312 (fo pw ph tu wa nP K s 0 w h T).1, ar_I (q 18) cI 2312 (fo pw ph tu wa nP K s 0 w h T).2.1, ar_I (q 19) cI 2312 (fo pw ph tu wa nP K s 0 w h T).2.2] ∧ p1 = []) rm_1) 0 0 [(cI, .int), (cZ, .boolean)] [ob_MO m q K S le cd nS (nP : Int) rn dn, ar_I (q 10) cI 8 pw, ar_I (q 11) cI 8 ph, ar_I (q 13) cZ 8 tu, ar_I (q 14) cI 8 wa, ar_I (q 17) cI 2312 T1.1, ar_I (q 18) cI 2312 T1.2.1, ar_I (q 19) cI 2312 T1.2.2] [] [some (.ref m), some (.int (iI s)), some (.int (iI 0)), some (.int (iI w)), some (.int (iI h)), some (.int (iI (mp s 0 w h))), some (.int (iI w)), some (.int (iI ((i : Int) + 1))), v8, v9, v10, v11, v12] [] 102 := by
    intro hs1 n
    induction n with
    | zero =>
      intro i hi T1 v8 v9 v10 v11 v12 hT1
      have hfin : (fo pw ph tu wa nP K s 0 w h T) = T1 := by
        unfold fo fo_L
        rw [if_pos (by omega), if_pos rfl, ← hT1]
        congr 1
        omega
      refine vv_iload d_MO_fillOne_102 rfl ?_
      refine vv_iload d_MO_fillOne_104 rfl ?_
      refine vv_icmp_ge (tgt := 251) d_MO_fillOne_106 (by decide) ⟨by omega, by omega⟩ (fun c106 => ?_) (fun c106 => ?_)
      · skip
        exact vv_vret hA hw hr d_MO_fillOne_251 (by decide) (by decide) ⟨rfl, by rw [hfin], rfl⟩
      · exfalso; omega
    | succ n ih =>
      intro i hi T1 v8 v9 v10 v11 v12 hT1
      have hMI : MI T1 := by
        rw [← hT1]
        exact MI_c (MI_p hT0 hs (by decide) hw1 hh1 nP) hK.1 (by omega) (Or.inl rfl) hw1 hh1 i (by rw [if_pos rfl]; omega)
      have hone := mp_bd (s := s - 1) (d := 1) (w := (i : Int) + 1) (h := h) (by omega) (by decide) (by omega) (by omega)
      have hm1 := hMI (s - 1) 1 ((i : Int) + 1) h (by omega) (by omega) (by decide) (by decide) (by omega) (by omega) (by omega) (by omega)
      have har := area_le (w := (i : Int) + 1) (h := h) (by omega) (by omega) (by omega) (by omega)
      have hbd := fo_bd (s := s) (d := 0) (w := w) (h := h) (K := K) (c := (i : Int) + 1) hMI hK.1 (by omega) (Or.inl rfl) hw1 hh1 (by rw [if_pos rfl]; omega)
      have hatv := hMI s 0 w h hs.1 hs.2 (by decide) (by decide) hw1.1 hw1.2 hh1.1 hh1.2
      have h9 := ih (i + 1) (by omega)
      have hgo : fo_c K s 0 w h (fo_p pw ph tu wa (mp s 0 w h).toNat w h (bt_up (mp s 0 w h).toNat 0 0 (-1) T) nP) (i + 1) = bt (mp s 0 w h).toNat (fo_v K s 0 w h ((i : Int) + 1) T1) (fo_n K s 0 w h ((i : Int) + 1) T1) (16 + ((i : Int) + 1)) T1 := by rw [← hT1]; rfl
      have ev : fo_v K s 0 w h ((i : Int) + 1) T1 = T1.1 (mp (s - 1) 1 ((i : Int) + 1) h).toNat + (if 0 < (w - ((i : Int) + 1) - K) then T1.1 (mp s 0 (w - ((i : Int) + 1) - K) h).toNat else 0) := rfl
      have en : fo_n K s 0 w h ((i : Int) + 1) T1 = 1 + T1.2.1 (mp (s - 1) 1 ((i : Int) + 1) h).toNat + (if 0 < (w - ((i : Int) + 1) - K) then T1.2.1 (mp s 0 (w - ((i : Int) + 1) - K) h).toNat else 0) := rfl
      refine vv_iload d_MO_fillOne_102 rfl ?_
      refine vv_iload d_MO_fillOne_104 rfl ?_
      refine vv_icmp_ge (tgt := 251) d_MO_fillOne_106 (by decide) ⟨by omega, by omega⟩ (fun c106 => ?_) (fun c106 => ?_)
      · exfalso; omega
      · skip
        refine vv_iload_n d_MO_fillOne_109 rfl ?_
        refine vv_if_le (tgt := 251) d_MO_fillOne_110 (by decide) (by omega) (fun c110 => ?_) (fun c110 => ?_)
        · exfalso; omega
        · skip
          refine vv_iload_n d_MO_fillOne_113 rfl ?_
          refine vv_if_ne (tgt := 131) d_MO_fillOne_114 (by decide) (by omega) (fun c114 => ?_) (fun c114 => ?_)
          · exfalso; omega
          · skip
            refine vv_iload_n d_MO_fillOne_117 rfl ?_
            refine vv_iconst d_MO_fillOne_118 ?_
            refine vv_isub d_MO_fillOne_119 ?_
            refine vv_iconst d_MO_fillOne_120 ?_
            refine vv_iload d_MO_fillOne_121 rfl ?_
            refine vv_iload d_MO_fillOne_123 rfl ?_
            refine vv_pS (wc := []) (plc := []) [] (c_MO_place (cx_l X) (cx_D X) (s - 1) 1 ((i : Int) + 1) h) lk_MO_116 d_MO_fillOne_125 rfl [] ⟨rfl, rfl, Or.inl rfl⟩ [] rfl ⟨⟨by decide, by decide⟩, ⟨by decide, by decide⟩, Nat.le_of_ble_eq_true rfl⟩ ⟨rfl, rfl⟩ ?_
            intro v hv
            subst hv
            dsimp only [Option.toList, List.cons_append, List.nil_append, List.append_nil]
            refine vv_goto (tgt := 141) d_MO_fillOne_128 (by decide) ?_
            refine vv_istore d_MO_fillOne_141 rfl (by decide) ?_
            dsimp only [List.set]
            refine vv_iload d_MO_fillOne_143 rfl ?_
            refine vv_iload d_MO_fillOne_145 rfl ?_
            refine vv_isub d_MO_fillOne_147 ?_
            refine vv_aload_n d_MO_fillOne_148 rfl ?_
            refine vv_get d_MO_fillOne_149 0 rfl fl_MO_89 rfl ?_
            refine vv_isub d_MO_fillOne_152 ?_
            refine vv_istore d_MO_fillOne_153 rfl (by decide) ?_
            dsimp only [List.set]
            refine vv_aload_n d_MO_fillOne_155 rfl ?_
            refine vv_get d_MO_fillOne_156 0 rfl fl_MO_44 rfl ?_
            refine vv_iload d_MO_fillOne_159 rfl ?_
            refine vv_iald d_MO_fillOne_161 5 0 rfl rfl (by omega) ?_
            refine vv_istore d_MO_fillOne_162 rfl (by decide) ?_
            dsimp only [List.set]
            refine vv_iconst d_MO_fillOne_164 ?_
            refine vv_aload_n d_MO_fillOne_165 rfl ?_
            refine vv_get d_MO_fillOne_166 0 rfl fl_MO_47 rfl ?_
            refine vv_iload d_MO_fillOne_169 rfl ?_
            refine vv_iald d_MO_fillOne_171 6 0 rfl rfl (by omega) ?_
            refine vv_iadd d_MO_fillOne_172 ?_
            refine vv_istore d_MO_fillOne_173 rfl (by decide) ?_
            dsimp only [List.set]
            refine vv_iload d_MO_fillOne_175 rfl ?_
            refine vv_if_le (tgt := 230) d_MO_fillOne_177 (by decide) (by omega) (fun c177 => ?_) (fun c177 => ?_)
            · skip
              refine vv_aload_n d_MO_fillOne_230 rfl ?_
              refine vv_iload d_MO_fillOne_231 rfl ?_
              refine vv_iload d_MO_fillOne_233 rfl ?_
              refine vv_iload d_MO_fillOne_235 rfl ?_
              refine vv_bipush d_MO_fillOne_237 (by decide +kernel) ?_
              refine vv_iload d_MO_fillOne_239 rfl ?_
              refine vv_iadd d_MO_fillOne_241 ?_
              rw [if_neg (by omega), Int.add_zero] at ev en
              rw [ev, en] at hgo hbd
              refine vv_nV hw (wc := [ob_MO m q K S le cd nS (nP : Int) rn dn, ar_I (q 17) cI 2312 T1.1, ar_I (q 18) cI 2312 T1.2.1, ar_I (q 19) cI 2312 T1.2.2]) (wr := [ar_I (q 10) cI 8 pw, ar_I (q 11) cI 8 ph, ar_I (q 13) cZ 8 tu, ar_I (q 14) cI 8 wa]) [] (c_MO_better (cx_l X) (cx_D X) m q K S le cd nS (nP : Int) rn dn cI T1 (mp s 0 w h) (T1.1 (mp (s - 1) 1 ((i : Int) + 1) h).toNat) (1 + T1.2.1 (mp (s - 1) 1 ((i : Int) + 1) h).toNat) (16 + ((i : Int) + 1)) hat (by omega) (by omega) (by omega) (by omega)) lk_MO_123 d_MO_fillOne_242 rfl (rc_at 0 rfl rfl rfl) [0, 5, 6, 7] [1, 2, 3, 4] ⟨rfl, rfl⟩ ⟨rfl, rfl, by decide⟩ [0] rfl ⟨⟨by decide, by decide⟩, ⟨by decide, by decide⟩, Nat.le_of_ble_eq_true rfl⟩ ⟨rfl, rfl⟩ ?_
              rintro v w1 p1 t1 ⟨rfl, rfl, rfl⟩
              dsimp only [Option.toList, List.cons_append, List.nil_append, List.append_nil]
              refine vv_sub (ws' := [ob_MO m q K S le cd nS (nP : Int) rn dn, ar_I (q 10) cI 8 pw, ar_I (q 11) cI 8 ph, ar_I (q 13) cZ 8 tu, ar_I (q 14) cI 8 wa, ar_I (q 17) cI 2312 (bt (mp s 0 w h).toNat (T1.1 (mp (s - 1) 1 ((i : Int) + 1) h).toNat) (1 + T1.2.1 (mp (s - 1) 1 ((i : Int) + 1) h).toNat) (16 + ((i : Int) + 1)) T1).1, ar_I (q 18) cI 2312 (bt (mp s 0 w h).toNat (T1.1 (mp (s - 1) 1 ((i : Int) + 1) h).toNat) (1 + T1.2.1 (mp (s - 1) 1 ((i : Int) + 1) h).toNat) (16 + ((i : Int) + 1)) T1).2.1, ar_I (q 19) cI 2312 (bt (mp s 0 w h).toNat (T1.1 (mp (s - 1) 1 ((i : Int) + 1) h).toNat) (1 + T1.2.1 (mp (s - 1) 1 ((i : Int) + 1) h).toNat) (16 + ((i : Int) + 1)) T1).2.2]) [4, 0, 1, 2, 3, 5, 6, 7] rfl rfl ?_
              refine vv_iinc d_MO_fillOne_245 rfl rfl (by decide) ?_
              dsimp only [List.set]
              refine vv_goto (tgt := 102) d_MO_fillOne_248 (by decide) ?_
              exact h9 _ _ _ _ _ _ hgo
            · have htwo := mp_bd (s := s) (d := 0) (w := (w - ((i : Int) + 1) - K)) (h := h) (by omega) (by decide) (by omega) (by omega)
              have hm2 := hMI s 0 (w - ((i : Int) + 1) - K) h (by omega) (by omega) (by decide) (by decide) (by omega) (by omega) (by omega) (by omega)
              refine vv_iload_n d_MO_fillOne_180 rfl ?_
              refine vv_if_ne (tgt := 196) d_MO_fillOne_181 (by decide) (by omega) (fun c181 => ?_) (fun c181 => ?_)
              · exfalso; omega
              · skip
                refine vv_iload_n d_MO_fillOne_184 rfl ?_
                refine vv_iconst d_MO_fillOne_185 ?_
                refine vv_iload d_MO_fillOne_186 rfl ?_
                refine vv_iload d_MO_fillOne_188 rfl ?_
                refine vv_pS (wc := []) (plc := []) [] (c_MO_place (cx_l X) (cx_D X) s 0 (w - ((i : Int) + 1) - K) h) lk_MO_116 d_MO_fillOne_190 rfl [] ⟨rfl, rfl, Or.inl rfl⟩ [] rfl ⟨⟨by decide, by decide⟩, ⟨by decide, by decide⟩, Nat.le_of_ble_eq_true rfl⟩ ⟨rfl, rfl⟩ ?_
                intro v hv
                subst hv
                dsimp only [Option.toList, List.cons_append, List.nil_append, List.append_nil]
                refine vv_goto (tgt := 204) d_MO_fillOne_193 (by decide) ?_
                refine vv_istore d_MO_fillOne_204 rfl (by decide) ?_
                dsimp only [List.set]
                refine vv_iload d_MO_fillOne_206 rfl ?_
                refine vv_aload_n d_MO_fillOne_208 rfl ?_
                refine vv_get d_MO_fillOne_209 0 rfl fl_MO_44 rfl ?_
                refine vv_iload d_MO_fillOne_212 rfl ?_
                refine vv_iald d_MO_fillOne_214 5 0 rfl rfl (by omega) ?_
                refine vv_iadd d_MO_fillOne_215 ?_
                refine vv_istore d_MO_fillOne_216 rfl (by decide) ?_
                dsimp only [List.set]
                refine vv_iload d_MO_fillOne_218 rfl ?_
                refine vv_aload_n d_MO_fillOne_220 rfl ?_
                refine vv_get d_MO_fillOne_221 0 rfl fl_MO_47 rfl ?_
                refine vv_iload d_MO_fillOne_224 rfl ?_
                refine vv_iald d_MO_fillOne_226 6 0 rfl rfl (by omega) ?_
                refine vv_iadd d_MO_fillOne_227 ?_
                refine vv_istore d_MO_fillOne_228 rfl (by decide) ?_
                dsimp only [List.set]
                refine vv_aload_n d_MO_fillOne_230 rfl ?_
                refine vv_iload d_MO_fillOne_231 rfl ?_
                refine vv_iload d_MO_fillOne_233 rfl ?_
                refine vv_iload d_MO_fillOne_235 rfl ?_
                refine vv_bipush d_MO_fillOne_237 (by decide +kernel) ?_
                refine vv_iload d_MO_fillOne_239 rfl ?_
                refine vv_iadd d_MO_fillOne_241 ?_
                rw [if_pos (by omega)] at ev en
                rw [ev, en] at hgo hbd
                refine vv_nV hw (wc := [ob_MO m q K S le cd nS (nP : Int) rn dn, ar_I (q 17) cI 2312 T1.1, ar_I (q 18) cI 2312 T1.2.1, ar_I (q 19) cI 2312 T1.2.2]) (wr := [ar_I (q 10) cI 8 pw, ar_I (q 11) cI 8 ph, ar_I (q 13) cZ 8 tu, ar_I (q 14) cI 8 wa]) [] (c_MO_better (cx_l X) (cx_D X) m q K S le cd nS (nP : Int) rn dn cI T1 (mp s 0 w h) (T1.1 (mp (s - 1) 1 ((i : Int) + 1) h).toNat + T1.1 (mp s 0 (w - ((i : Int) + 1) - K) h).toNat) (1 + T1.2.1 (mp (s - 1) 1 ((i : Int) + 1) h).toNat + T1.2.1 (mp s 0 (w - ((i : Int) + 1) - K) h).toNat) (16 + ((i : Int) + 1)) hat (by omega) (by omega) (by omega) (by omega)) lk_MO_123 d_MO_fillOne_242 rfl (rc_at 0 rfl rfl rfl) [0, 5, 6, 7] [1, 2, 3, 4] ⟨rfl, rfl⟩ ⟨rfl, rfl, by decide⟩ [0] rfl ⟨⟨by decide, by decide⟩, ⟨by decide, by decide⟩, Nat.le_of_ble_eq_true rfl⟩ ⟨rfl, rfl⟩ ?_
                rintro v w1 p1 t1 ⟨rfl, rfl, rfl⟩
                dsimp only [Option.toList, List.cons_append, List.nil_append, List.append_nil]
                refine vv_sub (ws' := [ob_MO m q K S le cd nS (nP : Int) rn dn, ar_I (q 10) cI 8 pw, ar_I (q 11) cI 8 ph, ar_I (q 13) cZ 8 tu, ar_I (q 14) cI 8 wa, ar_I (q 17) cI 2312 (bt (mp s 0 w h).toNat (T1.1 (mp (s - 1) 1 ((i : Int) + 1) h).toNat + T1.1 (mp s 0 (w - ((i : Int) + 1) - K) h).toNat) (1 + T1.2.1 (mp (s - 1) 1 ((i : Int) + 1) h).toNat + T1.2.1 (mp s 0 (w - ((i : Int) + 1) - K) h).toNat) (16 + ((i : Int) + 1)) T1).1, ar_I (q 18) cI 2312 (bt (mp s 0 w h).toNat (T1.1 (mp (s - 1) 1 ((i : Int) + 1) h).toNat + T1.1 (mp s 0 (w - ((i : Int) + 1) - K) h).toNat) (1 + T1.2.1 (mp (s - 1) 1 ((i : Int) + 1) h).toNat + T1.2.1 (mp s 0 (w - ((i : Int) + 1) - K) h).toNat) (16 + ((i : Int) + 1)) T1).2.1, ar_I (q 19) cI 2312 (bt (mp s 0 w h).toNat (T1.1 (mp (s - 1) 1 ((i : Int) + 1) h).toNat + T1.1 (mp s 0 (w - ((i : Int) + 1) - K) h).toNat) (1 + T1.2.1 (mp (s - 1) 1 ((i : Int) + 1) h).toNat + T1.2.1 (mp s 0 (w - ((i : Int) + 1) - K) h).toNat) (16 + ((i : Int) + 1)) T1).2.2]) [4, 0, 1, 2, 3, 5, 6, 7] rfl rfl ?_
                refine vv_iinc d_MO_fillOne_245 rfl rfl (by decide) ?_
                dsimp only [List.set]
                refine vv_goto (tgt := 102) d_MO_fillOne_248 (by decide) ?_
                exact h9 _ _ _ _ _ _ hgo
  have after : ∀ (T1 : mt_T) (v6 v7 v8 v9 v10 v11 v12 : Option Value), (fo_p pw ph tu wa (mp s 0 w h).toNat w h (bt_up (mp s 0 w h).toNat 0 0 (-1) T) nP) = T1 → VV X (b_MO_fillOne, 13, "SheetTreesModel", rm_1) (cq X ([ob_MO m q K S le cd nS (nP : Int) rn dn, ar_I (q 10) cI 8 pw, ar_I (q 11) cI 8 ph, ar_I (q 13) cZ 8 tu, ar_I (q 14) cI 8 wa, ar_I (q 17) cI 2312 T.1, ar_I (q 18) cI 2312 T.2.1, ar_I (q 19) cI 2312 T.2.2] ++ []) sz (fun r w1 p1 _ => r = none ∧ w1 = [ob_MO m q K S le cd nS (nP : Int) rn dn, ar_I (q 10) cI 8 pw, ar_I (q 11) cI 8 ph, ar_I (q 13) cZ 8 tu, ar_I (q 14) cI 8 wa, ar_I (q 17) cI 2312 (fo pw ph tu wa nP K s 0 w h T).1, ar_I (q 18) cI 2312 (fo pw ph tu wa nP K s 0 w h T).2.1, ar_I (q 19) cI 2312 (fo pw ph tu wa nP K s 0 w h T).2.2] ∧ p1 = []) rm_1) 0 0 [(cI, .int), (cZ, .boolean)] [ob_MO m q K S le cd nS (nP : Int) rn dn, ar_I (q 10) cI 8 pw, ar_I (q 11) cI 8 ph, ar_I (q 13) cZ 8 tu, ar_I (q 14) cI 8 wa, ar_I (q 17) cI 2312 T1.1, ar_I (q 18) cI 2312 T1.2.1, ar_I (q 19) cI 2312 T1.2.2] [] [some (.ref m), some (.int (iI s)), some (.int (iI 0)), some (.int (iI w)), some (.int (iI h)), some (.int (iI (mp s 0 w h))), v6, v7, v8, v9, v10, v11, v12] [] 87 := by
    intro T1 v6 v7 v8 v9 v10 v11 v12 hT1
    by_cases hs1 : 1 ≤ s
    · have h9 := loopC hs1 (w - 1).toNat 0 (by omega) T1 v8 v9 v10 v11 v12 hT1
      refine vv_iload_n d_MO_fillOne_87 rfl ?_
      refine vv_if_ne (tgt := 95) d_MO_fillOne_88 (by decide) (by omega) (fun c88 => ?_) (fun c88 => ?_)
      · exfalso; omega
      · skip
        refine vv_iload_n d_MO_fillOne_91 rfl ?_
        refine vv_goto (tgt := 97) d_MO_fillOne_92 (by decide) ?_
        refine vv_istore d_MO_fillOne_97 rfl (by decide) ?_
        dsimp only [List.set]
        refine vv_iconst d_MO_fillOne_99 ?_
        refine vv_istore d_MO_fillOne_100 rfl (by decide) ?_
        dsimp only [List.set]
        exact h9
    · have hfin : (fo pw ph tu wa nP K s 0 w h T) = T1 := by
        unfold fo fo_L
        rw [if_neg (by omega)]
        exact hT1
      refine vv_iload_n d_MO_fillOne_87 rfl ?_
      refine vv_if_ne (tgt := 95) d_MO_fillOne_88 (by decide) (by omega) (fun c88 => ?_) (fun c88 => ?_)
      · exfalso; omega
      · skip
        refine vv_iload_n d_MO_fillOne_91 rfl ?_
        refine vv_goto (tgt := 97) d_MO_fillOne_92 (by decide) ?_
        refine vv_istore d_MO_fillOne_97 rfl (by decide) ?_
        dsimp only [List.set]
        refine vv_iconst d_MO_fillOne_99 ?_
        refine vv_istore d_MO_fillOne_100 rfl (by decide) ?_
        dsimp only [List.set]
        refine vv_iload d_MO_fillOne_102 rfl ?_
        refine vv_iload d_MO_fillOne_104 rfl ?_
        refine vv_icmp_ge (tgt := 251) d_MO_fillOne_106 (by decide) ⟨by omega, by omega⟩ (fun c106 => ?_) (fun c106 => ?_)
        · skip
          exact vv_vret hA hw hr d_MO_fillOne_251 (by decide) (by decide) ⟨rfl, by rw [hfin], rfl⟩
        · skip
          refine vv_iload_n d_MO_fillOne_109 rfl ?_
          refine vv_if_le (tgt := 251) d_MO_fillOne_110 (by decide) (by omega) (fun c110 => ?_) (fun c110 => ?_)
          · skip
            exact vv_vret hA hw hr d_MO_fillOne_251 (by decide) (by decide) ⟨rfl, by rw [hfin], rfl⟩
          · exfalso; omega
  have loopP : ∀ n k : Nat, k + n = nP → ∀ (T1 : mt_T), (fo_p pw ph tu wa (mp s 0 w h).toNat w h (bt_up (mp s 0 w h).toNat 0 0 (-1) T) k) = T1 → VV X (b_MO_fillOne, 13, "SheetTreesModel", rm_1) (cq X ([ob_MO m q K S le cd nS (nP : Int) rn dn, ar_I (q 10) cI 8 pw, ar_I (q 11) cI 8 ph, ar_I (q 13) cZ 8 tu, ar_I (q 14) cI 8 wa, ar_I (q 17) cI 2312 T.1, ar_I (q 18) cI 2312 T.2.1, ar_I (q 19) cI 2312 T.2.2] ++ []) sz (fun r w1 p1 _ => r = none ∧ w1 = [ob_MO m q K S le cd nS (nP : Int) rn dn, ar_I (q 10) cI 8 pw, ar_I (q 11) cI 8 ph, ar_I (q 13) cZ 8 tu, ar_I (q 14) cI 8 wa, ar_I (q 17) cI 2312 (fo pw ph tu wa nP K s 0 w h T).1, ar_I (q 18) cI 2312 (fo pw ph tu wa nP K s 0 w h T).2.1, ar_I (q 19) cI 2312 (fo pw ph tu wa nP K s 0 w h T).2.2] ∧ p1 = []) rm_1) 0 0 [(cI, .int), (cZ, .boolean)] [ob_MO m q K S le cd nS (nP : Int) rn dn, ar_I (q 10) cI 8 pw, ar_I (q 11) cI 8 ph, ar_I (q 13) cZ 8 tu, ar_I (q 14) cI 8 wa, ar_I (q 17) cI 2312 T1.1, ar_I (q 18) cI 2312 T1.2.1, ar_I (q 19) cI 2312 T1.2.2] [] [some (.ref m), some (.int (iI s)), some (.int (iI 0)), some (.int (iI w)), some (.int (iI h)), some (.int (iI (mp s 0 w h))), some (.int (iI (k : Int))), none, none, none, none, none, none] [] 37 := by
    intro n
    induction n with
    | zero =>
      intro k hk T1 hT1
      have hk2 : k = nP := by omega
      subst hk2
      refine vv_iload d_MO_fillOne_37 rfl ?_
      refine vv_aload_n d_MO_fillOne_39 rfl ?_
      refine vv_get d_MO_fillOne_40 0 rfl fl_MO_113 rfl ?_
      refine vv_icmp_ge (tgt := 87) d_MO_fillOne_43 (by decide) ⟨by omega, by omega⟩ (fun c43 => ?_) (fun c43 => ?_)
      · skip
        exact after T1 _ _ _ _ _ _ _ hT1
      · exfalso; omega
    | succ n ih =>
      intro k hk T1 hT1
      have hk8 : k < 8 := by omega
      have hwk := hwa k hk8
      have hMI : MI T1 := by
        rw [← hT1]
        exact MI_p hT0 hs (by decide) hw1 hh1 k
      have hatv := hMI s 0 w h hs.1 hs.2 (by decide) (by decide) hw1.1 hw1.2 hh1.1 hh1.2
      have h9 := ih (k + 1) (by omega)
      have hj : jst pw ph tu k w h = 0 ∨ jst pw ph tu k w h = 1 := by unfold jst; split <;> simp
      have hgo : (fo_p pw ph tu wa (mp s 0 w h).toNat w h (bt_up (mp s 0 w h).toNat 0 0 (-1) T) (k + 1)) = if 0 < wa k ∧ jst pw ph tu k w h = 1 then bt (mp s 0 w h).toNat (w * h) 0 (k : Int) T1 else T1 := by rw [← hT1]; rfl
      refine vv_iload d_MO_fillOne_37 rfl ?_
      refine vv_aload_n d_MO_fillOne_39 rfl ?_
      refine vv_get d_MO_fillOne_40 0 rfl fl_MO_113 rfl ?_
      refine vv_icmp_ge (tgt := 87) d_MO_fillOne_43 (by decide) ⟨by omega, by omega⟩ (fun c43 => ?_) (fun c43 => ?_)
      · exfalso; omega
      · skip
        refine vv_aload_n d_MO_fillOne_46 rfl ?_
        refine vv_get d_MO_fillOne_47 0 rfl fl_MO_35 rfl ?_
        refine vv_iload d_MO_fillOne_50 rfl ?_
        refine vv_iald d_MO_fillOne_52 4 0 rfl rfl (by omega) ?_
        rw [Int.toNat_natCast]
        refine vv_if_le (tgt := 81) d_MO_fillOne_53 (by decide) (by omega) (fun c53 => ?_) (fun c53 => ?_)
        · skip
          refine vv_iinc d_MO_fillOne_81 rfl rfl (by decide) ?_
          dsimp only [List.set]
          refine vv_goto (tgt := 37) d_MO_fillOne_84 (by decide) ?_
          rw [if_neg (by omega)] at hgo
          exact h9 _ hgo
        · skip
          refine vv_aload_n d_MO_fillOne_56 rfl ?_
          refine vv_iload d_MO_fillOne_57 rfl ?_
          refine vv_iload_n d_MO_fillOne_59 rfl ?_
          refine vv_iload d_MO_fillOne_60 rfl ?_
          refine vv_pV (wc := [ob_MO m q K S le cd nS (nP : Int) rn dn, ar_I (q 10) cI 8 pw, ar_I (q 11) cI 8 ph, ar_I (q 13) cZ 8 tu]) (plc := []) [] (c_MO_isJust (cx_l X) (cx_D X) m q K S le cd nS (nP : Int) rn dn cI cZ pw ph tu k w h hk8 (by omega) (by omega) hb) lk_MO_120 d_MO_fillOne_62 rfl (rc_at 0 rfl rfl rfl) [0, 1, 2, 3] ⟨rfl, rfl, Or.inl rfl⟩ [0, 1] rfl ⟨⟨by decide, by decide⟩, ⟨by decide, by decide⟩, Nat.le_of_ble_eq_true rfl⟩ ⟨rfl, rfl⟩ ?_
          intro v hv
          subst hv
          dsimp only [Option.toList, List.cons_append, List.nil_append, List.append_nil]
          refine vv_if_eq (tgt := 81) d_MO_fillOne_65 (by decide) (by omega) (fun c65 => ?_) (fun c65 => ?_)
          · skip
            refine vv_iinc d_MO_fillOne_81 rfl rfl (by decide) ?_
            dsimp only [List.set]
            refine vv_goto (tgt := 37) d_MO_fillOne_84 (by decide) ?_
            rw [if_neg (by omega)] at hgo
            exact h9 _ hgo
          · skip
            refine vv_aload_n d_MO_fillOne_68 rfl ?_
            refine vv_iload d_MO_fillOne_69 rfl ?_
            refine vv_iload_n d_MO_fillOne_71 rfl ?_
            refine vv_iload d_MO_fillOne_72 rfl ?_
            refine vv_imul d_MO_fillOne_74 ?_
            refine vv_iconst d_MO_fillOne_75 ?_
            refine vv_iload d_MO_fillOne_76 rfl ?_
            rw [if_pos (by omega)] at hgo
            refine vv_nV hw (wc := [ob_MO m q K S le cd nS (nP : Int) rn dn, ar_I (q 17) cI 2312 T1.1, ar_I (q 18) cI 2312 T1.2.1, ar_I (q 19) cI 2312 T1.2.2]) (wr := [ar_I (q 10) cI 8 pw, ar_I (q 11) cI 8 ph, ar_I (q 13) cZ 8 tu, ar_I (q 14) cI 8 wa]) [] (c_MO_better (cx_l X) (cx_D X) m q K S le cd nS (nP : Int) rn dn cI T1 (mp s 0 w h) (w * h) 0 (k : Int) hat (by omega) (by omega) (by omega) (by omega)) lk_MO_123 d_MO_fillOne_78 rfl (rc_at 0 rfl rfl rfl) [0, 5, 6, 7] [1, 2, 3, 4] ⟨rfl, rfl⟩ ⟨rfl, rfl, by decide⟩ [0] rfl ⟨⟨by decide, by decide⟩, ⟨by decide, by decide⟩, Nat.le_of_ble_eq_true rfl⟩ ⟨rfl, rfl⟩ ?_
            rintro v w1 p1 t1 ⟨rfl, rfl, rfl⟩
            dsimp only [Option.toList, List.cons_append, List.nil_append, List.append_nil]
            refine vv_sub (ws' := [ob_MO m q K S le cd nS (nP : Int) rn dn, ar_I (q 10) cI 8 pw, ar_I (q 11) cI 8 ph, ar_I (q 13) cZ 8 tu, ar_I (q 14) cI 8 wa, ar_I (q 17) cI 2312 (bt (mp s 0 w h).toNat (w * h) 0 (k : Int) T1).1, ar_I (q 18) cI 2312 (bt (mp s 0 w h).toNat (w * h) 0 (k : Int) T1).2.1, ar_I (q 19) cI 2312 (bt (mp s 0 w h).toNat (w * h) 0 (k : Int) T1).2.2]) [4, 0, 1, 2, 3, 5, 6, 7] rfl rfl ?_
            refine vv_iinc d_MO_fillOne_81 rfl rfl (by decide) ?_
            dsimp only [List.set]
            refine vv_goto (tgt := 37) d_MO_fillOne_84 (by decide) ?_
            exact h9 _ hgo
  show VV X (b_MO_fillOne, 13, "SheetTreesModel", rm_1) _ 0 0 [(cI, .int), (cZ, .boolean)] [ob_MO m q K S le cd nS (nP : Int) rn dn, ar_I (q 10) cI 8 pw, ar_I (q 11) cI 8 ph, ar_I (q 13) cZ 8 tu, ar_I (q 14) cI 8 wa, ar_I (q 17) cI 2312 T.1, ar_I (q 18) cI 2312 T.2.1, ar_I (q 19) cI 2312 T.2.2] [] [some (.ref m), some (.int (iI s)), some (.int (iI 0)), some (.int (iI w)), some (.int (iI h)), none, none, none, none, none, none, none, none] [] 0
  refine vv_iload_n d_MO_fillOne_0 rfl ?_
  refine vv_iload_n d_MO_fillOne_1 rfl ?_
  refine vv_iload_n d_MO_fillOne_2 rfl ?_
  refine vv_iload d_MO_fillOne_3 rfl ?_
  refine vv_pS (wc := []) (plc := []) [] (c_MO_place (cx_l X) (cx_D X) s 0 w h) lk_MO_116 d_MO_fillOne_5 rfl [] ⟨rfl, rfl, Or.inl rfl⟩ [] rfl ⟨⟨by decide, by decide⟩, ⟨by decide, by decide⟩, Nat.le_of_ble_eq_true rfl⟩ ⟨rfl, rfl⟩ ?_
  intro v hv
  subst hv
  dsimp only [Option.toList, List.cons_append, List.nil_append, List.append_nil]
  refine vv_istore d_MO_fillOne_8 rfl (by decide) ?_
  dsimp only [List.set]
  refine vv_aload_n d_MO_fillOne_10 rfl ?_
  refine vv_get d_MO_fillOne_11 0 rfl fl_MO_44 rfl ?_
  refine vv_iload d_MO_fillOne_14 rfl ?_
  refine vv_iconst d_MO_fillOne_16 ?_
  refine vv_iast hw d_MO_fillOne_17 5 0 rfl rfl (by omega) ?_
  dsimp only [List.set]
  refine vv_aload_n d_MO_fillOne_18 rfl ?_
  refine vv_get d_MO_fillOne_19 0 rfl fl_MO_47 rfl ?_
  refine vv_iload d_MO_fillOne_22 rfl ?_
  refine vv_iconst d_MO_fillOne_24 ?_
  refine vv_iast hw d_MO_fillOne_25 6 0 rfl rfl (by omega) ?_
  dsimp only [List.set]
  refine vv_aload_n d_MO_fillOne_26 rfl ?_
  refine vv_get d_MO_fillOne_27 0 rfl fl_MO_50 rfl ?_
  refine vv_iload d_MO_fillOne_30 rfl ?_
  refine vv_iconst d_MO_fillOne_32 ?_
  refine vv_iast hw d_MO_fillOne_33 7 0 rfl rfl (by omega) ?_
  dsimp only [List.set]
  refine vv_iconst d_MO_fillOne_34 ?_
  refine vv_istore d_MO_fillOne_35 rfl (by decide) ?_
  dsimp only [List.set]
  exact loopP nP 0 (by omega) (bt_up (mp s 0 w h).toNat 0 0 (-1) T) rfl
set_option maxHeartbeats 4000000 in
set_option maxRecDepth 100000 in
theorem c_MO_fillOne_1 (l : Launch) (D : va_G) (m nP : Nat) (q : Nat → Nat) (K S le cd nS rn dn : Int) (cI cZ : ClassId) (pw ph tu wa : Nat → Int) (T : mt_T) (s w h : Int) (hnP : nP ≤ 8) (hK : 0 ≤ K ∧ K ≤ 3) (hb : ∀ i : Nat, i < 8 → (0 ≤ pw i ∧ pw i ≤ 16) ∧ (0 ≤ ph i ∧ ph i ≤ 16) ∧ 0 ≤ tu i ∧ tu i ≤ 1) (hwa : ∀ i : Nat, i < 8 → 0 ≤ wa i ∧ wa i ≤ 1000000) (hT : MI T) (hs : 0 ≤ s ∧ s ≤ 3) (hw1 : 1 ≤ w ∧ w ≤ 16) (hh1 : 1 ≤ h ∧ h ≤ 16) : CM l y_MO_fillOne b_MO_fillOne 13 none rm_1 [.ref m, .int (iI s), .int (iI 1), .int (iI w), .int (iI h)] D [(cI, .int), (cZ, .boolean)] ([ob_MO m q K S le cd nS (nP : Int) rn dn, ar_I (q 10) cI 8 pw, ar_I (q 11) cI 8 ph, ar_I (q 13) cZ 8 tu, ar_I (q 14) cI 8 wa, ar_I (q 17) cI 2312 T.1, ar_I (q 18) cI 2312 T.2.1, ar_I (q 19) cI 2312 T.2.2] ++ []) (fun r w1 p1 _ => r = none ∧ w1 = [ob_MO m q K S le cd nS (nP : Int) rn dn, ar_I (q 10) cI 8 pw, ar_I (q 11) cI 8 ph, ar_I (q 13) cZ 8 tu, ar_I (q 14) cI 8 wa, ar_I (q 17) cI 2312 (fo pw ph tu wa nP K s 1 w h T).1, ar_I (q 18) cI 2312 (fo pw ph tu wa nP K s 1 w h T).2.1, ar_I (q 19) cI 2312 (fo pw ph tu wa nP K s 1 w h T).2.2] ∧ p1 = []) := by
  refine cm_of (by decide) (Nat.le_of_ble_eq_true rfl) ?_
  intro X sz hl hr hnm hD hA hw
  subst hD
  have hat := mp_bd (s := s) (d := 1) (w := w) (h := h) hs (by decide) (by omega) (by omega)
  have hwh := wh1 hw1 hh1
  have hT0 : MI (bt_up (mp s 1 w h).toNat 0 0 (-1) T) := MI_up hT hs (by decide) hw1 hh1 (by omega) (by omega)
  have loopC : 1 ≤ s → ∀ n i : Nat, i + n = (h - 1).toNat → ∀ (T1 : mt_T) (v8 v9 v10 v11 v12 : Option Value), fo_c K s 1 w h (fo_p pw ph tu wa (mp s 1 w h).toNat w h (bt_up (mp s 1 w h).toNat 0 0 (-1) T) nP) i = T1 → VV X (b_MO_fillOne, 13, "SheetTreesModel", rm_1) (cq X ([ob_MO m q K S le cd nS (nP : Int) rn dn, ar_I (q 10) cI 8 pw, ar_I (q 11) cI 8 ph, ar_I (q 13) cZ 8 tu, ar_I (q 14) cI 8 wa, ar_I (q 17) cI 2312 T.1, ar_I (q 18) cI 2312 T.2.1, ar_I (q 19) cI 2312 T.2.2] ++ []) sz (fun r w1 p1 _ => r = none ∧ w1 = [ob_MO m q K S le cd nS (nP : Int) rn dn, ar_I (q 10) cI 8 pw, ar_I (q 11) cI 8 ph, ar_I (q 13) cZ 8 tu, ar_I (q 14) cI 8 wa, ar_I (q 17) cI 2312 (fo pw ph tu wa nP K s 1 w h T).1, ar_I (q 18) cI 2312 (fo pw ph tu wa nP K s 1 w h T).2.1, ar_I (q 19) cI 2312 (fo pw ph tu wa nP K s 1 w h T).2.2] ∧ p1 = []) rm_1) 0 0 [(cI, .int), (cZ, .boolean)] [ob_MO m q K S le cd nS (nP : Int) rn dn, ar_I (q 10) cI 8 pw, ar_I (q 11) cI 8 ph, ar_I (q 13) cZ 8 tu, ar_I (q 14) cI 8 wa, ar_I (q 17) cI 2312 T1.1, ar_I (q 18) cI 2312 T1.2.1, ar_I (q 19) cI 2312 T1.2.2] [] [some (.ref m), some (.int (iI s)), some (.int (iI 1)), some (.int (iI w)), some (.int (iI h)), some (.int (iI (mp s 1 w h))), some (.int (iI h)), some (.int (iI ((i : Int) + 1))), v8, v9, v10, v11, v12] [] 102 := by
    intro hs1 n
    induction n with
    | zero =>
      intro i hi T1 v8 v9 v10 v11 v12 hT1
      have hfin : (fo pw ph tu wa nP K s 1 w h T) = T1 := by
        unfold fo fo_L
        rw [if_pos (by omega), if_neg (by decide), ← hT1]
        congr 1
        omega
      refine vv_iload d_MO_fillOne_102 rfl ?_
      refine vv_iload d_MO_fillOne_104 rfl ?_
      refine vv_icmp_ge (tgt := 251) d_MO_fillOne_106 (by decide) ⟨by omega, by omega⟩ (fun c106 => ?_) (fun c106 => ?_)
      · skip
        exact vv_vret hA hw hr d_MO_fillOne_251 (by decide) (by decide) ⟨rfl, by rw [hfin], rfl⟩
      · exfalso; omega
    | succ n ih =>
      intro i hi T1 v8 v9 v10 v11 v12 hT1
      have hMI : MI T1 := by
        rw [← hT1]
        exact MI_c (MI_p hT0 hs (by decide) hw1 hh1 nP) hK.1 (by omega) (Or.inr rfl) hw1 hh1 i (by rw [if_neg (by decide)]; omega)
      have hone := mp_bd (s := s - 1) (d := 0) (w := w) (h := (i : Int) + 1) (by omega) (by decide) (by omega) (by omega)
      have hm1 := hMI (s - 1) 0 w ((i : Int) + 1) (by omega) (by omega) (by decide) (by decide) (by omega) (by omega) (by omega) (by omega)
      have har := area_le (w := w) (h := (i : Int) + 1) (by omega) (by omega) (by omega) (by omega)
      have hbd := fo_bd (s := s) (d := 1) (w := w) (h := h) (K := K) (c := (i : Int) + 1) hMI hK.1 (by omega) (Or.inr rfl) hw1 hh1 (by rw [if_neg (by decide)]; omega)
      have hatv := hMI s 1 w h hs.1 hs.2 (by decide) (by decide) hw1.1 hw1.2 hh1.1 hh1.2
      have h9 := ih (i + 1) (by omega)
      have hgo : fo_c K s 1 w h (fo_p pw ph tu wa (mp s 1 w h).toNat w h (bt_up (mp s 1 w h).toNat 0 0 (-1) T) nP) (i + 1) = bt (mp s 1 w h).toNat (fo_v K s 1 w h ((i : Int) + 1) T1) (fo_n K s 1 w h ((i : Int) + 1) T1) (16 + ((i : Int) + 1)) T1 := by rw [← hT1]; rfl
      have ev : fo_v K s 1 w h ((i : Int) + 1) T1 = T1.1 (mp (s - 1) 0 w ((i : Int) + 1)).toNat + (if 0 < (h - ((i : Int) + 1) - K) then T1.1 (mp s 1 w (h - ((i : Int) + 1) - K)).toNat else 0) := rfl
      have en : fo_n K s 1 w h ((i : Int) + 1) T1 = 1 + T1.2.1 (mp (s - 1) 0 w ((i : Int) + 1)).toNat + (if 0 < (h - ((i : Int) + 1) - K) then T1.2.1 (mp s 1 w (h - ((i : Int) + 1) - K)).toNat else 0) := rfl
      refine vv_iload d_MO_fillOne_102 rfl ?_
      refine vv_iload d_MO_fillOne_104 rfl ?_
      refine vv_icmp_ge (tgt := 251) d_MO_fillOne_106 (by decide) ⟨by omega, by omega⟩ (fun c106 => ?_) (fun c106 => ?_)
      · exfalso; omega
      · skip
        refine vv_iload_n d_MO_fillOne_109 rfl ?_
        refine vv_if_le (tgt := 251) d_MO_fillOne_110 (by decide) (by omega) (fun c110 => ?_) (fun c110 => ?_)
        · exfalso; omega
        · skip
          refine vv_iload_n d_MO_fillOne_113 rfl ?_
          refine vv_if_ne (tgt := 131) d_MO_fillOne_114 (by decide) (by omega) (fun c114 => ?_) (fun c114 => ?_)
          · skip
            refine vv_iload_n d_MO_fillOne_131 rfl ?_
            refine vv_iconst d_MO_fillOne_132 ?_
            refine vv_isub d_MO_fillOne_133 ?_
            refine vv_iconst d_MO_fillOne_134 ?_
            refine vv_iload_n d_MO_fillOne_135 rfl ?_
            refine vv_iload d_MO_fillOne_136 rfl ?_
            refine vv_pS (wc := []) (plc := []) [] (c_MO_place (cx_l X) (cx_D X) (s - 1) 0 w ((i : Int) + 1)) lk_MO_116 d_MO_fillOne_138 rfl [] ⟨rfl, rfl, Or.inl rfl⟩ [] rfl ⟨⟨by decide, by decide⟩, ⟨by decide, by decide⟩, Nat.le_of_ble_eq_true rfl⟩ ⟨rfl, rfl⟩ ?_
            intro v hv
            subst hv
            dsimp only [Option.toList, List.cons_append, List.nil_append, List.append_nil]
            refine vv_istore d_MO_fillOne_141 rfl (by decide) ?_
            dsimp only [List.set]
            refine vv_iload d_MO_fillOne_143 rfl ?_
            refine vv_iload d_MO_fillOne_145 rfl ?_
            refine vv_isub d_MO_fillOne_147 ?_
            refine vv_aload_n d_MO_fillOne_148 rfl ?_
            refine vv_get d_MO_fillOne_149 0 rfl fl_MO_89 rfl ?_
            refine vv_isub d_MO_fillOne_152 ?_
            refine vv_istore d_MO_fillOne_153 rfl (by decide) ?_
            dsimp only [List.set]
            refine vv_aload_n d_MO_fillOne_155 rfl ?_
            refine vv_get d_MO_fillOne_156 0 rfl fl_MO_44 rfl ?_
            refine vv_iload d_MO_fillOne_159 rfl ?_
            refine vv_iald d_MO_fillOne_161 5 0 rfl rfl (by omega) ?_
            refine vv_istore d_MO_fillOne_162 rfl (by decide) ?_
            dsimp only [List.set]
            refine vv_iconst d_MO_fillOne_164 ?_
            refine vv_aload_n d_MO_fillOne_165 rfl ?_
            refine vv_get d_MO_fillOne_166 0 rfl fl_MO_47 rfl ?_
            refine vv_iload d_MO_fillOne_169 rfl ?_
            refine vv_iald d_MO_fillOne_171 6 0 rfl rfl (by omega) ?_
            refine vv_iadd d_MO_fillOne_172 ?_
            refine vv_istore d_MO_fillOne_173 rfl (by decide) ?_
            dsimp only [List.set]
            refine vv_iload d_MO_fillOne_175 rfl ?_
            refine vv_if_le (tgt := 230) d_MO_fillOne_177 (by decide) (by omega) (fun c177 => ?_) (fun c177 => ?_)
            · skip
              refine vv_aload_n d_MO_fillOne_230 rfl ?_
              refine vv_iload d_MO_fillOne_231 rfl ?_
              refine vv_iload d_MO_fillOne_233 rfl ?_
              refine vv_iload d_MO_fillOne_235 rfl ?_
              refine vv_bipush d_MO_fillOne_237 (by decide +kernel) ?_
              refine vv_iload d_MO_fillOne_239 rfl ?_
              refine vv_iadd d_MO_fillOne_241 ?_
              rw [if_neg (by omega), Int.add_zero] at ev en
              rw [ev, en] at hgo hbd
              refine vv_nV hw (wc := [ob_MO m q K S le cd nS (nP : Int) rn dn, ar_I (q 17) cI 2312 T1.1, ar_I (q 18) cI 2312 T1.2.1, ar_I (q 19) cI 2312 T1.2.2]) (wr := [ar_I (q 10) cI 8 pw, ar_I (q 11) cI 8 ph, ar_I (q 13) cZ 8 tu, ar_I (q 14) cI 8 wa]) [] (c_MO_better (cx_l X) (cx_D X) m q K S le cd nS (nP : Int) rn dn cI T1 (mp s 1 w h) (T1.1 (mp (s - 1) 0 w ((i : Int) + 1)).toNat) (1 + T1.2.1 (mp (s - 1) 0 w ((i : Int) + 1)).toNat) (16 + ((i : Int) + 1)) hat (by omega) (by omega) (by omega) (by omega)) lk_MO_123 d_MO_fillOne_242 rfl (rc_at 0 rfl rfl rfl) [0, 5, 6, 7] [1, 2, 3, 4] ⟨rfl, rfl⟩ ⟨rfl, rfl, by decide⟩ [0] rfl ⟨⟨by decide, by decide⟩, ⟨by decide, by decide⟩, Nat.le_of_ble_eq_true rfl⟩ ⟨rfl, rfl⟩ ?_
              rintro v w1 p1 t1 ⟨rfl, rfl, rfl⟩
              dsimp only [Option.toList, List.cons_append, List.nil_append, List.append_nil]
              refine vv_sub (ws' := [ob_MO m q K S le cd nS (nP : Int) rn dn, ar_I (q 10) cI 8 pw, ar_I (q 11) cI 8 ph, ar_I (q 13) cZ 8 tu, ar_I (q 14) cI 8 wa, ar_I (q 17) cI 2312 (bt (mp s 1 w h).toNat (T1.1 (mp (s - 1) 0 w ((i : Int) + 1)).toNat) (1 + T1.2.1 (mp (s - 1) 0 w ((i : Int) + 1)).toNat) (16 + ((i : Int) + 1)) T1).1, ar_I (q 18) cI 2312 (bt (mp s 1 w h).toNat (T1.1 (mp (s - 1) 0 w ((i : Int) + 1)).toNat) (1 + T1.2.1 (mp (s - 1) 0 w ((i : Int) + 1)).toNat) (16 + ((i : Int) + 1)) T1).2.1, ar_I (q 19) cI 2312 (bt (mp s 1 w h).toNat (T1.1 (mp (s - 1) 0 w ((i : Int) + 1)).toNat) (1 + T1.2.1 (mp (s - 1) 0 w ((i : Int) + 1)).toNat) (16 + ((i : Int) + 1)) T1).2.2]) [4, 0, 1, 2, 3, 5, 6, 7] rfl rfl ?_
              refine vv_iinc d_MO_fillOne_245 rfl rfl (by decide) ?_
              dsimp only [List.set]
              refine vv_goto (tgt := 102) d_MO_fillOne_248 (by decide) ?_
              exact h9 _ _ _ _ _ _ hgo
            · have htwo := mp_bd (s := s) (d := 1) (w := w) (h := (h - ((i : Int) + 1) - K)) (by omega) (by decide) (by omega) (by omega)
              have hm2 := hMI s 1 w (h - ((i : Int) + 1) - K) (by omega) (by omega) (by decide) (by decide) (by omega) (by omega) (by omega) (by omega)
              refine vv_iload_n d_MO_fillOne_180 rfl ?_
              refine vv_if_ne (tgt := 196) d_MO_fillOne_181 (by decide) (by omega) (fun c181 => ?_) (fun c181 => ?_)
              · skip
                refine vv_iload_n d_MO_fillOne_196 rfl ?_
                refine vv_iconst d_MO_fillOne_197 ?_
                refine vv_iload_n d_MO_fillOne_198 rfl ?_
                refine vv_iload d_MO_fillOne_199 rfl ?_
                refine vv_pS (wc := []) (plc := []) [] (c_MO_place (cx_l X) (cx_D X) s 1 w (h - ((i : Int) + 1) - K)) lk_MO_116 d_MO_fillOne_201 rfl [] ⟨rfl, rfl, Or.inl rfl⟩ [] rfl ⟨⟨by decide, by decide⟩, ⟨by decide, by decide⟩, Nat.le_of_ble_eq_true rfl⟩ ⟨rfl, rfl⟩ ?_
                intro v hv
                subst hv
                dsimp only [Option.toList, List.cons_append, List.nil_append, List.append_nil]
                refine vv_istore d_MO_fillOne_204 rfl (by decide) ?_
                dsimp only [List.set]
                refine vv_iload d_MO_fillOne_206 rfl ?_
                refine vv_aload_n d_MO_fillOne_208 rfl ?_
                refine vv_get d_MO_fillOne_209 0 rfl fl_MO_44 rfl ?_
                refine vv_iload d_MO_fillOne_212 rfl ?_
                refine vv_iald d_MO_fillOne_214 5 0 rfl rfl (by omega) ?_
                refine vv_iadd d_MO_fillOne_215 ?_
                refine vv_istore d_MO_fillOne_216 rfl (by decide) ?_
                dsimp only [List.set]
                refine vv_iload d_MO_fillOne_218 rfl ?_
                refine vv_aload_n d_MO_fillOne_220 rfl ?_
                refine vv_get d_MO_fillOne_221 0 rfl fl_MO_47 rfl ?_
                refine vv_iload d_MO_fillOne_224 rfl ?_
                refine vv_iald d_MO_fillOne_226 6 0 rfl rfl (by omega) ?_
                refine vv_iadd d_MO_fillOne_227 ?_
                refine vv_istore d_MO_fillOne_228 rfl (by decide) ?_
                dsimp only [List.set]
                refine vv_aload_n d_MO_fillOne_230 rfl ?_
                refine vv_iload d_MO_fillOne_231 rfl ?_
                refine vv_iload d_MO_fillOne_233 rfl ?_
                refine vv_iload d_MO_fillOne_235 rfl ?_
                refine vv_bipush d_MO_fillOne_237 (by decide +kernel) ?_
                refine vv_iload d_MO_fillOne_239 rfl ?_
                refine vv_iadd d_MO_fillOne_241 ?_
                rw [if_pos (by omega)] at ev en
                rw [ev, en] at hgo hbd
                refine vv_nV hw (wc := [ob_MO m q K S le cd nS (nP : Int) rn dn, ar_I (q 17) cI 2312 T1.1, ar_I (q 18) cI 2312 T1.2.1, ar_I (q 19) cI 2312 T1.2.2]) (wr := [ar_I (q 10) cI 8 pw, ar_I (q 11) cI 8 ph, ar_I (q 13) cZ 8 tu, ar_I (q 14) cI 8 wa]) [] (c_MO_better (cx_l X) (cx_D X) m q K S le cd nS (nP : Int) rn dn cI T1 (mp s 1 w h) (T1.1 (mp (s - 1) 0 w ((i : Int) + 1)).toNat + T1.1 (mp s 1 w (h - ((i : Int) + 1) - K)).toNat) (1 + T1.2.1 (mp (s - 1) 0 w ((i : Int) + 1)).toNat + T1.2.1 (mp s 1 w (h - ((i : Int) + 1) - K)).toNat) (16 + ((i : Int) + 1)) hat (by omega) (by omega) (by omega) (by omega)) lk_MO_123 d_MO_fillOne_242 rfl (rc_at 0 rfl rfl rfl) [0, 5, 6, 7] [1, 2, 3, 4] ⟨rfl, rfl⟩ ⟨rfl, rfl, by decide⟩ [0] rfl ⟨⟨by decide, by decide⟩, ⟨by decide, by decide⟩, Nat.le_of_ble_eq_true rfl⟩ ⟨rfl, rfl⟩ ?_
                rintro v w1 p1 t1 ⟨rfl, rfl, rfl⟩
                dsimp only [Option.toList, List.cons_append, List.nil_append, List.append_nil]
                refine vv_sub (ws' := [ob_MO m q K S le cd nS (nP : Int) rn dn, ar_I (q 10) cI 8 pw, ar_I (q 11) cI 8 ph, ar_I (q 13) cZ 8 tu, ar_I (q 14) cI 8 wa, ar_I (q 17) cI 2312 (bt (mp s 1 w h).toNat (T1.1 (mp (s - 1) 0 w ((i : Int) + 1)).toNat + T1.1 (mp s 1 w (h - ((i : Int) + 1) - K)).toNat) (1 + T1.2.1 (mp (s - 1) 0 w ((i : Int) + 1)).toNat + T1.2.1 (mp s 1 w (h - ((i : Int) + 1) - K)).toNat) (16 + ((i : Int) + 1)) T1).1, ar_I (q 18) cI 2312 (bt (mp s 1 w h).toNat (T1.1 (mp (s - 1) 0 w ((i : Int) + 1)).toNat + T1.1 (mp s 1 w (h - ((i : Int) + 1) - K)).toNat) (1 + T1.2.1 (mp (s - 1) 0 w ((i : Int) + 1)).toNat + T1.2.1 (mp s 1 w (h - ((i : Int) + 1) - K)).toNat) (16 + ((i : Int) + 1)) T1).2.1, ar_I (q 19) cI 2312 (bt (mp s 1 w h).toNat (T1.1 (mp (s - 1) 0 w ((i : Int) + 1)).toNat + T1.1 (mp s 1 w (h - ((i : Int) + 1) - K)).toNat) (1 + T1.2.1 (mp (s - 1) 0 w ((i : Int) + 1)).toNat + T1.2.1 (mp s 1 w (h - ((i : Int) + 1) - K)).toNat) (16 + ((i : Int) + 1)) T1).2.2]) [4, 0, 1, 2, 3, 5, 6, 7] rfl rfl ?_
                refine vv_iinc d_MO_fillOne_245 rfl rfl (by decide) ?_
                dsimp only [List.set]
                refine vv_goto (tgt := 102) d_MO_fillOne_248 (by decide) ?_
                exact h9 _ _ _ _ _ _ hgo
              · exfalso; omega
          · exfalso; omega
  have after : ∀ (T1 : mt_T) (v6 v7 v8 v9 v10 v11 v12 : Option Value), (fo_p pw ph tu wa (mp s 1 w h).toNat w h (bt_up (mp s 1 w h).toNat 0 0 (-1) T) nP) = T1 → VV X (b_MO_fillOne, 13, "SheetTreesModel", rm_1) (cq X ([ob_MO m q K S le cd nS (nP : Int) rn dn, ar_I (q 10) cI 8 pw, ar_I (q 11) cI 8 ph, ar_I (q 13) cZ 8 tu, ar_I (q 14) cI 8 wa, ar_I (q 17) cI 2312 T.1, ar_I (q 18) cI 2312 T.2.1, ar_I (q 19) cI 2312 T.2.2] ++ []) sz (fun r w1 p1 _ => r = none ∧ w1 = [ob_MO m q K S le cd nS (nP : Int) rn dn, ar_I (q 10) cI 8 pw, ar_I (q 11) cI 8 ph, ar_I (q 13) cZ 8 tu, ar_I (q 14) cI 8 wa, ar_I (q 17) cI 2312 (fo pw ph tu wa nP K s 1 w h T).1, ar_I (q 18) cI 2312 (fo pw ph tu wa nP K s 1 w h T).2.1, ar_I (q 19) cI 2312 (fo pw ph tu wa nP K s 1 w h T).2.2] ∧ p1 = []) rm_1) 0 0 [(cI, .int), (cZ, .boolean)] [ob_MO m q K S le cd nS (nP : Int) rn dn, ar_I (q 10) cI 8 pw, ar_I (q 11) cI 8 ph, ar_I (q 13) cZ 8 tu, ar_I (q 14) cI 8 wa, ar_I (q 17) cI 2312 T1.1, ar_I (q 18) cI 2312 T1.2.1, ar_I (q 19) cI 2312 T1.2.2] [] [some (.ref m), some (.int (iI s)), some (.int (iI 1)), some (.int (iI w)), some (.int (iI h)), some (.int (iI (mp s 1 w h))), v6, v7, v8, v9, v10, v11, v12] [] 87 := by
    intro T1 v6 v7 v8 v9 v10 v11 v12 hT1
    by_cases hs1 : 1 ≤ s
    · have h9 := loopC hs1 (h - 1).toNat 0 (by omega) T1 v8 v9 v10 v11 v12 hT1
      refine vv_iload_n d_MO_fillOne_87 rfl ?_
      refine vv_if_ne (tgt := 95) d_MO_fillOne_88 (by decide) (by omega) (fun c88 => ?_) (fun c88 => ?_)
      · skip
        refine vv_iload d_MO_fillOne_95 rfl ?_
        refine vv_istore d_MO_fillOne_97 rfl (by decide) ?_
        dsimp only [List.set]
        refine vv_iconst d_MO_fillOne_99 ?_
        refine vv_istore d_MO_fillOne_100 rfl (by decide) ?_
        dsimp only [List.set]
        exact h9
      · exfalso; omega
    · have hfin : (fo pw ph tu wa nP K s 1 w h T) = T1 := by
        unfold fo fo_L
        rw [if_neg (by omega)]
        exact hT1
      refine vv_iload_n d_MO_fillOne_87 rfl ?_
      refine vv_if_ne (tgt := 95) d_MO_fillOne_88 (by decide) (by omega) (fun c88 => ?_) (fun c88 => ?_)
      · skip
        refine vv_iload d_MO_fillOne_95 rfl ?_
        refine vv_istore d_MO_fillOne_97 rfl (by decide) ?_
        dsimp only [List.set]
        refine vv_iconst d_MO_fillOne_99 ?_
        refine vv_istore d_MO_fillOne_100 rfl (by decide) ?_
        dsimp only [List.set]
        refine vv_iload d_MO_fillOne_102 rfl ?_
        refine vv_iload d_MO_fillOne_104 rfl ?_
        refine vv_icmp_ge (tgt := 251) d_MO_fillOne_106 (by decide) ⟨by omega, by omega⟩ (fun c106 => ?_) (fun c106 => ?_)
        · skip
          exact vv_vret hA hw hr d_MO_fillOne_251 (by decide) (by decide) ⟨rfl, by rw [hfin], rfl⟩
        · skip
          refine vv_iload_n d_MO_fillOne_109 rfl ?_
          refine vv_if_le (tgt := 251) d_MO_fillOne_110 (by decide) (by omega) (fun c110 => ?_) (fun c110 => ?_)
          · skip
            exact vv_vret hA hw hr d_MO_fillOne_251 (by decide) (by decide) ⟨rfl, by rw [hfin], rfl⟩
          · exfalso; omega
      · exfalso; omega
  have loopP : ∀ n k : Nat, k + n = nP → ∀ (T1 : mt_T), (fo_p pw ph tu wa (mp s 1 w h).toNat w h (bt_up (mp s 1 w h).toNat 0 0 (-1) T) k) = T1 → VV X (b_MO_fillOne, 13, "SheetTreesModel", rm_1) (cq X ([ob_MO m q K S le cd nS (nP : Int) rn dn, ar_I (q 10) cI 8 pw, ar_I (q 11) cI 8 ph, ar_I (q 13) cZ 8 tu, ar_I (q 14) cI 8 wa, ar_I (q 17) cI 2312 T.1, ar_I (q 18) cI 2312 T.2.1, ar_I (q 19) cI 2312 T.2.2] ++ []) sz (fun r w1 p1 _ => r = none ∧ w1 = [ob_MO m q K S le cd nS (nP : Int) rn dn, ar_I (q 10) cI 8 pw, ar_I (q 11) cI 8 ph, ar_I (q 13) cZ 8 tu, ar_I (q 14) cI 8 wa, ar_I (q 17) cI 2312 (fo pw ph tu wa nP K s 1 w h T).1, ar_I (q 18) cI 2312 (fo pw ph tu wa nP K s 1 w h T).2.1, ar_I (q 19) cI 2312 (fo pw ph tu wa nP K s 1 w h T).2.2] ∧ p1 = []) rm_1) 0 0 [(cI, .int), (cZ, .boolean)] [ob_MO m q K S le cd nS (nP : Int) rn dn, ar_I (q 10) cI 8 pw, ar_I (q 11) cI 8 ph, ar_I (q 13) cZ 8 tu, ar_I (q 14) cI 8 wa, ar_I (q 17) cI 2312 T1.1, ar_I (q 18) cI 2312 T1.2.1, ar_I (q 19) cI 2312 T1.2.2] [] [some (.ref m), some (.int (iI s)), some (.int (iI 1)), some (.int (iI w)), some (.int (iI h)), some (.int (iI (mp s 1 w h))), some (.int (iI (k : Int))), none, none, none, none, none, none] [] 37 := by
    intro n
    induction n with
    | zero =>
      intro k hk T1 hT1
      have hk2 : k = nP := by omega
      subst hk2
      refine vv_iload d_MO_fillOne_37 rfl ?_
      refine vv_aload_n d_MO_fillOne_39 rfl ?_
      refine vv_get d_MO_fillOne_40 0 rfl fl_MO_113 rfl ?_
      refine vv_icmp_ge (tgt := 87) d_MO_fillOne_43 (by decide) ⟨by omega, by omega⟩ (fun c43 => ?_) (fun c43 => ?_)
      · skip
        exact after T1 _ _ _ _ _ _ _ hT1
      · exfalso; omega
    | succ n ih =>
      intro k hk T1 hT1
      have hk8 : k < 8 := by omega
      have hwk := hwa k hk8
      have hMI : MI T1 := by
        rw [← hT1]
        exact MI_p hT0 hs (by decide) hw1 hh1 k
      have hatv := hMI s 1 w h hs.1 hs.2 (by decide) (by decide) hw1.1 hw1.2 hh1.1 hh1.2
      have h9 := ih (k + 1) (by omega)
      have hj : jst pw ph tu k w h = 0 ∨ jst pw ph tu k w h = 1 := by unfold jst; split <;> simp
      have hgo : (fo_p pw ph tu wa (mp s 1 w h).toNat w h (bt_up (mp s 1 w h).toNat 0 0 (-1) T) (k + 1)) = if 0 < wa k ∧ jst pw ph tu k w h = 1 then bt (mp s 1 w h).toNat (w * h) 0 (k : Int) T1 else T1 := by rw [← hT1]; rfl
      refine vv_iload d_MO_fillOne_37 rfl ?_
      refine vv_aload_n d_MO_fillOne_39 rfl ?_
      refine vv_get d_MO_fillOne_40 0 rfl fl_MO_113 rfl ?_
      refine vv_icmp_ge (tgt := 87) d_MO_fillOne_43 (by decide) ⟨by omega, by omega⟩ (fun c43 => ?_) (fun c43 => ?_)
      · exfalso; omega
      · skip
        refine vv_aload_n d_MO_fillOne_46 rfl ?_
        refine vv_get d_MO_fillOne_47 0 rfl fl_MO_35 rfl ?_
        refine vv_iload d_MO_fillOne_50 rfl ?_
        refine vv_iald d_MO_fillOne_52 4 0 rfl rfl (by omega) ?_
        rw [Int.toNat_natCast]
        refine vv_if_le (tgt := 81) d_MO_fillOne_53 (by decide) (by omega) (fun c53 => ?_) (fun c53 => ?_)
        · skip
          refine vv_iinc d_MO_fillOne_81 rfl rfl (by decide) ?_
          dsimp only [List.set]
          refine vv_goto (tgt := 37) d_MO_fillOne_84 (by decide) ?_
          rw [if_neg (by omega)] at hgo
          exact h9 _ hgo
        · skip
          refine vv_aload_n d_MO_fillOne_56 rfl ?_
          refine vv_iload d_MO_fillOne_57 rfl ?_
          refine vv_iload_n d_MO_fillOne_59 rfl ?_
          refine vv_iload d_MO_fillOne_60 rfl ?_
          refine vv_pV (wc := [ob_MO m q K S le cd nS (nP : Int) rn dn, ar_I (q 10) cI 8 pw, ar_I (q 11) cI 8 ph, ar_I (q 13) cZ 8 tu]) (plc := []) [] (c_MO_isJust (cx_l X) (cx_D X) m q K S le cd nS (nP : Int) rn dn cI cZ pw ph tu k w h hk8 (by omega) (by omega) hb) lk_MO_120 d_MO_fillOne_62 rfl (rc_at 0 rfl rfl rfl) [0, 1, 2, 3] ⟨rfl, rfl, Or.inl rfl⟩ [0, 1] rfl ⟨⟨by decide, by decide⟩, ⟨by decide, by decide⟩, Nat.le_of_ble_eq_true rfl⟩ ⟨rfl, rfl⟩ ?_
          intro v hv
          subst hv
          dsimp only [Option.toList, List.cons_append, List.nil_append, List.append_nil]
          refine vv_if_eq (tgt := 81) d_MO_fillOne_65 (by decide) (by omega) (fun c65 => ?_) (fun c65 => ?_)
          · skip
            refine vv_iinc d_MO_fillOne_81 rfl rfl (by decide) ?_
            dsimp only [List.set]
            refine vv_goto (tgt := 37) d_MO_fillOne_84 (by decide) ?_
            rw [if_neg (by omega)] at hgo
            exact h9 _ hgo
          · skip
            refine vv_aload_n d_MO_fillOne_68 rfl ?_
            refine vv_iload d_MO_fillOne_69 rfl ?_
            refine vv_iload_n d_MO_fillOne_71 rfl ?_
            refine vv_iload d_MO_fillOne_72 rfl ?_
            refine vv_imul d_MO_fillOne_74 ?_
            refine vv_iconst d_MO_fillOne_75 ?_
            refine vv_iload d_MO_fillOne_76 rfl ?_
            rw [if_pos (by omega)] at hgo
            refine vv_nV hw (wc := [ob_MO m q K S le cd nS (nP : Int) rn dn, ar_I (q 17) cI 2312 T1.1, ar_I (q 18) cI 2312 T1.2.1, ar_I (q 19) cI 2312 T1.2.2]) (wr := [ar_I (q 10) cI 8 pw, ar_I (q 11) cI 8 ph, ar_I (q 13) cZ 8 tu, ar_I (q 14) cI 8 wa]) [] (c_MO_better (cx_l X) (cx_D X) m q K S le cd nS (nP : Int) rn dn cI T1 (mp s 1 w h) (w * h) 0 (k : Int) hat (by omega) (by omega) (by omega) (by omega)) lk_MO_123 d_MO_fillOne_78 rfl (rc_at 0 rfl rfl rfl) [0, 5, 6, 7] [1, 2, 3, 4] ⟨rfl, rfl⟩ ⟨rfl, rfl, by decide⟩ [0] rfl ⟨⟨by decide, by decide⟩, ⟨by decide, by decide⟩, Nat.le_of_ble_eq_true rfl⟩ ⟨rfl, rfl⟩ ?_
            rintro v w1 p1 t1 ⟨rfl, rfl, rfl⟩
            dsimp only [Option.toList, List.cons_append, List.nil_append, List.append_nil]
            refine vv_sub (ws' := [ob_MO m q K S le cd nS (nP : Int) rn dn, ar_I (q 10) cI 8 pw, ar_I (q 11) cI 8 ph, ar_I (q 13) cZ 8 tu, ar_I (q 14) cI 8 wa, ar_I (q 17) cI 2312 (bt (mp s 1 w h).toNat (w * h) 0 (k : Int) T1).1, ar_I (q 18) cI 2312 (bt (mp s 1 w h).toNat (w * h) 0 (k : Int) T1).2.1, ar_I (q 19) cI 2312 (bt (mp s 1 w h).toNat (w * h) 0 (k : Int) T1).2.2]) [4, 0, 1, 2, 3, 5, 6, 7] rfl rfl ?_
            refine vv_iinc d_MO_fillOne_81 rfl rfl (by decide) ?_
            dsimp only [List.set]
            refine vv_goto (tgt := 37) d_MO_fillOne_84 (by decide) ?_
            exact h9 _ hgo
  show VV X (b_MO_fillOne, 13, "SheetTreesModel", rm_1) _ 0 0 [(cI, .int), (cZ, .boolean)] [ob_MO m q K S le cd nS (nP : Int) rn dn, ar_I (q 10) cI 8 pw, ar_I (q 11) cI 8 ph, ar_I (q 13) cZ 8 tu, ar_I (q 14) cI 8 wa, ar_I (q 17) cI 2312 T.1, ar_I (q 18) cI 2312 T.2.1, ar_I (q 19) cI 2312 T.2.2] [] [some (.ref m), some (.int (iI s)), some (.int (iI 1)), some (.int (iI w)), some (.int (iI h)), none, none, none, none, none, none, none, none] [] 0
  refine vv_iload_n d_MO_fillOne_0 rfl ?_
  refine vv_iload_n d_MO_fillOne_1 rfl ?_
  refine vv_iload_n d_MO_fillOne_2 rfl ?_
  refine vv_iload d_MO_fillOne_3 rfl ?_
  refine vv_pS (wc := []) (plc := []) [] (c_MO_place (cx_l X) (cx_D X) s 1 w h) lk_MO_116 d_MO_fillOne_5 rfl [] ⟨rfl, rfl, Or.inl rfl⟩ [] rfl ⟨⟨by decide, by decide⟩, ⟨by decide, by decide⟩, Nat.le_of_ble_eq_true rfl⟩ ⟨rfl, rfl⟩ ?_
  intro v hv
  subst hv
  dsimp only [Option.toList, List.cons_append, List.nil_append, List.append_nil]
  refine vv_istore d_MO_fillOne_8 rfl (by decide) ?_
  dsimp only [List.set]
  refine vv_aload_n d_MO_fillOne_10 rfl ?_
  refine vv_get d_MO_fillOne_11 0 rfl fl_MO_44 rfl ?_
  refine vv_iload d_MO_fillOne_14 rfl ?_
  refine vv_iconst d_MO_fillOne_16 ?_
  refine vv_iast hw d_MO_fillOne_17 5 0 rfl rfl (by omega) ?_
  dsimp only [List.set]
  refine vv_aload_n d_MO_fillOne_18 rfl ?_
  refine vv_get d_MO_fillOne_19 0 rfl fl_MO_47 rfl ?_
  refine vv_iload d_MO_fillOne_22 rfl ?_
  refine vv_iconst d_MO_fillOne_24 ?_
  refine vv_iast hw d_MO_fillOne_25 6 0 rfl rfl (by omega) ?_
  dsimp only [List.set]
  refine vv_aload_n d_MO_fillOne_26 rfl ?_
  refine vv_get d_MO_fillOne_27 0 rfl fl_MO_50 rfl ?_
  refine vv_iload d_MO_fillOne_30 rfl ?_
  refine vv_iconst d_MO_fillOne_32 ?_
  refine vv_iast hw d_MO_fillOne_33 7 0 rfl rfl (by omega) ?_
  dsimp only [List.set]
  refine vv_iconst d_MO_fillOne_34 ?_
  refine vv_istore d_MO_fillOne_35 rfl (by decide) ?_
  dsimp only [List.set]
  exact loopP nP 0 (by omega) (bt_up (mp s 1 w h).toNat 0 0 (-1) T) rfl
