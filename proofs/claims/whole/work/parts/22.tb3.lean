/-! Tables: putPart, choose -/
abbrev rm_2 : Room := { frames := 2, cells := 0, slots := 0, locals := 128 }
theorem c_TB_placeZ (l : Launch) (D : va_G) (s d w h z : Int) (hz : pl_at s d w h = z) : CP l y_TB_placeOf b_TB_placeOf 4 (some .int) rm_0 [.int (iI s), .int (iI d), .int (iI w), .int (iI h)] D [] ([] ++ []) (fun v => v = some (.int (iI z))) := by
  subst hz
  exact c_TB_placeOf l D s d w h
set_option maxHeartbeats 4000000 in
set_option maxRecDepth 100000 in
theorem c_TB_putPart (l : Launch) (D : va_G) (cI : ClassId) (a qs qc : Nat) (K W F p w h : Int) (sc ch : Nat → Int) (hw1 : 1 ≤ w ∧ w ≤ 16) (hh1 : 1 ≤ h ∧ h ≤ 16) : CM l y_TB_putPart b_TB_putPart 5 none rm_1 [.ref a, .int (iI p), .int (iI w), .int (iI h)] D [(cI, .int)] ([ob_TB a qs qc K W F, ar_I qs cI 2312 sc, ar_I qc cI 2312 ch] ++ []) (fun r w1 p1 _ => r = none ∧ w1 = [ob_TB a qs qc K W F, ar_I qs cI 2312 (va_up (va_up sc (pl_at 0 0 w h).toNat (w * h * 1024)) (pl_at 0 1 w h).toNat (w * h * 1024)), ar_I qc cI 2312 (va_up (va_up ch (pl_at 0 0 w h).toNat p) (pl_at 0 1 w h).toNat p)] ∧ p1 = []) := by
  refine cm_of (by decide) (Nat.le_of_ble_eq_true rfl) ?_
  intro X sz hl hr hnm hD hA hw
  subst hD
  show VV X (b_TB_putPart, 5, "SheetTrees$Tables", rm_1) _ 0 0 [(cI, .int)] [ob_TB a qs qc K W F, ar_I qs cI 2312 sc, ar_I qc cI 2312 ch] [] [some (.ref a), some (.int (iI p)), some (.int (iI w)), some (.int (iI h)), none] [] 0
  refine vv_iload_n d_TB_putPart_0 rfl ?_
  refine vv_iload_n d_TB_putPart_1 rfl ?_
  refine vv_imul d_TB_putPart_2 ?_
  refine vv_sipush d_TB_putPart_3 (by decide +kernel) ?_
  refine vv_imul d_TB_putPart_6 ?_
  refine vv_istore d_TB_putPart_7 rfl (by decide) ?_
  dsimp only [List.set]
  refine vv_aload_n d_TB_putPart_9 rfl ?_
  refine vv_iconst d_TB_putPart_10 ?_
  refine vv_iconst d_TB_putPart_11 ?_
  refine vv_iload_n d_TB_putPart_12 rfl ?_
  refine vv_iload_n d_TB_putPart_13 rfl ?_
  refine vv_pS (wc := []) (plc := []) [.ref a] (c_TB_placeZ (cx_l X) (cx_D X) 0 0 w h (pl_at 0 0 w h) rfl) lk_TB_40 d_TB_putPart_14 rfl [] ⟨rfl, rfl, Or.inl rfl⟩ [] rfl ⟨⟨by decide, by decide⟩, ⟨by decide, by decide⟩, Nat.le_of_ble_eq_true rfl⟩ ⟨rfl, rfl⟩ ?_
  intro v hv
  subst hv
  dsimp only [Option.toList, List.cons_append, List.nil_append, List.append_nil]
  refine vv_iload d_TB_putPart_17 rfl ?_
  refine vv_iload_n d_TB_putPart_19 rfl ?_
  refine vv_nV hw (wc := [ob_TB a qs qc K W F, ar_I qs cI 2312 sc, ar_I qc cI 2312 ch]) (wr := []) [] (c_TB_put (cx_l X) (cx_D X) cI a qs qc K W F (pl_at 0 0 w h) (w * h * 1024) p sc ch (by unfold pl_at; omega)) lk_TB_72 d_TB_putPart_20 rfl (rc_at 0 rfl rfl rfl) [0, 1, 2] [] ⟨rfl, rfl⟩ ⟨rfl, rfl, by decide⟩ [0] rfl ⟨⟨by decide, by decide⟩, ⟨by decide, by decide⟩, Nat.le_of_ble_eq_true rfl⟩ ⟨rfl, rfl⟩ ?_
  rintro v w1 p1 t1 ⟨rfl, rfl, rfl⟩
  dsimp only [Option.toList, List.cons_append, List.nil_append, List.append_nil]
  refine vv_aload_n d_TB_putPart_23 rfl ?_
  refine vv_iconst d_TB_putPart_24 ?_
  refine vv_iconst d_TB_putPart_25 ?_
  refine vv_iload_n d_TB_putPart_26 rfl ?_
  refine vv_iload_n d_TB_putPart_27 rfl ?_
  refine vv_pS (wc := []) (plc := []) [.ref a] (c_TB_placeZ (cx_l X) (cx_D X) 0 1 w h (pl_at 0 1 w h) rfl) lk_TB_40 d_TB_putPart_28 rfl [] ⟨rfl, rfl, Or.inl rfl⟩ [] rfl ⟨⟨by decide, by decide⟩, ⟨by decide, by decide⟩, Nat.le_of_ble_eq_true rfl⟩ ⟨rfl, rfl⟩ ?_
  intro v hv
  subst hv
  dsimp only [Option.toList, List.cons_append, List.nil_append, List.append_nil]
  refine vv_iload d_TB_putPart_31 rfl ?_
  refine vv_iload_n d_TB_putPart_33 rfl ?_
  refine vv_nV hw (wc := [ob_TB a qs qc K W F, ar_I qs cI 2312 (va_up sc (pl_at 0 0 w h).toNat (w * h * 1024)), ar_I qc cI 2312 (va_up ch (pl_at 0 0 w h).toNat p)]) (wr := []) [] (c_TB_put (cx_l X) (cx_D X) cI a qs qc K W F (pl_at 0 1 w h) (w * h * 1024) p (va_up sc (pl_at 0 0 w h).toNat (w * h * 1024)) (va_up ch (pl_at 0 0 w h).toNat p) (by unfold pl_at; omega)) lk_TB_72 d_TB_putPart_34 rfl (rc_at 0 rfl rfl rfl) [0, 1, 2] [] ⟨rfl, rfl⟩ ⟨rfl, rfl, by decide⟩ [0] rfl ⟨⟨by decide, by decide⟩, ⟨by decide, by decide⟩, Nat.le_of_ble_eq_true rfl⟩ ⟨rfl, rfl⟩ ?_
  rintro v w1 p1 t1 ⟨rfl, rfl, rfl⟩
  dsimp only [Option.toList, List.cons_append, List.nil_append, List.append_nil]
  exact vv_vret hA hw hr d_TB_putPart_37 (by decide) (by decide) (by exact ⟨rfl, rfl, rfl⟩)
/-- what a cut at c scores -/
def cz_v (sc : Nat → Int) (K fb sb st L c : Int) : Int := rd_scoreAt sc (fb + c * st) + rd_scoreAt sc (sb + max 0 (L - c - K) * st) - 1
/-- the best score and choice after the cuts 1 .. n -/
def cz (sc : Nat → Int) (K fb sb st L : Int) (p0 : Int × Int) : Nat → Int × Int
  | 0 => p0
  | n + 1 => if (cz sc K fb sb st L p0 n).1 < cz_v sc K fb sb st L ((n : Int) + 1) then (cz_v sc K fb sb st L ((n : Int) + 1), 8 + ((n : Int) + 1)) else cz sc K fb sb st L p0 n
def sc_bd (sc : Nat → Int) : Prop := ∀ z, 0 ≤ rd_scoreAt sc z ∧ rd_scoreAt sc z ≤ 1000000
theorem cz_bd {sc : Nat → Int} {K fb sb st L : Int} {p0 : Int × Int} (hb : sc_bd sc) (h0 : 0 ≤ p0.1 ∧ p0.1 ≤ 1000000) : ∀ n, 0 ≤ (cz sc K fb sb st L p0 n).1 ∧ (cz sc K fb sb st L p0 n).1 ≤ 2000000
  | 0 => by unfold cz; omega
  | n + 1 => by
    have ih := cz_bd (K := K) (fb := fb) (sb := sb) (st := st) (L := L) hb h0 n
    unfold cz
    have h1 := hb (fb + ((n : Int) + 1) * st)
    have h2 := hb (sb + max 0 (L - ((n : Int) + 1) - K) * st)
    split
    · rename_i h3
      show 0 ≤ cz_v _ _ _ _ _ _ _ ∧ cz_v _ _ _ _ _ _ _ ≤ 2000000
      unfold cz_v at h3 ⊢
      omega
    · exact ih
def ch_res (sc ch : Nat → Int) (K s d w h : Int) : Int × Int :=
  if d = 0 then cz sc K (pl_at (s - 1) (1 - 0) w h - w * 17) (pl_at s 0 w h - w * 17) 17 w (rd_scoreAt sc (pl_at 0 0 w h), rd_choiceAt ch (pl_at 0 0 w h)) (w - 1).toNat
  else cz sc K (pl_at (s - 1) (1 - 1) w h - h * 1) (pl_at s 1 w h - h * 1) 1 h (rd_scoreAt sc (pl_at 0 1 w h), rd_choiceAt ch (pl_at 0 1 w h)) (h - 1).toNat
set_option maxHeartbeats 4000000 in
set_option maxRecDepth 100000 in
theorem c_TB_choose0 (l : Launch) (D : va_G) (cI : ClassId) (a qs qc : Nat) (K W F s w h : Int) (sc ch : Nat → Int) (hK : 0 ≤ K ∧ K ≤ 3) (hs : 1 ≤ s ∧ s ≤ 3) (hw1 : 1 ≤ w ∧ w ≤ 16) (hh1 : 1 ≤ h ∧ h ≤ 16) (hb : sc_bd sc) : CM l y_TB_choose b_TB_choose 15 none rm_1 [.ref a, .int (iI s), .int (iI 0), .int (iI w), .int (iI h)] D [(cI, .int)] ([ob_TB a qs qc K W F, ar_I qs cI 2312 sc, ar_I qc cI 2312 ch] ++ []) (fun r w1 p1 _ => r = none ∧ w1 = [ob_TB a qs qc K W F, ar_I qs cI 2312 (va_up sc (pl_at s 0 w h).toNat (ch_res sc ch K s 0 w h).1), ar_I qc cI 2312 (va_up ch (pl_at s 0 w h).toNat (ch_res sc ch K s 0 w h).2)] ∧ p1 = []) := by
  refine cm_of (by decide) (Nat.le_of_ble_eq_true rfl) ?_
  intro X sz hl hr hnm hD hA hw
  subst hD
  have hp1 : pl_at (s - 1) (1 - 0) w h = (((s - 1) * 2 + (1 - 0)) * 17 + w) * 17 + h := rfl
  have hp2 : pl_at s 0 w h = ((s * 2 + 0) * 17 + w) * 17 + h := rfl
  have hp3 : pl_at 0 0 w h = ((0 * 2 + 0) * 17 + w) * 17 + h := rfl
  have loop : ∀ m n : Nat, (n : Int) + 1 + m = w → VV X (b_TB_choose, 15, "SheetTrees$Tables", rm_1) (cq X ([ob_TB a qs qc K W F, ar_I qs cI 2312 sc, ar_I qc cI 2312 ch] ++ []) sz (fun r w1 p1 _ => r = none ∧ w1 = [ob_TB a qs qc K W F, ar_I qs cI 2312 (va_up sc (pl_at s 0 w h).toNat (ch_res sc ch K s 0 w h).1), ar_I qc cI 2312 (va_up ch (pl_at s 0 w h).toNat (ch_res sc ch K s 0 w h).2)] ∧ p1 = []) rm_1) 0 0 [(cI, .int)] [ob_TB a qs qc K W F, ar_I qs cI 2312 sc, ar_I qc cI 2312 ch] [] [some (.ref a), some (.int (iI s)), some (.int (iI 0)), some (.int (iI w)), some (.int (iI h)), some (.int (iI (pl_at 0 0 w h))), some (.int (iI (cz sc K (pl_at (s - 1) (1 - 0) w h - w * 17) (pl_at s 0 w h - w * 17) 17 w (rd_scoreAt sc (pl_at 0 0 w h), rd_choiceAt ch (pl_at 0 0 w h)) n).1)), some (.int (iI (cz sc K (pl_at (s - 1) (1 - 0) w h - w * 17) (pl_at s 0 w h - w * 17) 17 w (rd_scoreAt sc (pl_at 0 0 w h), rd_choiceAt ch (pl_at 0 0 w h)) n).2)), some (.int (iI w)), some (.int (iI 17)), some (.int (iI (pl_at (s - 1) (1 - 0) w h - w * 17))), some (.int (iI (pl_at s 0 w h - w * 17))), some (.int (iI ((n : Int) + 1))), none, none] [] 100 := by
    intro m
    induction m with
    | zero =>
      intro n hn
      have hn2 : n = (w - 1).toNat := by omega
      refine vv_iload d_TB_choose_100 rfl ?_
      refine vv_iload d_TB_choose_102 rfl ?_
      refine vv_icmp_ge (tgt := 176) d_TB_choose_104 (by decide) ⟨by omega, by omega⟩ (fun c104 => ?_) (fun c104 => ?_)
      · skip
        refine vv_aload_n d_TB_choose_176 rfl ?_
        refine vv_iload d_TB_choose_177 rfl ?_
        refine vv_iload d_TB_choose_179 rfl ?_
        refine vv_iload d_TB_choose_181 rfl ?_
        refine vv_imul d_TB_choose_183 ?_
        refine vv_iadd d_TB_choose_184 ?_
        refine vv_iload d_TB_choose_185 rfl ?_
        refine vv_iload d_TB_choose_187 rfl ?_
        rw [show (pl_at s 0 w h - w * 17) + w * 17 = pl_at s 0 w h by omega]
        refine vv_nV hw (wc := [ob_TB a qs qc K W F, ar_I qs cI 2312 sc, ar_I qc cI 2312 ch]) (wr := []) [] (c_TB_put (cx_l X) (cx_D X) cI a qs qc K W F (pl_at s 0 w h) (cz sc K (pl_at (s - 1) (1 - 0) w h - w * 17) (pl_at s 0 w h - w * 17) 17 w (rd_scoreAt sc (pl_at 0 0 w h), rd_choiceAt ch (pl_at 0 0 w h)) n).1 (cz sc K (pl_at (s - 1) (1 - 0) w h - w * 17) (pl_at s 0 w h - w * 17) 17 w (rd_scoreAt sc (pl_at 0 0 w h), rd_choiceAt ch (pl_at 0 0 w h)) n).2 sc ch (by omega)) lk_TB_72 d_TB_choose_189 rfl (rc_at 0 rfl rfl rfl) [0, 1, 2] [] ⟨rfl, rfl⟩ ⟨rfl, rfl, by decide⟩ [0] rfl ⟨⟨by decide, by decide⟩, ⟨by decide, by decide⟩, Nat.le_of_ble_eq_true rfl⟩ ⟨rfl, rfl⟩ ?_
        rintro v w1 p1 t1 ⟨rfl, rfl, rfl⟩
        dsimp only [Option.toList, List.cons_append, List.nil_append, List.append_nil]
        exact vv_vret hA hw hr d_TB_choose_192 (by decide) (by decide) ⟨rfl, by unfold ch_res; rw [if_pos rfl, ← hn2], rfl⟩
      · exfalso; omega
    | succ m ih =>
      intro n hn
      have hcb := cz_bd (K := K) (fb := (pl_at (s - 1) (1 - 0) w h - w * 17)) (sb := (pl_at s 0 w h - w * 17)) (st := 17) (L := w) (p0 := (rd_scoreAt sc (pl_at 0 0 w h), rd_choiceAt ch (pl_at 0 0 w h))) hb (hb _) n
      have hb1 := hb ((pl_at (s - 1) (1 - 0) w h - w * 17) + ((n : Int) + 1) * 17)
      have hb2 := hb ((pl_at s 0 w h - w * 17) + max 0 (w - ((n : Int) + 1) - K) * 17)
      have hmx : 0 ≤ max 0 (w - ((n : Int) + 1) - K) ∧ max 0 (w - ((n : Int) + 1) - K) ≤ 16 := by omega
      refine vv_iload d_TB_choose_100 rfl ?_
      refine vv_iload d_TB_choose_102 rfl ?_
      refine vv_icmp_ge (tgt := 176) d_TB_choose_104 (by decide) ⟨by omega, by omega⟩ (fun c104 => ?_) (fun c104 => ?_)
      · exfalso; omega
      · skip
        refine vv_iconst d_TB_choose_107 ?_
        refine vv_iload d_TB_choose_108 rfl ?_
        refine vv_iload d_TB_choose_110 rfl ?_
        refine vv_isub d_TB_choose_112 ?_
        refine vv_aload_n d_TB_choose_113 rfl ?_
        refine vv_get d_TB_choose_114 0 rfl fl_TB_25 rfl ?_
        refine vv_isub d_TB_choose_117 ?_
        refine vv_mmax d_TB_choose_118 lm_TB_79 ⟨by omega, by omega⟩ ⟨by decide, Nat.le_of_ble_eq_true rfl, by decide, by decide⟩ ?_
        refine vv_istore d_TB_choose_121 rfl (by decide) ?_
        dsimp only [List.set]
        refine vv_aload_n d_TB_choose_123 rfl ?_
        refine vv_iload d_TB_choose_124 rfl ?_
        refine vv_iload d_TB_choose_126 rfl ?_
        refine vv_iload d_TB_choose_128 rfl ?_
        refine vv_imul d_TB_choose_130 ?_
        refine vv_iadd d_TB_choose_131 ?_
        refine vv_pV (wc := [ob_TB a qs qc K W F, ar_I qs cI 2312 sc]) (plc := []) [] (c_TB_scoreAt (cx_l X) (cx_D X) cI a qs qc K W F ((pl_at (s - 1) (1 - 0) w h - w * 17) + ((n : Int) + 1) * 17) sc (by omega)) lk_TB_43 d_TB_choose_132 rfl (rc_at 0 rfl rfl rfl) [0, 1] ⟨rfl, rfl, Or.inl rfl⟩ [0] rfl ⟨⟨by decide, by decide⟩, ⟨by decide, by decide⟩, Nat.le_of_ble_eq_true rfl⟩ ⟨rfl, rfl⟩ ?_
        intro v hv
        subst hv
        dsimp only [Option.toList, List.cons_append, List.nil_append, List.append_nil]
        refine vv_aload_n d_TB_choose_135 rfl ?_
        refine vv_iload d_TB_choose_136 rfl ?_
        refine vv_iload d_TB_choose_138 rfl ?_
        refine vv_iload d_TB_choose_140 rfl ?_
        refine vv_imul d_TB_choose_142 ?_
        refine vv_iadd d_TB_choose_143 ?_
        refine vv_pV (wc := [ob_TB a qs qc K W F, ar_I qs cI 2312 sc]) (plc := []) [.int (iI (rd_scoreAt sc ((pl_at (s - 1) (1 - 0) w h - w * 17) + ((n : Int) + 1) * 17)))] (c_TB_scoreAt (cx_l X) (cx_D X) cI a qs qc K W F ((pl_at s 0 w h - w * 17) + max 0 (w - ((n : Int) + 1) - K) * 17) sc (by omega)) lk_TB_43 d_TB_choose_144 rfl (rc_at 0 rfl rfl rfl) [0, 1] ⟨rfl, rfl, Or.inl rfl⟩ [0] rfl ⟨⟨by decide, by decide⟩, ⟨by decide, by decide⟩, Nat.le_of_ble_eq_true rfl⟩ ⟨rfl, rfl⟩ ?_
        intro v hv
        subst hv
        dsimp only [Option.toList, List.cons_append, List.nil_append, List.append_nil]
        refine vv_iadd d_TB_choose_147 ?_
        refine vv_iconst d_TB_choose_148 ?_
        refine vv_isub d_TB_choose_149 ?_
        refine vv_istore d_TB_choose_150 rfl (by decide) ?_
        dsimp only [List.set]
        refine vv_iload d_TB_choose_152 rfl ?_
        refine vv_iload d_TB_choose_154 rfl ?_
        refine vv_icmp_le (tgt := 170) d_TB_choose_156 (by decide) ⟨by omega, by omega⟩ (fun c156 => ?_) (fun c156 => ?_)
        · skip
          refine vv_iinc d_TB_choose_170 rfl rfl (by decide) ?_
          dsimp only [List.set]
          refine vv_goto (tgt := 100) d_TB_choose_173 (by decide) ?_
          have e1 : (cz sc K (pl_at (s - 1) (1 - 0) w h - w * 17) (pl_at s 0 w h - w * 17) 17 w (rd_scoreAt sc (pl_at 0 0 w h), rd_choiceAt ch (pl_at 0 0 w h)) (n + 1)) = (cz sc K (pl_at (s - 1) (1 - 0) w h - w * 17) (pl_at s 0 w h - w * 17) 17 w (rd_scoreAt sc (pl_at 0 0 w h), rd_choiceAt ch (pl_at 0 0 w h)) n) := by rw [cz.eq_def]; exact if_neg (by unfold cz_v; omega)
          have h9 := ih (n + 1) (by omega)
          rw [e1] at h9
          exact vv_le (by repeat (first | exact lo_le_nil _ | refine lo_le_cons _ ?_ | refine lo_le_none _ ?_)) h9
        · skip
          refine vv_iload d_TB_choose_159 rfl ?_
          refine vv_istore d_TB_choose_161 rfl (by decide) ?_
          dsimp only [List.set]
          refine vv_bipush d_TB_choose_163 (by decide +kernel) ?_
          refine vv_iload d_TB_choose_165 rfl ?_
          refine vv_iadd d_TB_choose_167 ?_
          refine vv_istore d_TB_choose_168 rfl (by decide) ?_
          dsimp only [List.set]
          refine vv_iinc d_TB_choose_170 rfl rfl (by decide) ?_
          dsimp only [List.set]
          refine vv_goto (tgt := 100) d_TB_choose_173 (by decide) ?_
          have e1 : (cz sc K (pl_at (s - 1) (1 - 0) w h - w * 17) (pl_at s 0 w h - w * 17) 17 w (rd_scoreAt sc (pl_at 0 0 w h), rd_choiceAt ch (pl_at 0 0 w h)) (n + 1)) = ((cz_v sc K (pl_at (s - 1) (1 - 0) w h - w * 17) (pl_at s 0 w h - w * 17) 17 w ((n : Int) + 1)), 8 + ((n : Int) + 1)) := by rw [cz.eq_def]; exact if_pos (by unfold cz_v; omega)
          have h9 := ih (n + 1) (by omega)
          rw [e1] at h9
          exact vv_le (by repeat (first | exact lo_le_nil _ | refine lo_le_cons _ ?_ | refine lo_le_none _ ?_)) h9
  have hu := hb (pl_at 0 0 w h)
  show VV X (b_TB_choose, 15, "SheetTrees$Tables", rm_1) _ 0 0 [(cI, .int)] [ob_TB a qs qc K W F, ar_I qs cI 2312 sc, ar_I qc cI 2312 ch] [] [some (.ref a), some (.int (iI s)), some (.int (iI 0)), some (.int (iI w)), some (.int (iI h)), none, none, none, none, none, none, none, none, none, none] [] 0
  refine vv_iconst d_TB_choose_0 ?_
  refine vv_iload_n d_TB_choose_1 rfl ?_
  refine vv_iload_n d_TB_choose_2 rfl ?_
  refine vv_iload d_TB_choose_3 rfl ?_
  refine vv_pS (wc := []) (plc := []) [] (c_TB_placeZ (cx_l X) (cx_D X) 0 0 w h (pl_at 0 0 w h) rfl) lk_TB_40 d_TB_choose_5 rfl [] ⟨rfl, rfl, Or.inl rfl⟩ [] rfl ⟨⟨by decide, by decide⟩, ⟨by decide, by decide⟩, Nat.le_of_ble_eq_true rfl⟩ ⟨rfl, rfl⟩ ?_
  intro v hv
  subst hv
  dsimp only [Option.toList, List.cons_append, List.nil_append, List.append_nil]
  refine vv_istore d_TB_choose_8 rfl (by decide) ?_
  dsimp only [List.set]
  refine vv_aload_n d_TB_choose_10 rfl ?_
  refine vv_iload d_TB_choose_11 rfl ?_
  refine vv_pV (wc := [ob_TB a qs qc K W F, ar_I qs cI 2312 sc]) (plc := []) [] (c_TB_scoreAt (cx_l X) (cx_D X) cI a qs qc K W F (pl_at 0 0 w h) sc (by omega)) lk_TB_43 d_TB_choose_13 rfl (rc_at 0 rfl rfl rfl) [0, 1] ⟨rfl, rfl, Or.inl rfl⟩ [0] rfl ⟨⟨by decide, by decide⟩, ⟨by decide, by decide⟩, Nat.le_of_ble_eq_true rfl⟩ ⟨rfl, rfl⟩ ?_
  intro v hv
  subst hv
  dsimp only [Option.toList, List.cons_append, List.nil_append, List.append_nil]
  refine vv_istore d_TB_choose_16 rfl (by decide) ?_
  dsimp only [List.set]
  refine vv_aload_n d_TB_choose_18 rfl ?_
  refine vv_iload d_TB_choose_19 rfl ?_
  refine vv_pV (wc := [ob_TB a qs qc K W F, ar_I qc cI 2312 ch]) (plc := []) [] (c_TB_choiceAt (cx_l X) (cx_D X) cI a qs qc K W F (pl_at 0 0 w h) ch (by omega)) lk_TB_47 d_TB_choose_21 rfl (rc_at 0 rfl rfl rfl) [0, 2] ⟨rfl, rfl, Or.inl rfl⟩ [0] rfl ⟨⟨by decide, by decide⟩, ⟨by decide, by decide⟩, Nat.le_of_ble_eq_true rfl⟩ ⟨rfl, rfl⟩ ?_
  intro v hv
  subst hv
  dsimp only [Option.toList, List.cons_append, List.nil_append, List.append_nil]
  refine vv_istore d_TB_choose_24 rfl (by decide) ?_
  dsimp only [List.set]
  refine vv_iload_n d_TB_choose_26 rfl ?_
  refine vv_if_ne (tgt := 34) d_TB_choose_27 (by decide) ⟨by omega, by omega⟩ (fun c27 => ?_) (fun c27 => ?_)
  · exfalso; omega
  · skip
    refine vv_iload_n d_TB_choose_30 rfl ?_
    refine vv_goto (tgt := 36) d_TB_choose_31 (by decide) ?_
    refine vv_istore d_TB_choose_36 rfl (by decide) ?_
    dsimp only [List.set]
    refine vv_iload_n d_TB_choose_38 rfl ?_
    refine vv_if_ne (tgt := 52) d_TB_choose_39 (by decide) ⟨by omega, by omega⟩ (fun c39 => ?_) (fun c39 => ?_)
    · exfalso; omega
    · skip
      refine vv_iconst d_TB_choose_42 ?_
      refine vv_iconst d_TB_choose_43 ?_
      refine vv_iconst d_TB_choose_44 ?_
      refine vv_iconst d_TB_choose_45 ?_
      refine vv_pS (wc := []) (plc := []) [] (c_TB_placeZ (cx_l X) (cx_D X) 0 0 1 0 17 (by decide)) lk_TB_40 d_TB_choose_46 rfl [] ⟨rfl, rfl, Or.inl rfl⟩ [] rfl ⟨⟨by decide, by decide⟩, ⟨by decide, by decide⟩, Nat.le_of_ble_eq_true rfl⟩ ⟨rfl, rfl⟩ ?_
      intro v hv
      subst hv
      dsimp only [Option.toList, List.cons_append, List.nil_append, List.append_nil]
      refine vv_goto (tgt := 59) d_TB_choose_49 (by decide) ?_
      refine vv_istore d_TB_choose_59 rfl (by decide) ?_
      dsimp only [List.set]
      refine vv_iload_n d_TB_choose_61 rfl ?_
      refine vv_iconst d_TB_choose_62 ?_
      refine vv_isub d_TB_choose_63 ?_
      refine vv_iconst d_TB_choose_64 ?_
      refine vv_iload_n d_TB_choose_65 rfl ?_
      refine vv_isub d_TB_choose_66 ?_
      refine vv_iload_n d_TB_choose_67 rfl ?_
      refine vv_iload d_TB_choose_68 rfl ?_
      refine vv_pS (wc := []) (plc := []) [] (c_TB_placeZ (cx_l X) (cx_D X) (s - 1) (1 - 0) w h (pl_at (s - 1) (1 - 0) w h) rfl) lk_TB_40 d_TB_choose_70 rfl [] ⟨rfl, rfl, Or.inl rfl⟩ [] rfl ⟨⟨by decide, by decide⟩, ⟨by decide, by decide⟩, Nat.le_of_ble_eq_true rfl⟩ ⟨rfl, rfl⟩ ?_
      intro v hv
      subst hv
      dsimp only [Option.toList, List.cons_append, List.nil_append, List.append_nil]
      refine vv_iload d_TB_choose_73 rfl ?_
      refine vv_iload d_TB_choose_75 rfl ?_
      refine vv_imul d_TB_choose_77 ?_
      refine vv_isub d_TB_choose_78 ?_
      refine vv_istore d_TB_choose_79 rfl (by decide) ?_
      dsimp only [List.set]
      refine vv_iload_n d_TB_choose_81 rfl ?_
      refine vv_iload_n d_TB_choose_82 rfl ?_
      refine vv_iload_n d_TB_choose_83 rfl ?_
      refine vv_iload d_TB_choose_84 rfl ?_
      refine vv_pS (wc := []) (plc := []) [] (c_TB_placeZ (cx_l X) (cx_D X) s 0 w h (pl_at s 0 w h) rfl) lk_TB_40 d_TB_choose_86 rfl [] ⟨rfl, rfl, Or.inl rfl⟩ [] rfl ⟨⟨by decide, by decide⟩, ⟨by decide, by decide⟩, Nat.le_of_ble_eq_true rfl⟩ ⟨rfl, rfl⟩ ?_
      intro v hv
      subst hv
      dsimp only [Option.toList, List.cons_append, List.nil_append, List.append_nil]
      refine vv_iload d_TB_choose_89 rfl ?_
      refine vv_iload d_TB_choose_91 rfl ?_
      refine vv_imul d_TB_choose_93 ?_
      refine vv_isub d_TB_choose_94 ?_
      refine vv_istore d_TB_choose_95 rfl (by decide) ?_
      dsimp only [List.set]
      refine vv_iconst d_TB_choose_97 ?_
      refine vv_istore d_TB_choose_98 rfl (by decide) ?_
      dsimp only [List.set]
      exact loop (w - 1).toNat 0 (by omega)
set_option maxHeartbeats 4000000 in
set_option maxRecDepth 100000 in
theorem c_TB_choose1 (l : Launch) (D : va_G) (cI : ClassId) (a qs qc : Nat) (K W F s w h : Int) (sc ch : Nat → Int) (hK : 0 ≤ K ∧ K ≤ 3) (hs : 1 ≤ s ∧ s ≤ 3) (hw1 : 1 ≤ w ∧ w ≤ 16) (hh1 : 1 ≤ h ∧ h ≤ 16) (hb : sc_bd sc) : CM l y_TB_choose b_TB_choose 15 none rm_1 [.ref a, .int (iI s), .int (iI 1), .int (iI w), .int (iI h)] D [(cI, .int)] ([ob_TB a qs qc K W F, ar_I qs cI 2312 sc, ar_I qc cI 2312 ch] ++ []) (fun r w1 p1 _ => r = none ∧ w1 = [ob_TB a qs qc K W F, ar_I qs cI 2312 (va_up sc (pl_at s 1 w h).toNat (ch_res sc ch K s 1 w h).1), ar_I qc cI 2312 (va_up ch (pl_at s 1 w h).toNat (ch_res sc ch K s 1 w h).2)] ∧ p1 = []) := by
  refine cm_of (by decide) (Nat.le_of_ble_eq_true rfl) ?_
  intro X sz hl hr hnm hD hA hw
  subst hD
  have hp1 : pl_at (s - 1) (1 - 1) w h = (((s - 1) * 2 + (1 - 1)) * 17 + w) * 17 + h := rfl
  have hp2 : pl_at s 1 w h = ((s * 2 + 1) * 17 + w) * 17 + h := rfl
  have hp3 : pl_at 0 1 w h = ((0 * 2 + 1) * 17 + w) * 17 + h := rfl
  have loop : ∀ m n : Nat, (n : Int) + 1 + m = h → VV X (b_TB_choose, 15, "SheetTrees$Tables", rm_1) (cq X ([ob_TB a qs qc K W F, ar_I qs cI 2312 sc, ar_I qc cI 2312 ch] ++ []) sz (fun r w1 p1 _ => r = none ∧ w1 = [ob_TB a qs qc K W F, ar_I qs cI 2312 (va_up sc (pl_at s 1 w h).toNat (ch_res sc ch K s 1 w h).1), ar_I qc cI 2312 (va_up ch (pl_at s 1 w h).toNat (ch_res sc ch K s 1 w h).2)] ∧ p1 = []) rm_1) 0 0 [(cI, .int)] [ob_TB a qs qc K W F, ar_I qs cI 2312 sc, ar_I qc cI 2312 ch] [] [some (.ref a), some (.int (iI s)), some (.int (iI 1)), some (.int (iI w)), some (.int (iI h)), some (.int (iI (pl_at 0 1 w h))), some (.int (iI (cz sc K (pl_at (s - 1) (1 - 1) w h - h * 1) (pl_at s 1 w h - h * 1) 1 h (rd_scoreAt sc (pl_at 0 1 w h), rd_choiceAt ch (pl_at 0 1 w h)) n).1)), some (.int (iI (cz sc K (pl_at (s - 1) (1 - 1) w h - h * 1) (pl_at s 1 w h - h * 1) 1 h (rd_scoreAt sc (pl_at 0 1 w h), rd_choiceAt ch (pl_at 0 1 w h)) n).2)), some (.int (iI h)), some (.int (iI 1)), some (.int (iI (pl_at (s - 1) (1 - 1) w h - h * 1))), some (.int (iI (pl_at s 1 w h - h * 1))), some (.int (iI ((n : Int) + 1))), none, none] [] 100 := by
    intro m
    induction m with
    | zero =>
      intro n hn
      have hn2 : n = (h - 1).toNat := by omega
      refine vv_iload d_TB_choose_100 rfl ?_
      refine vv_iload d_TB_choose_102 rfl ?_
      refine vv_icmp_ge (tgt := 176) d_TB_choose_104 (by decide) ⟨by omega, by omega⟩ (fun c104 => ?_) (fun c104 => ?_)
      · skip
        refine vv_aload_n d_TB_choose_176 rfl ?_
        refine vv_iload d_TB_choose_177 rfl ?_
        refine vv_iload d_TB_choose_179 rfl ?_
        refine vv_iload d_TB_choose_181 rfl ?_
        refine vv_imul d_TB_choose_183 ?_
        refine vv_iadd d_TB_choose_184 ?_
        refine vv_iload d_TB_choose_185 rfl ?_
        refine vv_iload d_TB_choose_187 rfl ?_
        rw [show (pl_at s 1 w h - h * 1) + h * 1 = pl_at s 1 w h by omega]
        refine vv_nV hw (wc := [ob_TB a qs qc K W F, ar_I qs cI 2312 sc, ar_I qc cI 2312 ch]) (wr := []) [] (c_TB_put (cx_l X) (cx_D X) cI a qs qc K W F (pl_at s 1 w h) (cz sc K (pl_at (s - 1) (1 - 1) w h - h * 1) (pl_at s 1 w h - h * 1) 1 h (rd_scoreAt sc (pl_at 0 1 w h), rd_choiceAt ch (pl_at 0 1 w h)) n).1 (cz sc K (pl_at (s - 1) (1 - 1) w h - h * 1) (pl_at s 1 w h - h * 1) 1 h (rd_scoreAt sc (pl_at 0 1 w h), rd_choiceAt ch (pl_at 0 1 w h)) n).2 sc ch (by omega)) lk_TB_72 d_TB_choose_189 rfl (rc_at 0 rfl rfl rfl) [0, 1, 2] [] ⟨rfl, rfl⟩ ⟨rfl, rfl, by decide⟩ [0] rfl ⟨⟨by decide, by decide⟩, ⟨by decide, by decide⟩, Nat.le_of_ble_eq_true rfl⟩ ⟨rfl, rfl⟩ ?_
        rintro v w1 p1 t1 ⟨rfl, rfl, rfl⟩
        dsimp only [Option.toList, List.cons_append, List.nil_append, List.append_nil]
        exact vv_vret hA hw hr d_TB_choose_192 (by decide) (by decide) ⟨rfl, by unfold ch_res; rw [if_neg (by decide), ← hn2], rfl⟩
      · exfalso; omega
    | succ m ih =>
      intro n hn
      have hcb := cz_bd (K := K) (fb := (pl_at (s - 1) (1 - 1) w h - h * 1)) (sb := (pl_at s 1 w h - h * 1)) (st := 1) (L := h) (p0 := (rd_scoreAt sc (pl_at 0 1 w h), rd_choiceAt ch (pl_at 0 1 w h))) hb (hb _) n
      have hb1 := hb ((pl_at (s - 1) (1 - 1) w h - h * 1) + ((n : Int) + 1) * 1)
      have hb2 := hb ((pl_at s 1 w h - h * 1) + max 0 (h - ((n : Int) + 1) - K) * 1)
      have hmx : 0 ≤ max 0 (h - ((n : Int) + 1) - K) ∧ max 0 (h - ((n : Int) + 1) - K) ≤ 16 := by omega
      refine vv_iload d_TB_choose_100 rfl ?_
      refine vv_iload d_TB_choose_102 rfl ?_
      refine vv_icmp_ge (tgt := 176) d_TB_choose_104 (by decide) ⟨by omega, by omega⟩ (fun c104 => ?_) (fun c104 => ?_)
      · exfalso; omega
      · skip
        refine vv_iconst d_TB_choose_107 ?_
        refine vv_iload d_TB_choose_108 rfl ?_
        refine vv_iload d_TB_choose_110 rfl ?_
        refine vv_isub d_TB_choose_112 ?_
        refine vv_aload_n d_TB_choose_113 rfl ?_
        refine vv_get d_TB_choose_114 0 rfl fl_TB_25 rfl ?_
        refine vv_isub d_TB_choose_117 ?_
        refine vv_mmax d_TB_choose_118 lm_TB_79 ⟨by omega, by omega⟩ ⟨by decide, Nat.le_of_ble_eq_true rfl, by decide, by decide⟩ ?_
        refine vv_istore d_TB_choose_121 rfl (by decide) ?_
        dsimp only [List.set]
        refine vv_aload_n d_TB_choose_123 rfl ?_
        refine vv_iload d_TB_choose_124 rfl ?_
        refine vv_iload d_TB_choose_126 rfl ?_
        refine vv_iload d_TB_choose_128 rfl ?_
        refine vv_imul d_TB_choose_130 ?_
        refine vv_iadd d_TB_choose_131 ?_
        refine vv_pV (wc := [ob_TB a qs qc K W F, ar_I qs cI 2312 sc]) (plc := []) [] (c_TB_scoreAt (cx_l X) (cx_D X) cI a qs qc K W F ((pl_at (s - 1) (1 - 1) w h - h * 1) + ((n : Int) + 1) * 1) sc (by omega)) lk_TB_43 d_TB_choose_132 rfl (rc_at 0 rfl rfl rfl) [0, 1] ⟨rfl, rfl, Or.inl rfl⟩ [0] rfl ⟨⟨by decide, by decide⟩, ⟨by decide, by decide⟩, Nat.le_of_ble_eq_true rfl⟩ ⟨rfl, rfl⟩ ?_
        intro v hv
        subst hv
        dsimp only [Option.toList, List.cons_append, List.nil_append, List.append_nil]
        refine vv_aload_n d_TB_choose_135 rfl ?_
        refine vv_iload d_TB_choose_136 rfl ?_
        refine vv_iload d_TB_choose_138 rfl ?_
        refine vv_iload d_TB_choose_140 rfl ?_
        refine vv_imul d_TB_choose_142 ?_
        refine vv_iadd d_TB_choose_143 ?_
        refine vv_pV (wc := [ob_TB a qs qc K W F, ar_I qs cI 2312 sc]) (plc := []) [.int (iI (rd_scoreAt sc ((pl_at (s - 1) (1 - 1) w h - h * 1) + ((n : Int) + 1) * 1)))] (c_TB_scoreAt (cx_l X) (cx_D X) cI a qs qc K W F ((pl_at s 1 w h - h * 1) + max 0 (h - ((n : Int) + 1) - K) * 1) sc (by omega)) lk_TB_43 d_TB_choose_144 rfl (rc_at 0 rfl rfl rfl) [0, 1] ⟨rfl, rfl, Or.inl rfl⟩ [0] rfl ⟨⟨by decide, by decide⟩, ⟨by decide, by decide⟩, Nat.le_of_ble_eq_true rfl⟩ ⟨rfl, rfl⟩ ?_
        intro v hv
        subst hv
        dsimp only [Option.toList, List.cons_append, List.nil_append, List.append_nil]
        refine vv_iadd d_TB_choose_147 ?_
        refine vv_iconst d_TB_choose_148 ?_
        refine vv_isub d_TB_choose_149 ?_
        refine vv_istore d_TB_choose_150 rfl (by decide) ?_
        dsimp only [List.set]
        refine vv_iload d_TB_choose_152 rfl ?_
        refine vv_iload d_TB_choose_154 rfl ?_
        refine vv_icmp_le (tgt := 170) d_TB_choose_156 (by decide) ⟨by omega, by omega⟩ (fun c156 => ?_) (fun c156 => ?_)
        · skip
          refine vv_iinc d_TB_choose_170 rfl rfl (by decide) ?_
          dsimp only [List.set]
          refine vv_goto (tgt := 100) d_TB_choose_173 (by decide) ?_
          have e1 : (cz sc K (pl_at (s - 1) (1 - 1) w h - h * 1) (pl_at s 1 w h - h * 1) 1 h (rd_scoreAt sc (pl_at 0 1 w h), rd_choiceAt ch (pl_at 0 1 w h)) (n + 1)) = (cz sc K (pl_at (s - 1) (1 - 1) w h - h * 1) (pl_at s 1 w h - h * 1) 1 h (rd_scoreAt sc (pl_at 0 1 w h), rd_choiceAt ch (pl_at 0 1 w h)) n) := by rw [cz.eq_def]; exact if_neg (by unfold cz_v; omega)
          have h9 := ih (n + 1) (by omega)
          rw [e1] at h9
          exact vv_le (by repeat (first | exact lo_le_nil _ | refine lo_le_cons _ ?_ | refine lo_le_none _ ?_)) h9
        · skip
          refine vv_iload d_TB_choose_159 rfl ?_
          refine vv_istore d_TB_choose_161 rfl (by decide) ?_
          dsimp only [List.set]
          refine vv_bipush d_TB_choose_163 (by decide +kernel) ?_
          refine vv_iload d_TB_choose_165 rfl ?_
          refine vv_iadd d_TB_choose_167 ?_
          refine vv_istore d_TB_choose_168 rfl (by decide) ?_
          dsimp only [List.set]
          refine vv_iinc d_TB_choose_170 rfl rfl (by decide) ?_
          dsimp only [List.set]
          refine vv_goto (tgt := 100) d_TB_choose_173 (by decide) ?_
          have e1 : (cz sc K (pl_at (s - 1) (1 - 1) w h - h * 1) (pl_at s 1 w h - h * 1) 1 h (rd_scoreAt sc (pl_at 0 1 w h), rd_choiceAt ch (pl_at 0 1 w h)) (n + 1)) = ((cz_v sc K (pl_at (s - 1) (1 - 1) w h - h * 1) (pl_at s 1 w h - h * 1) 1 h ((n : Int) + 1)), 8 + ((n : Int) + 1)) := by rw [cz.eq_def]; exact if_pos (by unfold cz_v; omega)
          have h9 := ih (n + 1) (by omega)
          rw [e1] at h9
          exact vv_le (by repeat (first | exact lo_le_nil _ | refine lo_le_cons _ ?_ | refine lo_le_none _ ?_)) h9
  have hu := hb (pl_at 0 1 w h)
  show VV X (b_TB_choose, 15, "SheetTrees$Tables", rm_1) _ 0 0 [(cI, .int)] [ob_TB a qs qc K W F, ar_I qs cI 2312 sc, ar_I qc cI 2312 ch] [] [some (.ref a), some (.int (iI s)), some (.int (iI 1)), some (.int (iI w)), some (.int (iI h)), none, none, none, none, none, none, none, none, none, none] [] 0
  refine vv_iconst d_TB_choose_0 ?_
  refine vv_iload_n d_TB_choose_1 rfl ?_
  refine vv_iload_n d_TB_choose_2 rfl ?_
  refine vv_iload d_TB_choose_3 rfl ?_
  refine vv_pS (wc := []) (plc := []) [] (c_TB_placeZ (cx_l X) (cx_D X) 0 1 w h (pl_at 0 1 w h) rfl) lk_TB_40 d_TB_choose_5 rfl [] ⟨rfl, rfl, Or.inl rfl⟩ [] rfl ⟨⟨by decide, by decide⟩, ⟨by decide, by decide⟩, Nat.le_of_ble_eq_true rfl⟩ ⟨rfl, rfl⟩ ?_
  intro v hv
  subst hv
  dsimp only [Option.toList, List.cons_append, List.nil_append, List.append_nil]
  refine vv_istore d_TB_choose_8 rfl (by decide) ?_
  dsimp only [List.set]
  refine vv_aload_n d_TB_choose_10 rfl ?_
  refine vv_iload d_TB_choose_11 rfl ?_
  refine vv_pV (wc := [ob_TB a qs qc K W F, ar_I qs cI 2312 sc]) (plc := []) [] (c_TB_scoreAt (cx_l X) (cx_D X) cI a qs qc K W F (pl_at 0 1 w h) sc (by omega)) lk_TB_43 d_TB_choose_13 rfl (rc_at 0 rfl rfl rfl) [0, 1] ⟨rfl, rfl, Or.inl rfl⟩ [0] rfl ⟨⟨by decide, by decide⟩, ⟨by decide, by decide⟩, Nat.le_of_ble_eq_true rfl⟩ ⟨rfl, rfl⟩ ?_
  intro v hv
  subst hv
  dsimp only [Option.toList, List.cons_append, List.nil_append, List.append_nil]
  refine vv_istore d_TB_choose_16 rfl (by decide) ?_
  dsimp only [List.set]
  refine vv_aload_n d_TB_choose_18 rfl ?_
  refine vv_iload d_TB_choose_19 rfl ?_
  refine vv_pV (wc := [ob_TB a qs qc K W F, ar_I qc cI 2312 ch]) (plc := []) [] (c_TB_choiceAt (cx_l X) (cx_D X) cI a qs qc K W F (pl_at 0 1 w h) ch (by omega)) lk_TB_47 d_TB_choose_21 rfl (rc_at 0 rfl rfl rfl) [0, 2] ⟨rfl, rfl, Or.inl rfl⟩ [0] rfl ⟨⟨by decide, by decide⟩, ⟨by decide, by decide⟩, Nat.le_of_ble_eq_true rfl⟩ ⟨rfl, rfl⟩ ?_
  intro v hv
  subst hv
  dsimp only [Option.toList, List.cons_append, List.nil_append, List.append_nil]
  refine vv_istore d_TB_choose_24 rfl (by decide) ?_
  dsimp only [List.set]
  refine vv_iload_n d_TB_choose_26 rfl ?_
  refine vv_if_ne (tgt := 34) d_TB_choose_27 (by decide) ⟨by omega, by omega⟩ (fun c27 => ?_) (fun c27 => ?_)
  · skip
    refine vv_iload d_TB_choose_34 rfl ?_
    refine vv_istore d_TB_choose_36 rfl (by decide) ?_
    dsimp only [List.set]
    refine vv_iload_n d_TB_choose_38 rfl ?_
    refine vv_if_ne (tgt := 52) d_TB_choose_39 (by decide) ⟨by omega, by omega⟩ (fun c39 => ?_) (fun c39 => ?_)
    · skip
      refine vv_iconst d_TB_choose_52 ?_
      refine vv_iconst d_TB_choose_53 ?_
      refine vv_iconst d_TB_choose_54 ?_
      refine vv_iconst d_TB_choose_55 ?_
      refine vv_pS (wc := []) (plc := []) [] (c_TB_placeZ (cx_l X) (cx_D X) 0 0 0 1 1 (by decide)) lk_TB_40 d_TB_choose_56 rfl [] ⟨rfl, rfl, Or.inl rfl⟩ [] rfl ⟨⟨by decide, by decide⟩, ⟨by decide, by decide⟩, Nat.le_of_ble_eq_true rfl⟩ ⟨rfl, rfl⟩ ?_
      intro v hv
      subst hv
      dsimp only [Option.toList, List.cons_append, List.nil_append, List.append_nil]
      refine vv_istore d_TB_choose_59 rfl (by decide) ?_
      dsimp only [List.set]
      refine vv_iload_n d_TB_choose_61 rfl ?_
      refine vv_iconst d_TB_choose_62 ?_
      refine vv_isub d_TB_choose_63 ?_
      refine vv_iconst d_TB_choose_64 ?_
      refine vv_iload_n d_TB_choose_65 rfl ?_
      refine vv_isub d_TB_choose_66 ?_
      refine vv_iload_n d_TB_choose_67 rfl ?_
      refine vv_iload d_TB_choose_68 rfl ?_
      refine vv_pS (wc := []) (plc := []) [] (c_TB_placeZ (cx_l X) (cx_D X) (s - 1) (1 - 1) w h (pl_at (s - 1) (1 - 1) w h) rfl) lk_TB_40 d_TB_choose_70 rfl [] ⟨rfl, rfl, Or.inl rfl⟩ [] rfl ⟨⟨by decide, by decide⟩, ⟨by decide, by decide⟩, Nat.le_of_ble_eq_true rfl⟩ ⟨rfl, rfl⟩ ?_
      intro v hv
      subst hv
      dsimp only [Option.toList, List.cons_append, List.nil_append, List.append_nil]
      refine vv_iload d_TB_choose_73 rfl ?_
      refine vv_iload d_TB_choose_75 rfl ?_
      refine vv_imul d_TB_choose_77 ?_
      refine vv_isub d_TB_choose_78 ?_
      refine vv_istore d_TB_choose_79 rfl (by decide) ?_
      dsimp only [List.set]
      refine vv_iload_n d_TB_choose_81 rfl ?_
      refine vv_iload_n d_TB_choose_82 rfl ?_
      refine vv_iload_n d_TB_choose_83 rfl ?_
      refine vv_iload d_TB_choose_84 rfl ?_
      refine vv_pS (wc := []) (plc := []) [] (c_TB_placeZ (cx_l X) (cx_D X) s 1 w h (pl_at s 1 w h) rfl) lk_TB_40 d_TB_choose_86 rfl [] ⟨rfl, rfl, Or.inl rfl⟩ [] rfl ⟨⟨by decide, by decide⟩, ⟨by decide, by decide⟩, Nat.le_of_ble_eq_true rfl⟩ ⟨rfl, rfl⟩ ?_
      intro v hv
      subst hv
      dsimp only [Option.toList, List.cons_append, List.nil_append, List.append_nil]
      refine vv_iload d_TB_choose_89 rfl ?_
      refine vv_iload d_TB_choose_91 rfl ?_
      refine vv_imul d_TB_choose_93 ?_
      refine vv_isub d_TB_choose_94 ?_
      refine vv_istore d_TB_choose_95 rfl (by decide) ?_
      dsimp only [List.set]
      refine vv_iconst d_TB_choose_97 ?_
      refine vv_istore d_TB_choose_98 rfl (by decide) ?_
      dsimp only [List.set]
      exact loop (h - 1).toNat 0 (by omega)
    · exfalso; omega
  · exfalso; omega
