/-! Tables: fill, valueOf -/
theorem TI_wc0 (T : tp_T) : TI (wc_0 T).1 := by
  intro s d w h a1 a2 a3 a4 a5 a6 a7 a8
  have h1 : (pl_at s d w h).toNat < 2312 := by unfold pl_at; omega
  have h2 := area_le a5 a6 a7 a8
  show 0 ≤ (if (pl_at s d w h).toNat < 2312 then 0 else T.1 _) ∧ (if (pl_at s d w h).toNat < 2312 then 0 else T.1 _) ≤ _
  rw [if_pos h1]
  omega
theorem TI_pp {p w h : Int} {T : tp_T} (hT : TI T.1) (hw : 1 ≤ w ∧ w ≤ 16) (hh : 1 ≤ h ∧ h ≤ 16) : TI (pp_up p w h T).1 := by
  have h2 := area_le (w := w) (h := h) (by omega) (by omega) (by omega) (by omega)
  exact TI_up (TI_up hT (by omega) (by omega) (by omega) (by omega) (by omega)) (by omega) (by omega) (by omega) (by omega) (by omega)
theorem TI_wc {R : Nat → pa_T} {m : Nat} {T : tp_T} (hP : PW R m) : ∀ k : Nat, k ≤ 8 → TI (wc_dn R m T k).1
  | 0, _ => TI_wc0 T
  | k + 1, hk => by
    have ih := TI_wc (T := T) hP k (by omega)
    show TI (wc_at R m (7 - k) (wc_dn R m T k)).1
    unfold wc_at
    split
    · rename_i hb
      obtain ⟨h1, h2⟩ := hP (7 - k) (by omega) hb
      split
      · exact TI_pp ih h1 h2
      · exact TI_pp (TI_pp ih h1 h2) h2 h1
    · exact ih
/-- n stages behind the stage F -/
def fg (K F : Int) (T : tp_T) : Nat → tp_T
  | 0 => T
  | n + 1 => fs_w K (F + (n : Int) + 1) (fg K F T n) 16
theorem TI_fg {K F : Int} {T : tp_T} (hT : TI T.1) (hK : 0 ≤ K) (hF : 0 ≤ F) : ∀ n : Nat, F + n ≤ 3 → TI (fg K F T n).1
  | 0, _ => hT
  | n + 1, hn => TI_fsw (TI_fg hT hK hF n (by omega)) hK (by omega) 16 (by omega)
def fl_F (m : Nat) (W F : Int) : Int := if (m : Int) = W then F else 0
def fl_T1 (R : Nat → pa_T) (m : Nat) (W : Int) (T : tp_T) : tp_T := if (m : Int) = W then T else wc_dn R m T 8
/-- the tables behind fill(parts, m, S) -/
def fl_T (K : Int) (R : Nat → pa_T) (m : Nat) (S W F : Int) (T : tp_T) : tp_T := fg K (fl_F m W F) (fl_T1 R m W T) (S - fl_F m W F).toNat
def fl_G (m : Nat) (S W F : Int) : Int := fl_F m W F + ((S - fl_F m W F).toNat : Int)
set_option maxHeartbeats 4000000 in
set_option maxRecDepth 100000 in
theorem c_TB_fill (l : Launch) (D : va_G) (cI cP : ClassId) (a qs qc qp m : Nat) (K W F S : Int) (T : tp_T) (fP : Nat → Option Nat) (L : List Nat) (f : Nat → va_E) (aP : Nat → Nat) (R : Nat → pa_T) (hK : 0 ≤ K ∧ K ≤ 3) (hm : m < 256) (hS : 0 ≤ S ∧ S ≤ 3) (hF : 0 ≤ F ∧ F ≤ 3) (hW : -2147483648 ≤ W ∧ W < 2147483648) (hT : (m : Int) = W → TI T.1) (hfP : ∀ p : Nat, p < 8 → fP p = some (aP p)) (hPP : PP L f aP R) (hPW : PW R m) (hPZ : PZ R) : CM l y_TB_fill b_TB_fill 5 none rm_3 [.ref a, .ref qp, .int (iI (m : Int)), .int (iI S)] D [(cI, .int), (cP, .object "SheetTrees$Part")] ([ob_TB a qs qc K W F, ar_I qs cI 2312 T.1, ar_I qc cI 2312 T.2, ar_Q qp cP 8 fP] ++ va_pl L f) (fun r w1 p1 _ => r = none ∧ w1 = [ob_TB a qs qc K (m : Int) (fl_G m S W F), ar_I qs cI 2312 (fl_T K R m S W F T).1, ar_I qc cI 2312 (fl_T K R m S W F T).2, ar_Q qp cP 8 fP] ∧ p1 = va_pl L f) := by
  refine cm_of (by decide) (Nat.le_of_ble_eq_true rfl) ?_
  intro X sz hl hr hnm hD hA hw
  subst hD
  have loop : ∀ (F1 : Int) (T1 : tp_T), 0 ≤ F1 ∧ F1 ≤ 3 → TI T1.1 → fl_F m W F = F1 → fl_T1 R m W T = T1 → ∀ i k : Nat, k + i = (S - F1).toNat → VV X (b_TB_fill, 5, "SheetTrees$Tables", rm_3) (cq X ([ob_TB a qs qc K W F, ar_I qs cI 2312 T.1, ar_I qc cI 2312 T.2, ar_Q qp cP 8 fP] ++ va_pl L f) sz (fun r w1 p1 _ => r = none ∧ w1 = [ob_TB a qs qc K (m : Int) (fl_G m S W F), ar_I qs cI 2312 (fl_T K R m S W F T).1, ar_I qc cI 2312 (fl_T K R m S W F T).2, ar_Q qp cP 8 fP] ∧ p1 = va_pl L f) rm_3) 0 0 [(cI, .int), (cP, .object "SheetTrees$Part")] [ob_TB a qs qc K (m : Int) (F1 + (k : Int)), ar_I qs cI 2312 (fg K F1 T1 k).1, ar_I qc cI 2312 (fg K F1 T1 k).2, ar_Q qp cP 8 fP] (va_pl L f) [some (.ref a), some (.ref qp), some (.int (iI (m : Int))), some (.int (iI S)), some (.int (iI (F1 + (k : Int) + 1)))] [] 31 := by
    intro F1 T1 hF1 hT1 e1 e2 i
    induction i with
    | zero =>
      intro k hk
      refine vv_iload d_TB_fill_31 rfl ?_
      refine vv_iload_n d_TB_fill_33 rfl ?_
      refine vv_icmp_gt (tgt := 61) d_TB_fill_34 (by decide) ⟨by omega, by omega⟩ (fun c34 => ?_) (fun c34 => ?_)
      · skip
        exact vv_vret hA hw hr d_TB_fill_61 (by decide) (by decide) ⟨rfl, by unfold fl_T fl_G; rw [e1, e2, ← show k = (S - F1).toNat by omega], rfl⟩
      · exfalso; omega
    | succ i ih =>
      intro k hk
      have hI := TI_fg hT1 hK.1 hF1.1 k (by omega)
      refine vv_iload d_TB_fill_31 rfl ?_
      refine vv_iload_n d_TB_fill_33 rfl ?_
      refine vv_icmp_gt (tgt := 61) d_TB_fill_34 (by decide) ⟨by omega, by omega⟩ (fun c34 => ?_) (fun c34 => ?_)
      · exfalso; omega
      · skip
        refine vv_iload d_TB_fill_37 rfl ?_
        refine vv_iconst d_TB_fill_39 ?_
        refine vv_icmp_gt (tgt := 61) d_TB_fill_40 (by decide) ⟨by omega, by omega⟩ (fun c40 => ?_) (fun c40 => ?_)
        · exfalso; omega
        · skip
          refine vv_aload_n d_TB_fill_43 rfl ?_
          refine vv_iload d_TB_fill_44 rfl ?_
          refine vv_nV hw (wc := [ob_TB a qs qc K (m : Int) (F1 + (k : Int)), ar_I qs cI 2312 (fg K F1 T1 k).1, ar_I qc cI 2312 (fg K F1 T1 k).2]) (wr := [ar_Q qp cP 8 fP]) [] (c_TB_fillStage (cx_l X) (cx_D X) cI a qs qc K (m : Int) (F1 + (k : Int)) (F1 + (k : Int) + 1) (fg K F1 T1 k) hK (by omega) hI) lk_TB_32 d_TB_fill_46 rfl (rc_at 0 rfl rfl rfl) [0, 1, 2] [3] ⟨rfl, rfl⟩ ⟨rfl, rfl, by decide⟩ [0] rfl ⟨⟨by decide, by decide⟩, ⟨by decide, by decide⟩, Nat.le_of_ble_eq_true rfl⟩ ⟨rfl, rfl⟩ ?_
          rintro v w1 p1 t1 ⟨rfl, rfl, rfl⟩
          dsimp only [Option.toList, List.cons_append, List.nil_append, List.append_nil]
          refine vv_sub (ws' := [ob_TB a qs qc K (m : Int) (F1 + (k : Int)), ar_I qs cI 2312 (fg K F1 T1 (k + 1)).1, ar_I qc cI 2312 (fg K F1 T1 (k + 1)).2, ar_Q qp cP 8 fP]) [1, 2, 3, 0] rfl rfl ?_
          refine vv_aload_n d_TB_fill_49 rfl ?_
          refine vv_iload d_TB_fill_50 rfl ?_
          refine vv_put hw d_TB_fill_52 0 rfl fp_TB_22 rfl rfl (Nat.le_of_ble_eq_true rfl) ?_
          dsimp only [List.set]
          refine vv_iinc d_TB_fill_55 rfl rfl (by decide) ?_
          dsimp only [List.set]
          refine vv_goto (tgt := 31) d_TB_fill_58 (by decide) ?_
          have h9 := ih (k + 1) (by omega)
          rw [show F1 + ((k + 1 : Nat) : Int) = F1 + (k : Int) + 1 by omega] at h9
          exact h9
  show VV X (b_TB_fill, 5, "SheetTrees$Tables", rm_3) _ 0 0 [(cI, .int), (cP, .object "SheetTrees$Part")] [ob_TB a qs qc K W F, ar_I qs cI 2312 T.1, ar_I qc cI 2312 T.2, ar_Q qp cP 8 fP] (va_pl L f) [some (.ref a), some (.ref qp), some (.int (iI (m : Int))), some (.int (iI S)), none] [] 0
  refine vv_iload_n d_TB_fill_0 rfl ?_
  refine vv_aload_n d_TB_fill_1 rfl ?_
  refine vv_get d_TB_fill_2 0 rfl fl_TB_18 rfl ?_
  refine vv_icmp_eq (tgt := 23) d_TB_fill_5 (by decide) ⟨by omega, by omega⟩ (fun c5 => ?_) (fun c5 => ?_)
  · skip
    refine vv_aload_n d_TB_fill_23 rfl ?_
    refine vv_get d_TB_fill_24 0 rfl fl_TB_22 rfl ?_
    refine vv_iconst d_TB_fill_27 ?_
    refine vv_iadd d_TB_fill_28 ?_
    refine vv_istore d_TB_fill_29 rfl (by decide) ?_
    dsimp only [List.set]
    subst c5
    have h9 := loop F T hF (hT rfl) (by unfold fl_F; rw [if_pos rfl]) (by unfold fl_T1; rw [if_pos rfl]) (S - F).toNat 0 (by omega)
    rw [show F + ((0 : Nat) : Int) = F by omega] at h9
    exact h9
  · skip
    refine vv_aload_n d_TB_fill_8 rfl ?_
    refine vv_iload_n d_TB_fill_9 rfl ?_
    refine vv_put hw d_TB_fill_10 0 rfl fp_TB_18 rfl rfl (Nat.le_of_ble_eq_true rfl) ?_
    dsimp only [List.set]
    refine vv_aload_n d_TB_fill_13 rfl ?_
    refine vv_iconst d_TB_fill_14 ?_
    refine vv_put hw d_TB_fill_15 0 rfl fp_TB_22 rfl rfl (Nat.le_of_ble_eq_true rfl) ?_
    dsimp only [List.set]
    refine vv_aload_n d_TB_fill_18 rfl ?_
    refine vv_aload_n d_TB_fill_19 rfl ?_
    refine vv_mV hw (wc := [ob_TB a qs qc K (m : Int) 0, ar_I qs cI 2312 T.1, ar_I qc cI 2312 T.2, ar_Q qp cP 8 fP]) (wr := []) [] (c_TB_fillWithoutCuts (cx_l X) (cx_D X) cI cP a qs qc qp m K 0 T fP L f aP R hm hfP hPP hPW hPZ) lk_TB_28 d_TB_fill_20 rfl (rc_at 0 rfl rfl rfl) [0, 1, 2, 3] [] ⟨rfl, rfl⟩ ⟨rfl, rfl, by decide⟩ [0, 1] rfl ⟨⟨by decide, by decide⟩, ⟨by decide, by decide⟩, Nat.le_of_ble_eq_true rfl⟩ ⟨rfl, rfl⟩ ?_
    rintro v w1 p1 t1 ⟨rfl, rfl, rfl⟩
    dsimp only [Option.toList, List.cons_append, List.nil_append, List.append_nil]
    refine vv_aload_n d_TB_fill_23 rfl ?_
    refine vv_get d_TB_fill_24 0 rfl fl_TB_22 rfl ?_
    refine vv_iconst d_TB_fill_27 ?_
    refine vv_iadd d_TB_fill_28 ?_
    refine vv_istore d_TB_fill_29 rfl (by decide) ?_
    dsimp only [List.set]
    have h9 := loop 0 (wc_dn R m T 8) (by omega) (TI_wc hPW 8 (by omega)) (by unfold fl_F; rw [if_neg c5]) (by unfold fl_T1; rw [if_neg c5]) (S - 0).toNat 0 (by omega)
    exact h9
set_option maxHeartbeats 4000000 in
set_option maxRecDepth 100000 in
theorem c_TB_valueOf (l : Launch) (D : va_G) (cI : ClassId) (a qs qc : Nat) (K W F s d w h : Int) (g : Nat → Int) (hz : -2147483648 ≤ pl_at s d w h ∧ pl_at s d w h < 2147483648) (hb : sc_bd g) : CP l y_TB_valueOf b_TB_valueOf 5 (some .int) rm_2 [.ref a, .int (iI s), .int (iI d), .int (iI w), .int (iI h)] D [(cI, .int)] ([ob_TB a qs qc K W F, ar_I qs cI 2312 g] ++ []) (fun v => v = some (.int (iI ((rd_scoreAt g (pl_at s d w h) + 1024 - 1).tdiv 1024)))) := by
  refine cp_of (by decide) (Nat.le_of_ble_eq_true rfl) ?_
  intro X sz hl hr hD hA
  subst hD
  have h1 := hb (pl_at s d w h)
  show VV X (b_TB_valueOf, 5, "SheetTrees$Tables", rm_2) _ 0 0 [(cI, .int)] [ob_TB a qs qc K W F, ar_I qs cI 2312 g] [] [some (.ref a), some (.int (iI s)), some (.int (iI d)), some (.int (iI w)), some (.int (iI h))] [] 0
  refine vv_aload_n d_TB_valueOf_0 rfl ?_
  refine vv_iload_n d_TB_valueOf_1 rfl ?_
  refine vv_iload_n d_TB_valueOf_2 rfl ?_
  refine vv_iload_n d_TB_valueOf_3 rfl ?_
  refine vv_iload d_TB_valueOf_4 rfl ?_
  refine vv_pV (wc := [ob_TB a qs qc K W F, ar_I qs cI 2312 g]) (plc := []) [] (c_TB_scoreOf (cx_l X) (cx_D X) cI a qs qc K W F s d w h g hz) lk_TB_36 d_TB_valueOf_6 rfl (rc_at 0 rfl rfl rfl) [0, 1] ⟨rfl, rfl, Or.inl rfl⟩ [0] rfl ⟨⟨by decide, by decide⟩, ⟨by decide, by decide⟩, Nat.le_of_ble_eq_true rfl⟩ ⟨rfl, rfl⟩ ?_
  intro v hv
  subst hv
  dsimp only [Option.toList, List.cons_append, List.nil_append, List.append_nil]
  refine vv_sipush d_TB_valueOf_9 (by decide +kernel) ?_
  refine vv_iadd d_TB_valueOf_12 ?_
  refine vv_iconst d_TB_valueOf_13 ?_
  refine vv_isub d_TB_valueOf_14 ?_
  refine vv_sipush d_TB_valueOf_15 (by decide +kernel) ?_
  refine vv_idiv d_TB_valueOf_18 (by omega) ?_
  exact vp_iret hA hr d_TB_valueOf_19 (by decide) (by decide) (by rfl)
