/-! a contract in more room; Layout.layTree for any stage and way; Layout.lay -/
theorem room_le {s : State} {pl : Platform} {r r' : Room} (h : r.frames ≤ r'.frames ∧ r.locals ≤ r'.locals ∧ r.cells = r'.cells ∧ r.slots = r'.slots) (hr : s.hasRoom pl r' = true) : s.hasRoom pl r = true := by
  unfold State.hasRoom at *
  simp only [Bool.and_eq_true, decide_eq_true_eq] at *
  obtain ⟨⟨⟨⟨a1, a2⟩, a3⟩, a4⟩, a5⟩ := hr
  exact ⟨⟨⟨⟨by omega, by omega, by omega, by omega, by omega, a2.2.2.2.2⟩, by omega⟩, by omega⟩, a5⟩
theorem met_mono {l : Launch} {y : MethodName} {ws : List Cond} {rm rm' : Room} {Pc : Array Value → State → Prop} {Qc : Array Value → State → Outcome → State → Prop} {mc ms : Nat} {free : Addr → Prop} (h : rm.frames ≤ rm'.frames ∧ rm.locals ≤ rm'.locals ∧ rm.cells = rm'.cells ∧ rm.slots = rm'.slots) (hM : Met l y ws rm Pc Qc mc ms free) : Met l y ws rm' Pc Qc mc ms free := by
  intro p e ha hc hk s m args below hf happ hP hK
  refine hM p e ha hc hk s m args below hf ?_ hP hK
  obtain ⟨h1, h2, h3, h4, h5, h6, h7, h8⟩ := (Spec.appliesLoose_iff hf).mp happ
  exact (Spec.appliesLoose_iff hf).mpr ⟨h1, h2, h3, h4, h5, h6, room_le h h7, h8⟩
theorem cm_mono {l : Launch} {y : MethodName} {b : ByteArray} {nL : Nat} {rt : Option FieldType} {rm rm' : Room} {av : List Value} {D : va_G} {tys : List (ClassId × FieldType)} {ws : va_W} {post : Option Value → va_W → va_W → List (ClassId × FieldType) → Prop} (h : rm.frames ≤ rm'.frames ∧ rm.locals ≤ rm'.locals ∧ rm.cells = rm'.cells ∧ rm.slots = rm'.slots) (hM : CM l y b nL rt rm av D tys ws post) : CM l y b nL rt rm' av D tys ws post := by
  intro sz
  have h1 := met_mono h (hM sz)
  rw [h.2.2.1, h.2.2.2] at h1
  exact h1
abbrev bz (d : Bool) : Int := if d = true then 1 else 0
set_option maxHeartbeats 4000000 in
set_option maxRecDepth 100000 in
theorem c_LY_layTree (l : Launch) (D : va_G) (cI : ClassId) (a qt qp qo qs qc : Nat) (way K W F x y w h : Int) (ch : Nat → Int) (st0 : ly_T) (hK : 0 ≤ K ∧ K ≤ 3) (hC : CI ch) (hN0 : LN st0) (hok : okp x y w h) (s : Nat) (hs : s ≤ 3) (d : Bool) (sI dI : Int) (h1 : sI = (s : Int)) (h2 : dI = bz d) : CM l y_LY_layTree b_LY_layTree 17 none rm_5 [.ref a, .int (iI x), .int (iI y), .int (iI w), .int (iI h), .int (iI dI), .int (iI sI)] D [(cI, .int)] ([ob_LY a qt qp qo way st0, ar_I qp cI 256 st0.2.2.2.1, ar_I qo cI 8 st0.2.2.2.2, ob_TB qt qs qc K W F, ar_I qc cI 2312 ch] ++ []) (fun r w1 p1 _ => r = none ∧ w1 = [ob_LY a qt qp qo way (lt ch K s d x y w h st0), ar_I qp cI 256 (lt ch K s d x y w h st0).2.2.2.1, ar_I qo cI 8 (lt ch K s d x y w h st0).2.2.2.2, ob_TB qt qs qc K W F, ar_I qc cI 2312 ch] ∧ p1 = []) := by
  rcases (show s = 0 ∨ s = 1 ∨ s = 2 ∨ s = 3 by omega) with rfl | rfl | rfl | rfl <;> cases d
  · have e1 : sI = 0 := h1
    have e2 : dI = 0 := h2
    subst e1; subst e2
    exact cm_mono (rm := rm_2) ⟨by decide, by decide, rfl, rfl⟩ (c_LY_layTree_0_0 l D cI a qt qp qo qs qc way K W F x y w h ch st0 hK hC hN0 hok)
  · have e1 : sI = 0 := h1
    have e2 : dI = 1 := h2
    subst e1; subst e2
    exact cm_mono (rm := rm_2) ⟨by decide, by decide, rfl, rfl⟩ (c_LY_layTree_0_1 l D cI a qt qp qo qs qc way K W F x y w h ch st0 hK hC hN0 hok)
  · have e1 : sI = 1 := h1
    have e2 : dI = 0 := h2
    subst e1; subst e2
    exact cm_mono (rm := rm_3) ⟨by decide, by decide, rfl, rfl⟩ (c_LY_layTree_1_0 l D cI a qt qp qo qs qc way K W F x y w h ch st0 hK hC hN0 hok)
  · have e1 : sI = 1 := h1
    have e2 : dI = 1 := h2
    subst e1; subst e2
    exact cm_mono (rm := rm_3) ⟨by decide, by decide, rfl, rfl⟩ (c_LY_layTree_1_1 l D cI a qt qp qo qs qc way K W F x y w h ch st0 hK hC hN0 hok)
  · have e1 : sI = 2 := h1
    have e2 : dI = 0 := h2
    subst e1; subst e2
    exact cm_mono (rm := rm_4) ⟨by decide, by decide, rfl, rfl⟩ (c_LY_layTree_2_0 l D cI a qt qp qo qs qc way K W F x y w h ch st0 hK hC hN0 hok)
  · have e1 : sI = 2 := h1
    have e2 : dI = 1 := h2
    subst e1; subst e2
    exact cm_mono (rm := rm_4) ⟨by decide, by decide, rfl, rfl⟩ (c_LY_layTree_2_1 l D cI a qt qp qo qs qc way K W F x y w h ch st0 hK hC hN0 hok)
  · have e1 : sI = 3 := h1
    have e2 : dI = 0 := h2
    subst e1; subst e2
    exact cm_mono (rm := rm_5) ⟨by decide, by decide, rfl, rfl⟩ (c_LY_layTree_3_0 l D cI a qt qp qo qs qc way K W F x y w h ch st0 hK hC hN0 hok)
  · have e1 : sI = 3 := h1
    have e2 : dI = 1 := h2
    subst e1; subst e2
    exact cm_mono (rm := rm_5) ⟨by decide, by decide, rfl, rfl⟩ (c_LY_layTree_3_1 l D cI a qt qp qo qs qc way K W F x y w h ch st0 hK hC hN0 hok)
/-- the first way of a sheet, and its layout -/
def lyw (sc : Nat → Int) (S : Nat) (w h : Int) : Bool := decide (rd_scoreAt sc (pl_at S 0 w h) < rd_scoreAt sc (pl_at S 1 w h))
def ly0 (st : ly_T) : ly_T := (0, 0, 0, st.2.2.2.1, fun j => if j < 8 then 0 else st.2.2.2.2 j)
theorem LN_0 {st : ly_T} : LN (ly0 st) := ⟨Int.le_refl 0, (by decide : (0 : Int) ≤ 256)⟩
def lay (T : tp_T) (K : Int) (S : Nat) (w h : Int) (st : ly_T) : ly_T := lt T.2 K S (lyw T.1 S w h) 0 0 w h (ly0 st)
set_option maxHeartbeats 4000000 in
set_option maxRecDepth 100000 in
theorem c_LY_lay (l : Launch) (D : va_G) (cI : ClassId) (a qt qp qo qs qc b : Nat) (way K W F : Int) (T : tp_T) (st : ly_T) (L : List Nat) (f : Nat → va_E) (r : pa_T) (S : Nat) (hS : S ≤ 3) (hK : 0 ≤ K ∧ K ≤ 3) (hC : CI T.2) (hT : TI T.1) (hin : b ∈ L) (hat : f b = ob_SH r) (hr1 : 1 ≤ r.1 ∧ r.1 ≤ 16) (hr2 : 1 ≤ r.2.1 ∧ r.2.1 ≤ 16) : CM l y_LY_lay b_LY_lay 5 none rm_6 [.ref a, .ref b, .int (iI (S : Int))] D [(cI, .int)] ([ob_LY a qt qp qo way st, ar_I qp cI 256 st.2.2.2.1, ar_I qo cI 8 st.2.2.2.2, ob_TB qt qs qc K W F, ar_I qs cI 2312 T.1, ar_I qc cI 2312 T.2] ++ va_pl L f) (fun v w1 p1 _ => v = none ∧ w1 = [ob_LY a qt qp qo (bz (lyw T.1 S r.1 r.2.1)) (lay T K S r.1 r.2.1 st), ar_I qp cI 256 (lay T K S r.1 r.2.1 st).2.2.2.1, ar_I qo cI 8 (lay T K S r.1 r.2.1 st).2.2.2.2, ob_TB qt qs qc K W F, ar_I qs cI 2312 T.1, ar_I qc cI 2312 T.2] ∧ p1 = va_pl L f) := by
  refine cm_of (by decide) (Nat.le_of_ble_eq_true rfl) ?_
  intro X sz hl hr hnm hD hA hw
  subst hD
  have hp0 : -2147483648 ≤ pl_at S 0 r.1 r.2.1 ∧ pl_at S 0 r.1 r.2.1 < 2147483648 := by unfold pl_at; omega
  have hp1 : -2147483648 ≤ pl_at S 1 r.1 r.2.1 ∧ pl_at S 1 r.1 r.2.1 < 2147483648 := by unfold pl_at; omega
  have hb0 := TI_bd hT (pl_at S 0 r.1 r.2.1)
  have hb1 := TI_bd hT (pl_at S 1 r.1 r.2.1)
  show VV X (b_LY_lay, 5, "SheetTrees$Layout", rm_6) _ 0 0 [(cI, .int)] [ob_LY a qt qp qo way st, ar_I qp cI 256 st.2.2.2.1, ar_I qo cI 8 st.2.2.2.2, ob_TB qt qs qc K W F, ar_I qs cI 2312 T.1, ar_I qc cI 2312 T.2] (va_pl L f) [some (.ref a), some (.ref b), some (.int (iI (S : Int))), none, none] [] 0
  refine vv_aload_n d_LY_lay_0 rfl ?_
  refine vv_iconst d_LY_lay_1 ?_
  refine vv_put hw d_LY_lay_2 0 rfl fp_LY_18 rfl rfl (Nat.le_of_ble_eq_true rfl) ?_
  dsimp only [List.set]
  refine vv_aload_n d_LY_lay_5 rfl ?_
  refine vv_iconst d_LY_lay_6 ?_
  refine vv_put hw d_LY_lay_7 0 rfl fp_LY_25 rfl rfl (Nat.le_of_ble_eq_true rfl) ?_
  dsimp only [List.set]
  refine vv_aload_n d_LY_lay_10 rfl ?_
  refine vv_iconst d_LY_lay_11 ?_
  refine vv_put hw d_LY_lay_12 0 rfl fp_LY_28 rfl rfl (Nat.le_of_ble_eq_true rfl) ?_
  dsimp only [List.set]
  refine vv_aload_n d_LY_lay_15 rfl ?_
  refine vv_get d_LY_lay_16 0 rfl fl_LY_15 rfl ?_
  refine vv_iconst d_LY_lay_19 ?_
  refine vv_nS hw (wc := [ar_I qo cI 8 st.2.2.2.2]) (wr := [ob_LY a qt qp qo way (0, 0, 0, st.2.2.2), ar_I qp cI 256 st.2.2.2.1, ob_TB qt qs qc K W F, ar_I qs cI 2312 T.1, ar_I qc cI 2312 T.2]) [] (c_AR_fill (cx_l X) (cx_D X) cI qo 8 0 st.2.2.2.2 (by decide)) lk_LY_35 d_LY_lay_20 rfl [2] [0, 1, 3, 4, 5] ⟨rfl, rfl⟩ ⟨rfl, rfl, by decide⟩ [0] rfl ⟨⟨by decide, by decide⟩, ⟨by decide, by decide⟩, Nat.le_of_ble_eq_true rfl⟩ ⟨rfl, rfl⟩ ?_
  rintro v w1 p1 t1 ⟨rfl, rfl, rfl⟩
  dsimp only [Option.toList, List.cons_append, List.nil_append, List.append_nil]
  refine vv_sub (ws' := [ob_LY a qt qp qo way (ly0 st), ar_I qp cI 256 (ly0 st).2.2.2.1, ar_I qo cI 8 (ly0 st).2.2.2.2, ob_TB qt qs qc K W F, ar_I qs cI 2312 T.1, ar_I qc cI 2312 T.2]) [0, 1, 5, 2, 3, 4] rfl rfl ?_
  refine vv_aload_n d_LY_lay_23 rfl ?_
  refine vv_get d_LY_lay_24 0 rfl fl_LY_31 rfl ?_
  refine vv_iload_n d_LY_lay_27 rfl ?_
  refine vv_iconst d_LY_lay_28 ?_
  refine vv_aload_n d_LY_lay_29 rfl ?_
  refine vv_getP d_LY_lay_30 hin hat fl_LY_41 rfl ?_
  refine vv_aload_n d_LY_lay_33 rfl ?_
  refine vv_getP d_LY_lay_34 hin hat fl_LY_46 rfl ?_
  refine vv_pV (wc := [ob_TB qt qs qc K W F, ar_I qs cI 2312 T.1]) (plc := []) [] (c_TB_scoreOf (cx_l X) (cx_D X) cI qt qs qc K W F S 0 r.1 r.2.1 T.1 hp0) lk_LY_49 d_LY_lay_37 rfl (rc_at 3 rfl rfl rfl) [3, 4] ⟨rfl, rfl, Or.inl rfl⟩ [0] rfl ⟨⟨by decide, by decide⟩, ⟨by decide, by decide⟩, Nat.le_of_ble_eq_true rfl⟩ ⟨rfl, rfl⟩ ?_
  intro v hv
  subst hv
  dsimp only [Option.toList, List.cons_append, List.nil_append, List.append_nil]
  refine vv_istore_n d_LY_lay_40 rfl (by decide) ?_
  dsimp only [List.set]
  refine vv_aload_n d_LY_lay_41 rfl ?_
  refine vv_get d_LY_lay_42 0 rfl fl_LY_31 rfl ?_
  refine vv_iload_n d_LY_lay_45 rfl ?_
  refine vv_iconst d_LY_lay_46 ?_
  refine vv_aload_n d_LY_lay_47 rfl ?_
  refine vv_getP d_LY_lay_48 hin hat fl_LY_41 rfl ?_
  refine vv_aload_n d_LY_lay_51 rfl ?_
  refine vv_getP d_LY_lay_52 hin hat fl_LY_46 rfl ?_
  refine vv_pV (wc := [ob_TB qt qs qc K W F, ar_I qs cI 2312 T.1]) (plc := []) [] (c_TB_scoreOf (cx_l X) (cx_D X) cI qt qs qc K W F S 1 r.1 r.2.1 T.1 hp1) lk_LY_49 d_LY_lay_55 rfl (rc_at 3 rfl rfl rfl) [3, 4] ⟨rfl, rfl, Or.inl rfl⟩ [0] rfl ⟨⟨by decide, by decide⟩, ⟨by decide, by decide⟩, Nat.le_of_ble_eq_true rfl⟩ ⟨rfl, rfl⟩ ?_
  intro v hv
  subst hv
  dsimp only [Option.toList, List.cons_append, List.nil_append, List.append_nil]
  refine vv_istore d_LY_lay_58 rfl (by decide) ?_
  dsimp only [List.set]
  refine vv_aload_n d_LY_lay_60 rfl ?_
  refine vv_iload d_LY_lay_61 rfl ?_
  refine vv_iload_n d_LY_lay_63 rfl ?_
  refine vv_icmp_le (tgt := 71) d_LY_lay_64 (by decide) ⟨by omega, by omega⟩ (fun c64 => ?_) (fun c64 => ?_)
  · skip
    refine vv_iconst d_LY_lay_71 ?_
    refine vv_put hw d_LY_lay_72 0 rfl fp_LY_22 rfl rfl (Nat.le_of_ble_eq_true rfl) ?_
    dsimp only [List.set]
    refine vv_aload_n d_LY_lay_75 rfl ?_
    refine vv_iconst d_LY_lay_76 ?_
    refine vv_iconst d_LY_lay_77 ?_
    refine vv_aload_n d_LY_lay_78 rfl ?_
    refine vv_getP d_LY_lay_79 hin hat fl_LY_41 rfl ?_
    refine vv_aload_n d_LY_lay_82 rfl ?_
    refine vv_getP d_LY_lay_83 hin hat fl_LY_46 rfl ?_
    refine vv_aload_n d_LY_lay_86 rfl ?_
    refine vv_get d_LY_lay_87 0 rfl fl_LY_22 rfl ?_
    refine vv_iload_n d_LY_lay_90 rfl ?_
    have hwy : lyw T.1 S r.1 r.2.1 = false := decide_eq_false (by omega)
    refine vv_nV hw (wc := [ob_LY a qt qp qo 0 (ly0 st), ar_I qp cI 256 (ly0 st).2.2.2.1, ar_I qo cI 8 (ly0 st).2.2.2.2, ob_TB qt qs qc K W F, ar_I qc cI 2312 T.2]) (wr := [ar_I qs cI 2312 T.1]) [] (c_LY_layTree (cx_l X) (cx_D X) cI a qt qp qo qs qc 0 K W F 0 0 r.1 r.2.1 T.2 (ly0 st) hK hC LN_0 (by unfold okp; omega) S hS false S 0 rfl rfl) lk_LY_55 d_LY_lay_91 rfl (rc_at 0 rfl rfl rfl) [0, 1, 2, 3, 5] [4] ⟨rfl, rfl⟩ ⟨rfl, rfl, by decide⟩ [0] rfl ⟨⟨by decide, by decide⟩, ⟨by decide, by decide⟩, Nat.le_of_ble_eq_true rfl⟩ ⟨rfl, rfl⟩ ?_
    rintro v w1 p1 t1 ⟨rfl, rfl, rfl⟩
    dsimp only [Option.toList, List.cons_append, List.nil_append, List.append_nil]
    refine vv_sub (ws' := [ob_LY a qt qp qo (bz (lyw T.1 S r.1 r.2.1)) (lay T K S r.1 r.2.1 st), ar_I qp cI 256 (lay T K S r.1 r.2.1 st).2.2.2.1, ar_I qo cI 8 (lay T K S r.1 r.2.1 st).2.2.2.2, ob_TB qt qs qc K W F, ar_I qs cI 2312 T.1, ar_I qc cI 2312 T.2]) [1, 2, 3, 4, 0, 5] rfl (by unfold lay; rw [hwy]; rfl) ?_
    exact vv_vret hA hw hr d_LY_lay_94 (by decide) (by decide) (by exact ⟨rfl, rfl, rfl⟩)
  · skip
    refine vv_iconst d_LY_lay_67 ?_
    refine vv_goto (tgt := 72) d_LY_lay_68 (by decide) ?_
    refine vv_put hw d_LY_lay_72 0 rfl fp_LY_22 rfl rfl (Nat.le_of_ble_eq_true rfl) ?_
    dsimp only [List.set]
    refine vv_aload_n d_LY_lay_75 rfl ?_
    refine vv_iconst d_LY_lay_76 ?_
    refine vv_iconst d_LY_lay_77 ?_
    refine vv_aload_n d_LY_lay_78 rfl ?_
    refine vv_getP d_LY_lay_79 hin hat fl_LY_41 rfl ?_
    refine vv_aload_n d_LY_lay_82 rfl ?_
    refine vv_getP d_LY_lay_83 hin hat fl_LY_46 rfl ?_
    refine vv_aload_n d_LY_lay_86 rfl ?_
    refine vv_get d_LY_lay_87 0 rfl fl_LY_22 rfl ?_
    refine vv_iload_n d_LY_lay_90 rfl ?_
    have hwy : lyw T.1 S r.1 r.2.1 = true := decide_eq_true (by omega)
    refine vv_nV hw (wc := [ob_LY a qt qp qo 1 (ly0 st), ar_I qp cI 256 (ly0 st).2.2.2.1, ar_I qo cI 8 (ly0 st).2.2.2.2, ob_TB qt qs qc K W F, ar_I qc cI 2312 T.2]) (wr := [ar_I qs cI 2312 T.1]) [] (c_LY_layTree (cx_l X) (cx_D X) cI a qt qp qo qs qc 1 K W F 0 0 r.1 r.2.1 T.2 (ly0 st) hK hC LN_0 (by unfold okp; omega) S hS true S 1 rfl rfl) lk_LY_55 d_LY_lay_91 rfl (rc_at 0 rfl rfl rfl) [0, 1, 2, 3, 5] [4] ⟨rfl, rfl⟩ ⟨rfl, rfl, by decide⟩ [0] rfl ⟨⟨by decide, by decide⟩, ⟨by decide, by decide⟩, Nat.le_of_ble_eq_true rfl⟩ ⟨rfl, rfl⟩ ?_
    rintro v w1 p1 t1 ⟨rfl, rfl, rfl⟩
    dsimp only [Option.toList, List.cons_append, List.nil_append, List.append_nil]
    refine vv_sub (ws' := [ob_LY a qt qp qo (bz (lyw T.1 S r.1 r.2.1)) (lay T K S r.1 r.2.1 st), ar_I qp cI 256 (lay T K S r.1 r.2.1 st).2.2.2.1, ar_I qo cI 8 (lay T K S r.1 r.2.1 st).2.2.2.2, ob_TB qt qs qc K W F, ar_I qs cI 2312 T.1, ar_I qc cI 2312 T.2]) [1, 2, 3, 4, 0, 5] rfl (by unfold lay; rw [hwy]; rfl) ?_
    exact vv_vret hA hw hr d_LY_lay_94 (by decide) (by decide) (by exact ⟨rfl, rfl, rfl⟩)
