/-! Layout.layTree -/
abbrev rm_5 : Room := { frames := 5, cells := 0, slots := 0, locals := 320 }
abbrev rm_6 : Room := { frames := 6, cells := 0, slots := 0, locals := 384 }
abbrev rm_7 : Room := { frames := 7, cells := 0, slots := 0, locals := 448 }
abbrev rm_8 : Room := { frames := 8, cells := 0, slots := 0, locals := 512 }
/-- choices: a part, waste (8), or 8 + c for a cut at c -/
def CI (ch : Nat → Int) : Prop := ∀ s d w h : Int, 0 ≤ s → s ≤ 3 → 0 ≤ d → d ≤ 1 → 1 ≤ w → w ≤ 16 → 1 ≤ h → h ≤ 16 → 0 ≤ ch (pl_at s d w h).toNat ∧ (8 < ch (pl_at s d w h).toNat → 1 ≤ s ∧ ch (pl_at s d w h).toNat - 8 < (if d = 0 then w else h))
def LN (st : ly_T) : Prop := 0 ≤ st.1 ∧ st.1 ≤ 256
theorem LN_add {c q : Int} {st : ly_T} (h : LN st) : LN (ly_add c q st) := by
  unfold LN ly_add at *
  dsimp only
  split <;> omega
def ly_cut (m : Int) (st : ly_T) : ly_T := (st.1, st.2.1 + 1, st.2.2.1 + m, st.2.2.2)
def lt0_go (rec : Int → Int → Int → Int → ly_T → ly_T) (ch : Nat → Int) (K s x y w h : Int) : Nat → Int → ly_T → ly_T
  | 0, _, st => st
  | n + 1, fr, st => if fr < w then (if rd_choiceAt ch (pl_at s 0 (w - fr) h) ≤ 8 ∨ s < 1 then ly_add (rd_choiceAt ch (pl_at s 0 (w - fr) h)) (pk_z (rd_choiceAt ch (pl_at s 0 (w - fr) h)) (x + fr) y (w - fr) h) st else lt0_go rec ch K s x y w h n (fr + (rd_choiceAt ch (pl_at s 0 (w - fr) h) - 8 + K)) (rec (x + fr) y (rd_choiceAt ch (pl_at s 0 (w - fr) h) - 8) h (ly_cut h st))) else st
def lt1_go (rec : Int → Int → Int → Int → ly_T → ly_T) (ch : Nat → Int) (K s x y w h : Int) : Nat → Int → ly_T → ly_T
  | 0, _, st => st
  | n + 1, fr, st => if fr < h then (if rd_choiceAt ch (pl_at s 1 w (h - fr)) ≤ 8 ∨ s < 1 then ly_add (rd_choiceAt ch (pl_at s 1 w (h - fr))) (pk_z (rd_choiceAt ch (pl_at s 1 w (h - fr))) x (y + fr) w (h - fr)) st else lt1_go rec ch K s x y w h n (fr + (rd_choiceAt ch (pl_at s 1 w (h - fr)) - 8 + K)) (rec x (y + fr) w (rd_choiceAt ch (pl_at s 1 w (h - fr)) - 8) (ly_cut w st))) else st
def lt (ch : Nat → Int) (K : Int) : Nat → Bool → Int → Int → Int → Int → ly_T → ly_T
  | 0, false, x, y, w, h, st => lt0_go (fun _ _ _ _ st => st) ch K 0 x y w h 16 0 st
  | 0, true, x, y, w, h, st => lt1_go (fun _ _ _ _ st => st) ch K 0 x y w h 16 0 st
  | s + 1, false, x, y, w, h, st => lt0_go (lt ch K s true) ch K ((s : Int) + 1) x y w h 16 0 st
  | s + 1, true, x, y, w, h, st => lt1_go (lt ch K s false) ch K ((s : Int) + 1) x y w h 16 0 st
theorem LN_go0 {rec : Int → Int → Int → Int → ly_T → ly_T} {ch : Nat → Int} {K s x y w h : Int} (hr : ∀ x y w h st, LN st → LN (rec x y w h st)) : ∀ (n : Nat) (fr : Int) (st : ly_T), LN st → LN (lt0_go rec ch K s x y w h n fr st)
  | 0, _, _, hs => hs
  | n + 1, fr, st, hs => by
    unfold lt0_go
    split
    · split
      · exact LN_add hs
      · exact LN_go0 hr n _ _ (hr _ _ _ _ _ hs)
    · exact hs
theorem LN_go1 {rec : Int → Int → Int → Int → ly_T → ly_T} {ch : Nat → Int} {K s x y w h : Int} (hr : ∀ x y w h st, LN st → LN (rec x y w h st)) : ∀ (n : Nat) (fr : Int) (st : ly_T), LN st → LN (lt1_go rec ch K s x y w h n fr st)
  | 0, _, _, hs => hs
  | n + 1, fr, st, hs => by
    unfold lt1_go
    split
    · split
      · exact LN_add hs
      · exact LN_go1 hr n _ _ (hr _ _ _ _ _ hs)
    · exact hs
theorem LN_lt {ch : Nat → Int} {K : Int} : ∀ (s : Nat) (d : Bool) (x y w h : Int) (st : ly_T), LN st → LN (lt ch K s d x y w h st)
  | 0, false, _, _, _, _, _, hs => LN_go0 (fun _ _ _ _ _ h => h) 16 0 _ hs
  | 0, true, _, _, _, _, _, hs => LN_go1 (fun _ _ _ _ _ h => h) 16 0 _ hs
  | s + 1, false, _, _, _, _, _, hs => LN_go0 (fun x y w h st hq => LN_lt s true x y w h st hq) 16 0 _ hs
  | s + 1, true, _, _, _, _, _, hs => LN_go1 (fun x y w h st hq => LN_lt s false x y w h st hq) 16 0 _ hs
def okp (x y w h : Int) : Prop := 0 ≤ x ∧ x + w ≤ 16 ∧ 0 ≤ y ∧ y + h ≤ 16 ∧ 1 ≤ w ∧ 1 ≤ h
set_option maxHeartbeats 4000000 in
set_option maxRecDepth 100000 in
theorem c_LY_layTree_0_0 (l : Launch) (D : va_G) (cI : ClassId) (a qt qp qo qs qc : Nat) (way K W F x y w h : Int) (ch : Nat → Int) (st0 : ly_T) (hK : 0 ≤ K ∧ K ≤ 3) (hC : CI ch) (hN0 : LN st0) (hok : okp x y w h) : CM l y_LY_layTree b_LY_layTree 17 none rm_2 [.ref a, .int (iI x), .int (iI y), .int (iI w), .int (iI h), .int (iI 0), .int (iI 0)] D [(cI, .int)] ([ob_LY a qt qp qo way st0, ar_I qp cI 256 st0.2.2.2.1, ar_I qo cI 8 st0.2.2.2.2, ob_TB qt qs qc K W F, ar_I qc cI 2312 ch] ++ []) (fun r w1 p1 _ => r = none ∧ w1 = [ob_LY a qt qp qo way (lt ch K 0 false x y w h st0), ar_I qp cI 256 (lt ch K 0 false x y w h st0).2.2.2.1, ar_I qo cI 8 (lt ch K 0 false x y w h st0).2.2.2.2, ob_TB qt qs qc K W F, ar_I qc cI 2312 ch] ∧ p1 = []) := by
  refine cm_of (by decide) (Nat.le_of_ble_eq_true rfl) ?_
  intro X sz hl hr hnm hD hA hw
  subst hD
  unfold okp at hok
  have loop : ∀ (n i : Nat) (fr : Int) (st : ly_T), i + n = 16 → 0 ≤ fr ∧ fr ≤ 60 → LN st → lt0_go (fun _ _ _ _ st => st) ch K 0 x y w h n fr st = (lt ch K 0 false x y w h st0) → VV X (b_LY_layTree, 17, "SheetTrees$Layout", rm_2) (cq X ([ob_LY a qt qp qo way st0, ar_I qp cI 256 st0.2.2.2.1, ar_I qo cI 8 st0.2.2.2.2, ob_TB qt qs qc K W F, ar_I qc cI 2312 ch] ++ []) sz (fun r w1 p1 _ => r = none ∧ w1 = [ob_LY a qt qp qo way (lt ch K 0 false x y w h st0), ar_I qp cI 256 (lt ch K 0 false x y w h st0).2.2.2.1, ar_I qo cI 8 (lt ch K 0 false x y w h st0).2.2.2.2, ob_TB qt qs qc K W F, ar_I qc cI 2312 ch] ∧ p1 = []) rm_2) 0 0 [(cI, .int)] [ob_LY a qt qp qo way st, ar_I qp cI 256 st.2.2.2.1, ar_I qo cI 8 st.2.2.2.2, ob_TB qt qs qc K W F, ar_I qc cI 2312 ch] [] [some (.ref a), some (.int (iI x)), some (.int (iI y)), some (.int (iI w)), some (.int (iI h)), some (.int (iI 0)), some (.int (iI 0)), some (.int (iI w)), some (.int (iI h)), some (.int (iI fr)), some (.int (iI (i : Int))), none, none, none, none, none, none] [] 32 := by
    intro n
    induction n with
    | zero =>
      intro i fr st hi hfr hN hlt
      unfold lt0_go at hlt
      refine vv_iload d_LY_layTree_32 rfl ?_
      refine vv_bipush d_LY_layTree_34 (by decide +kernel) ?_
      refine vv_icmp_ge (tgt := 250) d_LY_layTree_36 (by decide) ⟨by omega, by omega⟩ (fun c36 => ?_) (fun c36 => ?_)
      · exact vv_vret hA hw hr d_LY_layTree_250 (by decide) (by decide) ⟨rfl, by rw [← hlt], rfl⟩
      · exfalso; omega
    | succ n ih =>
      intro i fr st hi hfr hN hlt
      unfold lt0_go at hlt
      refine vv_iload d_LY_layTree_32 rfl ?_
      refine vv_bipush d_LY_layTree_34 (by decide +kernel) ?_
      refine vv_icmp_ge (tgt := 250) d_LY_layTree_36 (by decide) ⟨by omega, by omega⟩ (fun c36 => ?_) (fun c36 => ?_)
      · exfalso; omega
      · skip
        refine vv_iload d_LY_layTree_39 rfl ?_
        refine vv_iload d_LY_layTree_41 rfl ?_
        refine vv_icmp_ge (tgt := 250) d_LY_layTree_43 (by decide) ⟨by omega, by omega⟩ (fun c43 => ?_) (fun c43 => ?_)
        · rw [if_neg (by omega)] at hlt; exact vv_vret hA hw hr d_LY_layTree_250 (by decide) (by decide) ⟨rfl, by rw [← hlt], rfl⟩
        · rw [if_pos (by omega)] at hlt
          have hch := hC 0 0 (w - fr) h (by omega) (by omega) (by omega) (by omega) (by omega) (by omega) (by omega) (by omega)
          rw [← rd_plc (ch := ch) (s := 0) (d := 0) (w := (w - fr)) (h := h) (by omega) (by omega) (by omega) (by omega)] at hch
          have hch2 : (rd_choiceAt ch (pl_at 0 0 (w - fr) h)) ≤ 24 := by
            by_cases q : 8 < (rd_choiceAt ch (pl_at 0 0 (w - fr) h))
            · have q2 := (hch.2 q).2
              have q3 : (if (0 : Int) = 0 then (w - fr) else h) ≤ 16 := by split <;> omega
              omega
            · omega
          have hpl : -2147483648 ≤ pl_at 0 0 (w - fr) h ∧ pl_at 0 0 (w - fr) h < 2147483648 := by unfold pl_at; omega
          refine vv_iload d_LY_layTree_46 rfl ?_
          refine vv_if_ne (tgt := 58) d_LY_layTree_48 (by decide) ⟨by omega, by omega⟩ (fun c48 => ?_) (fun c48 => ?_)
          · exfalso; omega
          · skip
            refine vv_iload_n d_LY_layTree_51 rfl ?_
            refine vv_iload d_LY_layTree_52 rfl ?_
            refine vv_iadd d_LY_layTree_54 ?_
            refine vv_goto (tgt := 59) d_LY_layTree_55 (by decide) ?_
            refine vv_istore d_LY_layTree_59 rfl (by decide) ?_
            dsimp only [List.set]
            refine vv_iload d_LY_layTree_61 rfl ?_
            refine vv_if_ne (tgt := 70) d_LY_layTree_63 (by decide) ⟨by omega, by omega⟩ (fun c63 => ?_) (fun c63 => ?_)
            · exfalso; omega
            · skip
              refine vv_iload_n d_LY_layTree_66 rfl ?_
              refine vv_goto (tgt := 74) d_LY_layTree_67 (by decide) ?_
              refine vv_istore d_LY_layTree_74 rfl (by decide) ?_
              dsimp only [List.set]
              refine vv_iload d_LY_layTree_76 rfl ?_
              refine vv_if_ne (tgt := 89) d_LY_layTree_78 (by decide) ⟨by omega, by omega⟩ (fun c78 => ?_) (fun c78 => ?_)
              · exfalso; omega
              · skip
                refine vv_iload d_LY_layTree_81 rfl ?_
                refine vv_iload d_LY_layTree_83 rfl ?_
                refine vv_isub d_LY_layTree_85 ?_
                refine vv_goto (tgt := 90) d_LY_layTree_86 (by decide) ?_
                refine vv_istore d_LY_layTree_90 rfl (by decide) ?_
                dsimp only [List.set]
                refine vv_iload d_LY_layTree_92 rfl ?_
                refine vv_if_ne (tgt := 102) d_LY_layTree_94 (by decide) ⟨by omega, by omega⟩ (fun c94 => ?_) (fun c94 => ?_)
                · exfalso; omega
                · skip
                  refine vv_iload d_LY_layTree_97 rfl ?_
                  refine vv_goto (tgt := 107) d_LY_layTree_99 (by decide) ?_
                  refine vv_istore d_LY_layTree_107 rfl (by decide) ?_
                  dsimp only [List.set]
                  refine vv_aload_n d_LY_layTree_109 rfl ?_
                  refine vv_get d_LY_layTree_110 0 rfl fl_LY_31 rfl ?_
                  refine vv_iload d_LY_layTree_113 rfl ?_
                  refine vv_iload d_LY_layTree_115 rfl ?_
                  refine vv_iload d_LY_layTree_117 rfl ?_
                  refine vv_iload d_LY_layTree_119 rfl ?_
                  refine vv_pV (wc := [ob_TB qt qs qc K W F, ar_I qc cI 2312 ch]) (plc := []) [] (c_TB_choiceOf (cx_l X) (cx_D X) cI qt qs qc K W F 0 0 (w - fr) h ch hpl) lk_LY_59 d_LY_layTree_121 rfl (rc_at 3 rfl rfl rfl) [3, 4] ⟨rfl, rfl, Or.inl rfl⟩ [0] rfl ⟨⟨by decide, by decide⟩, ⟨by decide, by decide⟩, Nat.le_of_ble_eq_true rfl⟩ ⟨rfl, rfl⟩ ?_
                  intro v hv
                  subst hv
                  dsimp only [Option.toList, List.cons_append, List.nil_append, List.append_nil]
                  refine vv_istore d_LY_layTree_124 rfl (by decide) ?_
                  dsimp only [List.set]
                  refine vv_iload d_LY_layTree_126 rfl ?_
                  refine vv_bipush d_LY_layTree_128 (by decide +kernel) ?_
                  refine vv_icmp_le (tgt := 139) d_LY_layTree_130 (by decide) ⟨by omega, by omega⟩ (fun c130 => ?_) (fun c130 => ?_)
                  · skip
                    refine vv_aload_n d_LY_layTree_139 rfl ?_
                    refine vv_iload d_LY_layTree_140 rfl ?_
                    refine vv_iload d_LY_layTree_142 rfl ?_
                    refine vv_iload d_LY_layTree_144 rfl ?_
                    refine vv_iload d_LY_layTree_146 rfl ?_
                    refine vv_iload d_LY_layTree_148 rfl ?_
                    refine vv_iload d_LY_layTree_150 rfl ?_
                    refine vv_pS (wc := []) (plc := []) [.int (iI (rd_choiceAt ch (pl_at 0 0 (w - fr) h))), .ref a] (c_PI_of (cx_l X) (cx_D X) (rd_choiceAt ch (pl_at 0 0 (w - fr) h)) (x + fr) y (w - fr) h (by omega) (by omega) (by omega) (by omega) (by omega)) lk_LY_62 d_LY_layTree_152 rfl [] ⟨rfl, rfl, Or.inl rfl⟩ [] rfl ⟨⟨by decide, by decide⟩, ⟨by decide, by decide⟩, Nat.le_of_ble_eq_true rfl⟩ ⟨rfl, rfl⟩ ?_
                    intro v hv
                    subst hv
                    dsimp only [Option.toList, List.cons_append, List.nil_append, List.append_nil]
                    refine vv_nV hw (wc := [ob_LY a qt qp qo way st, ar_I qp cI 256 st.2.2.2.1, ar_I qo cI 8 st.2.2.2.2]) (wr := [ob_TB qt qs qc K W F, ar_I qc cI 2312 ch]) [] (c_LY_addPiece (cx_l X) (cx_D X) cI a qt qp qo way (rd_choiceAt ch (pl_at 0 0 (w - fr) h)) (pk_z (rd_choiceAt ch (pl_at 0 0 (w - fr) h)) (x + fr) y (w - fr) h) st hN (by omega)) lk_LY_68 d_LY_layTree_155 rfl (rc_at 0 rfl rfl rfl) [0, 1, 2] [3, 4] ⟨rfl, rfl⟩ ⟨rfl, rfl, by decide⟩ [0] rfl ⟨⟨by decide, by decide⟩, ⟨by decide, by decide⟩, Nat.le_of_ble_eq_true rfl⟩ ⟨rfl, rfl⟩ ?_
                    rintro v w1 p1 t1 ⟨rfl, rfl, rfl⟩
                    dsimp only [Option.toList, List.cons_append, List.nil_append, List.append_nil]
                    refine vv_sub (ws' := [ob_LY a qt qp qo way (ly_add (rd_choiceAt ch (pl_at 0 0 (w - fr) h)) (pk_z (rd_choiceAt ch (pl_at 0 0 (w - fr) h)) (x + fr) y (w - fr) h) st), ar_I qp cI 256 (ly_add (rd_choiceAt ch (pl_at 0 0 (w - fr) h)) (pk_z (rd_choiceAt ch (pl_at 0 0 (w - fr) h)) (x + fr) y (w - fr) h) st).2.2.2.1, ar_I qo cI 8 (ly_add (rd_choiceAt ch (pl_at 0 0 (w - fr) h)) (pk_z (rd_choiceAt ch (pl_at 0 0 (w - fr) h)) (x + fr) y (w - fr) h) st).2.2.2.2, ob_TB qt qs qc K W F, ar_I qc cI 2312 ch]) [2, 3, 4, 0, 1] rfl rfl ?_
                    rw [if_pos (Or.inl c130)] at hlt
                    exact vv_vret hA hw hr d_LY_layTree_158 (by decide) (by decide) ⟨rfl, by rw [← hlt], rfl⟩
                  · exfalso; have := hch.2 (by omega); omega
  show VV X (b_LY_layTree, 17, "SheetTrees$Layout", rm_2) _ 0 0 [(cI, .int)] [ob_LY a qt qp qo way st0, ar_I qp cI 256 st0.2.2.2.1, ar_I qo cI 8 st0.2.2.2.2, ob_TB qt qs qc K W F, ar_I qc cI 2312 ch] [] [some (.ref a), some (.int (iI x)), some (.int (iI y)), some (.int (iI w)), some (.int (iI h)), some (.int (iI 0)), some (.int (iI 0)), none, none, none, none, none, none, none, none, none, none] [] 0
  refine vv_iload d_LY_layTree_0 rfl ?_
  refine vv_if_ne (tgt := 9) d_LY_layTree_2 (by decide) ⟨by omega, by omega⟩ (fun c2 => ?_) (fun c2 => ?_)
  · exfalso; omega
  · skip
    refine vv_iload_n d_LY_layTree_5 rfl ?_
    refine vv_goto (tgt := 11) d_LY_layTree_6 (by decide) ?_
    refine vv_istore d_LY_layTree_11 rfl (by decide) ?_
    dsimp only [List.set]
    refine vv_iload d_LY_layTree_13 rfl ?_
    refine vv_if_ne (tgt := 23) d_LY_layTree_15 (by decide) ⟨by omega, by omega⟩ (fun c15 => ?_) (fun c15 => ?_)
    · exfalso; omega
    · skip
      refine vv_iload d_LY_layTree_18 rfl ?_
      refine vv_goto (tgt := 24) d_LY_layTree_20 (by decide) ?_
      refine vv_istore d_LY_layTree_24 rfl (by decide) ?_
      dsimp only [List.set]
      refine vv_iconst d_LY_layTree_26 ?_
      refine vv_istore d_LY_layTree_27 rfl (by decide) ?_
      dsimp only [List.set]
      refine vv_iconst d_LY_layTree_29 ?_
      refine vv_istore d_LY_layTree_30 rfl (by decide) ?_
      dsimp only [List.set]
      exact loop 16 0 0 st0 (by omega) (by omega) hN0 rfl
set_option maxHeartbeats 4000000 in
set_option maxRecDepth 100000 in
theorem c_LY_layTree_0_1 (l : Launch) (D : va_G) (cI : ClassId) (a qt qp qo qs qc : Nat) (way K W F x y w h : Int) (ch : Nat → Int) (st0 : ly_T) (hK : 0 ≤ K ∧ K ≤ 3) (hC : CI ch) (hN0 : LN st0) (hok : okp x y w h) : CM l y_LY_layTree b_LY_layTree 17 none rm_2 [.ref a, .int (iI x), .int (iI y), .int (iI w), .int (iI h), .int (iI 1), .int (iI 0)] D [(cI, .int)] ([ob_LY a qt qp qo way st0, ar_I qp cI 256 st0.2.2.2.1, ar_I qo cI 8 st0.2.2.2.2, ob_TB qt qs qc K W F, ar_I qc cI 2312 ch] ++ []) (fun r w1 p1 _ => r = none ∧ w1 = [ob_LY a qt qp qo way (lt ch K 0 true x y w h st0), ar_I qp cI 256 (lt ch K 0 true x y w h st0).2.2.2.1, ar_I qo cI 8 (lt ch K 0 true x y w h st0).2.2.2.2, ob_TB qt qs qc K W F, ar_I qc cI 2312 ch] ∧ p1 = []) := by
  refine cm_of (by decide) (Nat.le_of_ble_eq_true rfl) ?_
  intro X sz hl hr hnm hD hA hw
  subst hD
  unfold okp at hok
  have loop : ∀ (n i : Nat) (fr : Int) (st : ly_T), i + n = 16 → 0 ≤ fr ∧ fr ≤ 60 → LN st → lt1_go (fun _ _ _ _ st => st) ch K 0 x y w h n fr st = (lt ch K 0 true x y w h st0) → VV X (b_LY_layTree, 17, "SheetTrees$Layout", rm_2) (cq X ([ob_LY a qt qp qo way st0, ar_I qp cI 256 st0.2.2.2.1, ar_I qo cI 8 st0.2.2.2.2, ob_TB qt qs qc K W F, ar_I qc cI 2312 ch] ++ []) sz (fun r w1 p1 _ => r = none ∧ w1 = [ob_LY a qt qp qo way (lt ch K 0 true x y w h st0), ar_I qp cI 256 (lt ch K 0 true x y w h st0).2.2.2.1, ar_I qo cI 8 (lt ch K 0 true x y w h st0).2.2.2.2, ob_TB qt qs qc K W F, ar_I qc cI 2312 ch] ∧ p1 = []) rm_2) 0 0 [(cI, .int)] [ob_LY a qt qp qo way st, ar_I qp cI 256 st.2.2.2.1, ar_I qo cI 8 st.2.2.2.2, ob_TB qt qs qc K W F, ar_I qc cI 2312 ch] [] [some (.ref a), some (.int (iI x)), some (.int (iI y)), some (.int (iI w)), some (.int (iI h)), some (.int (iI 1)), some (.int (iI 0)), some (.int (iI h)), some (.int (iI w)), some (.int (iI fr)), some (.int (iI (i : Int))), none, none, none, none, none, none] [] 32 := by
    intro n
    induction n with
    | zero =>
      intro i fr st hi hfr hN hlt
      unfold lt1_go at hlt
      refine vv_iload d_LY_layTree_32 rfl ?_
      refine vv_bipush d_LY_layTree_34 (by decide +kernel) ?_
      refine vv_icmp_ge (tgt := 250) d_LY_layTree_36 (by decide) ⟨by omega, by omega⟩ (fun c36 => ?_) (fun c36 => ?_)
      · exact vv_vret hA hw hr d_LY_layTree_250 (by decide) (by decide) ⟨rfl, by rw [← hlt], rfl⟩
      · exfalso; omega
    | succ n ih =>
      intro i fr st hi hfr hN hlt
      unfold lt1_go at hlt
      refine vv_iload d_LY_layTree_32 rfl ?_
      refine vv_bipush d_LY_layTree_34 (by decide +kernel) ?_
      refine vv_icmp_ge (tgt := 250) d_LY_layTree_36 (by decide) ⟨by omega, by omega⟩ (fun c36 => ?_) (fun c36 => ?_)
      · exfalso; omega
      · skip
        refine vv_iload d_LY_layTree_39 rfl ?_
        refine vv_iload d_LY_layTree_41 rfl ?_
        refine vv_icmp_ge (tgt := 250) d_LY_layTree_43 (by decide) ⟨by omega, by omega⟩ (fun c43 => ?_) (fun c43 => ?_)
        · rw [if_neg (by omega)] at hlt; exact vv_vret hA hw hr d_LY_layTree_250 (by decide) (by decide) ⟨rfl, by rw [← hlt], rfl⟩
        · rw [if_pos (by omega)] at hlt
          have hch := hC 0 1 w (h - fr) (by omega) (by omega) (by omega) (by omega) (by omega) (by omega) (by omega) (by omega)
          rw [← rd_plc (ch := ch) (s := 0) (d := 1) (w := w) (h := (h - fr)) (by omega) (by omega) (by omega) (by omega)] at hch
          have hch2 : (rd_choiceAt ch (pl_at 0 1 w (h - fr))) ≤ 24 := by
            by_cases q : 8 < (rd_choiceAt ch (pl_at 0 1 w (h - fr)))
            · have q2 := (hch.2 q).2
              have q3 : (if (1 : Int) = 0 then w else (h - fr)) ≤ 16 := by split <;> omega
              omega
            · omega
          have hpl : -2147483648 ≤ pl_at 0 1 w (h - fr) ∧ pl_at 0 1 w (h - fr) < 2147483648 := by unfold pl_at; omega
          refine vv_iload d_LY_layTree_46 rfl ?_
          refine vv_if_ne (tgt := 58) d_LY_layTree_48 (by decide) ⟨by omega, by omega⟩ (fun c48 => ?_) (fun c48 => ?_)
          · skip
            refine vv_iload_n d_LY_layTree_58 rfl ?_
            refine vv_istore d_LY_layTree_59 rfl (by decide) ?_
            dsimp only [List.set]
            refine vv_iload d_LY_layTree_61 rfl ?_
            refine vv_if_ne (tgt := 70) d_LY_layTree_63 (by decide) ⟨by omega, by omega⟩ (fun c63 => ?_) (fun c63 => ?_)
            · skip
              refine vv_iload_n d_LY_layTree_70 rfl ?_
              refine vv_iload d_LY_layTree_71 rfl ?_
              refine vv_iadd d_LY_layTree_73 ?_
              refine vv_istore d_LY_layTree_74 rfl (by decide) ?_
              dsimp only [List.set]
              refine vv_iload d_LY_layTree_76 rfl ?_
              refine vv_if_ne (tgt := 89) d_LY_layTree_78 (by decide) ⟨by omega, by omega⟩ (fun c78 => ?_) (fun c78 => ?_)
              · skip
                refine vv_iload_n d_LY_layTree_89 rfl ?_
                refine vv_istore d_LY_layTree_90 rfl (by decide) ?_
                dsimp only [List.set]
                refine vv_iload d_LY_layTree_92 rfl ?_
                refine vv_if_ne (tgt := 102) d_LY_layTree_94 (by decide) ⟨by omega, by omega⟩ (fun c94 => ?_) (fun c94 => ?_)
                · skip
                  refine vv_iload d_LY_layTree_102 rfl ?_
                  refine vv_iload d_LY_layTree_104 rfl ?_
                  refine vv_isub d_LY_layTree_106 ?_
                  refine vv_istore d_LY_layTree_107 rfl (by decide) ?_
                  dsimp only [List.set]
                  refine vv_aload_n d_LY_layTree_109 rfl ?_
                  refine vv_get d_LY_layTree_110 0 rfl fl_LY_31 rfl ?_
                  refine vv_iload d_LY_layTree_113 rfl ?_
                  refine vv_iload d_LY_layTree_115 rfl ?_
                  refine vv_iload d_LY_layTree_117 rfl ?_
                  refine vv_iload d_LY_layTree_119 rfl ?_
                  refine vv_pV (wc := [ob_TB qt qs qc K W F, ar_I qc cI 2312 ch]) (plc := []) [] (c_TB_choiceOf (cx_l X) (cx_D X) cI qt qs qc K W F 0 1 w (h - fr) ch hpl) lk_LY_59 d_LY_layTree_121 rfl (rc_at 3 rfl rfl rfl) [3, 4] ⟨rfl, rfl, Or.inl rfl⟩ [0] rfl ⟨⟨by decide, by decide⟩, ⟨by decide, by decide⟩, Nat.le_of_ble_eq_true rfl⟩ ⟨rfl, rfl⟩ ?_
                  intro v hv
                  subst hv
                  dsimp only [Option.toList, List.cons_append, List.nil_append, List.append_nil]
                  refine vv_istore d_LY_layTree_124 rfl (by decide) ?_
                  dsimp only [List.set]
                  refine vv_iload d_LY_layTree_126 rfl ?_
                  refine vv_bipush d_LY_layTree_128 (by decide +kernel) ?_
                  refine vv_icmp_le (tgt := 139) d_LY_layTree_130 (by decide) ⟨by omega, by omega⟩ (fun c130 => ?_) (fun c130 => ?_)
                  · skip
                    refine vv_aload_n d_LY_layTree_139 rfl ?_
                    refine vv_iload d_LY_layTree_140 rfl ?_
                    refine vv_iload d_LY_layTree_142 rfl ?_
                    refine vv_iload d_LY_layTree_144 rfl ?_
                    refine vv_iload d_LY_layTree_146 rfl ?_
                    refine vv_iload d_LY_layTree_148 rfl ?_
                    refine vv_iload d_LY_layTree_150 rfl ?_
                    refine vv_pS (wc := []) (plc := []) [.int (iI (rd_choiceAt ch (pl_at 0 1 w (h - fr)))), .ref a] (c_PI_of (cx_l X) (cx_D X) (rd_choiceAt ch (pl_at 0 1 w (h - fr))) x (y + fr) w (h - fr) (by omega) (by omega) (by omega) (by omega) (by omega)) lk_LY_62 d_LY_layTree_152 rfl [] ⟨rfl, rfl, Or.inl rfl⟩ [] rfl ⟨⟨by decide, by decide⟩, ⟨by decide, by decide⟩, Nat.le_of_ble_eq_true rfl⟩ ⟨rfl, rfl⟩ ?_
                    intro v hv
                    subst hv
                    dsimp only [Option.toList, List.cons_append, List.nil_append, List.append_nil]
                    refine vv_nV hw (wc := [ob_LY a qt qp qo way st, ar_I qp cI 256 st.2.2.2.1, ar_I qo cI 8 st.2.2.2.2]) (wr := [ob_TB qt qs qc K W F, ar_I qc cI 2312 ch]) [] (c_LY_addPiece (cx_l X) (cx_D X) cI a qt qp qo way (rd_choiceAt ch (pl_at 0 1 w (h - fr))) (pk_z (rd_choiceAt ch (pl_at 0 1 w (h - fr))) x (y + fr) w (h - fr)) st hN (by omega)) lk_LY_68 d_LY_layTree_155 rfl (rc_at 0 rfl rfl rfl) [0, 1, 2] [3, 4] ⟨rfl, rfl⟩ ⟨rfl, rfl, by decide⟩ [0] rfl ⟨⟨by decide, by decide⟩, ⟨by decide, by decide⟩, Nat.le_of_ble_eq_true rfl⟩ ⟨rfl, rfl⟩ ?_
                    rintro v w1 p1 t1 ⟨rfl, rfl, rfl⟩
                    dsimp only [Option.toList, List.cons_append, List.nil_append, List.append_nil]
                    refine vv_sub (ws' := [ob_LY a qt qp qo way (ly_add (rd_choiceAt ch (pl_at 0 1 w (h - fr))) (pk_z (rd_choiceAt ch (pl_at 0 1 w (h - fr))) x (y + fr) w (h - fr)) st), ar_I qp cI 256 (ly_add (rd_choiceAt ch (pl_at 0 1 w (h - fr))) (pk_z (rd_choiceAt ch (pl_at 0 1 w (h - fr))) x (y + fr) w (h - fr)) st).2.2.2.1, ar_I qo cI 8 (ly_add (rd_choiceAt ch (pl_at 0 1 w (h - fr))) (pk_z (rd_choiceAt ch (pl_at 0 1 w (h - fr))) x (y + fr) w (h - fr)) st).2.2.2.2, ob_TB qt qs qc K W F, ar_I qc cI 2312 ch]) [2, 3, 4, 0, 1] rfl rfl ?_
                    rw [if_pos (Or.inl c130)] at hlt
                    exact vv_vret hA hw hr d_LY_layTree_158 (by decide) (by decide) ⟨rfl, by rw [← hlt], rfl⟩
                  · exfalso; have := hch.2 (by omega); omega
                · exfalso; omega
              · exfalso; omega
            · exfalso; omega
          · exfalso; omega
  show VV X (b_LY_layTree, 17, "SheetTrees$Layout", rm_2) _ 0 0 [(cI, .int)] [ob_LY a qt qp qo way st0, ar_I qp cI 256 st0.2.2.2.1, ar_I qo cI 8 st0.2.2.2.2, ob_TB qt qs qc K W F, ar_I qc cI 2312 ch] [] [some (.ref a), some (.int (iI x)), some (.int (iI y)), some (.int (iI w)), some (.int (iI h)), some (.int (iI 1)), some (.int (iI 0)), none, none, none, none, none, none, none, none, none, none] [] 0
  refine vv_iload d_LY_layTree_0 rfl ?_
  refine vv_if_ne (tgt := 9) d_LY_layTree_2 (by decide) ⟨by omega, by omega⟩ (fun c2 => ?_) (fun c2 => ?_)
  · skip
    refine vv_iload d_LY_layTree_9 rfl ?_
    refine vv_istore d_LY_layTree_11 rfl (by decide) ?_
    dsimp only [List.set]
    refine vv_iload d_LY_layTree_13 rfl ?_
    refine vv_if_ne (tgt := 23) d_LY_layTree_15 (by decide) ⟨by omega, by omega⟩ (fun c15 => ?_) (fun c15 => ?_)
    · skip
      refine vv_iload_n d_LY_layTree_23 rfl ?_
      refine vv_istore d_LY_layTree_24 rfl (by decide) ?_
      dsimp only [List.set]
      refine vv_iconst d_LY_layTree_26 ?_
      refine vv_istore d_LY_layTree_27 rfl (by decide) ?_
      dsimp only [List.set]
      refine vv_iconst d_LY_layTree_29 ?_
      refine vv_istore d_LY_layTree_30 rfl (by decide) ?_
      dsimp only [List.set]
      exact loop 16 0 0 st0 (by omega) (by omega) hN0 rfl
    · exfalso; omega
  · exfalso; omega
set_option maxHeartbeats 4000000 in
set_option maxRecDepth 100000 in
theorem c_LY_layTree_1_0 (l : Launch) (D : va_G) (cI : ClassId) (a qt qp qo qs qc : Nat) (way K W F x y w h : Int) (ch : Nat → Int) (st0 : ly_T) (hK : 0 ≤ K ∧ K ≤ 3) (hC : CI ch) (hN0 : LN st0) (hok : okp x y w h) : CM l y_LY_layTree b_LY_layTree 17 none rm_3 [.ref a, .int (iI x), .int (iI y), .int (iI w), .int (iI h), .int (iI 0), .int (iI 1)] D [(cI, .int)] ([ob_LY a qt qp qo way st0, ar_I qp cI 256 st0.2.2.2.1, ar_I qo cI 8 st0.2.2.2.2, ob_TB qt qs qc K W F, ar_I qc cI 2312 ch] ++ []) (fun r w1 p1 _ => r = none ∧ w1 = [ob_LY a qt qp qo way (lt ch K 1 false x y w h st0), ar_I qp cI 256 (lt ch K 1 false x y w h st0).2.2.2.1, ar_I qo cI 8 (lt ch K 1 false x y w h st0).2.2.2.2, ob_TB qt qs qc K W F, ar_I qc cI 2312 ch] ∧ p1 = []) := by
  refine cm_of (by decide) (Nat.le_of_ble_eq_true rfl) ?_
  intro X sz hl hr hnm hD hA hw
  subst hD
  unfold okp at hok
  have loop : ∀ (n i : Nat) (fr : Int) (st : ly_T), i + n = 16 → 0 ≤ fr ∧ fr ≤ 60 → LN st → lt0_go (lt ch K 0 true) ch K 1 x y w h n fr st = (lt ch K 1 false x y w h st0) → VV X (b_LY_layTree, 17, "SheetTrees$Layout", rm_3) (cq X ([ob_LY a qt qp qo way st0, ar_I qp cI 256 st0.2.2.2.1, ar_I qo cI 8 st0.2.2.2.2, ob_TB qt qs qc K W F, ar_I qc cI 2312 ch] ++ []) sz (fun r w1 p1 _ => r = none ∧ w1 = [ob_LY a qt qp qo way (lt ch K 1 false x y w h st0), ar_I qp cI 256 (lt ch K 1 false x y w h st0).2.2.2.1, ar_I qo cI 8 (lt ch K 1 false x y w h st0).2.2.2.2, ob_TB qt qs qc K W F, ar_I qc cI 2312 ch] ∧ p1 = []) rm_3) 0 0 [(cI, .int)] [ob_LY a qt qp qo way st, ar_I qp cI 256 st.2.2.2.1, ar_I qo cI 8 st.2.2.2.2, ob_TB qt qs qc K W F, ar_I qc cI 2312 ch] [] [some (.ref a), some (.int (iI x)), some (.int (iI y)), some (.int (iI w)), some (.int (iI h)), some (.int (iI 0)), some (.int (iI 1)), some (.int (iI w)), some (.int (iI h)), some (.int (iI fr)), some (.int (iI (i : Int))), none, none, none, none, none, none] [] 32 := by
    intro n
    induction n with
    | zero =>
      intro i fr st hi hfr hN hlt
      unfold lt0_go at hlt
      refine vv_iload d_LY_layTree_32 rfl ?_
      refine vv_bipush d_LY_layTree_34 (by decide +kernel) ?_
      refine vv_icmp_ge (tgt := 250) d_LY_layTree_36 (by decide) ⟨by omega, by omega⟩ (fun c36 => ?_) (fun c36 => ?_)
      · exact vv_vret hA hw hr d_LY_layTree_250 (by decide) (by decide) ⟨rfl, by rw [← hlt], rfl⟩
      · exfalso; omega
    | succ n ih =>
      intro i fr st hi hfr hN hlt
      unfold lt0_go at hlt
      refine vv_iload d_LY_layTree_32 rfl ?_
      refine vv_bipush d_LY_layTree_34 (by decide +kernel) ?_
      refine vv_icmp_ge (tgt := 250) d_LY_layTree_36 (by decide) ⟨by omega, by omega⟩ (fun c36 => ?_) (fun c36 => ?_)
      · exfalso; omega
      · skip
        refine vv_iload d_LY_layTree_39 rfl ?_
        refine vv_iload d_LY_layTree_41 rfl ?_
        refine vv_icmp_ge (tgt := 250) d_LY_layTree_43 (by decide) ⟨by omega, by omega⟩ (fun c43 => ?_) (fun c43 => ?_)
        · rw [if_neg (by omega)] at hlt; exact vv_vret hA hw hr d_LY_layTree_250 (by decide) (by decide) ⟨rfl, by rw [← hlt], rfl⟩
        · rw [if_pos (by omega)] at hlt
          have hch := hC 1 0 (w - fr) h (by omega) (by omega) (by omega) (by omega) (by omega) (by omega) (by omega) (by omega)
          rw [← rd_plc (ch := ch) (s := 1) (d := 0) (w := (w - fr)) (h := h) (by omega) (by omega) (by omega) (by omega)] at hch
          have hch2 : (rd_choiceAt ch (pl_at 1 0 (w - fr) h)) ≤ 24 := by
            by_cases q : 8 < (rd_choiceAt ch (pl_at 1 0 (w - fr) h))
            · have q2 := (hch.2 q).2
              have q3 : (if (0 : Int) = 0 then (w - fr) else h) ≤ 16 := by split <;> omega
              omega
            · omega
          have hpl : -2147483648 ≤ pl_at 1 0 (w - fr) h ∧ pl_at 1 0 (w - fr) h < 2147483648 := by unfold pl_at; omega
          refine vv_iload d_LY_layTree_46 rfl ?_
          refine vv_if_ne (tgt := 58) d_LY_layTree_48 (by decide) ⟨by omega, by omega⟩ (fun c48 => ?_) (fun c48 => ?_)
          · exfalso; omega
          · skip
            refine vv_iload_n d_LY_layTree_51 rfl ?_
            refine vv_iload d_LY_layTree_52 rfl ?_
            refine vv_iadd d_LY_layTree_54 ?_
            refine vv_goto (tgt := 59) d_LY_layTree_55 (by decide) ?_
            refine vv_istore d_LY_layTree_59 rfl (by decide) ?_
            dsimp only [List.set]
            refine vv_iload d_LY_layTree_61 rfl ?_
            refine vv_if_ne (tgt := 70) d_LY_layTree_63 (by decide) ⟨by omega, by omega⟩ (fun c63 => ?_) (fun c63 => ?_)
            · exfalso; omega
            · skip
              refine vv_iload_n d_LY_layTree_66 rfl ?_
              refine vv_goto (tgt := 74) d_LY_layTree_67 (by decide) ?_
              refine vv_istore d_LY_layTree_74 rfl (by decide) ?_
              dsimp only [List.set]
              refine vv_iload d_LY_layTree_76 rfl ?_
              refine vv_if_ne (tgt := 89) d_LY_layTree_78 (by decide) ⟨by omega, by omega⟩ (fun c78 => ?_) (fun c78 => ?_)
              · exfalso; omega
              · skip
                refine vv_iload d_LY_layTree_81 rfl ?_
                refine vv_iload d_LY_layTree_83 rfl ?_
                refine vv_isub d_LY_layTree_85 ?_
                refine vv_goto (tgt := 90) d_LY_layTree_86 (by decide) ?_
                refine vv_istore d_LY_layTree_90 rfl (by decide) ?_
                dsimp only [List.set]
                refine vv_iload d_LY_layTree_92 rfl ?_
                refine vv_if_ne (tgt := 102) d_LY_layTree_94 (by decide) ⟨by omega, by omega⟩ (fun c94 => ?_) (fun c94 => ?_)
                · exfalso; omega
                · skip
                  refine vv_iload d_LY_layTree_97 rfl ?_
                  refine vv_goto (tgt := 107) d_LY_layTree_99 (by decide) ?_
                  refine vv_istore d_LY_layTree_107 rfl (by decide) ?_
                  dsimp only [List.set]
                  refine vv_aload_n d_LY_layTree_109 rfl ?_
                  refine vv_get d_LY_layTree_110 0 rfl fl_LY_31 rfl ?_
                  refine vv_iload d_LY_layTree_113 rfl ?_
                  refine vv_iload d_LY_layTree_115 rfl ?_
                  refine vv_iload d_LY_layTree_117 rfl ?_
                  refine vv_iload d_LY_layTree_119 rfl ?_
                  refine vv_pV (wc := [ob_TB qt qs qc K W F, ar_I qc cI 2312 ch]) (plc := []) [] (c_TB_choiceOf (cx_l X) (cx_D X) cI qt qs qc K W F 1 0 (w - fr) h ch hpl) lk_LY_59 d_LY_layTree_121 rfl (rc_at 3 rfl rfl rfl) [3, 4] ⟨rfl, rfl, Or.inl rfl⟩ [0] rfl ⟨⟨by decide, by decide⟩, ⟨by decide, by decide⟩, Nat.le_of_ble_eq_true rfl⟩ ⟨rfl, rfl⟩ ?_
                  intro v hv
                  subst hv
                  dsimp only [Option.toList, List.cons_append, List.nil_append, List.append_nil]
                  refine vv_istore d_LY_layTree_124 rfl (by decide) ?_
                  dsimp only [List.set]
                  refine vv_iload d_LY_layTree_126 rfl ?_
                  refine vv_bipush d_LY_layTree_128 (by decide +kernel) ?_
                  refine vv_icmp_le (tgt := 139) d_LY_layTree_130 (by decide) ⟨by omega, by omega⟩ (fun c130 => ?_) (fun c130 => ?_)
                  · skip
                    refine vv_aload_n d_LY_layTree_139 rfl ?_
                    refine vv_iload d_LY_layTree_140 rfl ?_
                    refine vv_iload d_LY_layTree_142 rfl ?_
                    refine vv_iload d_LY_layTree_144 rfl ?_
                    refine vv_iload d_LY_layTree_146 rfl ?_
                    refine vv_iload d_LY_layTree_148 rfl ?_
                    refine vv_iload d_LY_layTree_150 rfl ?_
                    refine vv_pS (wc := []) (plc := []) [.int (iI (rd_choiceAt ch (pl_at 1 0 (w - fr) h))), .ref a] (c_PI_of (cx_l X) (cx_D X) (rd_choiceAt ch (pl_at 1 0 (w - fr) h)) (x + fr) y (w - fr) h (by omega) (by omega) (by omega) (by omega) (by omega)) lk_LY_62 d_LY_layTree_152 rfl [] ⟨rfl, rfl, Or.inl rfl⟩ [] rfl ⟨⟨by decide, by decide⟩, ⟨by decide, by decide⟩, Nat.le_of_ble_eq_true rfl⟩ ⟨rfl, rfl⟩ ?_
                    intro v hv
                    subst hv
                    dsimp only [Option.toList, List.cons_append, List.nil_append, List.append_nil]
                    refine vv_nV hw (wc := [ob_LY a qt qp qo way st, ar_I qp cI 256 st.2.2.2.1, ar_I qo cI 8 st.2.2.2.2]) (wr := [ob_TB qt qs qc K W F, ar_I qc cI 2312 ch]) [] (c_LY_addPiece (cx_l X) (cx_D X) cI a qt qp qo way (rd_choiceAt ch (pl_at 1 0 (w - fr) h)) (pk_z (rd_choiceAt ch (pl_at 1 0 (w - fr) h)) (x + fr) y (w - fr) h) st hN (by omega)) lk_LY_68 d_LY_layTree_155 rfl (rc_at 0 rfl rfl rfl) [0, 1, 2] [3, 4] ⟨rfl, rfl⟩ ⟨rfl, rfl, by decide⟩ [0] rfl ⟨⟨by decide, by decide⟩, ⟨by decide, by decide⟩, Nat.le_of_ble_eq_true rfl⟩ ⟨rfl, rfl⟩ ?_
                    rintro v w1 p1 t1 ⟨rfl, rfl, rfl⟩
                    dsimp only [Option.toList, List.cons_append, List.nil_append, List.append_nil]
                    refine vv_sub (ws' := [ob_LY a qt qp qo way (ly_add (rd_choiceAt ch (pl_at 1 0 (w - fr) h)) (pk_z (rd_choiceAt ch (pl_at 1 0 (w - fr) h)) (x + fr) y (w - fr) h) st), ar_I qp cI 256 (ly_add (rd_choiceAt ch (pl_at 1 0 (w - fr) h)) (pk_z (rd_choiceAt ch (pl_at 1 0 (w - fr) h)) (x + fr) y (w - fr) h) st).2.2.2.1, ar_I qo cI 8 (ly_add (rd_choiceAt ch (pl_at 1 0 (w - fr) h)) (pk_z (rd_choiceAt ch (pl_at 1 0 (w - fr) h)) (x + fr) y (w - fr) h) st).2.2.2.2, ob_TB qt qs qc K W F, ar_I qc cI 2312 ch]) [2, 3, 4, 0, 1] rfl rfl ?_
                    rw [if_pos (Or.inl c130)] at hlt
                    exact vv_vret hA hw hr d_LY_layTree_158 (by decide) (by decide) ⟨rfl, by rw [← hlt], rfl⟩
                  · skip
                    refine vv_iload d_LY_layTree_133 rfl ?_
                    refine vv_iconst d_LY_layTree_135 ?_
                    refine vv_icmp_ge (tgt := 159) d_LY_layTree_136 (by decide) ⟨by omega, by omega⟩ (fun c136 => ?_) (fun c136 => ?_)
                    · rw [if_neg (by omega)] at hlt
                      have hch3 := hch.2 (by omega)
                      rw [if_pos rfl] at hch3
                      refine vv_iload d_LY_layTree_159 rfl ?_
                      refine vv_bipush d_LY_layTree_161 (by decide +kernel) ?_
                      refine vv_isub d_LY_layTree_163 ?_
                      refine vv_istore d_LY_layTree_164 rfl (by decide) ?_
                      dsimp only [List.set]
                      refine vv_aload_n d_LY_layTree_166 rfl ?_
                      refine vv_dup d_LY_layTree_167 rfl ?_
                      refine vv_get d_LY_layTree_168 0 rfl fl_LY_25 rfl ?_
                      refine vv_iconst d_LY_layTree_171 ?_
                      refine vv_iadd d_LY_layTree_172 ?_
                      refine vv_put hw d_LY_layTree_173 0 rfl fp_LY_25 rfl rfl (Nat.le_of_ble_eq_true rfl) ?_
                      dsimp only [List.set]
                      refine vv_aload_n d_LY_layTree_176 rfl ?_
                      refine vv_dup d_LY_layTree_177 rfl ?_
                      refine vv_get d_LY_layTree_178 0 rfl fl_LY_28 rfl ?_
                      refine vv_iload d_LY_layTree_181 rfl ?_
                      refine vv_iadd d_LY_layTree_183 ?_
                      refine vv_put hw d_LY_layTree_184 0 rfl fp_LY_28 rfl rfl (Nat.le_of_ble_eq_true rfl) ?_
                      dsimp only [List.set]
                      refine vv_iload d_LY_layTree_187 rfl ?_
                      refine vv_if_ne (tgt := 212) d_LY_layTree_189 (by decide) ⟨by omega, by omega⟩ (fun c189 => ?_) (fun c189 => ?_)
                      · exfalso; omega
                      · skip
                        refine vv_aload_n d_LY_layTree_192 rfl ?_
                        refine vv_iload d_LY_layTree_193 rfl ?_
                        refine vv_iload d_LY_layTree_195 rfl ?_
                        refine vv_iload d_LY_layTree_197 rfl ?_
                        refine vv_iload d_LY_layTree_199 rfl ?_
                        refine vv_iconst d_LY_layTree_201 ?_
                        refine vv_iload d_LY_layTree_202 rfl ?_
                        refine vv_iconst d_LY_layTree_204 ?_
                        refine vv_isub d_LY_layTree_205 ?_
                        refine vv_nV hw (wc := [ob_LY a qt qp qo way (ly_cut h st), ar_I qp cI 256 (ly_cut h st).2.2.2.1, ar_I qo cI 8 (ly_cut h st).2.2.2.2, ob_TB qt qs qc K W F, ar_I qc cI 2312 ch]) (wr := []) [] (c_LY_layTree_0_1 (cx_l X) (cx_D X) cI a qt qp qo qs qc way K W F (x + fr) y ((rd_choiceAt ch (pl_at 1 0 (w - fr) h)) - 8) h ch (ly_cut h st) hK hC hN (by unfold okp; omega)) lk_LY_55 d_LY_layTree_206 rfl (rc_at 0 rfl rfl rfl) [0, 1, 2, 3, 4] [] ⟨rfl, rfl⟩ ⟨rfl, rfl, by decide⟩ [0] rfl ⟨⟨by decide, by decide⟩, ⟨by decide, by decide⟩, Nat.le_of_ble_eq_true rfl⟩ ⟨rfl, rfl⟩ ?_
                        rintro v w1 p1 t1 ⟨rfl, rfl, rfl⟩
                        dsimp only [Option.toList, List.cons_append, List.nil_append, List.append_nil]
                        refine vv_goto (tgt := 229) d_LY_layTree_209 (by decide) ?_
                        refine vv_iload d_LY_layTree_229 rfl ?_
                        refine vv_iload d_LY_layTree_231 rfl ?_
                        refine vv_aload_n d_LY_layTree_233 rfl ?_
                        refine vv_get d_LY_layTree_234 0 rfl fl_LY_31 rfl ?_
                        refine vv_get d_LY_layTree_237 3 rfl fl_LY_72 rfl ?_
                        refine vv_iadd d_LY_layTree_240 ?_
                        refine vv_iadd d_LY_layTree_241 ?_
                        refine vv_istore d_LY_layTree_242 rfl (by decide) ?_
                        dsimp only [List.set]
                        refine vv_iinc d_LY_layTree_244 rfl rfl (by decide) ?_
                        dsimp only [List.set]
                        refine vv_goto (tgt := 32) d_LY_layTree_247 (by decide) ?_
                        exact vv_le (by repeat (first | exact lo_le_nil _ | refine lo_le_cons _ ?_ | refine lo_le_none _ ?_)) (ih (i + 1) _ _ (by omega) (by omega) (LN_lt _ _ _ _ _ _ _ hN) hlt)
                    · exfalso; omega
  show VV X (b_LY_layTree, 17, "SheetTrees$Layout", rm_3) _ 0 0 [(cI, .int)] [ob_LY a qt qp qo way st0, ar_I qp cI 256 st0.2.2.2.1, ar_I qo cI 8 st0.2.2.2.2, ob_TB qt qs qc K W F, ar_I qc cI 2312 ch] [] [some (.ref a), some (.int (iI x)), some (.int (iI y)), some (.int (iI w)), some (.int (iI h)), some (.int (iI 0)), some (.int (iI 1)), none, none, none, none, none, none, none, none, none, none] [] 0
  refine vv_iload d_LY_layTree_0 rfl ?_
  refine vv_if_ne (tgt := 9) d_LY_layTree_2 (by decide) ⟨by omega, by omega⟩ (fun c2 => ?_) (fun c2 => ?_)
  · exfalso; omega
  · skip
    refine vv_iload_n d_LY_layTree_5 rfl ?_
    refine vv_goto (tgt := 11) d_LY_layTree_6 (by decide) ?_
    refine vv_istore d_LY_layTree_11 rfl (by decide) ?_
    dsimp only [List.set]
    refine vv_iload d_LY_layTree_13 rfl ?_
    refine vv_if_ne (tgt := 23) d_LY_layTree_15 (by decide) ⟨by omega, by omega⟩ (fun c15 => ?_) (fun c15 => ?_)
    · exfalso; omega
    · skip
      refine vv_iload d_LY_layTree_18 rfl ?_
      refine vv_goto (tgt := 24) d_LY_layTree_20 (by decide) ?_
      refine vv_istore d_LY_layTree_24 rfl (by decide) ?_
      dsimp only [List.set]
      refine vv_iconst d_LY_layTree_26 ?_
      refine vv_istore d_LY_layTree_27 rfl (by decide) ?_
      dsimp only [List.set]
      refine vv_iconst d_LY_layTree_29 ?_
      refine vv_istore d_LY_layTree_30 rfl (by decide) ?_
      dsimp only [List.set]
      exact loop 16 0 0 st0 (by omega) (by omega) hN0 rfl
set_option maxHeartbeats 4000000 in
set_option maxRecDepth 100000 in
theorem c_LY_layTree_1_1 (l : Launch) (D : va_G) (cI : ClassId) (a qt qp qo qs qc : Nat) (way K W F x y w h : Int) (ch : Nat → Int) (st0 : ly_T) (hK : 0 ≤ K ∧ K ≤ 3) (hC : CI ch) (hN0 : LN st0) (hok : okp x y w h) : CM l y_LY_layTree b_LY_layTree 17 none rm_3 [.ref a, .int (iI x), .int (iI y), .int (iI w), .int (iI h), .int (iI 1), .int (iI 1)] D [(cI, .int)] ([ob_LY a qt qp qo way st0, ar_I qp cI 256 st0.2.2.2.1, ar_I qo cI 8 st0.2.2.2.2, ob_TB qt qs qc K W F, ar_I qc cI 2312 ch] ++ []) (fun r w1 p1 _ => r = none ∧ w1 = [ob_LY a qt qp qo way (lt ch K 1 true x y w h st0), ar_I qp cI 256 (lt ch K 1 true x y w h st0).2.2.2.1, ar_I qo cI 8 (lt ch K 1 true x y w h st0).2.2.2.2, ob_TB qt qs qc K W F, ar_I qc cI 2312 ch] ∧ p1 = []) := by
  refine cm_of (by decide) (Nat.le_of_ble_eq_true rfl) ?_
  intro X sz hl hr hnm hD hA hw
  subst hD
  unfold okp at hok
  have loop : ∀ (n i : Nat) (fr : Int) (st : ly_T), i + n = 16 → 0 ≤ fr ∧ fr ≤ 60 → LN st → lt1_go (lt ch K 0 false) ch K 1 x y w h n fr st = (lt ch K 1 true x y w h st0) → VV X (b_LY_layTree, 17, "SheetTrees$Layout", rm_3) (cq X ([ob_LY a qt qp qo way st0, ar_I qp cI 256 st0.2.2.2.1, ar_I qo cI 8 st0.2.2.2.2, ob_TB qt qs qc K W F, ar_I qc cI 2312 ch] ++ []) sz (fun r w1 p1 _ => r = none ∧ w1 = [ob_LY a qt qp qo way (lt ch K 1 true x y w h st0), ar_I qp cI 256 (lt ch K 1 true x y w h st0).2.2.2.1, ar_I qo cI 8 (lt ch K 1 true x y w h st0).2.2.2.2, ob_TB qt qs qc K W F, ar_I qc cI 2312 ch] ∧ p1 = []) rm_3) 0 0 [(cI, .int)] [ob_LY a qt qp qo way st, ar_I qp cI 256 st.2.2.2.1, ar_I qo cI 8 st.2.2.2.2, ob_TB qt qs qc K W F, ar_I qc cI 2312 ch] [] [some (.ref a), some (.int (iI x)), some (.int (iI y)), some (.int (iI w)), some (.int (iI h)), some (.int (iI 1)), some (.int (iI 1)), some (.int (iI h)), some (.int (iI w)), some (.int (iI fr)), some (.int (iI (i : Int))), none, none, none, none, none, none] [] 32 := by
    intro n
    induction n with
    | zero =>
      intro i fr st hi hfr hN hlt
      unfold lt1_go at hlt
      refine vv_iload d_LY_layTree_32 rfl ?_
      refine vv_bipush d_LY_layTree_34 (by decide +kernel) ?_
      refine vv_icmp_ge (tgt := 250) d_LY_layTree_36 (by decide) ⟨by omega, by omega⟩ (fun c36 => ?_) (fun c36 => ?_)
      · exact vv_vret hA hw hr d_LY_layTree_250 (by decide) (by decide) ⟨rfl, by rw [← hlt], rfl⟩
      · exfalso; omega
    | succ n ih =>
      intro i fr st hi hfr hN hlt
      unfold lt1_go at hlt
      refine vv_iload d_LY_layTree_32 rfl ?_
      refine vv_bipush d_LY_layTree_34 (by decide +kernel) ?_
      refine vv_icmp_ge (tgt := 250) d_LY_layTree_36 (by decide) ⟨by omega, by omega⟩ (fun c36 => ?_) (fun c36 => ?_)
      · exfalso; omega
      · skip
        refine vv_iload d_LY_layTree_39 rfl ?_
        refine vv_iload d_LY_layTree_41 rfl ?_
        refine vv_icmp_ge (tgt := 250) d_LY_layTree_43 (by decide) ⟨by omega, by omega⟩ (fun c43 => ?_) (fun c43 => ?_)
        · rw [if_neg (by omega)] at hlt; exact vv_vret hA hw hr d_LY_layTree_250 (by decide) (by decide) ⟨rfl, by rw [← hlt], rfl⟩
        · rw [if_pos (by omega)] at hlt
          have hch := hC 1 1 w (h - fr) (by omega) (by omega) (by omega) (by omega) (by omega) (by omega) (by omega) (by omega)
          rw [← rd_plc (ch := ch) (s := 1) (d := 1) (w := w) (h := (h - fr)) (by omega) (by omega) (by omega) (by omega)] at hch
          have hch2 : (rd_choiceAt ch (pl_at 1 1 w (h - fr))) ≤ 24 := by
            by_cases q : 8 < (rd_choiceAt ch (pl_at 1 1 w (h - fr)))
            · have q2 := (hch.2 q).2
              have q3 : (if (1 : Int) = 0 then w else (h - fr)) ≤ 16 := by split <;> omega
              omega
            · omega
          have hpl : -2147483648 ≤ pl_at 1 1 w (h - fr) ∧ pl_at 1 1 w (h - fr) < 2147483648 := by unfold pl_at; omega
          refine vv_iload d_LY_layTree_46 rfl ?_
          refine vv_if_ne (tgt := 58) d_LY_layTree_48 (by decide) ⟨by omega, by omega⟩ (fun c48 => ?_) (fun c48 => ?_)
          · skip
            refine vv_iload_n d_LY_layTree_58 rfl ?_
            refine vv_istore d_LY_layTree_59 rfl (by decide) ?_
            dsimp only [List.set]
            refine vv_iload d_LY_layTree_61 rfl ?_
            refine vv_if_ne (tgt := 70) d_LY_layTree_63 (by decide) ⟨by omega, by omega⟩ (fun c63 => ?_) (fun c63 => ?_)
            · skip
              refine vv_iload_n d_LY_layTree_70 rfl ?_
              refine vv_iload d_LY_layTree_71 rfl ?_
              refine vv_iadd d_LY_layTree_73 ?_
              refine vv_istore d_LY_layTree_74 rfl (by decide) ?_
              dsimp only [List.set]
              refine vv_iload d_LY_layTree_76 rfl ?_
              refine vv_if_ne (tgt := 89) d_LY_layTree_78 (by decide) ⟨by omega, by omega⟩ (fun c78 => ?_) (fun c78 => ?_)
              · skip
                refine vv_iload_n d_LY_layTree_89 rfl ?_
                refine vv_istore d_LY_layTree_90 rfl (by decide) ?_
                dsimp only [List.set]
                refine vv_iload d_LY_layTree_92 rfl ?_
                refine vv_if_ne (tgt := 102) d_LY_layTree_94 (by decide) ⟨by omega, by omega⟩ (fun c94 => ?_) (fun c94 => ?_)
                · skip
                  refine vv_iload d_LY_layTree_102 rfl ?_
                  refine vv_iload d_LY_layTree_104 rfl ?_
                  refine vv_isub d_LY_layTree_106 ?_
                  refine vv_istore d_LY_layTree_107 rfl (by decide) ?_
                  dsimp only [List.set]
                  refine vv_aload_n d_LY_layTree_109 rfl ?_
                  refine vv_get d_LY_layTree_110 0 rfl fl_LY_31 rfl ?_
                  refine vv_iload d_LY_layTree_113 rfl ?_
                  refine vv_iload d_LY_layTree_115 rfl ?_
                  refine vv_iload d_LY_layTree_117 rfl ?_
                  refine vv_iload d_LY_layTree_119 rfl ?_
                  refine vv_pV (wc := [ob_TB qt qs qc K W F, ar_I qc cI 2312 ch]) (plc := []) [] (c_TB_choiceOf (cx_l X) (cx_D X) cI qt qs qc K W F 1 1 w (h - fr) ch hpl) lk_LY_59 d_LY_layTree_121 rfl (rc_at 3 rfl rfl rfl) [3, 4] ⟨rfl, rfl, Or.inl rfl⟩ [0] rfl ⟨⟨by decide, by decide⟩, ⟨by decide, by decide⟩, Nat.le_of_ble_eq_true rfl⟩ ⟨rfl, rfl⟩ ?_
                  intro v hv
                  subst hv
                  dsimp only [Option.toList, List.cons_append, List.nil_append, List.append_nil]
                  refine vv_istore d_LY_layTree_124 rfl (by decide) ?_
                  dsimp only [List.set]
                  refine vv_iload d_LY_layTree_126 rfl ?_
                  refine vv_bipush d_LY_layTree_128 (by decide +kernel) ?_
                  refine vv_icmp_le (tgt := 139) d_LY_layTree_130 (by decide) ⟨by omega, by omega⟩ (fun c130 => ?_) (fun c130 => ?_)
                  · skip
                    refine vv_aload_n d_LY_layTree_139 rfl ?_
                    refine vv_iload d_LY_layTree_140 rfl ?_
                    refine vv_iload d_LY_layTree_142 rfl ?_
                    refine vv_iload d_LY_layTree_144 rfl ?_
                    refine vv_iload d_LY_layTree_146 rfl ?_
                    refine vv_iload d_LY_layTree_148 rfl ?_
                    refine vv_iload d_LY_layTree_150 rfl ?_
                    refine vv_pS (wc := []) (plc := []) [.int (iI (rd_choiceAt ch (pl_at 1 1 w (h - fr)))), .ref a] (c_PI_of (cx_l X) (cx_D X) (rd_choiceAt ch (pl_at 1 1 w (h - fr))) x (y + fr) w (h - fr) (by omega) (by omega) (by omega) (by omega) (by omega)) lk_LY_62 d_LY_layTree_152 rfl [] ⟨rfl, rfl, Or.inl rfl⟩ [] rfl ⟨⟨by decide, by decide⟩, ⟨by decide, by decide⟩, Nat.le_of_ble_eq_true rfl⟩ ⟨rfl, rfl⟩ ?_
                    intro v hv
                    subst hv
                    dsimp only [Option.toList, List.cons_append, List.nil_append, List.append_nil]
                    refine vv_nV hw (wc := [ob_LY a qt qp qo way st, ar_I qp cI 256 st.2.2.2.1, ar_I qo cI 8 st.2.2.2.2]) (wr := [ob_TB qt qs qc K W F, ar_I qc cI 2312 ch]) [] (c_LY_addPiece (cx_l X) (cx_D X) cI a qt qp qo way (rd_choiceAt ch (pl_at 1 1 w (h - fr))) (pk_z (rd_choiceAt ch (pl_at 1 1 w (h - fr))) x (y + fr) w (h - fr)) st hN (by omega)) lk_LY_68 d_LY_layTree_155 rfl (rc_at 0 rfl rfl rfl) [0, 1, 2] [3, 4] ⟨rfl, rfl⟩ ⟨rfl, rfl, by decide⟩ [0] rfl ⟨⟨by decide, by decide⟩, ⟨by decide, by decide⟩, Nat.le_of_ble_eq_true rfl⟩ ⟨rfl, rfl⟩ ?_
                    rintro v w1 p1 t1 ⟨rfl, rfl, rfl⟩
                    dsimp only [Option.toList, List.cons_append, List.nil_append, List.append_nil]
                    refine vv_sub (ws' := [ob_LY a qt qp qo way (ly_add (rd_choiceAt ch (pl_at 1 1 w (h - fr))) (pk_z (rd_choiceAt ch (pl_at 1 1 w (h - fr))) x (y + fr) w (h - fr)) st), ar_I qp cI 256 (ly_add (rd_choiceAt ch (pl_at 1 1 w (h - fr))) (pk_z (rd_choiceAt ch (pl_at 1 1 w (h - fr))) x (y + fr) w (h - fr)) st).2.2.2.1, ar_I qo cI 8 (ly_add (rd_choiceAt ch (pl_at 1 1 w (h - fr))) (pk_z (rd_choiceAt ch (pl_at 1 1 w (h - fr))) x (y + fr) w (h - fr)) st).2.2.2.2, ob_TB qt qs qc K W F, ar_I qc cI 2312 ch]) [2, 3, 4, 0, 1] rfl rfl ?_
                    rw [if_pos (Or.inl c130)] at hlt
                    exact vv_vret hA hw hr d_LY_layTree_158 (by decide) (by decide) ⟨rfl, by rw [← hlt], rfl⟩
                  · skip
                    refine vv_iload d_LY_layTree_133 rfl ?_
                    refine vv_iconst d_LY_layTree_135 ?_
                    refine vv_icmp_ge (tgt := 159) d_LY_layTree_136 (by decide) ⟨by omega, by omega⟩ (fun c136 => ?_) (fun c136 => ?_)
                    · rw [if_neg (by omega)] at hlt
                      have hch3 := hch.2 (by omega)
                      rw [if_neg (by decide)] at hch3
                      refine vv_iload d_LY_layTree_159 rfl ?_
                      refine vv_bipush d_LY_layTree_161 (by decide +kernel) ?_
                      refine vv_isub d_LY_layTree_163 ?_
                      refine vv_istore d_LY_layTree_164 rfl (by decide) ?_
                      dsimp only [List.set]
                      refine vv_aload_n d_LY_layTree_166 rfl ?_
                      refine vv_dup d_LY_layTree_167 rfl ?_
                      refine vv_get d_LY_layTree_168 0 rfl fl_LY_25 rfl ?_
                      refine vv_iconst d_LY_layTree_171 ?_
                      refine vv_iadd d_LY_layTree_172 ?_
                      refine vv_put hw d_LY_layTree_173 0 rfl fp_LY_25 rfl rfl (Nat.le_of_ble_eq_true rfl) ?_
                      dsimp only [List.set]
                      refine vv_aload_n d_LY_layTree_176 rfl ?_
                      refine vv_dup d_LY_layTree_177 rfl ?_
                      refine vv_get d_LY_layTree_178 0 rfl fl_LY_28 rfl ?_
                      refine vv_iload d_LY_layTree_181 rfl ?_
                      refine vv_iadd d_LY_layTree_183 ?_
                      refine vv_put hw d_LY_layTree_184 0 rfl fp_LY_28 rfl rfl (Nat.le_of_ble_eq_true rfl) ?_
                      dsimp only [List.set]
                      refine vv_iload d_LY_layTree_187 rfl ?_
                      refine vv_if_ne (tgt := 212) d_LY_layTree_189 (by decide) ⟨by omega, by omega⟩ (fun c189 => ?_) (fun c189 => ?_)
                      · skip
                        refine vv_aload_n d_LY_layTree_212 rfl ?_
                        refine vv_iload d_LY_layTree_213 rfl ?_
                        refine vv_iload d_LY_layTree_215 rfl ?_
                        refine vv_iload d_LY_layTree_217 rfl ?_
                        refine vv_iload d_LY_layTree_219 rfl ?_
                        refine vv_iconst d_LY_layTree_221 ?_
                        refine vv_iload d_LY_layTree_222 rfl ?_
                        refine vv_iconst d_LY_layTree_224 ?_
                        refine vv_isub d_LY_layTree_225 ?_
                        refine vv_nV hw (wc := [ob_LY a qt qp qo way (ly_cut w st), ar_I qp cI 256 (ly_cut w st).2.2.2.1, ar_I qo cI 8 (ly_cut w st).2.2.2.2, ob_TB qt qs qc K W F, ar_I qc cI 2312 ch]) (wr := []) [] (c_LY_layTree_0_0 (cx_l X) (cx_D X) cI a qt qp qo qs qc way K W F x (y + fr) w ((rd_choiceAt ch (pl_at 1 1 w (h - fr))) - 8) ch (ly_cut w st) hK hC hN (by unfold okp; omega)) lk_LY_55 d_LY_layTree_226 rfl (rc_at 0 rfl rfl rfl) [0, 1, 2, 3, 4] [] ⟨rfl, rfl⟩ ⟨rfl, rfl, by decide⟩ [0] rfl ⟨⟨by decide, by decide⟩, ⟨by decide, by decide⟩, Nat.le_of_ble_eq_true rfl⟩ ⟨rfl, rfl⟩ ?_
                        rintro v w1 p1 t1 ⟨rfl, rfl, rfl⟩
                        dsimp only [Option.toList, List.cons_append, List.nil_append, List.append_nil]
                        refine vv_iload d_LY_layTree_229 rfl ?_
                        refine vv_iload d_LY_layTree_231 rfl ?_
                        refine vv_aload_n d_LY_layTree_233 rfl ?_
                        refine vv_get d_LY_layTree_234 0 rfl fl_LY_31 rfl ?_
                        refine vv_get d_LY_layTree_237 3 rfl fl_LY_72 rfl ?_
                        refine vv_iadd d_LY_layTree_240 ?_
                        refine vv_iadd d_LY_layTree_241 ?_
                        refine vv_istore d_LY_layTree_242 rfl (by decide) ?_
                        dsimp only [List.set]
                        refine vv_iinc d_LY_layTree_244 rfl rfl (by decide) ?_
                        dsimp only [List.set]
                        refine vv_goto (tgt := 32) d_LY_layTree_247 (by decide) ?_
                        exact vv_le (by repeat (first | exact lo_le_nil _ | refine lo_le_cons _ ?_ | refine lo_le_none _ ?_)) (ih (i + 1) _ _ (by omega) (by omega) (LN_lt _ _ _ _ _ _ _ hN) hlt)
                      · exfalso; omega
                    · exfalso; omega
                · exfalso; omega
              · exfalso; omega
            · exfalso; omega
          · exfalso; omega
  show VV X (b_LY_layTree, 17, "SheetTrees$Layout", rm_3) _ 0 0 [(cI, .int)] [ob_LY a qt qp qo way st0, ar_I qp cI 256 st0.2.2.2.1, ar_I qo cI 8 st0.2.2.2.2, ob_TB qt qs qc K W F, ar_I qc cI 2312 ch] [] [some (.ref a), some (.int (iI x)), some (.int (iI y)), some (.int (iI w)), some (.int (iI h)), some (.int (iI 1)), some (.int (iI 1)), none, none, none, none, none, none, none, none, none, none] [] 0
  refine vv_iload d_LY_layTree_0 rfl ?_
  refine vv_if_ne (tgt := 9) d_LY_layTree_2 (by decide) ⟨by omega, by omega⟩ (fun c2 => ?_) (fun c2 => ?_)
  · skip
    refine vv_iload d_LY_layTree_9 rfl ?_
    refine vv_istore d_LY_layTree_11 rfl (by decide) ?_
    dsimp only [List.set]
    refine vv_iload d_LY_layTree_13 rfl ?_
    refine vv_if_ne (tgt := 23) d_LY_layTree_15 (by decide) ⟨by omega, by omega⟩ (fun c15 => ?_) (fun c15 => ?_)
    · skip
      refine vv_iload_n d_LY_layTree_23 rfl ?_
      refine vv_istore d_LY_layTree_24 rfl (by decide) ?_
      dsimp only [List.set]
      refine vv_iconst d_LY_layTree_26 ?_
      refine vv_istore d_LY_layTree_27 rfl (by decide) ?_
      dsimp only [List.set]
      refine vv_iconst d_LY_layTree_29 ?_
      refine vv_istore d_LY_layTree_30 rfl (by decide) ?_
      dsimp only [List.set]
      exact loop 16 0 0 st0 (by omega) (by omega) hN0 rfl
    · exfalso; omega
  · exfalso; omega
set_option maxHeartbeats 4000000 in
set_option maxRecDepth 100000 in
theorem c_LY_layTree_2_0 (l : Launch) (D : va_G) (cI : ClassId) (a qt qp qo qs qc : Nat) (way K W F x y w h : Int) (ch : Nat → Int) (st0 : ly_T) (hK : 0 ≤ K ∧ K ≤ 3) (hC : CI ch) (hN0 : LN st0) (hok : okp x y w h) : CM l y_LY_layTree b_LY_layTree 17 none rm_4 [.ref a, .int (iI x), .int (iI y), .int (iI w), .int (iI h), .int (iI 0), .int (iI 2)] D [(cI, .int)] ([ob_LY a qt qp qo way st0, ar_I qp cI 256 st0.2.2.2.1, ar_I qo cI 8 st0.2.2.2.2, ob_TB qt qs qc K W F, ar_I qc cI 2312 ch] ++ []) (fun r w1 p1 _ => r = none ∧ w1 = [ob_LY a qt qp qo way (lt ch K 2 false x y w h st0), ar_I qp cI 256 (lt ch K 2 false x y w h st0).2.2.2.1, ar_I qo cI 8 (lt ch K 2 false x y w h st0).2.2.2.2, ob_TB qt qs qc K W F, ar_I qc cI 2312 ch] ∧ p1 = []) := by
  refine cm_of (by decide) (Nat.le_of_ble_eq_true rfl) ?_
  intro X sz hl hr hnm hD hA hw
  subst hD
  unfold okp at hok
  have loop : ∀ (n i : Nat) (fr : Int) (st : ly_T), i + n = 16 → 0 ≤ fr ∧ fr ≤ 60 → LN st → lt0_go (lt ch K 1 true) ch K 2 x y w h n fr st = (lt ch K 2 false x y w h st0) → VV X (b_LY_layTree, 17, "SheetTrees$Layout", rm_4) (cq X ([ob_LY a qt qp qo way st0, ar_I qp cI 256 st0.2.2.2.1, ar_I qo cI 8 st0.2.2.2.2, ob_TB qt qs qc K W F, ar_I qc cI 2312 ch] ++ []) sz (fun r w1 p1 _ => r = none ∧ w1 = [ob_LY a qt qp qo way (lt ch K 2 false x y w h st0), ar_I qp cI 256 (lt ch K 2 false x y w h st0).2.2.2.1, ar_I qo cI 8 (lt ch K 2 false x y w h st0).2.2.2.2, ob_TB qt qs qc K W F, ar_I qc cI 2312 ch] ∧ p1 = []) rm_4) 0 0 [(cI, .int)] [ob_LY a qt qp qo way st, ar_I qp cI 256 st.2.2.2.1, ar_I qo cI 8 st.2.2.2.2, ob_TB qt qs qc K W F, ar_I qc cI 2312 ch] [] [some (.ref a), some (.int (iI x)), some (.int (iI y)), some (.int (iI w)), some (.int (iI h)), some (.int (iI 0)), some (.int (iI 2)), some (.int (iI w)), some (.int (iI h)), some (.int (iI fr)), some (.int (iI (i : Int))), none, none, none, none, none, none] [] 32 := by
    intro n
    induction n with
    | zero =>
      intro i fr st hi hfr hN hlt
      unfold lt0_go at hlt
      refine vv_iload d_LY_layTree_32 rfl ?_
      refine vv_bipush d_LY_layTree_34 (by decide +kernel) ?_
      refine vv_icmp_ge (tgt := 250) d_LY_layTree_36 (by decide) ⟨by omega, by omega⟩ (fun c36 => ?_) (fun c36 => ?_)
      · exact vv_vret hA hw hr d_LY_layTree_250 (by decide) (by decide) ⟨rfl, by rw [← hlt], rfl⟩
      · exfalso; omega
    | succ n ih =>
      intro i fr st hi hfr hN hlt
      unfold lt0_go at hlt
      refine vv_iload d_LY_layTree_32 rfl ?_
      refine vv_bipush d_LY_layTree_34 (by decide +kernel) ?_
      refine vv_icmp_ge (tgt := 250) d_LY_layTree_36 (by decide) ⟨by omega, by omega⟩ (fun c36 => ?_) (fun c36 => ?_)
      · exfalso; omega
      · skip
        refine vv_iload d_LY_layTree_39 rfl ?_
        refine vv_iload d_LY_layTree_41 rfl ?_
        refine vv_icmp_ge (tgt := 250) d_LY_layTree_43 (by decide) ⟨by omega, by omega⟩ (fun c43 => ?_) (fun c43 => ?_)
        · rw [if_neg (by omega)] at hlt; exact vv_vret hA hw hr d_LY_layTree_250 (by decide) (by decide) ⟨rfl, by rw [← hlt], rfl⟩
        · rw [if_pos (by omega)] at hlt
          have hch := hC 2 0 (w - fr) h (by omega) (by omega) (by omega) (by omega) (by omega) (by omega) (by omega) (by omega)
          rw [← rd_plc (ch := ch) (s := 2) (d := 0) (w := (w - fr)) (h := h) (by omega) (by omega) (by omega) (by omega)] at hch
          have hch2 : (rd_choiceAt ch (pl_at 2 0 (w - fr) h)) ≤ 24 := by
            by_cases q : 8 < (rd_choiceAt ch (pl_at 2 0 (w - fr) h))
            · have q2 := (hch.2 q).2
              have q3 : (if (0 : Int) = 0 then (w - fr) else h) ≤ 16 := by split <;> omega
              omega
            · omega
          have hpl : -2147483648 ≤ pl_at 2 0 (w - fr) h ∧ pl_at 2 0 (w - fr) h < 2147483648 := by unfold pl_at; omega
          refine vv_iload d_LY_layTree_46 rfl ?_
          refine vv_if_ne (tgt := 58) d_LY_layTree_48 (by decide) ⟨by omega, by omega⟩ (fun c48 => ?_) (fun c48 => ?_)
          · exfalso; omega
          · skip
            refine vv_iload_n d_LY_layTree_51 rfl ?_
            refine vv_iload d_LY_layTree_52 rfl ?_
            refine vv_iadd d_LY_layTree_54 ?_
            refine vv_goto (tgt := 59) d_LY_layTree_55 (by decide) ?_
            refine vv_istore d_LY_layTree_59 rfl (by decide) ?_
            dsimp only [List.set]
            refine vv_iload d_LY_layTree_61 rfl ?_
            refine vv_if_ne (tgt := 70) d_LY_layTree_63 (by decide) ⟨by omega, by omega⟩ (fun c63 => ?_) (fun c63 => ?_)
            · exfalso; omega
            · skip
              refine vv_iload_n d_LY_layTree_66 rfl ?_
              refine vv_goto (tgt := 74) d_LY_layTree_67 (by decide) ?_
              refine vv_istore d_LY_layTree_74 rfl (by decide) ?_
              dsimp only [List.set]
              refine vv_iload d_LY_layTree_76 rfl ?_
              refine vv_if_ne (tgt := 89) d_LY_layTree_78 (by decide) ⟨by omega, by omega⟩ (fun c78 => ?_) (fun c78 => ?_)
              · exfalso; omega
              · skip
                refine vv_iload d_LY_layTree_81 rfl ?_
                refine vv_iload d_LY_layTree_83 rfl ?_
                refine vv_isub d_LY_layTree_85 ?_
                refine vv_goto (tgt := 90) d_LY_layTree_86 (by decide) ?_
                refine vv_istore d_LY_layTree_90 rfl (by decide) ?_
                dsimp only [List.set]
                refine vv_iload d_LY_layTree_92 rfl ?_
                refine vv_if_ne (tgt := 102) d_LY_layTree_94 (by decide) ⟨by omega, by omega⟩ (fun c94 => ?_) (fun c94 => ?_)
                · exfalso; omega
                · skip
                  refine vv_iload d_LY_layTree_97 rfl ?_
                  refine vv_goto (tgt := 107) d_LY_layTree_99 (by decide) ?_
                  refine vv_istore d_LY_layTree_107 rfl (by decide) ?_
                  dsimp only [List.set]
                  refine vv_aload_n d_LY_layTree_109 rfl ?_
                  refine vv_get d_LY_layTree_110 0 rfl fl_LY_31 rfl ?_
                  refine vv_iload d_LY_layTree_113 rfl ?_
                  refine vv_iload d_LY_layTree_115 rfl ?_
                  refine vv_iload d_LY_layTree_117 rfl ?_
                  refine vv_iload d_LY_layTree_119 rfl ?_
                  refine vv_pV (wc := [ob_TB qt qs qc K W F, ar_I qc cI 2312 ch]) (plc := []) [] (c_TB_choiceOf (cx_l X) (cx_D X) cI qt qs qc K W F 2 0 (w - fr) h ch hpl) lk_LY_59 d_LY_layTree_121 rfl (rc_at 3 rfl rfl rfl) [3, 4] ⟨rfl, rfl, Or.inl rfl⟩ [0] rfl ⟨⟨by decide, by decide⟩, ⟨by decide, by decide⟩, Nat.le_of_ble_eq_true rfl⟩ ⟨rfl, rfl⟩ ?_
                  intro v hv
                  subst hv
                  dsimp only [Option.toList, List.cons_append, List.nil_append, List.append_nil]
                  refine vv_istore d_LY_layTree_124 rfl (by decide) ?_
                  dsimp only [List.set]
                  refine vv_iload d_LY_layTree_126 rfl ?_
                  refine vv_bipush d_LY_layTree_128 (by decide +kernel) ?_
                  refine vv_icmp_le (tgt := 139) d_LY_layTree_130 (by decide) ⟨by omega, by omega⟩ (fun c130 => ?_) (fun c130 => ?_)
                  · skip
                    refine vv_aload_n d_LY_layTree_139 rfl ?_
                    refine vv_iload d_LY_layTree_140 rfl ?_
                    refine vv_iload d_LY_layTree_142 rfl ?_
                    refine vv_iload d_LY_layTree_144 rfl ?_
                    refine vv_iload d_LY_layTree_146 rfl ?_
                    refine vv_iload d_LY_layTree_148 rfl ?_
                    refine vv_iload d_LY_layTree_150 rfl ?_
                    refine vv_pS (wc := []) (plc := []) [.int (iI (rd_choiceAt ch (pl_at 2 0 (w - fr) h))), .ref a] (c_PI_of (cx_l X) (cx_D X) (rd_choiceAt ch (pl_at 2 0 (w - fr) h)) (x + fr) y (w - fr) h (by omega) (by omega) (by omega) (by omega) (by omega)) lk_LY_62 d_LY_layTree_152 rfl [] ⟨rfl, rfl, Or.inl rfl⟩ [] rfl ⟨⟨by decide, by decide⟩, ⟨by decide, by decide⟩, Nat.le_of_ble_eq_true rfl⟩ ⟨rfl, rfl⟩ ?_
                    intro v hv
                    subst hv
                    dsimp only [Option.toList, List.cons_append, List.nil_append, List.append_nil]
                    refine vv_nV hw (wc := [ob_LY a qt qp qo way st, ar_I qp cI 256 st.2.2.2.1, ar_I qo cI 8 st.2.2.2.2]) (wr := [ob_TB qt qs qc K W F, ar_I qc cI 2312 ch]) [] (c_LY_addPiece (cx_l X) (cx_D X) cI a qt qp qo way (rd_choiceAt ch (pl_at 2 0 (w - fr) h)) (pk_z (rd_choiceAt ch (pl_at 2 0 (w - fr) h)) (x + fr) y (w - fr) h) st hN (by omega)) lk_LY_68 d_LY_layTree_155 rfl (rc_at 0 rfl rfl rfl) [0, 1, 2] [3, 4] ⟨rfl, rfl⟩ ⟨rfl, rfl, by decide⟩ [0] rfl ⟨⟨by decide, by decide⟩, ⟨by decide, by decide⟩, Nat.le_of_ble_eq_true rfl⟩ ⟨rfl, rfl⟩ ?_
                    rintro v w1 p1 t1 ⟨rfl, rfl, rfl⟩
                    dsimp only [Option.toList, List.cons_append, List.nil_append, List.append_nil]
                    refine vv_sub (ws' := [ob_LY a qt qp qo way (ly_add (rd_choiceAt ch (pl_at 2 0 (w - fr) h)) (pk_z (rd_choiceAt ch (pl_at 2 0 (w - fr) h)) (x + fr) y (w - fr) h) st), ar_I qp cI 256 (ly_add (rd_choiceAt ch (pl_at 2 0 (w - fr) h)) (pk_z (rd_choiceAt ch (pl_at 2 0 (w - fr) h)) (x + fr) y (w - fr) h) st).2.2.2.1, ar_I qo cI 8 (ly_add (rd_choiceAt ch (pl_at 2 0 (w - fr) h)) (pk_z (rd_choiceAt ch (pl_at 2 0 (w - fr) h)) (x + fr) y (w - fr) h) st).2.2.2.2, ob_TB qt qs qc K W F, ar_I qc cI 2312 ch]) [2, 3, 4, 0, 1] rfl rfl ?_
                    rw [if_pos (Or.inl c130)] at hlt
                    exact vv_vret hA hw hr d_LY_layTree_158 (by decide) (by decide) ⟨rfl, by rw [← hlt], rfl⟩
                  · skip
                    refine vv_iload d_LY_layTree_133 rfl ?_
                    refine vv_iconst d_LY_layTree_135 ?_
                    refine vv_icmp_ge (tgt := 159) d_LY_layTree_136 (by decide) ⟨by omega, by omega⟩ (fun c136 => ?_) (fun c136 => ?_)
                    · rw [if_neg (by omega)] at hlt
                      have hch3 := hch.2 (by omega)
                      rw [if_pos rfl] at hch3
                      refine vv_iload d_LY_layTree_159 rfl ?_
                      refine vv_bipush d_LY_layTree_161 (by decide +kernel) ?_
                      refine vv_isub d_LY_layTree_163 ?_
                      refine vv_istore d_LY_layTree_164 rfl (by decide) ?_
                      dsimp only [List.set]
                      refine vv_aload_n d_LY_layTree_166 rfl ?_
                      refine vv_dup d_LY_layTree_167 rfl ?_
                      refine vv_get d_LY_layTree_168 0 rfl fl_LY_25 rfl ?_
                      refine vv_iconst d_LY_layTree_171 ?_
                      refine vv_iadd d_LY_layTree_172 ?_
                      refine vv_put hw d_LY_layTree_173 0 rfl fp_LY_25 rfl rfl (Nat.le_of_ble_eq_true rfl) ?_
                      dsimp only [List.set]
                      refine vv_aload_n d_LY_layTree_176 rfl ?_
                      refine vv_dup d_LY_layTree_177 rfl ?_
                      refine vv_get d_LY_layTree_178 0 rfl fl_LY_28 rfl ?_
                      refine vv_iload d_LY_layTree_181 rfl ?_
                      refine vv_iadd d_LY_layTree_183 ?_
                      refine vv_put hw d_LY_layTree_184 0 rfl fp_LY_28 rfl rfl (Nat.le_of_ble_eq_true rfl) ?_
                      dsimp only [List.set]
                      refine vv_iload d_LY_layTree_187 rfl ?_
                      refine vv_if_ne (tgt := 212) d_LY_layTree_189 (by decide) ⟨by omega, by omega⟩ (fun c189 => ?_) (fun c189 => ?_)
                      · exfalso; omega
                      · skip
                        refine vv_aload_n d_LY_layTree_192 rfl ?_
                        refine vv_iload d_LY_layTree_193 rfl ?_
                        refine vv_iload d_LY_layTree_195 rfl ?_
                        refine vv_iload d_LY_layTree_197 rfl ?_
                        refine vv_iload d_LY_layTree_199 rfl ?_
                        refine vv_iconst d_LY_layTree_201 ?_
                        refine vv_iload d_LY_layTree_202 rfl ?_
                        refine vv_iconst d_LY_layTree_204 ?_
                        refine vv_isub d_LY_layTree_205 ?_
                        refine vv_nV hw (wc := [ob_LY a qt qp qo way (ly_cut h st), ar_I qp cI 256 (ly_cut h st).2.2.2.1, ar_I qo cI 8 (ly_cut h st).2.2.2.2, ob_TB qt qs qc K W F, ar_I qc cI 2312 ch]) (wr := []) [] (c_LY_layTree_1_1 (cx_l X) (cx_D X) cI a qt qp qo qs qc way K W F (x + fr) y ((rd_choiceAt ch (pl_at 2 0 (w - fr) h)) - 8) h ch (ly_cut h st) hK hC hN (by unfold okp; omega)) lk_LY_55 d_LY_layTree_206 rfl (rc_at 0 rfl rfl rfl) [0, 1, 2, 3, 4] [] ⟨rfl, rfl⟩ ⟨rfl, rfl, by decide⟩ [0] rfl ⟨⟨by decide, by decide⟩, ⟨by decide, by decide⟩, Nat.le_of_ble_eq_true rfl⟩ ⟨rfl, rfl⟩ ?_
                        rintro v w1 p1 t1 ⟨rfl, rfl, rfl⟩
                        dsimp only [Option.toList, List.cons_append, List.nil_append, List.append_nil]
                        refine vv_goto (tgt := 229) d_LY_layTree_209 (by decide) ?_
                        refine vv_iload d_LY_layTree_229 rfl ?_
                        refine vv_iload d_LY_layTree_231 rfl ?_
                        refine vv_aload_n d_LY_layTree_233 rfl ?_
                        refine vv_get d_LY_layTree_234 0 rfl fl_LY_31 rfl ?_
                        refine vv_get d_LY_layTree_237 3 rfl fl_LY_72 rfl ?_
                        refine vv_iadd d_LY_layTree_240 ?_
                        refine vv_iadd d_LY_layTree_241 ?_
                        refine vv_istore d_LY_layTree_242 rfl (by decide) ?_
                        dsimp only [List.set]
                        refine vv_iinc d_LY_layTree_244 rfl rfl (by decide) ?_
                        dsimp only [List.set]
                        refine vv_goto (tgt := 32) d_LY_layTree_247 (by decide) ?_
                        exact vv_le (by repeat (first | exact lo_le_nil _ | refine lo_le_cons _ ?_ | refine lo_le_none _ ?_)) (ih (i + 1) _ _ (by omega) (by omega) (LN_lt _ _ _ _ _ _ _ hN) hlt)
                    · exfalso; omega
  show VV X (b_LY_layTree, 17, "SheetTrees$Layout", rm_4) _ 0 0 [(cI, .int)] [ob_LY a qt qp qo way st0, ar_I qp cI 256 st0.2.2.2.1, ar_I qo cI 8 st0.2.2.2.2, ob_TB qt qs qc K W F, ar_I qc cI 2312 ch] [] [some (.ref a), some (.int (iI x)), some (.int (iI y)), some (.int (iI w)), some (.int (iI h)), some (.int (iI 0)), some (.int (iI 2)), none, none, none, none, none, none, none, none, none, none] [] 0
  refine vv_iload d_LY_layTree_0 rfl ?_
  refine vv_if_ne (tgt := 9) d_LY_layTree_2 (by decide) ⟨by omega, by omega⟩ (fun c2 => ?_) (fun c2 => ?_)
  · exfalso; omega
  · skip
    refine vv_iload_n d_LY_layTree_5 rfl ?_
    refine vv_goto (tgt := 11) d_LY_layTree_6 (by decide) ?_
    refine vv_istore d_LY_layTree_11 rfl (by decide) ?_
    dsimp only [List.set]
    refine vv_iload d_LY_layTree_13 rfl ?_
    refine vv_if_ne (tgt := 23) d_LY_layTree_15 (by decide) ⟨by omega, by omega⟩ (fun c15 => ?_) (fun c15 => ?_)
    · exfalso; omega
    · skip
      refine vv_iload d_LY_layTree_18 rfl ?_
      refine vv_goto (tgt := 24) d_LY_layTree_20 (by decide) ?_
      refine vv_istore d_LY_layTree_24 rfl (by decide) ?_
      dsimp only [List.set]
      refine vv_iconst d_LY_layTree_26 ?_
      refine vv_istore d_LY_layTree_27 rfl (by decide) ?_
      dsimp only [List.set]
      refine vv_iconst d_LY_layTree_29 ?_
      refine vv_istore d_LY_layTree_30 rfl (by decide) ?_
      dsimp only [List.set]
      exact loop 16 0 0 st0 (by omega) (by omega) hN0 rfl
set_option maxHeartbeats 4000000 in
set_option maxRecDepth 100000 in
theorem c_LY_layTree_2_1 (l : Launch) (D : va_G) (cI : ClassId) (a qt qp qo qs qc : Nat) (way K W F x y w h : Int) (ch : Nat → Int) (st0 : ly_T) (hK : 0 ≤ K ∧ K ≤ 3) (hC : CI ch) (hN0 : LN st0) (hok : okp x y w h) : CM l y_LY_layTree b_LY_layTree 17 none rm_4 [.ref a, .int (iI x), .int (iI y), .int (iI w), .int (iI h), .int (iI 1), .int (iI 2)] D [(cI, .int)] ([ob_LY a qt qp qo way st0, ar_I qp cI 256 st0.2.2.2.1, ar_I qo cI 8 st0.2.2.2.2, ob_TB qt qs qc K W F, ar_I qc cI 2312 ch] ++ []) (fun r w1 p1 _ => r = none ∧ w1 = [ob_LY a qt qp qo way (lt ch K 2 true x y w h st0), ar_I qp cI 256 (lt ch K 2 true x y w h st0).2.2.2.1, ar_I qo cI 8 (lt ch K 2 true x y w h st0).2.2.2.2, ob_TB qt qs qc K W F, ar_I qc cI 2312 ch] ∧ p1 = []) := by
  refine cm_of (by decide) (Nat.le_of_ble_eq_true rfl) ?_
  intro X sz hl hr hnm hD hA hw
  subst hD
  unfold okp at hok
  have loop : ∀ (n i : Nat) (fr : Int) (st : ly_T), i + n = 16 → 0 ≤ fr ∧ fr ≤ 60 → LN st → lt1_go (lt ch K 1 false) ch K 2 x y w h n fr st = (lt ch K 2 true x y w h st0) → VV X (b_LY_layTree, 17, "SheetTrees$Layout", rm_4) (cq X ([ob_LY a qt qp qo way st0, ar_I qp cI 256 st0.2.2.2.1, ar_I qo cI 8 st0.2.2.2.2, ob_TB qt qs qc K W F, ar_I qc cI 2312 ch] ++ []) sz (fun r w1 p1 _ => r = none ∧ w1 = [ob_LY a qt qp qo way (lt ch K 2 true x y w h st0), ar_I qp cI 256 (lt ch K 2 true x y w h st0).2.2.2.1, ar_I qo cI 8 (lt ch K 2 true x y w h st0).2.2.2.2, ob_TB qt qs qc K W F, ar_I qc cI 2312 ch] ∧ p1 = []) rm_4) 0 0 [(cI, .int)] [ob_LY a qt qp qo way st, ar_I qp cI 256 st.2.2.2.1, ar_I qo cI 8 st.2.2.2.2, ob_TB qt qs qc K W F, ar_I qc cI 2312 ch] [] [some (.ref a), some (.int (iI x)), some (.int (iI y)), some (.int (iI w)), some (.int (iI h)), some (.int (iI 1)), some (.int (iI 2)), some (.int (iI h)), some (.int (iI w)), some (.int (iI fr)), some (.int (iI (i : Int))), none, none, none, none, none, none] [] 32 := by
    intro n
    induction n with
    | zero =>
      intro i fr st hi hfr hN hlt
      unfold lt1_go at hlt
      refine vv_iload d_LY_layTree_32 rfl ?_
      refine vv_bipush d_LY_layTree_34 (by decide +kernel) ?_
      refine vv_icmp_ge (tgt := 250) d_LY_layTree_36 (by decide) ⟨by omega, by omega⟩ (fun c36 => ?_) (fun c36 => ?_)
      · exact vv_vret hA hw hr d_LY_layTree_250 (by decide) (by decide) ⟨rfl, by rw [← hlt], rfl⟩
      · exfalso; omega
    | succ n ih =>
      intro i fr st hi hfr hN hlt
      unfold lt1_go at hlt
      refine vv_iload d_LY_layTree_32 rfl ?_
      refine vv_bipush d_LY_layTree_34 (by decide +kernel) ?_
      refine vv_icmp_ge (tgt := 250) d_LY_layTree_36 (by decide) ⟨by omega, by omega⟩ (fun c36 => ?_) (fun c36 => ?_)
      · exfalso; omega
      · skip
        refine vv_iload d_LY_layTree_39 rfl ?_
        refine vv_iload d_LY_layTree_41 rfl ?_
        refine vv_icmp_ge (tgt := 250) d_LY_layTree_43 (by decide) ⟨by omega, by omega⟩ (fun c43 => ?_) (fun c43 => ?_)
        · rw [if_neg (by omega)] at hlt; exact vv_vret hA hw hr d_LY_layTree_250 (by decide) (by decide) ⟨rfl, by rw [← hlt], rfl⟩
        · rw [if_pos (by omega)] at hlt
          have hch := hC 2 1 w (h - fr) (by omega) (by omega) (by omega) (by omega) (by omega) (by omega) (by omega) (by omega)
          rw [← rd_plc (ch := ch) (s := 2) (d := 1) (w := w) (h := (h - fr)) (by omega) (by omega) (by omega) (by omega)] at hch
          have hch2 : (rd_choiceAt ch (pl_at 2 1 w (h - fr))) ≤ 24 := by
            by_cases q : 8 < (rd_choiceAt ch (pl_at 2 1 w (h - fr)))
            · have q2 := (hch.2 q).2
              have q3 : (if (1 : Int) = 0 then w else (h - fr)) ≤ 16 := by split <;> omega
              omega
            · omega
          have hpl : -2147483648 ≤ pl_at 2 1 w (h - fr) ∧ pl_at 2 1 w (h - fr) < 2147483648 := by unfold pl_at; omega
          refine vv_iload d_LY_layTree_46 rfl ?_
          refine vv_if_ne (tgt := 58) d_LY_layTree_48 (by decide) ⟨by omega, by omega⟩ (fun c48 => ?_) (fun c48 => ?_)
          · skip
            refine vv_iload_n d_LY_layTree_58 rfl ?_
            refine vv_istore d_LY_layTree_59 rfl (by decide) ?_
            dsimp only [List.set]
            refine vv_iload d_LY_layTree_61 rfl ?_
            refine vv_if_ne (tgt := 70) d_LY_layTree_63 (by decide) ⟨by omega, by omega⟩ (fun c63 => ?_) (fun c63 => ?_)
            · skip
              refine vv_iload_n d_LY_layTree_70 rfl ?_
              refine vv_iload d_LY_layTree_71 rfl ?_
              refine vv_iadd d_LY_layTree_73 ?_
              refine vv_istore d_LY_layTree_74 rfl (by decide) ?_
              dsimp only [List.set]
              refine vv_iload d_LY_layTree_76 rfl ?_
              refine vv_if_ne (tgt := 89) d_LY_layTree_78 (by decide) ⟨by omega, by omega⟩ (fun c78 => ?_) (fun c78 => ?_)
              · skip
                refine vv_iload_n d_LY_layTree_89 rfl ?_
                refine vv_istore d_LY_layTree_90 rfl (by decide) ?_
                dsimp only [List.set]
                refine vv_iload d_LY_layTree_92 rfl ?_
                refine vv_if_ne (tgt := 102) d_LY_layTree_94 (by decide) ⟨by omega, by omega⟩ (fun c94 => ?_) (fun c94 => ?_)
                · skip
                  refine vv_iload d_LY_layTree_102 rfl ?_
                  refine vv_iload d_LY_layTree_104 rfl ?_
                  refine vv_isub d_LY_layTree_106 ?_
                  refine vv_istore d_LY_layTree_107 rfl (by decide) ?_
                  dsimp only [List.set]
                  refine vv_aload_n d_LY_layTree_109 rfl ?_
                  refine vv_get d_LY_layTree_110 0 rfl fl_LY_31 rfl ?_
                  refine vv_iload d_LY_layTree_113 rfl ?_
                  refine vv_iload d_LY_layTree_115 rfl ?_
                  refine vv_iload d_LY_layTree_117 rfl ?_
                  refine vv_iload d_LY_layTree_119 rfl ?_
                  refine vv_pV (wc := [ob_TB qt qs qc K W F, ar_I qc cI 2312 ch]) (plc := []) [] (c_TB_choiceOf (cx_l X) (cx_D X) cI qt qs qc K W F 2 1 w (h - fr) ch hpl) lk_LY_59 d_LY_layTree_121 rfl (rc_at 3 rfl rfl rfl) [3, 4] ⟨rfl, rfl, Or.inl rfl⟩ [0] rfl ⟨⟨by decide, by decide⟩, ⟨by decide, by decide⟩, Nat.le_of_ble_eq_true rfl⟩ ⟨rfl, rfl⟩ ?_
                  intro v hv
                  subst hv
                  dsimp only [Option.toList, List.cons_append, List.nil_append, List.append_nil]
                  refine vv_istore d_LY_layTree_124 rfl (by decide) ?_
                  dsimp only [List.set]
                  refine vv_iload d_LY_layTree_126 rfl ?_
                  refine vv_bipush d_LY_layTree_128 (by decide +kernel) ?_
                  refine vv_icmp_le (tgt := 139) d_LY_layTree_130 (by decide) ⟨by omega, by omega⟩ (fun c130 => ?_) (fun c130 => ?_)
                  · skip
                    refine vv_aload_n d_LY_layTree_139 rfl ?_
                    refine vv_iload d_LY_layTree_140 rfl ?_
                    refine vv_iload d_LY_layTree_142 rfl ?_
                    refine vv_iload d_LY_layTree_144 rfl ?_
                    refine vv_iload d_LY_layTree_146 rfl ?_
                    refine vv_iload d_LY_layTree_148 rfl ?_
                    refine vv_iload d_LY_layTree_150 rfl ?_
                    refine vv_pS (wc := []) (plc := []) [.int (iI (rd_choiceAt ch (pl_at 2 1 w (h - fr)))), .ref a] (c_PI_of (cx_l X) (cx_D X) (rd_choiceAt ch (pl_at 2 1 w (h - fr))) x (y + fr) w (h - fr) (by omega) (by omega) (by omega) (by omega) (by omega)) lk_LY_62 d_LY_layTree_152 rfl [] ⟨rfl, rfl, Or.inl rfl⟩ [] rfl ⟨⟨by decide, by decide⟩, ⟨by decide, by decide⟩, Nat.le_of_ble_eq_true rfl⟩ ⟨rfl, rfl⟩ ?_
                    intro v hv
                    subst hv
                    dsimp only [Option.toList, List.cons_append, List.nil_append, List.append_nil]
                    refine vv_nV hw (wc := [ob_LY a qt qp qo way st, ar_I qp cI 256 st.2.2.2.1, ar_I qo cI 8 st.2.2.2.2]) (wr := [ob_TB qt qs qc K W F, ar_I qc cI 2312 ch]) [] (c_LY_addPiece (cx_l X) (cx_D X) cI a qt qp qo way (rd_choiceAt ch (pl_at 2 1 w (h - fr))) (pk_z (rd_choiceAt ch (pl_at 2 1 w (h - fr))) x (y + fr) w (h - fr)) st hN (by omega)) lk_LY_68 d_LY_layTree_155 rfl (rc_at 0 rfl rfl rfl) [0, 1, 2] [3, 4] ⟨rfl, rfl⟩ ⟨rfl, rfl, by decide⟩ [0] rfl ⟨⟨by decide, by decide⟩, ⟨by decide, by decide⟩, Nat.le_of_ble_eq_true rfl⟩ ⟨rfl, rfl⟩ ?_
                    rintro v w1 p1 t1 ⟨rfl, rfl, rfl⟩
                    dsimp only [Option.toList, List.cons_append, List.nil_append, List.append_nil]
                    refine vv_sub (ws' := [ob_LY a qt qp qo way (ly_add (rd_choiceAt ch (pl_at 2 1 w (h - fr))) (pk_z (rd_choiceAt ch (pl_at 2 1 w (h - fr))) x (y + fr) w (h - fr)) st), ar_I qp cI 256 (ly_add (rd_choiceAt ch (pl_at 2 1 w (h - fr))) (pk_z (rd_choiceAt ch (pl_at 2 1 w (h - fr))) x (y + fr) w (h - fr)) st).2.2.2.1, ar_I qo cI 8 (ly_add (rd_choiceAt ch (pl_at 2 1 w (h - fr))) (pk_z (rd_choiceAt ch (pl_at 2 1 w (h - fr))) x (y + fr) w (h - fr)) st).2.2.2.2, ob_TB qt qs qc K W F, ar_I qc cI 2312 ch]) [2, 3, 4, 0, 1] rfl rfl ?_
                    rw [if_pos (Or.inl c130)] at hlt
                    exact vv_vret hA hw hr d_LY_layTree_158 (by decide) (by decide) ⟨rfl, by rw [← hlt], rfl⟩
                  · skip
                    refine vv_iload d_LY_layTree_133 rfl ?_
                    refine vv_iconst d_LY_layTree_135 ?_
                    refine vv_icmp_ge (tgt := 159) d_LY_layTree_136 (by decide) ⟨by omega, by omega⟩ (fun c136 => ?_) (fun c136 => ?_)
                    · rw [if_neg (by omega)] at hlt
                      have hch3 := hch.2 (by omega)
                      rw [if_neg (by decide)] at hch3
                      refine vv_iload d_LY_layTree_159 rfl ?_
                      refine vv_bipush d_LY_layTree_161 (by decide +kernel) ?_
                      refine vv_isub d_LY_layTree_163 ?_
                      refine vv_istore d_LY_layTree_164 rfl (by decide) ?_
                      dsimp only [List.set]
                      refine vv_aload_n d_LY_layTree_166 rfl ?_
                      refine vv_dup d_LY_layTree_167 rfl ?_
                      refine vv_get d_LY_layTree_168 0 rfl fl_LY_25 rfl ?_
                      refine vv_iconst d_LY_layTree_171 ?_
                      refine vv_iadd d_LY_layTree_172 ?_
                      refine vv_put hw d_LY_layTree_173 0 rfl fp_LY_25 rfl rfl (Nat.le_of_ble_eq_true rfl) ?_
                      dsimp only [List.set]
                      refine vv_aload_n d_LY_layTree_176 rfl ?_
                      refine vv_dup d_LY_layTree_177 rfl ?_
                      refine vv_get d_LY_layTree_178 0 rfl fl_LY_28 rfl ?_
                      refine vv_iload d_LY_layTree_181 rfl ?_
                      refine vv_iadd d_LY_layTree_183 ?_
                      refine vv_put hw d_LY_layTree_184 0 rfl fp_LY_28 rfl rfl (Nat.le_of_ble_eq_true rfl) ?_
                      dsimp only [List.set]
                      refine vv_iload d_LY_layTree_187 rfl ?_
                      refine vv_if_ne (tgt := 212) d_LY_layTree_189 (by decide) ⟨by omega, by omega⟩ (fun c189 => ?_) (fun c189 => ?_)
                      · skip
                        refine vv_aload_n d_LY_layTree_212 rfl ?_
                        refine vv_iload d_LY_layTree_213 rfl ?_
                        refine vv_iload d_LY_layTree_215 rfl ?_
                        refine vv_iload d_LY_layTree_217 rfl ?_
                        refine vv_iload d_LY_layTree_219 rfl ?_
                        refine vv_iconst d_LY_layTree_221 ?_
                        refine vv_iload d_LY_layTree_222 rfl ?_
                        refine vv_iconst d_LY_layTree_224 ?_
                        refine vv_isub d_LY_layTree_225 ?_
                        refine vv_nV hw (wc := [ob_LY a qt qp qo way (ly_cut w st), ar_I qp cI 256 (ly_cut w st).2.2.2.1, ar_I qo cI 8 (ly_cut w st).2.2.2.2, ob_TB qt qs qc K W F, ar_I qc cI 2312 ch]) (wr := []) [] (c_LY_layTree_1_0 (cx_l X) (cx_D X) cI a qt qp qo qs qc way K W F x (y + fr) w ((rd_choiceAt ch (pl_at 2 1 w (h - fr))) - 8) ch (ly_cut w st) hK hC hN (by unfold okp; omega)) lk_LY_55 d_LY_layTree_226 rfl (rc_at 0 rfl rfl rfl) [0, 1, 2, 3, 4] [] ⟨rfl, rfl⟩ ⟨rfl, rfl, by decide⟩ [0] rfl ⟨⟨by decide, by decide⟩, ⟨by decide, by decide⟩, Nat.le_of_ble_eq_true rfl⟩ ⟨rfl, rfl⟩ ?_
                        rintro v w1 p1 t1 ⟨rfl, rfl, rfl⟩
                        dsimp only [Option.toList, List.cons_append, List.nil_append, List.append_nil]
                        refine vv_iload d_LY_layTree_229 rfl ?_
                        refine vv_iload d_LY_layTree_231 rfl ?_
                        refine vv_aload_n d_LY_layTree_233 rfl ?_
                        refine vv_get d_LY_layTree_234 0 rfl fl_LY_31 rfl ?_
                        refine vv_get d_LY_layTree_237 3 rfl fl_LY_72 rfl ?_
                        refine vv_iadd d_LY_layTree_240 ?_
                        refine vv_iadd d_LY_layTree_241 ?_
                        refine vv_istore d_LY_layTree_242 rfl (by decide) ?_
                        dsimp only [List.set]
                        refine vv_iinc d_LY_layTree_244 rfl rfl (by decide) ?_
                        dsimp only [List.set]
                        refine vv_goto (tgt := 32) d_LY_layTree_247 (by decide) ?_
                        exact vv_le (by repeat (first | exact lo_le_nil _ | refine lo_le_cons _ ?_ | refine lo_le_none _ ?_)) (ih (i + 1) _ _ (by omega) (by omega) (LN_lt _ _ _ _ _ _ _ hN) hlt)
                      · exfalso; omega
                    · exfalso; omega
                · exfalso; omega
              · exfalso; omega
            · exfalso; omega
          · exfalso; omega
  show VV X (b_LY_layTree, 17, "SheetTrees$Layout", rm_4) _ 0 0 [(cI, .int)] [ob_LY a qt qp qo way st0, ar_I qp cI 256 st0.2.2.2.1, ar_I qo cI 8 st0.2.2.2.2, ob_TB qt qs qc K W F, ar_I qc cI 2312 ch] [] [some (.ref a), some (.int (iI x)), some (.int (iI y)), some (.int (iI w)), some (.int (iI h)), some (.int (iI 1)), some (.int (iI 2)), none, none, none, none, none, none, none, none, none, none] [] 0
  refine vv_iload d_LY_layTree_0 rfl ?_
  refine vv_if_ne (tgt := 9) d_LY_layTree_2 (by decide) ⟨by omega, by omega⟩ (fun c2 => ?_) (fun c2 => ?_)
  · skip
    refine vv_iload d_LY_layTree_9 rfl ?_
    refine vv_istore d_LY_layTree_11 rfl (by decide) ?_
    dsimp only [List.set]
    refine vv_iload d_LY_layTree_13 rfl ?_
    refine vv_if_ne (tgt := 23) d_LY_layTree_15 (by decide) ⟨by omega, by omega⟩ (fun c15 => ?_) (fun c15 => ?_)
    · skip
      refine vv_iload_n d_LY_layTree_23 rfl ?_
      refine vv_istore d_LY_layTree_24 rfl (by decide) ?_
      dsimp only [List.set]
      refine vv_iconst d_LY_layTree_26 ?_
      refine vv_istore d_LY_layTree_27 rfl (by decide) ?_
      dsimp only [List.set]
      refine vv_iconst d_LY_layTree_29 ?_
      refine vv_istore d_LY_layTree_30 rfl (by decide) ?_
      dsimp only [List.set]
      exact loop 16 0 0 st0 (by omega) (by omega) hN0 rfl
    · exfalso; omega
  · exfalso; omega
set_option maxHeartbeats 4000000 in
set_option maxRecDepth 100000 in
theorem c_LY_layTree_3_0 (l : Launch) (D : va_G) (cI : ClassId) (a qt qp qo qs qc : Nat) (way K W F x y w h : Int) (ch : Nat → Int) (st0 : ly_T) (hK : 0 ≤ K ∧ K ≤ 3) (hC : CI ch) (hN0 : LN st0) (hok : okp x y w h) : CM l y_LY_layTree b_LY_layTree 17 none rm_5 [.ref a, .int (iI x), .int (iI y), .int (iI w), .int (iI h), .int (iI 0), .int (iI 3)] D [(cI, .int)] ([ob_LY a qt qp qo way st0, ar_I qp cI 256 st0.2.2.2.1, ar_I qo cI 8 st0.2.2.2.2, ob_TB qt qs qc K W F, ar_I qc cI 2312 ch] ++ []) (fun r w1 p1 _ => r = none ∧ w1 = [ob_LY a qt qp qo way (lt ch K 3 false x y w h st0), ar_I qp cI 256 (lt ch K 3 false x y w h st0).2.2.2.1, ar_I qo cI 8 (lt ch K 3 false x y w h st0).2.2.2.2, ob_TB qt qs qc K W F, ar_I qc cI 2312 ch] ∧ p1 = []) := by
  refine cm_of (by decide) (Nat.le_of_ble_eq_true rfl) ?_
  intro X sz hl hr hnm hD hA hw
  subst hD
  unfold okp at hok
  have loop : ∀ (n i : Nat) (fr : Int) (st : ly_T), i + n = 16 → 0 ≤ fr ∧ fr ≤ 60 → LN st → lt0_go (lt ch K 2 true) ch K 3 x y w h n fr st = (lt ch K 3 false x y w h st0) → VV X (b_LY_layTree, 17, "SheetTrees$Layout", rm_5) (cq X ([ob_LY a qt qp qo way st0, ar_I qp cI 256 st0.2.2.2.1, ar_I qo cI 8 st0.2.2.2.2, ob_TB qt qs qc K W F, ar_I qc cI 2312 ch] ++ []) sz (fun r w1 p1 _ => r = none ∧ w1 = [ob_LY a qt qp qo way (lt ch K 3 false x y w h st0), ar_I qp cI 256 (lt ch K 3 false x y w h st0).2.2.2.1, ar_I qo cI 8 (lt ch K 3 false x y w h st0).2.2.2.2, ob_TB qt qs qc K W F, ar_I qc cI 2312 ch] ∧ p1 = []) rm_5) 0 0 [(cI, .int)] [ob_LY a qt qp qo way st, ar_I qp cI 256 st.2.2.2.1, ar_I qo cI 8 st.2.2.2.2, ob_TB qt qs qc K W F, ar_I qc cI 2312 ch] [] [some (.ref a), some (.int (iI x)), some (.int (iI y)), some (.int (iI w)), some (.int (iI h)), some (.int (iI 0)), some (.int (iI 3)), some (.int (iI w)), some (.int (iI h)), some (.int (iI fr)), some (.int (iI (i : Int))), none, none, none, none, none, none] [] 32 := by
    intro n
    induction n with
    | zero =>
      intro i fr st hi hfr hN hlt
      unfold lt0_go at hlt
      refine vv_iload d_LY_layTree_32 rfl ?_
      refine vv_bipush d_LY_layTree_34 (by decide +kernel) ?_
      refine vv_icmp_ge (tgt := 250) d_LY_layTree_36 (by decide) ⟨by omega, by omega⟩ (fun c36 => ?_) (fun c36 => ?_)
      · exact vv_vret hA hw hr d_LY_layTree_250 (by decide) (by decide) ⟨rfl, by rw [← hlt], rfl⟩
      · exfalso; omega
    | succ n ih =>
      intro i fr st hi hfr hN hlt
      unfold lt0_go at hlt
      refine vv_iload d_LY_layTree_32 rfl ?_
      refine vv_bipush d_LY_layTree_34 (by decide +kernel) ?_
      refine vv_icmp_ge (tgt := 250) d_LY_layTree_36 (by decide) ⟨by omega, by omega⟩ (fun c36 => ?_) (fun c36 => ?_)
      · exfalso; omega
      · skip
        refine vv_iload d_LY_layTree_39 rfl ?_
        refine vv_iload d_LY_layTree_41 rfl ?_
        refine vv_icmp_ge (tgt := 250) d_LY_layTree_43 (by decide) ⟨by omega, by omega⟩ (fun c43 => ?_) (fun c43 => ?_)
        · rw [if_neg (by omega)] at hlt; exact vv_vret hA hw hr d_LY_layTree_250 (by decide) (by decide) ⟨rfl, by rw [← hlt], rfl⟩
        · rw [if_pos (by omega)] at hlt
          have hch := hC 3 0 (w - fr) h (by omega) (by omega) (by omega) (by omega) (by omega) (by omega) (by omega) (by omega)
          rw [← rd_plc (ch := ch) (s := 3) (d := 0) (w := (w - fr)) (h := h) (by omega) (by omega) (by omega) (by omega)] at hch
          have hch2 : (rd_choiceAt ch (pl_at 3 0 (w - fr) h)) ≤ 24 := by
            by_cases q : 8 < (rd_choiceAt ch (pl_at 3 0 (w - fr) h))
            · have q2 := (hch.2 q).2
              have q3 : (if (0 : Int) = 0 then (w - fr) else h) ≤ 16 := by split <;> omega
              omega
            · omega
          have hpl : -2147483648 ≤ pl_at 3 0 (w - fr) h ∧ pl_at 3 0 (w - fr) h < 2147483648 := by unfold pl_at; omega
          refine vv_iload d_LY_layTree_46 rfl ?_
          refine vv_if_ne (tgt := 58) d_LY_layTree_48 (by decide) ⟨by omega, by omega⟩ (fun c48 => ?_) (fun c48 => ?_)
          · exfalso; omega
          · skip
            refine vv_iload_n d_LY_layTree_51 rfl ?_
            refine vv_iload d_LY_layTree_52 rfl ?_
            refine vv_iadd d_LY_layTree_54 ?_
            refine vv_goto (tgt := 59) d_LY_layTree_55 (by decide) ?_
            refine vv_istore d_LY_layTree_59 rfl (by decide) ?_
            dsimp only [List.set]
            refine vv_iload d_LY_layTree_61 rfl ?_
            refine vv_if_ne (tgt := 70) d_LY_layTree_63 (by decide) ⟨by omega, by omega⟩ (fun c63 => ?_) (fun c63 => ?_)
            · exfalso; omega
            · skip
              refine vv_iload_n d_LY_layTree_66 rfl ?_
              refine vv_goto (tgt := 74) d_LY_layTree_67 (by decide) ?_
              refine vv_istore d_LY_layTree_74 rfl (by decide) ?_
              dsimp only [List.set]
              refine vv_iload d_LY_layTree_76 rfl ?_
              refine vv_if_ne (tgt := 89) d_LY_layTree_78 (by decide) ⟨by omega, by omega⟩ (fun c78 => ?_) (fun c78 => ?_)
              · exfalso; omega
              · skip
                refine vv_iload d_LY_layTree_81 rfl ?_
                refine vv_iload d_LY_layTree_83 rfl ?_
                refine vv_isub d_LY_layTree_85 ?_
                refine vv_goto (tgt := 90) d_LY_layTree_86 (by decide) ?_
                refine vv_istore d_LY_layTree_90 rfl (by decide) ?_
                dsimp only [List.set]
                refine vv_iload d_LY_layTree_92 rfl ?_
                refine vv_if_ne (tgt := 102) d_LY_layTree_94 (by decide) ⟨by omega, by omega⟩ (fun c94 => ?_) (fun c94 => ?_)
                · exfalso; omega
                · skip
                  refine vv_iload d_LY_layTree_97 rfl ?_
                  refine vv_goto (tgt := 107) d_LY_layTree_99 (by decide) ?_
                  refine vv_istore d_LY_layTree_107 rfl (by decide) ?_
                  dsimp only [List.set]
                  refine vv_aload_n d_LY_layTree_109 rfl ?_
                  refine vv_get d_LY_layTree_110 0 rfl fl_LY_31 rfl ?_
                  refine vv_iload d_LY_layTree_113 rfl ?_
                  refine vv_iload d_LY_layTree_115 rfl ?_
                  refine vv_iload d_LY_layTree_117 rfl ?_
                  refine vv_iload d_LY_layTree_119 rfl ?_
                  refine vv_pV (wc := [ob_TB qt qs qc K W F, ar_I qc cI 2312 ch]) (plc := []) [] (c_TB_choiceOf (cx_l X) (cx_D X) cI qt qs qc K W F 3 0 (w - fr) h ch hpl) lk_LY_59 d_LY_layTree_121 rfl (rc_at 3 rfl rfl rfl) [3, 4] ⟨rfl, rfl, Or.inl rfl⟩ [0] rfl ⟨⟨by decide, by decide⟩, ⟨by decide, by decide⟩, Nat.le_of_ble_eq_true rfl⟩ ⟨rfl, rfl⟩ ?_
                  intro v hv
                  subst hv
                  dsimp only [Option.toList, List.cons_append, List.nil_append, List.append_nil]
                  refine vv_istore d_LY_layTree_124 rfl (by decide) ?_
                  dsimp only [List.set]
                  refine vv_iload d_LY_layTree_126 rfl ?_
                  refine vv_bipush d_LY_layTree_128 (by decide +kernel) ?_
                  refine vv_icmp_le (tgt := 139) d_LY_layTree_130 (by decide) ⟨by omega, by omega⟩ (fun c130 => ?_) (fun c130 => ?_)
                  · skip
                    refine vv_aload_n d_LY_layTree_139 rfl ?_
                    refine vv_iload d_LY_layTree_140 rfl ?_
                    refine vv_iload d_LY_layTree_142 rfl ?_
                    refine vv_iload d_LY_layTree_144 rfl ?_
                    refine vv_iload d_LY_layTree_146 rfl ?_
                    refine vv_iload d_LY_layTree_148 rfl ?_
                    refine vv_iload d_LY_layTree_150 rfl ?_
                    refine vv_pS (wc := []) (plc := []) [.int (iI (rd_choiceAt ch (pl_at 3 0 (w - fr) h))), .ref a] (c_PI_of (cx_l X) (cx_D X) (rd_choiceAt ch (pl_at 3 0 (w - fr) h)) (x + fr) y (w - fr) h (by omega) (by omega) (by omega) (by omega) (by omega)) lk_LY_62 d_LY_layTree_152 rfl [] ⟨rfl, rfl, Or.inl rfl⟩ [] rfl ⟨⟨by decide, by decide⟩, ⟨by decide, by decide⟩, Nat.le_of_ble_eq_true rfl⟩ ⟨rfl, rfl⟩ ?_
                    intro v hv
                    subst hv
                    dsimp only [Option.toList, List.cons_append, List.nil_append, List.append_nil]
                    refine vv_nV hw (wc := [ob_LY a qt qp qo way st, ar_I qp cI 256 st.2.2.2.1, ar_I qo cI 8 st.2.2.2.2]) (wr := [ob_TB qt qs qc K W F, ar_I qc cI 2312 ch]) [] (c_LY_addPiece (cx_l X) (cx_D X) cI a qt qp qo way (rd_choiceAt ch (pl_at 3 0 (w - fr) h)) (pk_z (rd_choiceAt ch (pl_at 3 0 (w - fr) h)) (x + fr) y (w - fr) h) st hN (by omega)) lk_LY_68 d_LY_layTree_155 rfl (rc_at 0 rfl rfl rfl) [0, 1, 2] [3, 4] ⟨rfl, rfl⟩ ⟨rfl, rfl, by decide⟩ [0] rfl ⟨⟨by decide, by decide⟩, ⟨by decide, by decide⟩, Nat.le_of_ble_eq_true rfl⟩ ⟨rfl, rfl⟩ ?_
                    rintro v w1 p1 t1 ⟨rfl, rfl, rfl⟩
                    dsimp only [Option.toList, List.cons_append, List.nil_append, List.append_nil]
                    refine vv_sub (ws' := [ob_LY a qt qp qo way (ly_add (rd_choiceAt ch (pl_at 3 0 (w - fr) h)) (pk_z (rd_choiceAt ch (pl_at 3 0 (w - fr) h)) (x + fr) y (w - fr) h) st), ar_I qp cI 256 (ly_add (rd_choiceAt ch (pl_at 3 0 (w - fr) h)) (pk_z (rd_choiceAt ch (pl_at 3 0 (w - fr) h)) (x + fr) y (w - fr) h) st).2.2.2.1, ar_I qo cI 8 (ly_add (rd_choiceAt ch (pl_at 3 0 (w - fr) h)) (pk_z (rd_choiceAt ch (pl_at 3 0 (w - fr) h)) (x + fr) y (w - fr) h) st).2.2.2.2, ob_TB qt qs qc K W F, ar_I qc cI 2312 ch]) [2, 3, 4, 0, 1] rfl rfl ?_
                    rw [if_pos (Or.inl c130)] at hlt
                    exact vv_vret hA hw hr d_LY_layTree_158 (by decide) (by decide) ⟨rfl, by rw [← hlt], rfl⟩
                  · skip
                    refine vv_iload d_LY_layTree_133 rfl ?_
                    refine vv_iconst d_LY_layTree_135 ?_
                    refine vv_icmp_ge (tgt := 159) d_LY_layTree_136 (by decide) ⟨by omega, by omega⟩ (fun c136 => ?_) (fun c136 => ?_)
                    · rw [if_neg (by omega)] at hlt
                      have hch3 := hch.2 (by omega)
                      rw [if_pos rfl] at hch3
                      refine vv_iload d_LY_layTree_159 rfl ?_
                      refine vv_bipush d_LY_layTree_161 (by decide +kernel) ?_
                      refine vv_isub d_LY_layTree_163 ?_
                      refine vv_istore d_LY_layTree_164 rfl (by decide) ?_
                      dsimp only [List.set]
                      refine vv_aload_n d_LY_layTree_166 rfl ?_
                      refine vv_dup d_LY_layTree_167 rfl ?_
                      refine vv_get d_LY_layTree_168 0 rfl fl_LY_25 rfl ?_
                      refine vv_iconst d_LY_layTree_171 ?_
                      refine vv_iadd d_LY_layTree_172 ?_
                      refine vv_put hw d_LY_layTree_173 0 rfl fp_LY_25 rfl rfl (Nat.le_of_ble_eq_true rfl) ?_
                      dsimp only [List.set]
                      refine vv_aload_n d_LY_layTree_176 rfl ?_
                      refine vv_dup d_LY_layTree_177 rfl ?_
                      refine vv_get d_LY_layTree_178 0 rfl fl_LY_28 rfl ?_
                      refine vv_iload d_LY_layTree_181 rfl ?_
                      refine vv_iadd d_LY_layTree_183 ?_
                      refine vv_put hw d_LY_layTree_184 0 rfl fp_LY_28 rfl rfl (Nat.le_of_ble_eq_true rfl) ?_
                      dsimp only [List.set]
                      refine vv_iload d_LY_layTree_187 rfl ?_
                      refine vv_if_ne (tgt := 212) d_LY_layTree_189 (by decide) ⟨by omega, by omega⟩ (fun c189 => ?_) (fun c189 => ?_)
                      · exfalso; omega
                      · skip
                        refine vv_aload_n d_LY_layTree_192 rfl ?_
                        refine vv_iload d_LY_layTree_193 rfl ?_
                        refine vv_iload d_LY_layTree_195 rfl ?_
                        refine vv_iload d_LY_layTree_197 rfl ?_
                        refine vv_iload d_LY_layTree_199 rfl ?_
                        refine vv_iconst d_LY_layTree_201 ?_
                        refine vv_iload d_LY_layTree_202 rfl ?_
                        refine vv_iconst d_LY_layTree_204 ?_
                        refine vv_isub d_LY_layTree_205 ?_
                        refine vv_nV hw (wc := [ob_LY a qt qp qo way (ly_cut h st), ar_I qp cI 256 (ly_cut h st).2.2.2.1, ar_I qo cI 8 (ly_cut h st).2.2.2.2, ob_TB qt qs qc K W F, ar_I qc cI 2312 ch]) (wr := []) [] (c_LY_layTree_2_1 (cx_l X) (cx_D X) cI a qt qp qo qs qc way K W F (x + fr) y ((rd_choiceAt ch (pl_at 3 0 (w - fr) h)) - 8) h ch (ly_cut h st) hK hC hN (by unfold okp; omega)) lk_LY_55 d_LY_layTree_206 rfl (rc_at 0 rfl rfl rfl) [0, 1, 2, 3, 4] [] ⟨rfl, rfl⟩ ⟨rfl, rfl, by decide⟩ [0] rfl ⟨⟨by decide, by decide⟩, ⟨by decide, by decide⟩, Nat.le_of_ble_eq_true rfl⟩ ⟨rfl, rfl⟩ ?_
                        rintro v w1 p1 t1 ⟨rfl, rfl, rfl⟩
                        dsimp only [Option.toList, List.cons_append, List.nil_append, List.append_nil]
                        refine vv_goto (tgt := 229) d_LY_layTree_209 (by decide) ?_
                        refine vv_iload d_LY_layTree_229 rfl ?_
                        refine vv_iload d_LY_layTree_231 rfl ?_
                        refine vv_aload_n d_LY_layTree_233 rfl ?_
                        refine vv_get d_LY_layTree_234 0 rfl fl_LY_31 rfl ?_
                        refine vv_get d_LY_layTree_237 3 rfl fl_LY_72 rfl ?_
                        refine vv_iadd d_LY_layTree_240 ?_
                        refine vv_iadd d_LY_layTree_241 ?_
                        refine vv_istore d_LY_layTree_242 rfl (by decide) ?_
                        dsimp only [List.set]
                        refine vv_iinc d_LY_layTree_244 rfl rfl (by decide) ?_
                        dsimp only [List.set]
                        refine vv_goto (tgt := 32) d_LY_layTree_247 (by decide) ?_
                        exact vv_le (by repeat (first | exact lo_le_nil _ | refine lo_le_cons _ ?_ | refine lo_le_none _ ?_)) (ih (i + 1) _ _ (by omega) (by omega) (LN_lt _ _ _ _ _ _ _ hN) hlt)
                    · exfalso; omega
  show VV X (b_LY_layTree, 17, "SheetTrees$Layout", rm_5) _ 0 0 [(cI, .int)] [ob_LY a qt qp qo way st0, ar_I qp cI 256 st0.2.2.2.1, ar_I qo cI 8 st0.2.2.2.2, ob_TB qt qs qc K W F, ar_I qc cI 2312 ch] [] [some (.ref a), some (.int (iI x)), some (.int (iI y)), some (.int (iI w)), some (.int (iI h)), some (.int (iI 0)), some (.int (iI 3)), none, none, none, none, none, none, none, none, none, none] [] 0
  refine vv_iload d_LY_layTree_0 rfl ?_
  refine vv_if_ne (tgt := 9) d_LY_layTree_2 (by decide) ⟨by omega, by omega⟩ (fun c2 => ?_) (fun c2 => ?_)
  · exfalso; omega
  · skip
    refine vv_iload_n d_LY_layTree_5 rfl ?_
    refine vv_goto (tgt := 11) d_LY_layTree_6 (by decide) ?_
    refine vv_istore d_LY_layTree_11 rfl (by decide) ?_
    dsimp only [List.set]
    refine vv_iload d_LY_layTree_13 rfl ?_
    refine vv_if_ne (tgt := 23) d_LY_layTree_15 (by decide) ⟨by omega, by omega⟩ (fun c15 => ?_) (fun c15 => ?_)
    · exfalso; omega
    · skip
      refine vv_iload d_LY_layTree_18 rfl ?_
      refine vv_goto (tgt := 24) d_LY_layTree_20 (by decide) ?_
      refine vv_istore d_LY_layTree_24 rfl (by decide) ?_
      dsimp only [List.set]
      refine vv_iconst d_LY_layTree_26 ?_
      refine vv_istore d_LY_layTree_27 rfl (by decide) ?_
      dsimp only [List.set]
      refine vv_iconst d_LY_layTree_29 ?_
      refine vv_istore d_LY_layTree_30 rfl (by decide) ?_
      dsimp only [List.set]
      exact loop 16 0 0 st0 (by omega) (by omega) hN0 rfl
set_option maxHeartbeats 4000000 in
set_option maxRecDepth 100000 in
theorem c_LY_layTree_3_1 (l : Launch) (D : va_G) (cI : ClassId) (a qt qp qo qs qc : Nat) (way K W F x y w h : Int) (ch : Nat → Int) (st0 : ly_T) (hK : 0 ≤ K ∧ K ≤ 3) (hC : CI ch) (hN0 : LN st0) (hok : okp x y w h) : CM l y_LY_layTree b_LY_layTree 17 none rm_5 [.ref a, .int (iI x), .int (iI y), .int (iI w), .int (iI h), .int (iI 1), .int (iI 3)] D [(cI, .int)] ([ob_LY a qt qp qo way st0, ar_I qp cI 256 st0.2.2.2.1, ar_I qo cI 8 st0.2.2.2.2, ob_TB qt qs qc K W F, ar_I qc cI 2312 ch] ++ []) (fun r w1 p1 _ => r = none ∧ w1 = [ob_LY a qt qp qo way (lt ch K 3 true x y w h st0), ar_I qp cI 256 (lt ch K 3 true x y w h st0).2.2.2.1, ar_I qo cI 8 (lt ch K 3 true x y w h st0).2.2.2.2, ob_TB qt qs qc K W F, ar_I qc cI 2312 ch] ∧ p1 = []) := by
  refine cm_of (by decide) (Nat.le_of_ble_eq_true rfl) ?_
  intro X sz hl hr hnm hD hA hw
  subst hD
  unfold okp at hok
  have loop : ∀ (n i : Nat) (fr : Int) (st : ly_T), i + n = 16 → 0 ≤ fr ∧ fr ≤ 60 → LN st → lt1_go (lt ch K 2 false) ch K 3 x y w h n fr st = (lt ch K 3 true x y w h st0) → VV X (b_LY_layTree, 17, "SheetTrees$Layout", rm_5) (cq X ([ob_LY a qt qp qo way st0, ar_I qp cI 256 st0.2.2.2.1, ar_I qo cI 8 st0.2.2.2.2, ob_TB qt qs qc K W F, ar_I qc cI 2312 ch] ++ []) sz (fun r w1 p1 _ => r = none ∧ w1 = [ob_LY a qt qp qo way (lt ch K 3 true x y w h st0), ar_I qp cI 256 (lt ch K 3 true x y w h st0).2.2.2.1, ar_I qo cI 8 (lt ch K 3 true x y w h st0).2.2.2.2, ob_TB qt qs qc K W F, ar_I qc cI 2312 ch] ∧ p1 = []) rm_5) 0 0 [(cI, .int)] [ob_LY a qt qp qo way st, ar_I qp cI 256 st.2.2.2.1, ar_I qo cI 8 st.2.2.2.2, ob_TB qt qs qc K W F, ar_I qc cI 2312 ch] [] [some (.ref a), some (.int (iI x)), some (.int (iI y)), some (.int (iI w)), some (.int (iI h)), some (.int (iI 1)), some (.int (iI 3)), some (.int (iI h)), some (.int (iI w)), some (.int (iI fr)), some (.int (iI (i : Int))), none, none, none, none, none, none] [] 32 := by
    intro n
    induction n with
    | zero =>
      intro i fr st hi hfr hN hlt
      unfold lt1_go at hlt
      refine vv_iload d_LY_layTree_32 rfl ?_
      refine vv_bipush d_LY_layTree_34 (by decide +kernel) ?_
      refine vv_icmp_ge (tgt := 250) d_LY_layTree_36 (by decide) ⟨by omega, by omega⟩ (fun c36 => ?_) (fun c36 => ?_)
      · exact vv_vret hA hw hr d_LY_layTree_250 (by decide) (by decide) ⟨rfl, by rw [← hlt], rfl⟩
      · exfalso; omega
    | succ n ih =>
      intro i fr st hi hfr hN hlt
      unfold lt1_go at hlt
      refine vv_iload d_LY_layTree_32 rfl ?_
      refine vv_bipush d_LY_layTree_34 (by decide +kernel) ?_
      refine vv_icmp_ge (tgt := 250) d_LY_layTree_36 (by decide) ⟨by omega, by omega⟩ (fun c36 => ?_) (fun c36 => ?_)
      · exfalso; omega
      · skip
        refine vv_iload d_LY_layTree_39 rfl ?_
        refine vv_iload d_LY_layTree_41 rfl ?_
        refine vv_icmp_ge (tgt := 250) d_LY_layTree_43 (by decide) ⟨by omega, by omega⟩ (fun c43 => ?_) (fun c43 => ?_)
        · rw [if_neg (by omega)] at hlt; exact vv_vret hA hw hr d_LY_layTree_250 (by decide) (by decide) ⟨rfl, by rw [← hlt], rfl⟩
        · rw [if_pos (by omega)] at hlt
          have hch := hC 3 1 w (h - fr) (by omega) (by omega) (by omega) (by omega) (by omega) (by omega) (by omega) (by omega)
          rw [← rd_plc (ch := ch) (s := 3) (d := 1) (w := w) (h := (h - fr)) (by omega) (by omega) (by omega) (by omega)] at hch
          have hch2 : (rd_choiceAt ch (pl_at 3 1 w (h - fr))) ≤ 24 := by
            by_cases q : 8 < (rd_choiceAt ch (pl_at 3 1 w (h - fr)))
            · have q2 := (hch.2 q).2
              have q3 : (if (1 : Int) = 0 then w else (h - fr)) ≤ 16 := by split <;> omega
              omega
            · omega
          have hpl : -2147483648 ≤ pl_at 3 1 w (h - fr) ∧ pl_at 3 1 w (h - fr) < 2147483648 := by unfold pl_at; omega
          refine vv_iload d_LY_layTree_46 rfl ?_
          refine vv_if_ne (tgt := 58) d_LY_layTree_48 (by decide) ⟨by omega, by omega⟩ (fun c48 => ?_) (fun c48 => ?_)
          · skip
            refine vv_iload_n d_LY_layTree_58 rfl ?_
            refine vv_istore d_LY_layTree_59 rfl (by decide) ?_
            dsimp only [List.set]
            refine vv_iload d_LY_layTree_61 rfl ?_
            refine vv_if_ne (tgt := 70) d_LY_layTree_63 (by decide) ⟨by omega, by omega⟩ (fun c63 => ?_) (fun c63 => ?_)
            · skip
              refine vv_iload_n d_LY_layTree_70 rfl ?_
              refine vv_iload d_LY_layTree_71 rfl ?_
              refine vv_iadd d_LY_layTree_73 ?_
              refine vv_istore d_LY_layTree_74 rfl (by decide) ?_
              dsimp only [List.set]
              refine vv_iload d_LY_layTree_76 rfl ?_
              refine vv_if_ne (tgt := 89) d_LY_layTree_78 (by decide) ⟨by omega, by omega⟩ (fun c78 => ?_) (fun c78 => ?_)
              · skip
                refine vv_iload_n d_LY_layTree_89 rfl ?_
                refine vv_istore d_LY_layTree_90 rfl (by decide) ?_
                dsimp only [List.set]
                refine vv_iload d_LY_layTree_92 rfl ?_
                refine vv_if_ne (tgt := 102) d_LY_layTree_94 (by decide) ⟨by omega, by omega⟩ (fun c94 => ?_) (fun c94 => ?_)
                · skip
                  refine vv_iload d_LY_layTree_102 rfl ?_
                  refine vv_iload d_LY_layTree_104 rfl ?_
                  refine vv_isub d_LY_layTree_106 ?_
                  refine vv_istore d_LY_layTree_107 rfl (by decide) ?_
                  dsimp only [List.set]
                  refine vv_aload_n d_LY_layTree_109 rfl ?_
                  refine vv_get d_LY_layTree_110 0 rfl fl_LY_31 rfl ?_
                  refine vv_iload d_LY_layTree_113 rfl ?_
                  refine vv_iload d_LY_layTree_115 rfl ?_
                  refine vv_iload d_LY_layTree_117 rfl ?_
                  refine vv_iload d_LY_layTree_119 rfl ?_
                  refine vv_pV (wc := [ob_TB qt qs qc K W F, ar_I qc cI 2312 ch]) (plc := []) [] (c_TB_choiceOf (cx_l X) (cx_D X) cI qt qs qc K W F 3 1 w (h - fr) ch hpl) lk_LY_59 d_LY_layTree_121 rfl (rc_at 3 rfl rfl rfl) [3, 4] ⟨rfl, rfl, Or.inl rfl⟩ [0] rfl ⟨⟨by decide, by decide⟩, ⟨by decide, by decide⟩, Nat.le_of_ble_eq_true rfl⟩ ⟨rfl, rfl⟩ ?_
                  intro v hv
                  subst hv
                  dsimp only [Option.toList, List.cons_append, List.nil_append, List.append_nil]
                  refine vv_istore d_LY_layTree_124 rfl (by decide) ?_
                  dsimp only [List.set]
                  refine vv_iload d_LY_layTree_126 rfl ?_
                  refine vv_bipush d_LY_layTree_128 (by decide +kernel) ?_
                  refine vv_icmp_le (tgt := 139) d_LY_layTree_130 (by decide) ⟨by omega, by omega⟩ (fun c130 => ?_) (fun c130 => ?_)
                  · skip
                    refine vv_aload_n d_LY_layTree_139 rfl ?_
                    refine vv_iload d_LY_layTree_140 rfl ?_
                    refine vv_iload d_LY_layTree_142 rfl ?_
                    refine vv_iload d_LY_layTree_144 rfl ?_
                    refine vv_iload d_LY_layTree_146 rfl ?_
                    refine vv_iload d_LY_layTree_148 rfl ?_
                    refine vv_iload d_LY_layTree_150 rfl ?_
                    refine vv_pS (wc := []) (plc := []) [.int (iI (rd_choiceAt ch (pl_at 3 1 w (h - fr)))), .ref a] (c_PI_of (cx_l X) (cx_D X) (rd_choiceAt ch (pl_at 3 1 w (h - fr))) x (y + fr) w (h - fr) (by omega) (by omega) (by omega) (by omega) (by omega)) lk_LY_62 d_LY_layTree_152 rfl [] ⟨rfl, rfl, Or.inl rfl⟩ [] rfl ⟨⟨by decide, by decide⟩, ⟨by decide, by decide⟩, Nat.le_of_ble_eq_true rfl⟩ ⟨rfl, rfl⟩ ?_
                    intro v hv
                    subst hv
                    dsimp only [Option.toList, List.cons_append, List.nil_append, List.append_nil]
                    refine vv_nV hw (wc := [ob_LY a qt qp qo way st, ar_I qp cI 256 st.2.2.2.1, ar_I qo cI 8 st.2.2.2.2]) (wr := [ob_TB qt qs qc K W F, ar_I qc cI 2312 ch]) [] (c_LY_addPiece (cx_l X) (cx_D X) cI a qt qp qo way (rd_choiceAt ch (pl_at 3 1 w (h - fr))) (pk_z (rd_choiceAt ch (pl_at 3 1 w (h - fr))) x (y + fr) w (h - fr)) st hN (by omega)) lk_LY_68 d_LY_layTree_155 rfl (rc_at 0 rfl rfl rfl) [0, 1, 2] [3, 4] ⟨rfl, rfl⟩ ⟨rfl, rfl, by decide⟩ [0] rfl ⟨⟨by decide, by decide⟩, ⟨by decide, by decide⟩, Nat.le_of_ble_eq_true rfl⟩ ⟨rfl, rfl⟩ ?_
                    rintro v w1 p1 t1 ⟨rfl, rfl, rfl⟩
                    dsimp only [Option.toList, List.cons_append, List.nil_append, List.append_nil]
                    refine vv_sub (ws' := [ob_LY a qt qp qo way (ly_add (rd_choiceAt ch (pl_at 3 1 w (h - fr))) (pk_z (rd_choiceAt ch (pl_at 3 1 w (h - fr))) x (y + fr) w (h - fr)) st), ar_I qp cI 256 (ly_add (rd_choiceAt ch (pl_at 3 1 w (h - fr))) (pk_z (rd_choiceAt ch (pl_at 3 1 w (h - fr))) x (y + fr) w (h - fr)) st).2.2.2.1, ar_I qo cI 8 (ly_add (rd_choiceAt ch (pl_at 3 1 w (h - fr))) (pk_z (rd_choiceAt ch (pl_at 3 1 w (h - fr))) x (y + fr) w (h - fr)) st).2.2.2.2, ob_TB qt qs qc K W F, ar_I qc cI 2312 ch]) [2, 3, 4, 0, 1] rfl rfl ?_
                    rw [if_pos (Or.inl c130)] at hlt
                    exact vv_vret hA hw hr d_LY_layTree_158 (by decide) (by decide) ⟨rfl, by rw [← hlt], rfl⟩
                  · skip
                    refine vv_iload d_LY_layTree_133 rfl ?_
                    refine vv_iconst d_LY_layTree_135 ?_
                    refine vv_icmp_ge (tgt := 159) d_LY_layTree_136 (by decide) ⟨by omega, by omega⟩ (fun c136 => ?_) (fun c136 => ?_)
                    · rw [if_neg (by omega)] at hlt
                      have hch3 := hch.2 (by omega)
                      rw [if_neg (by decide)] at hch3
                      refine vv_iload d_LY_layTree_159 rfl ?_
                      refine vv_bipush d_LY_layTree_161 (by decide +kernel) ?_
                      refine vv_isub d_LY_layTree_163 ?_
                      refine vv_istore d_LY_layTree_164 rfl (by decide) ?_
                      dsimp only [List.set]
                      refine vv_aload_n d_LY_layTree_166 rfl ?_
                      refine vv_dup d_LY_layTree_167 rfl ?_
                      refine vv_get d_LY_layTree_168 0 rfl fl_LY_25 rfl ?_
                      refine vv_iconst d_LY_layTree_171 ?_
                      refine vv_iadd d_LY_layTree_172 ?_
                      refine vv_put hw d_LY_layTree_173 0 rfl fp_LY_25 rfl rfl (Nat.le_of_ble_eq_true rfl) ?_
                      dsimp only [List.set]
                      refine vv_aload_n d_LY_layTree_176 rfl ?_
                      refine vv_dup d_LY_layTree_177 rfl ?_
                      refine vv_get d_LY_layTree_178 0 rfl fl_LY_28 rfl ?_
                      refine vv_iload d_LY_layTree_181 rfl ?_
                      refine vv_iadd d_LY_layTree_183 ?_
                      refine vv_put hw d_LY_layTree_184 0 rfl fp_LY_28 rfl rfl (Nat.le_of_ble_eq_true rfl) ?_
                      dsimp only [List.set]
                      refine vv_iload d_LY_layTree_187 rfl ?_
                      refine vv_if_ne (tgt := 212) d_LY_layTree_189 (by decide) ⟨by omega, by omega⟩ (fun c189 => ?_) (fun c189 => ?_)
                      · skip
                        refine vv_aload_n d_LY_layTree_212 rfl ?_
                        refine vv_iload d_LY_layTree_213 rfl ?_
                        refine vv_iload d_LY_layTree_215 rfl ?_
                        refine vv_iload d_LY_layTree_217 rfl ?_
                        refine vv_iload d_LY_layTree_219 rfl ?_
                        refine vv_iconst d_LY_layTree_221 ?_
                        refine vv_iload d_LY_layTree_222 rfl ?_
                        refine vv_iconst d_LY_layTree_224 ?_
                        refine vv_isub d_LY_layTree_225 ?_
                        refine vv_nV hw (wc := [ob_LY a qt qp qo way (ly_cut w st), ar_I qp cI 256 (ly_cut w st).2.2.2.1, ar_I qo cI 8 (ly_cut w st).2.2.2.2, ob_TB qt qs qc K W F, ar_I qc cI 2312 ch]) (wr := []) [] (c_LY_layTree_2_0 (cx_l X) (cx_D X) cI a qt qp qo qs qc way K W F x (y + fr) w ((rd_choiceAt ch (pl_at 3 1 w (h - fr))) - 8) ch (ly_cut w st) hK hC hN (by unfold okp; omega)) lk_LY_55 d_LY_layTree_226 rfl (rc_at 0 rfl rfl rfl) [0, 1, 2, 3, 4] [] ⟨rfl, rfl⟩ ⟨rfl, rfl, by decide⟩ [0] rfl ⟨⟨by decide, by decide⟩, ⟨by decide, by decide⟩, Nat.le_of_ble_eq_true rfl⟩ ⟨rfl, rfl⟩ ?_
                        rintro v w1 p1 t1 ⟨rfl, rfl, rfl⟩
                        dsimp only [Option.toList, List.cons_append, List.nil_append, List.append_nil]
                        refine vv_iload d_LY_layTree_229 rfl ?_
                        refine vv_iload d_LY_layTree_231 rfl ?_
                        refine vv_aload_n d_LY_layTree_233 rfl ?_
                        refine vv_get d_LY_layTree_234 0 rfl fl_LY_31 rfl ?_
                        refine vv_get d_LY_layTree_237 3 rfl fl_LY_72 rfl ?_
                        refine vv_iadd d_LY_layTree_240 ?_
                        refine vv_iadd d_LY_layTree_241 ?_
                        refine vv_istore d_LY_layTree_242 rfl (by decide) ?_
                        dsimp only [List.set]
                        refine vv_iinc d_LY_layTree_244 rfl rfl (by decide) ?_
                        dsimp only [List.set]
                        refine vv_goto (tgt := 32) d_LY_layTree_247 (by decide) ?_
                        exact vv_le (by repeat (first | exact lo_le_nil _ | refine lo_le_cons _ ?_ | refine lo_le_none _ ?_)) (ih (i + 1) _ _ (by omega) (by omega) (LN_lt _ _ _ _ _ _ _ hN) hlt)
                      · exfalso; omega
                    · exfalso; omega
                · exfalso; omega
              · exfalso; omega
            · exfalso; omega
          · exfalso; omega
  show VV X (b_LY_layTree, 17, "SheetTrees$Layout", rm_5) _ 0 0 [(cI, .int)] [ob_LY a qt qp qo way st0, ar_I qp cI 256 st0.2.2.2.1, ar_I qo cI 8 st0.2.2.2.2, ob_TB qt qs qc K W F, ar_I qc cI 2312 ch] [] [some (.ref a), some (.int (iI x)), some (.int (iI y)), some (.int (iI w)), some (.int (iI h)), some (.int (iI 1)), some (.int (iI 3)), none, none, none, none, none, none, none, none, none, none] [] 0
  refine vv_iload d_LY_layTree_0 rfl ?_
  refine vv_if_ne (tgt := 9) d_LY_layTree_2 (by decide) ⟨by omega, by omega⟩ (fun c2 => ?_) (fun c2 => ?_)
  · skip
    refine vv_iload d_LY_layTree_9 rfl ?_
    refine vv_istore d_LY_layTree_11 rfl (by decide) ?_
    dsimp only [List.set]
    refine vv_iload d_LY_layTree_13 rfl ?_
    refine vv_if_ne (tgt := 23) d_LY_layTree_15 (by decide) ⟨by omega, by omega⟩ (fun c15 => ?_) (fun c15 => ?_)
    · skip
      refine vv_iload_n d_LY_layTree_23 rfl ?_
      refine vv_istore d_LY_layTree_24 rfl (by decide) ?_
      dsimp only [List.set]
      refine vv_iconst d_LY_layTree_26 ?_
      refine vv_istore d_LY_layTree_27 rfl (by decide) ?_
      dsimp only [List.set]
      refine vv_iconst d_LY_layTree_29 ?_
      refine vv_istore d_LY_layTree_30 rfl (by decide) ?_
      dsimp only [List.set]
      exact loop 16 0 0 st0 (by omega) (by omega) hN0 rfl
    · exfalso; omega
  · exfalso; omega
