/-! Tables: fillWithoutCuts, fill. The parts stand in a pool. -/
abbrev rm_3 : Room := { frames := 3, cells := 0, slots := 0, locals := 192 }
abbrev rm_4 : Room := { frames := 4, cells := 0, slots := 0, locals := 256 }
theorem sl_31 : ∀ p, p < 32 → ((nI p &&& 31).toBitVec.smod 32).toNat = p := by decide +kernel
theorem ia_shr {m p : Nat} (hm : m < 2147483648) (hp : p < 32) : iI (m : Int) >>> (iI (p : Int) &&& 31) = iI ((m / 2 ^ p : Nat) : Int) := by
  rw [iI_nat, iI_nat, iI_nat]
  exact pk_shrN (by omega) _ p (sl_31 p hp)
theorem ia_and1 {m : Nat} (hm : m < 2147483648) : iI (m : Int) &&& iI 1 = iI ((m % 2 : Nat) : Int) := by
  rw [iI_nat, iI_nat]
  exact pk_andN (by omega) 1 (by decide +kernel)
abbrev ar_Q (q : Nat) (cA : ClassId) (N : Nat) (f : Nat → Option Nat) : Nat × va_E := (q, .inl (cA, N, .inr (.inr (.inr (.inr f)))))
/-- a Part: width, height, turns, count, left -/
abbrev pa_T : Type := Int × Int × Int × Int × Int
abbrev ob_PA (r : pa_T) : va_E := .inr (2, [.int (iI r.1), .int (iI r.2.1), .int (iI r.2.2.1), .int (iI r.2.2.2.1), .int (iI r.2.2.2.2)])
def PP (L : List Nat) (f : Nat → va_E) (aP : Nat → Nat) (R : Nat → pa_T) : Prop := ∀ p : Nat, p < 8 → aP p ∈ L ∧ f (aP p) = ob_PA (R p)
def bit (m p : Nat) : Prop := m / 2 ^ p % 2 = 1

def pp_up (p w h : Int) (T : tp_T) : tp_T := (va_up (va_up T.1 (pl_at 0 0 w h).toNat (w * h * 1024)) (pl_at 0 1 w h).toNat (w * h * 1024), va_up (va_up T.2 (pl_at 0 0 w h).toNat p) (pl_at 0 1 w h).toNat p)
def wc_at (R : Nat → pa_T) (m p : Nat) (T : tp_T) : tp_T :=
  if m / 2 ^ p % 2 = 1 then (if (R p).2.2.1 = 0 then pp_up p (R p).1 (R p).2.1 T else pp_up p (R p).2.1 (R p).1 (pp_up p (R p).1 (R p).2.1 T)) else T
def wc_0 (T : tp_T) : tp_T := (fun j => if j < 2312 then 0 else T.1 j, fun j => if j < 2312 then 8 else T.2 j)
/-- after the parts 7, 6 .. (k of them) -/
def wc_dn (R : Nat → pa_T) (m : Nat) (T : tp_T) : Nat → tp_T
  | 0 => wc_0 T
  | k + 1 => wc_at R m (7 - k) (wc_dn R m T k)
/-- a wanted part has sides 1 .. 16; turns are 0, 1 -/
def PW (R : Nat → pa_T) (m : Nat) : Prop := ∀ p : Nat, p < 8 → m / 2 ^ p % 2 = 1 → (1 ≤ (R p).1 ∧ (R p).1 ≤ 16) ∧ (1 ≤ (R p).2.1 ∧ (R p).2.1 ≤ 16)
def PZ (R : Nat → pa_T) : Prop := ∀ p : Nat, p < 8 → (R p).2.2.1 = 0 ∨ (R p).2.2.1 = 1
set_option maxHeartbeats 4000000 in
set_option maxRecDepth 100000 in
theorem c_TB_fillWithoutCuts (l : Launch) (D : va_G) (cI cP : ClassId) (a qs qc qp m : Nat) (K F : Int) (T : tp_T) (fP : Nat → Option Nat) (L : List Nat) (f : Nat → va_E) (aP : Nat → Nat) (R : Nat → pa_T) (hm : m < 256) (hfP : ∀ p : Nat, p < 8 → fP p = some (aP p)) (hPP : PP L f aP R) (hPW : PW R m) (hPZ : PZ R) : CM l y_TB_fillWithoutCuts b_TB_fillWithoutCuts 3 none rm_2 [.ref a, .ref qp] D [(cI, .int), (cP, .object "SheetTrees$Part")] ([ob_TB a qs qc K (m : Int) F, ar_I qs cI 2312 T.1, ar_I qc cI 2312 T.2, ar_Q qp cP 8 fP] ++ va_pl L f) (fun r w1 p1 _ => r = none ∧ w1 = [ob_TB a qs qc K (m : Int) F, ar_I qs cI 2312 (wc_dn R m T 8).1, ar_I qc cI 2312 (wc_dn R m T 8).2, ar_Q qp cP 8 fP] ∧ p1 = va_pl L f) := by
  refine cm_of (by decide) (Nat.le_of_ble_eq_true rfl) ?_
  intro X sz hl hr hnm hD hA hw
  subst hD
  have loop : ∀ i k : Nat, k + i = 8 → VV X (b_TB_fillWithoutCuts, 3, "SheetTrees$Tables", rm_2) (cq X ([ob_TB a qs qc K (m : Int) F, ar_I qs cI 2312 T.1, ar_I qc cI 2312 T.2, ar_Q qp cP 8 fP] ++ va_pl L f) sz (fun r w1 p1 _ => r = none ∧ w1 = [ob_TB a qs qc K (m : Int) F, ar_I qs cI 2312 (wc_dn R m T 8).1, ar_I qc cI 2312 (wc_dn R m T 8).2, ar_Q qp cP 8 fP] ∧ p1 = va_pl L f) rm_2) 0 0 [(cI, .int), (cP, .object "SheetTrees$Part")] [ob_TB a qs qc K (m : Int) F, ar_I qs cI 2312 (wc_dn R m T k).1, ar_I qc cI 2312 (wc_dn R m T k).2, ar_Q qp cP 8 fP] (va_pl L f) [some (.ref a), some (.ref qp), some (.int (iI (7 - (k : Int))))] [] 22 := by
    intro i
    induction i with
    | zero =>
      intro k hk
      have hk2 : k = 8 := by omega
      subst hk2
      refine vv_iload_n d_TB_fillWithoutCuts_22 rfl ?_
      refine vv_if_lt (tgt := 87) d_TB_fillWithoutCuts_23 (by decide) ⟨by omega, by omega⟩ (fun c23 => ?_) (fun c23 => ?_)
      · skip
        exact vv_vret hA hw hr d_TB_fillWithoutCuts_87 (by decide) (by decide) (by exact ⟨rfl, rfl, rfl⟩)
      · exfalso; omega
    | succ i ih =>
      intro k hk
      obtain ⟨p, hp, hpk⟩ : ∃ p : Nat, (7 : Int) - k = p ∧ 7 - k = p := ⟨7 - k, by omega, rfl⟩
      have hp8 : p < 8 := by omega
      obtain ⟨hin, hat⟩ := hPP p hp8
      have hmp : m / 2 ^ p ≤ m := Nat.div_le_self _ _
      have hmp2 : m / 2 ^ p % 2 < 2 := Nat.mod_lt _ (by decide)
      have h9 := ih (k + 1) (by omega)
      rw [show (7 : Int) - ((k + 1 : Nat) : Int) = (p : Int) + -1 by omega] at h9
      rw [hp]
      generalize hTk : wc_dn R m T k = Tk
      refine vv_iload_n d_TB_fillWithoutCuts_22 rfl ?_
      refine vv_if_lt (tgt := 87) d_TB_fillWithoutCuts_23 (by decide) ⟨by omega, by omega⟩ (fun c23 => ?_) (fun c23 => ?_)
      · exfalso; omega
      · skip
        refine vv_aload_n d_TB_fillWithoutCuts_26 rfl ?_
        refine vv_get d_TB_fillWithoutCuts_27 0 rfl fl_TB_18 rfl ?_
        refine vv_iload_n d_TB_fillWithoutCuts_30 rfl ?_
        refine vv_ishr d_TB_fillWithoutCuts_31 (ia_shr (by omega) (by omega)) ?_
        refine vv_iconst d_TB_fillWithoutCuts_32 ?_
        refine vv_iand d_TB_fillWithoutCuts_33 (ia_and1 (by omega)) ?_
        refine vv_iconst d_TB_fillWithoutCuts_34 ?_
        refine vv_icmp_ne (tgt := 81) d_TB_fillWithoutCuts_35 (by decide) ⟨by omega, by omega⟩ (fun c35 => ?_) (fun c35 => ?_)
        · skip
          refine vv_iinc d_TB_fillWithoutCuts_81 rfl rfl (by decide) ?_
          dsimp only [List.set]
          refine vv_goto (tgt := 22) d_TB_fillWithoutCuts_84 (by decide) ?_
          have e1 : wc_dn R m T (k + 1) = Tk := by
            show wc_at R m (7 - k) (wc_dn R m T k) = _
            rw [hTk, hpk]
            unfold wc_at; rw [if_neg (by omega)]
          rw [e1] at h9
          exact h9
        · skip
          refine vv_aload_n d_TB_fillWithoutCuts_38 rfl ?_
          refine vv_iload_n d_TB_fillWithoutCuts_39 rfl ?_
          refine vv_aload_n d_TB_fillWithoutCuts_40 rfl ?_
          refine vv_iload_n d_TB_fillWithoutCuts_41 rfl ?_
          refine vv_aald d_TB_fillWithoutCuts_42 3 1 rfl rfl (by omega) (show fP ((p : Int).toNat) = some (aP p) by rw [Int.toNat_natCast]; exact hfP p hp8) ?_
          refine vv_getP d_TB_fillWithoutCuts_43 hin hat fl_TB_56 rfl ?_
          refine vv_aload_n d_TB_fillWithoutCuts_46 rfl ?_
          refine vv_iload_n d_TB_fillWithoutCuts_47 rfl ?_
          refine vv_aald d_TB_fillWithoutCuts_48 3 1 rfl rfl (by omega) (show fP ((p : Int).toNat) = some (aP p) by rw [Int.toNat_natCast]; exact hfP p hp8) ?_
          refine vv_getP d_TB_fillWithoutCuts_49 hin hat fl_TB_61 rfl ?_
          refine vv_nV hw (wc := [ob_TB a qs qc K (m : Int) F, ar_I qs cI 2312 Tk.1, ar_I qc cI 2312 Tk.2]) (wr := [ar_Q qp cP 8 fP]) [] (c_TB_putPart (cx_l X) (cx_D X) cI a qs qc K (m : Int) F p (R p).1 (R p).2.1 Tk.1 Tk.2 (by have := hPW p hp8 (by omega); omega) (by have := hPW p hp8 (by omega); omega)) lk_TB_64 d_TB_fillWithoutCuts_52 rfl (rc_at 0 rfl rfl rfl) [0, 1, 2] [3] ⟨rfl, rfl⟩ ⟨rfl, rfl, by decide⟩ [0] rfl ⟨⟨by decide, by decide⟩, ⟨by decide, by decide⟩, Nat.le_of_ble_eq_true rfl⟩ ⟨rfl, rfl⟩ ?_
          rintro v w1 p1 t1 ⟨rfl, rfl, rfl⟩
          dsimp only [Option.toList, List.cons_append, List.nil_append, List.append_nil]
          refine vv_sub (ws' := [ob_TB a qs qc K (m : Int) F, ar_I qs cI 2312 (pp_up p (R p).1 (R p).2.1 Tk).1, ar_I qc cI 2312 (pp_up p (R p).1 (R p).2.1 Tk).2, ar_Q qp cP 8 fP]) [1, 2, 3, 0] rfl rfl ?_
          refine vv_aload_n d_TB_fillWithoutCuts_55 rfl ?_
          refine vv_iload_n d_TB_fillWithoutCuts_56 rfl ?_
          refine vv_aald d_TB_fillWithoutCuts_57 3 1 rfl rfl (by omega) (show fP ((p : Int).toNat) = some (aP p) by rw [Int.toNat_natCast]; exact hfP p hp8) ?_
          refine vv_getP d_TB_fillWithoutCuts_58 hin hat fl_TB_68 rfl ?_
          refine vv_if_eq (tgt := 81) d_TB_fillWithoutCuts_61 (by decide) (by have := hPZ p hp8; omega) (fun c61 => ?_) (fun c61 => ?_)
          · skip
            refine vv_iinc d_TB_fillWithoutCuts_81 rfl rfl (by decide) ?_
            dsimp only [List.set]
            refine vv_goto (tgt := 22) d_TB_fillWithoutCuts_84 (by decide) ?_
            have e1 : wc_dn R m T (k + 1) = pp_up p (R p).1 (R p).2.1 Tk := by
              show wc_at R m (7 - k) (wc_dn R m T k) = _
              rw [hTk, hpk]
              unfold wc_at; rw [if_pos (by omega), if_pos c61]
            rw [e1] at h9
            exact h9
          · skip
            refine vv_aload_n d_TB_fillWithoutCuts_64 rfl ?_
            refine vv_iload_n d_TB_fillWithoutCuts_65 rfl ?_
            refine vv_aload_n d_TB_fillWithoutCuts_66 rfl ?_
            refine vv_iload_n d_TB_fillWithoutCuts_67 rfl ?_
            refine vv_aald d_TB_fillWithoutCuts_68 3 1 rfl rfl (by omega) (show fP ((p : Int).toNat) = some (aP p) by rw [Int.toNat_natCast]; exact hfP p hp8) ?_
            refine vv_getP d_TB_fillWithoutCuts_69 hin hat fl_TB_61 rfl ?_
            refine vv_aload_n d_TB_fillWithoutCuts_72 rfl ?_
            refine vv_iload_n d_TB_fillWithoutCuts_73 rfl ?_
            refine vv_aald d_TB_fillWithoutCuts_74 3 1 rfl rfl (by omega) (show fP ((p : Int).toNat) = some (aP p) by rw [Int.toNat_natCast]; exact hfP p hp8) ?_
            refine vv_getP d_TB_fillWithoutCuts_75 hin hat fl_TB_56 rfl ?_
            refine vv_nV hw (wc := [ob_TB a qs qc K (m : Int) F, ar_I qs cI 2312 (pp_up p (R p).1 (R p).2.1 Tk).1, ar_I qc cI 2312 (pp_up p (R p).1 (R p).2.1 Tk).2]) (wr := [ar_Q qp cP 8 fP]) [] (c_TB_putPart (cx_l X) (cx_D X) cI a qs qc K (m : Int) F p (R p).2.1 (R p).1 (pp_up p (R p).1 (R p).2.1 Tk).1 (pp_up p (R p).1 (R p).2.1 Tk).2 (by have := hPW p hp8 (by omega); omega) (by have := hPW p hp8 (by omega); omega)) lk_TB_64 d_TB_fillWithoutCuts_78 rfl (rc_at 0 rfl rfl rfl) [0, 1, 2] [3] ⟨rfl, rfl⟩ ⟨rfl, rfl, by decide⟩ [0] rfl ⟨⟨by decide, by decide⟩, ⟨by decide, by decide⟩, Nat.le_of_ble_eq_true rfl⟩ ⟨rfl, rfl⟩ ?_
            rintro v w1 p1 t1 ⟨rfl, rfl, rfl⟩
            dsimp only [Option.toList, List.cons_append, List.nil_append, List.append_nil]
            refine vv_sub (ws' := [ob_TB a qs qc K (m : Int) F, ar_I qs cI 2312 (pp_up p (R p).2.1 (R p).1 (pp_up p (R p).1 (R p).2.1 Tk)).1, ar_I qc cI 2312 (pp_up p (R p).2.1 (R p).1 (pp_up p (R p).1 (R p).2.1 Tk)).2, ar_Q qp cP 8 fP]) [1, 2, 3, 0] rfl rfl ?_
            refine vv_iinc d_TB_fillWithoutCuts_81 rfl rfl (by decide) ?_
            dsimp only [List.set]
            refine vv_goto (tgt := 22) d_TB_fillWithoutCuts_84 (by decide) ?_
            have e1 : wc_dn R m T (k + 1) = pp_up p (R p).2.1 (R p).1 (pp_up p (R p).1 (R p).2.1 Tk) := by
              show wc_at R m (7 - k) (wc_dn R m T k) = _
              rw [hTk, hpk]
              unfold wc_at; rw [if_pos (by omega), if_neg c61]
            rw [e1] at h9
            exact h9
  show VV X (b_TB_fillWithoutCuts, 3, "SheetTrees$Tables", rm_2) _ 0 0 [(cI, .int), (cP, .object "SheetTrees$Part")] [ob_TB a qs qc K (m : Int) F, ar_I qs cI 2312 T.1, ar_I qc cI 2312 T.2, ar_Q qp cP 8 fP] (va_pl L f) [some (.ref a), some (.ref qp), none] [] 0
  refine vv_aload_n d_TB_fillWithoutCuts_0 rfl ?_
  refine vv_get d_TB_fillWithoutCuts_1 0 rfl fl_TB_11 rfl ?_
  refine vv_iconst d_TB_fillWithoutCuts_4 ?_
  refine vv_nS hw (wc := [ar_I qs cI 2312 T.1]) (wr := [ob_TB a qs qc K (m : Int) F, ar_I qc cI 2312 T.2, ar_Q qp cP 8 fP]) [] (c_AR_fill (cx_l X) (cx_D X) cI qs 2312 0 T.1 (by decide)) lk_TB_50 d_TB_fillWithoutCuts_5 rfl [1] [0, 2, 3] ⟨rfl, rfl⟩ ⟨rfl, rfl, by decide⟩ [0] rfl ⟨⟨by decide, by decide⟩, ⟨by decide, by decide⟩, Nat.le_of_ble_eq_true rfl⟩ ⟨rfl, rfl⟩ ?_
  rintro v w1 p1 t1 ⟨rfl, rfl, rfl⟩
  dsimp only [Option.toList, List.cons_append, List.nil_append, List.append_nil]
  refine vv_sub (ws' := [ob_TB a qs qc K (m : Int) F, ar_I qs cI 2312 ((wc_0 T).1, T.2).1, ar_I qc cI 2312 ((wc_0 T).1, T.2).2, ar_Q qp cP 8 fP]) [0, 3, 1, 2] rfl rfl ?_
  refine vv_aload_n d_TB_fillWithoutCuts_8 rfl ?_
  refine vv_get d_TB_fillWithoutCuts_9 0 rfl fl_TB_15 rfl ?_
  refine vv_bipush d_TB_fillWithoutCuts_12 (by decide +kernel) ?_
  refine vv_nS hw (wc := [ar_I qc cI 2312 T.2]) (wr := [ob_TB a qs qc K (m : Int) F, ar_I qs cI 2312 (wc_0 T).1, ar_Q qp cP 8 fP]) [] (c_AR_fill (cx_l X) (cx_D X) cI qc 2312 8 T.2 (by decide)) lk_TB_50 d_TB_fillWithoutCuts_14 rfl [2] [0, 1, 3] ⟨rfl, rfl⟩ ⟨rfl, rfl, by decide⟩ [0] rfl ⟨⟨by decide, by decide⟩, ⟨by decide, by decide⟩, Nat.le_of_ble_eq_true rfl⟩ ⟨rfl, rfl⟩ ?_
  rintro v w1 p1 t1 ⟨rfl, rfl, rfl⟩
  dsimp only [Option.toList, List.cons_append, List.nil_append, List.append_nil]
  refine vv_sub (ws' := [ob_TB a qs qc K (m : Int) F, ar_I qs cI 2312 (wc_0 T).1, ar_I qc cI 2312 (wc_0 T).2, ar_Q qp cP 8 fP]) [0, 1, 3, 2] rfl rfl ?_
  refine vv_aload_n d_TB_fillWithoutCuts_17 rfl ?_
  refine vv_alen d_TB_fillWithoutCuts_18 3 1 rfl rfl (v := 8) rfl ?_
  refine vv_iconst d_TB_fillWithoutCuts_19 ?_
  refine vv_isub d_TB_fillWithoutCuts_20 ?_
  refine vv_istore_n d_TB_fillWithoutCuts_21 rfl (by decide) ?_
  dsimp only [List.set]
  exact loop 8 0 (by omega)
