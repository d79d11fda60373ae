/-! SheetTrees.bestSheet -/
/-- best, its area, its cents, the layout's way, the layout -/
abbrev bs_T : Type := Int × Int × Int × Int × ly_T
def sh_w (T : tp_T) (S : Nat) (r : pa_T) : Int := bz (lyw T.1 S r.1 r.2.1)
def sh_l (T : tp_T) (K : Int) (S : Nat) (r : pa_T) (st : ly_T) : ly_T := lay T K S r.1 r.2.1 st
def bs_step (T : tp_T) (K : Int) (S : Nat) (R : Nat → pa_T) (r : pa_T) (i : Nat) (b : bs_T) : bs_T :=
  if 0 < r.2.2.2.2 then (if b.2.1 * r.2.2.1 < at_sum (sh_l T K S r b.2.2.2.2).2.2.2.2 R 8 * b.2.2.1 then ((i : Int), at_sum (sh_l T K S r b.2.2.2.2).2.2.2.2 R 8, r.2.2.1, sh_w T S r, sh_l T K S r b.2.2.2.2) else (b.1, b.2.1, b.2.2.1, sh_w T S r, sh_l T K S r b.2.2.2.2)) else b
def bs_go (T : tp_T) (K : Int) (S : Nat) (R Sh : Nat → pa_T) (b : bs_T) : Nat → bs_T
  | 0 => b
  | n + 1 => bs_step T K S R (Sh n) n (bs_go T K S R Sh b n)
/-- a told sheet -/
def SO (r : pa_T) : Prop := (1 ≤ r.1 ∧ r.1 ≤ 16) ∧ (1 ≤ r.2.1 ∧ r.2.1 ≤ 16) ∧ (1 ≤ r.2.2.1 ∧ r.2.2.1 ≤ 10000) ∧ 0 ≤ r.2.2.2.2 ∧ r.2.2.2.2 ≤ 20
/-- a part: sides, turns, count and what is left -/
def PO (r : pa_T) : Prop := (0 ≤ r.1 ∧ r.1 ≤ 16) ∧ (0 ≤ r.2.1 ∧ r.2.1 ≤ 16) ∧ (0 ≤ r.2.2.2.1 ∧ r.2.2.2.1 ≤ 50) ∧ 0 ≤ r.2.2.2.2 ∧ r.2.2.2.2 ≤ 50
theorem PO_ar {r : pa_T} (h : PO r) : 0 ≤ r.1 * r.2.1 ∧ r.1 * r.2.1 ≤ 256 := by
  unfold PO at h
  exact area_le (by omega) (by omega) (by omega) (by omega)
theorem at_lay {m S : Nat} {K : Int} {T : tp_T} {R : Nat → pa_T} {r : pa_T} {st : ly_T} (hC : CX (ar_of R) m T.2) (hK : 0 ≤ K) (hS : S ≤ 3) (hr : SO r) (hR : ∀ p : Nat, p < 8 → PO (R p)) : LB (ar_of R) 256 (sh_l T K S r st) ∧ 0 ≤ at_sum (sh_l T K S r st).2.2.2.2 R 8 ∧ at_sum (sh_l T K S r st).2.2.2.2 R 8 ≤ 256 := by
  have h := LB_lay (st := st) hC hK hS hr.1 hr.2.1
  have h2 := at_bd (R := R) (co := (sh_l T K S r st).2.2.2.2) (fun p hp => (h.2.2.1 p hp).1) (fun p hp => (hR p hp).2.2.2.1) (fun p hp => (PO_ar (hR p hp)).1) 8 (by omega)
  have h3 := h.2.1
  refine ⟨h, h2.1, ?_⟩
  have h4 : wsum (sh_l T K S r st).2.2.2.2 (ar_of R) 8 ≤ 256 := h3
  omega
def BI (i : Int) (b : bs_T) : Prop := (-1 ≤ b.1 ∧ b.1 < i) ∧ (0 ≤ b.2.1 ∧ b.2.1 ≤ 256) ∧ (1 ≤ b.2.2.1 ∧ b.2.2.1 ≤ 10000)
theorem BI_step {m S : Nat} {K : Int} {T : tp_T} {R : Nat → pa_T} {r : pa_T} {i : Nat} {b : bs_T} (hC : CX (ar_of R) m T.2) (hK : 0 ≤ K) (hS : S ≤ 3) (hr : SO r) (hR : ∀ p : Nat, p < 8 → PO (R p)) (h : BI (i : Int) b) : BI ((i : Int) + 1) (bs_step T K S R r i b) := by
  have h1 := at_lay (st := b.2.2.2.2) hC hK hS hr hR
  have h2 := hr.2.2.1
  unfold BI at h
  unfold bs_step
  split
  · split
    · exact ⟨⟨by show -1 ≤ (i : Int); omega, by show (i : Int) < i + 1; omega⟩, h1.2, h2⟩
    · exact ⟨⟨h.1.1, by have := h.1.2; show b.1 < (i : Int) + 1; omega⟩, h.2.1, h.2.2⟩
  · exact ⟨⟨h.1.1, by have := h.1.2; omega⟩, h.2.1, h.2.2⟩
theorem BI_go {m S : Nat} {K : Int} {T : tp_T} {R Sh : Nat → pa_T} {way : Int} {st : ly_T} (hC : CX (ar_of R) m T.2) (hK : 0 ≤ K) (hS : S ≤ 3) (hR : ∀ p : Nat, p < 8 → PO (R p)) : ∀ n : Nat, (∀ i : Nat, i < n → SO (Sh i)) → BI (n : Int) (bs_go T K S R Sh (-1, 0, 1, way, st) n)
  | 0, _ => ⟨⟨by show (-1 : Int) ≤ -1; omega, by show (-1 : Int) < 0; omega⟩, ⟨by show (0 : Int) ≤ 0; omega, by show (0 : Int) ≤ 256; omega⟩, by show (1 : Int) ≤ 1; omega, by show (1 : Int) ≤ 10000; omega⟩
  | n + 1, h => BI_step hC hK hS (h n (by omega)) hR (BI_go hC hK hS hR n (fun i hi => h i (by omega)))
theorem mul_bd {a b : Int} (h1 : 0 ≤ a ∧ a ≤ 256) (h2 : 1 ≤ b ∧ b ≤ 10000) : 0 ≤ a * b ∧ a * b ≤ 2560000 := by
  have e1 := Int.mul_nonneg h1.1 (show 0 ≤ b by omega)
  have e2 := Int.mul_le_mul h1.2 h2.2 (by omega) (by omega)
  omega
set_option maxHeartbeats 4000000 in
set_option maxRecDepth 100000 in
theorem c_ST_bestSheet (l : Launch) (D : va_G) (x qsh qpa qcu qtk qrs qt ql qp qo qs qc nS S m : Nat) (le nP nC nT nR rn way K W F : Int) (T : tp_T) (st : ly_T) (cI cP cS : ClassId) (fS fP : Nat → Option Nat) (L : List Nat) (f : Nat → va_E) (aS aP aC : Nat → Nat) (Sh R : Nat → pa_T) (Cs : Nat → Nat → Int) (hnS : nS ≤ 4) (hS : S ≤ 3) (hK : 0 ≤ K ∧ K ≤ 3) (hT : TI T.1) (hC : CX (ar_of R) m T.2) (hfS : ∀ i : Nat, i < 4 → fS i = some (aS i)) (hfP : ∀ i : Nat, i < 8 → fP i = some (aP i)) (hPL : PL L f aS aP aC Sh R Cs) (hSO : ∀ i : Nat, i < nS → SO (Sh i)) (hPO : ∀ p : Nat, p < 8 → PO (R p)) : CM l y_ST_bestSheet b_ST_bestSheet 7 (some .int) rm_7 [.ref x] D [(cI, .int), (cP, .object "SheetTrees$Part"), (cS, .object "SheetTrees$Sheet")] ([ob_ST x qsh qpa qcu qtk qrs qt ql (S : Int) le (nS : Int) nP nC nT nR rn, ar_Q qsh cS 4 fS, ar_Q qpa cP 8 fP, ob_LY ql qt qp qo way st, ar_I qp cI 256 st.2.2.2.1, ar_I qo cI 8 st.2.2.2.2, ob_TB qt qs qc K W F, ar_I qs cI 2312 T.1, ar_I qc cI 2312 T.2] ++ va_pl L f) (fun v w1 p1 _ => v = some (.int (iI (bs_go T K S R Sh (-1, 0, 1, way, st) nS).1)) ∧ w1 = [ob_ST x qsh qpa qcu qtk qrs qt ql (S : Int) le (nS : Int) nP nC nT nR rn, ar_Q qsh cS 4 fS, ar_Q qpa cP 8 fP, ob_LY ql qt qp qo (bs_go T K S R Sh (-1, 0, 1, way, st) nS).2.2.2.1 (bs_go T K S R Sh (-1, 0, 1, way, st) nS).2.2.2.2, ar_I qp cI 256 (bs_go T K S R Sh (-1, 0, 1, way, st) nS).2.2.2.2.2.2.2.1, ar_I qo cI 8 (bs_go T K S R Sh (-1, 0, 1, way, st) nS).2.2.2.2.2.2.2.2, ob_TB qt qs qc K W F, ar_I qs cI 2312 T.1, ar_I qc cI 2312 T.2] ∧ p1 = va_pl L f) := by
  refine cm_of (by decide) (Nat.le_of_ble_eq_true rfl) ?_
  intro X sz hl hr hnm hD hA hw
  subst hD
  have loop : ∀ n i : Nat, i + n = nS → ∀ (b : bs_T) (v5 v6 : Option Value), bs_go T K S R Sh (-1, 0, 1, way, st) i = b → VV X (b_ST_bestSheet, 7, "SheetTrees", rm_7) (cq X ([ob_ST x qsh qpa qcu qtk qrs qt ql (S : Int) le (nS : Int) nP nC nT nR rn, ar_Q qsh cS 4 fS, ar_Q qpa cP 8 fP, ob_LY ql qt qp qo way st, ar_I qp cI 256 st.2.2.2.1, ar_I qo cI 8 st.2.2.2.2, ob_TB qt qs qc K W F, ar_I qs cI 2312 T.1, ar_I qc cI 2312 T.2] ++ va_pl L f) sz (fun v w1 p1 _ => v = some (.int (iI (bs_go T K S R Sh (-1, 0, 1, way, st) nS).1)) ∧ w1 = [ob_ST x qsh qpa qcu qtk qrs qt ql (S : Int) le (nS : Int) nP nC nT nR rn, ar_Q qsh cS 4 fS, ar_Q qpa cP 8 fP, ob_LY ql qt qp qo (bs_go T K S R Sh (-1, 0, 1, way, st) nS).2.2.2.1 (bs_go T K S R Sh (-1, 0, 1, way, st) nS).2.2.2.2, ar_I qp cI 256 (bs_go T K S R Sh (-1, 0, 1, way, st) nS).2.2.2.2.2.2.2.1, ar_I qo cI 8 (bs_go T K S R Sh (-1, 0, 1, way, st) nS).2.2.2.2.2.2.2.2, ob_TB qt qs qc K W F, ar_I qs cI 2312 T.1, ar_I qc cI 2312 T.2] ∧ p1 = va_pl L f) rm_7) 0 0 [(cI, .int), (cP, .object "SheetTrees$Part"), (cS, .object "SheetTrees$Sheet")] [ob_ST x qsh qpa qcu qtk qrs qt ql (S : Int) le (nS : Int) nP nC nT nR rn, ar_Q qsh cS 4 fS, ar_Q qpa cP 8 fP, ob_LY ql qt qp qo b.2.2.2.1 b.2.2.2.2, ar_I qp cI 256 b.2.2.2.2.2.2.2.1, ar_I qo cI 8 b.2.2.2.2.2.2.2.2, ob_TB qt qs qc K W F, ar_I qs cI 2312 T.1, ar_I qc cI 2312 T.2] (va_pl L f) [some (.ref x), some (.int (iI b.1)), some (.int (iI b.2.1)), some (.int (iI b.2.2.1)), some (.int (iI (i : Int))), v5, v6] [] 9 := by
    intro n
    induction n with
    | zero =>
      intro i hi b v5 v6 hb
      have hi2 : i = nS := by omega
      subst hi2
      refine vv_iload d_ST_bestSheet_9 rfl ?_
      refine vv_aload_n d_ST_bestSheet_11 rfl ?_
      refine vv_get d_ST_bestSheet_12 0 rfl fl_ST_34 rfl ?_
      refine vv_icmp_ge (tgt := 103) d_ST_bestSheet_15 (by decide) ⟨by omega, by omega⟩ (fun c15 => ?_) (fun c15 => ?_)
      · skip
        refine vv_iload_n d_ST_bestSheet_103 rfl ?_
        exact vv_iret hA hw hr d_ST_bestSheet_104 (by decide) (by decide) (by exact ⟨by rw [hb], by rw [hb], rfl⟩)
      · exfalso; omega
    | succ n ih =>
      intro i hi b v5 v6 hb
      have hi4 : i < 4 := by omega
      have hiS : i < nS := by omega
      obtain ⟨hin, hat⟩ := hPL.1 i hi4
      have hso := hSO i hiS
      have hbi := BI_go (way := way) (st := st) (Sh := Sh) hC hK.1 hS hPO i (fun j hj => hSO j (by omega))
      rw [hb] at hbi
      obtain ⟨hb1, hb2, hb3⟩ := hbi
      have hun := hso.2.2.2
      have hal := at_lay (st := b.2.2.2.2) hC hK.1 hS hso hPO
      have hm1 := mul_bd hal.2 hb3
      have hm2 := mul_bd hb2 hso.2.2.1
      have h9 := ih (i + 1) (by omega)
      have hgo : bs_go T K S R Sh (-1, 0, 1, way, st) (i + 1) = bs_step T K S R (Sh i) i b := by rw [← hb]; rfl
      refine vv_iload d_ST_bestSheet_9 rfl ?_
      refine vv_aload_n d_ST_bestSheet_11 rfl ?_
      refine vv_get d_ST_bestSheet_12 0 rfl fl_ST_34 rfl ?_
      refine vv_icmp_ge (tgt := 103) d_ST_bestSheet_15 (by decide) ⟨by omega, by omega⟩ (fun c15 => ?_) (fun c15 => ?_)
      · exfalso; omega
      · skip
        refine vv_iload d_ST_bestSheet_18 rfl ?_
        refine vv_aload_n d_ST_bestSheet_20 rfl ?_
        refine vv_get d_ST_bestSheet_21 0 rfl fl_ST_11 rfl ?_
        refine vv_alen d_ST_bestSheet_24 1 2 rfl rfl (v := 4) rfl ?_
        refine vv_icmp_ge (tgt := 103) d_ST_bestSheet_25 (by decide) ⟨by omega, by omega⟩ (fun c25 => ?_) (fun c25 => ?_)
        · exfalso; omega
        · skip
          refine vv_aload_n d_ST_bestSheet_28 rfl ?_
          refine vv_get d_ST_bestSheet_29 0 rfl fl_ST_11 rfl ?_
          refine vv_iload d_ST_bestSheet_32 rfl ?_
          refine vv_aald d_ST_bestSheet_34 1 2 rfl rfl (by omega) (show fS ((i : Int).toNat) = some (aS i) by rw [Int.toNat_natCast]; exact hfS i hi4) ?_
          refine vv_astore d_ST_bestSheet_35 rfl (by decide) ?_
          dsimp only [List.set]
          refine vv_aload d_ST_bestSheet_37 rfl ?_
          refine vv_getP d_ST_bestSheet_39 hin hat fl_ST_247 rfl ?_
          refine vv_if_le (tgt := 97) d_ST_bestSheet_42 (by decide) (by omega) (fun c42 => ?_) (fun c42 => ?_)
          · skip
            refine vv_iinc d_ST_bestSheet_97 rfl rfl (by decide) ?_
            dsimp only [List.set]
            refine vv_goto (tgt := 9) d_ST_bestSheet_100 (by decide) ?_
            have e1 : bs_step T K S R (Sh i) i b = b := by unfold bs_step; rw [if_neg (by omega)]
            rw [e1] at hgo
            exact h9 b _ _ hgo
          · skip
            refine vv_aload_n d_ST_bestSheet_45 rfl ?_
            refine vv_get d_ST_bestSheet_46 0 rfl fl_ST_78 rfl ?_
            refine vv_aload d_ST_bestSheet_49 rfl ?_
            refine vv_aload_n d_ST_bestSheet_51 rfl ?_
            refine vv_get d_ST_bestSheet_52 0 rfl fl_ST_58 rfl ?_
            refine vv_mV hw (wc := [ob_LY ql qt qp qo b.2.2.2.1 b.2.2.2.2, ar_I qp cI 256 b.2.2.2.2.2.2.2.1, ar_I qo cI 8 b.2.2.2.2.2.2.2.2, ob_TB qt qs qc K W F, ar_I qs cI 2312 T.1, ar_I qc cI 2312 T.2]) (wr := [ob_ST x qsh qpa qcu qtk qrs qt ql (S : Int) le (nS : Int) nP nC nT nR rn, ar_Q qsh cS 4 fS, ar_Q qpa cP 8 fP]) [] (c_LY_lay (cx_l X) (cx_D X) cI ql qt qp qo qs qc (aS i) b.2.2.2.1 K W F T b.2.2.2.2 L f (Sh i) S hS hK (CX_CI hC) hT hin hat hso.1 hso.2.1) lk_ST_250 d_ST_bestSheet_55 rfl (rc_at 3 rfl rfl rfl) [3, 4, 5, 6, 7, 8] [0, 1, 2] ⟨rfl, rfl⟩ ⟨rfl, rfl, by decide⟩ [0] rfl ⟨⟨by decide, by decide⟩, ⟨by decide, by decide⟩, Nat.le_of_ble_eq_true rfl⟩ ⟨rfl, rfl⟩ ?_
            rintro v w1 p1 t1 ⟨rfl, rfl, rfl⟩
            dsimp only [Option.toList, List.cons_append, List.nil_append, List.append_nil]
            refine vv_aload_n d_ST_bestSheet_58 rfl ?_
            refine vv_get d_ST_bestSheet_59 0 rfl fl_ST_78 rfl ?_
            refine vv_aload_n d_ST_bestSheet_62 rfl ?_
            refine vv_get d_ST_bestSheet_63 0 rfl fl_ST_17 rfl ?_
            refine vv_pV (wc := [ob_LY ql qt qp qo (sh_w T S (Sh i)) (sh_l T K S (Sh i) b.2.2.2.2), ar_I qo cI 8 (sh_l T K S (Sh i) b.2.2.2.2).2.2.2.2, ar_Q qpa cP 8 fP]) (plc := va_pl L f) [] (c_LY_areaToTake (cx_l X) (cx_D X) cI cP ql qt qp qo qpa (sh_w T S (Sh i)) (sh_l T K S (Sh i) b.2.2.2.2) fP L f aP R hfP hPL.2.1 (fun p hp => by have := hal.1.2.2.1 p hp; omega) (fun p hp => by have := (hPO p hp).2.2.2; omega)) lk_ST_254 d_ST_bestSheet_66 rfl (rc_at 3 rfl rfl rfl) [3, 5, 2] ⟨rfl, rfl, Or.inr rfl⟩ [0, 1] rfl ⟨⟨by decide, by decide⟩, ⟨by decide, by decide⟩, Nat.le_of_ble_eq_true rfl⟩ ⟨rfl, rfl⟩ ?_
            intro v hv
            subst hv
            dsimp only [Option.toList, List.cons_append, List.nil_append, List.append_nil]
            refine vv_istore d_ST_bestSheet_69 rfl (by decide) ?_
            dsimp only [List.set]
            refine vv_iload d_ST_bestSheet_71 rfl ?_
            refine vv_iload_n d_ST_bestSheet_73 rfl ?_
            refine vv_imul d_ST_bestSheet_74 ?_
            refine vv_iload_n d_ST_bestSheet_75 rfl ?_
            refine vv_aload d_ST_bestSheet_76 rfl ?_
            refine vv_getP d_ST_bestSheet_78 hin hat fl_ST_115 rfl ?_
            refine vv_imul d_ST_bestSheet_81 ?_
            refine vv_icmp_le (tgt := 97) d_ST_bestSheet_82 (by decide) ⟨by omega, by omega⟩ (fun c82 => ?_) (fun c82 => ?_)
            · skip
              refine vv_iinc d_ST_bestSheet_97 rfl rfl (by decide) ?_
              dsimp only [List.set]
              refine vv_goto (tgt := 9) d_ST_bestSheet_100 (by decide) ?_
              have e1 : bs_step T K S R (Sh i) i b = (b.1, b.2.1, b.2.2.1, (sh_w T S (Sh i)), (sh_l T K S (Sh i) b.2.2.2.2)) := by unfold bs_step; rw [if_pos (by omega), if_neg (by omega)]
              rw [e1] at hgo
              exact h9 (b.1, b.2.1, b.2.2.1, (sh_w T S (Sh i)), (sh_l T K S (Sh i) b.2.2.2.2)) _ _ hgo
            · skip
              refine vv_iload d_ST_bestSheet_85 rfl ?_
              refine vv_istore_n d_ST_bestSheet_87 rfl (by decide) ?_
              dsimp only [List.set]
              refine vv_iload d_ST_bestSheet_88 rfl ?_
              refine vv_istore_n d_ST_bestSheet_90 rfl (by decide) ?_
              dsimp only [List.set]
              refine vv_aload d_ST_bestSheet_91 rfl ?_
              refine vv_getP d_ST_bestSheet_93 hin hat fl_ST_115 rfl ?_
              refine vv_istore_n d_ST_bestSheet_96 rfl (by decide) ?_
              dsimp only [List.set]
              refine vv_iinc d_ST_bestSheet_97 rfl rfl (by decide) ?_
              dsimp only [List.set]
              refine vv_goto (tgt := 9) d_ST_bestSheet_100 (by decide) ?_
              have e1 : bs_step T K S R (Sh i) i b = ((i : Int), at_sum (sh_l T K S (Sh i) b.2.2.2.2).2.2.2.2 R 8, (Sh i).2.2.1, (sh_w T S (Sh i)), (sh_l T K S (Sh i) b.2.2.2.2)) := by unfold bs_step; rw [if_pos (by omega), if_pos (by omega)]
              rw [e1] at hgo
              exact h9 ((i : Int), at_sum (sh_l T K S (Sh i) b.2.2.2.2).2.2.2.2 R 8, (Sh i).2.2.1, (sh_w T S (Sh i)), (sh_l T K S (Sh i) b.2.2.2.2)) _ _ hgo
  show VV X (b_ST_bestSheet, 7, "SheetTrees", rm_7) _ 0 0 [(cI, .int), (cP, .object "SheetTrees$Part"), (cS, .object "SheetTrees$Sheet")] [ob_ST x qsh qpa qcu qtk qrs qt ql (S : Int) le (nS : Int) nP nC nT nR rn, ar_Q qsh cS 4 fS, ar_Q qpa cP 8 fP, ob_LY ql qt qp qo way st, ar_I qp cI 256 st.2.2.2.1, ar_I qo cI 8 st.2.2.2.2, ob_TB qt qs qc K W F, ar_I qs cI 2312 T.1, ar_I qc cI 2312 T.2] (va_pl L f) [some (.ref x), none, none, none, none, none, none] [] 0
  refine vv_iconst d_ST_bestSheet_0 ?_
  refine vv_istore_n d_ST_bestSheet_1 rfl (by decide) ?_
  dsimp only [List.set]
  refine vv_iconst d_ST_bestSheet_2 ?_
  refine vv_istore_n d_ST_bestSheet_3 rfl (by decide) ?_
  dsimp only [List.set]
  refine vv_iconst d_ST_bestSheet_4 ?_
  refine vv_istore_n d_ST_bestSheet_5 rfl (by decide) ?_
  dsimp only [List.set]
  refine vv_iconst d_ST_bestSheet_6 ?_
  refine vv_istore d_ST_bestSheet_7 rfl (by decide) ?_
  dsimp only [List.set]
  exact loop nS 0 (by omega) (-1, 0, 1, way, st) _ _ rfl
