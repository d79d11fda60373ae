/-! Tables: scores stay under the area; a whole stage -/
abbrev tp_T : Type := (Nat → Int) × (Nat → Int)
def TI (sc : Nat → Int) : Prop := ∀ s d w h : Int, 0 ≤ s → s ≤ 3 → 0 ≤ d → d ≤ 1 → 0 ≤ w → w ≤ 16 → 0 ≤ h → h ≤ 16 → 0 ≤ sc (pl_at s d w h).toNat ∧ sc (pl_at s d w h).toNat ≤ w * h * 1024
theorem pl_inv {z : Int} (h0 : 0 ≤ z) (h1 : z < 2312) : ∃ s d w h : Int, (0 ≤ s ∧ s ≤ 3) ∧ (0 ≤ d ∧ d ≤ 1) ∧ (0 ≤ w ∧ w ≤ 16) ∧ (0 ≤ h ∧ h ≤ 16) ∧ z = pl_at s d w h := by
  refine ⟨z / 289 / 2, z / 289 % 2, z % 289 / 17, z % 17, ?_, ?_, ?_, ?_, ?_⟩ <;> (try unfold pl_at) <;> omega
theorem area_le {w h : Int} (w0 : 0 ≤ w) (w1 : w ≤ 16) (h0 : 0 ≤ h) (h1 : h ≤ 16) : 0 ≤ w * h ∧ w * h ≤ 256 := by
  have a := Int.mul_nonneg w0 h0
  have b := Int.mul_le_mul w1 h1 h0 (by omega)
  omega
theorem TI_bd {sc : Nat → Int} (hT : TI sc) : sc_bd sc := by
  intro z
  unfold rd_scoreAt
  split
  · rename_i hz
    obtain ⟨s, d, w, h, hs, hd, hw, hh, rfl⟩ := pl_inv hz.1 hz.2
    have h1 := hT s d w h hs.1 hs.2 hd.1 hd.2 hw.1 hw.2 hh.1 hh.2
    have h2 := area_le hw.1 hw.2 hh.1 hh.2
    omega
  · omega
theorem rd_pl {sc : Nat → Int} {s d w h : Int} (hs : 0 ≤ s ∧ s ≤ 3) (hd : 0 ≤ d ∧ d ≤ 1) (hw : 0 ≤ w ∧ w ≤ 16) (hh : 0 ≤ h ∧ h ≤ 16) : rd_scoreAt sc (pl_at s d w h) = sc (pl_at s d w h).toNat := by
  unfold rd_scoreAt
  rw [if_pos]
  unfold pl_at
  omega
theorem rd_plc {ch : Nat → Int} {s d w h : Int} (hs : 0 ≤ s ∧ s ≤ 3) (hd : 0 ≤ d ∧ d ≤ 1) (hw : 0 ≤ w ∧ w ≤ 16) (hh : 0 ≤ h ∧ h ≤ 16) : rd_choiceAt ch (pl_at s d w h) = ch (pl_at s d w h).toNat := by
  unfold rd_choiceAt
  rw [if_pos]
  unfold pl_at
  omega
theorem pl_ne {s d w h s' d' w' h' : Int} (hs : 0 ≤ s ∧ s ≤ 3) (hd : 0 ≤ d ∧ d ≤ 1) (hw : 0 ≤ w ∧ w ≤ 16) (hh : 0 ≤ h ∧ h ≤ 16) (hs' : 0 ≤ s' ∧ s' ≤ 3) (hd' : 0 ≤ d' ∧ d' ≤ 1) (hw' : 0 ≤ w' ∧ w' ≤ 16) (hh' : 0 ≤ h' ∧ h' ≤ 16) (e : (pl_at s d w h).toNat = (pl_at s' d' w' h').toNat) : s = s' ∧ d = d' ∧ w = w' ∧ h = h' := by
  unfold pl_at at e
  omega
theorem TI_up {sc : Nat → Int} {s d w h v : Int} (hT : TI sc) (hs : 0 ≤ s ∧ s ≤ 3) (hd : 0 ≤ d ∧ d ≤ 1) (hw : 0 ≤ w ∧ w ≤ 16) (hh : 0 ≤ h ∧ h ≤ 16) (hv : 0 ≤ v ∧ v ≤ w * h * 1024) : TI (va_up sc (pl_at s d w h).toNat v) := by
  intro s' d' w' h' a1 a2 a3 a4 a5 a6 a7 a8
  by_cases e : (pl_at s' d' w' h').toNat = (pl_at s d w h).toNat
  · obtain ⟨e1, e2, e3, e4⟩ := pl_ne ⟨a1, a2⟩ ⟨a3, a4⟩ ⟨a5, a6⟩ ⟨a7, a8⟩ hs hd hw hh e
    subst e1; subst e2; subst e3; subst e4
    rw [va_up_self]
    exact hv
  · rw [va_up_ne _ _ e]
    exact hT s' d' w' h' a1 a2 a3 a4 a5 a6 a7 a8
theorem cz_le {sc : Nat → Int} {K fb sb st L B : Int} {p0 : Int × Int} (h0 : 0 ≤ p0.1 ∧ p0.1 ≤ B) : ∀ n : Nat, (∀ c : Nat, c < n → cz_v sc K fb sb st L ((c : Int) + 1) ≤ B) → 0 ≤ (cz sc K fb sb st L p0 n).1 ∧ (cz sc K fb sb st L p0 n).1 ≤ B
  | 0, _ => by unfold cz; exact h0
  | n + 1, hc => by
    have ih := cz_le (K := K) (fb := fb) (sb := sb) (st := st) (L := L) h0 n (fun c h => hc c (by omega))
    have h1 := hc n (by omega)
    unfold cz
    split
    · rename_i h3
      exact ⟨by show 0 ≤ cz_v _ _ _ _ _ _ _; omega, h1⟩
    · exact ih
theorem split_le {a b x : Int} (hb : 0 ≤ b) (h1 : 0 ≤ a) (hx : a ≤ x) : a * b * 1024 + (x - a) * b * 1024 = x * b * 1024 := by
  have e : a * b + (x - a) * b = x * b := by rw [← Int.add_mul]; congr 1; omega
  omega
theorem mono_le {a b x : Int} (hb : 0 ≤ b) (hx : a ≤ x) : a * b ≤ x * b := Int.mul_le_mul_of_nonneg_right hx hb
theorem ch_le0 {sc ch : Nat → Int} {K s w h : Int} (hT : TI sc) (hK : 0 ≤ K) (hs : 1 ≤ s ∧ s ≤ 3) (hw : 1 ≤ w ∧ w ≤ 16) (hh : 1 ≤ h ∧ h ≤ 16) : 0 ≤ (ch_res sc ch K s 0 w h).1 ∧ (ch_res sc ch K s 0 w h).1 ≤ w * h * 1024 := by
  unfold ch_res
  rw [if_pos rfl]
  refine cz_le ?_ _ (fun c hc => ?_)
  · show 0 ≤ rd_scoreAt _ _ ∧ rd_scoreAt _ _ ≤ _
    rw [rd_pl (by omega) (by omega) (by omega) (by omega)]
    exact hT 0 0 w h (by omega) (by omega) (by omega) (by omega) (by omega) (by omega) (by omega) (by omega)
  · unfold cz_v
    generalize hr : max 0 (w - ((c : Int) + 1) - K) = r
    have hr2 : 0 ≤ r ∧ r ≤ w - ((c : Int) + 1) := by omega
    rw [show pl_at (s - 1) (1 - 0) w h - w * 17 + ((c : Int) + 1) * 17 = pl_at (s - 1) 1 ((c : Int) + 1) h by unfold pl_at; omega, show pl_at s 0 w h - w * 17 + r * 17 = pl_at s 0 r h by unfold pl_at; omega, rd_pl (by omega) (by omega) (by omega) (by omega), rd_pl (by omega) (by omega) (by omega) (by omega)]
    have h1 := hT (s - 1) 1 ((c : Int) + 1) h (by omega) (by omega) (by omega) (by omega) (by omega) (by omega) (by omega) (by omega)
    have h2 := hT s 0 r h (by omega) (by omega) (by omega) (by omega) (by omega) (by omega) (by omega) (by omega)
    have h3 := split_le (a := (c : Int) + 1) (b := h) (x := w) (by omega) (by omega) (by omega)
    have h4 := mono_le (a := r) (b := h) (x := w - ((c : Int) + 1)) (by omega) hr2.2
    omega
theorem ch_le1 {sc ch : Nat → Int} {K s w h : Int} (hT : TI sc) (hK : 0 ≤ K) (hs : 1 ≤ s ∧ s ≤ 3) (hw : 1 ≤ w ∧ w ≤ 16) (hh : 1 ≤ h ∧ h ≤ 16) : 0 ≤ (ch_res sc ch K s 1 w h).1 ∧ (ch_res sc ch K s 1 w h).1 ≤ w * h * 1024 := by
  unfold ch_res
  rw [if_neg (by decide)]
  refine cz_le ?_ _ (fun c hc => ?_)
  · show 0 ≤ rd_scoreAt _ _ ∧ rd_scoreAt _ _ ≤ _
    rw [rd_pl (by omega) (by omega) (by omega) (by omega)]
    exact hT 0 1 w h (by omega) (by omega) (by omega) (by omega) (by omega) (by omega) (by omega) (by omega)
  · unfold cz_v
    generalize hr : max 0 (h - ((c : Int) + 1) - K) = r
    have hr2 : 0 ≤ r ∧ r ≤ h - ((c : Int) + 1) := by omega
    rw [show pl_at (s - 1) (1 - 1) w h - h * 1 + ((c : Int) + 1) * 1 = pl_at (s - 1) 0 w ((c : Int) + 1) by unfold pl_at; omega, show pl_at s 1 w h - h * 1 + r * 1 = pl_at s 1 w r by unfold pl_at; omega, rd_pl (by omega) (by omega) (by omega) (by omega), rd_pl (by omega) (by omega) (by omega) (by omega)]
    have h1 := hT (s - 1) 0 w ((c : Int) + 1) (by omega) (by omega) (by omega) (by omega) (by omega) (by omega) (by omega) (by omega)
    have h2 := hT s 1 w r (by omega) (by omega) (by omega) (by omega) (by omega) (by omega) (by omega) (by omega)
    have h3 := split_le (a := (c : Int) + 1) (b := w) (x := h) (by omega) (by omega) (by omega)
    have h4 := mono_le (a := r) (b := w) (x := h - ((c : Int) + 1)) (by omega) hr2.2
    rw [Int.mul_comm w ((c : Int) + 1)] at h1
    rw [Int.mul_comm w r] at h2
    rw [Int.mul_comm w h]
    omega
def ch_up (K s d w h : Int) (T : tp_T) : tp_T := (va_up T.1 (pl_at s d w h).toNat (ch_res T.1 T.2 K s d w h).1, va_up T.2 (pl_at s d w h).toNat (ch_res T.1 T.2 K s d w h).2)
def ch_2 (K s w h : Int) (T : tp_T) : tp_T := ch_up K s 1 w h (ch_up K s 0 w h T)
/-- the heights 1 .. n of a width, the widths 1 .. n -/
def fs_h (K s w : Int) (T : tp_T) : Nat → tp_T
  | 0 => T
  | n + 1 => ch_2 K s w ((n : Int) + 1) (fs_h K s w T n)
def fs_w (K s : Int) (T : tp_T) : Nat → tp_T
  | 0 => T
  | n + 1 => fs_h K s ((n : Int) + 1) (fs_w K s T n) 16
theorem TI_ch2 {K s w h : Int} {T : tp_T} (hT : TI T.1) (hK : 0 ≤ K) (hs : 1 ≤ s ∧ s ≤ 3) (hw : 1 ≤ w ∧ w ≤ 16) (hh : 1 ≤ h ∧ h ≤ 16) : TI (ch_up K s 0 w h T).1 ∧ TI (ch_2 K s w h T).1 := by
  have h1 : TI (ch_up K s 0 w h T).1 := TI_up hT (by omega) (by omega) (by omega) (by omega) (ch_le0 hT hK hs hw hh)
  exact ⟨h1, TI_up h1 (by omega) (by omega) (by omega) (by omega) (ch_le1 h1 hK hs hw hh)⟩
theorem TI_fsh {K s w : Int} {T : tp_T} (hT : TI T.1) (hK : 0 ≤ K) (hs : 1 ≤ s ∧ s ≤ 3) (hw : 1 ≤ w ∧ w ≤ 16) : ∀ n : Nat, n ≤ 16 → TI (fs_h K s w T n).1
  | 0, _ => hT
  | n + 1, hn => (TI_ch2 (TI_fsh hT hK hs hw n (by omega)) hK hs hw (by omega)).2
theorem TI_fsw {K s : Int} {T : tp_T} (hT : TI T.1) (hK : 0 ≤ K) (hs : 1 ≤ s ∧ s ≤ 3) : ∀ n : Nat, n ≤ 16 → TI (fs_w K s T n).1
  | 0, _ => hT
  | n + 1, hn => TI_fsh (TI_fsw hT hK hs n (by omega)) hK hs (by omega) 16 (by omega)
set_option maxHeartbeats 4000000 in
set_option maxRecDepth 100000 in
theorem c_TB_fillStage (l : Launch) (D : va_G) (cI : ClassId) (a qs qc : Nat) (K W F s : Int) (T : tp_T) (hK : 0 ≤ K ∧ K ≤ 3) (hs : 1 ≤ s ∧ s ≤ 3) (hT : TI T.1) : CM l y_TB_fillStage b_TB_fillStage 4 none rm_2 [.ref a, .int (iI s)] D [(cI, .int)] ([ob_TB a qs qc K W F, ar_I qs cI 2312 T.1, ar_I qc cI 2312 T.2] ++ []) (fun r w1 p1 _ => r = none ∧ w1 = [ob_TB a qs qc K W F, ar_I qs cI 2312 (fs_w K s T 16).1, ar_I qc cI 2312 (fs_w K s T 16).2] ∧ p1 = []) := by
  refine cm_of (by decide) (Nat.le_of_ble_eq_true rfl) ?_
  intro X sz hl hr hnm hD hA hw
  subst hD
  have inner : ∀ (T1 : tp_T) (w : Int), TI T1.1 → 1 ≤ w ∧ w ≤ 16 → (VV X (b_TB_fillStage, 4, "SheetTrees$Tables", rm_2) (cq X ([ob_TB a qs qc K W F, ar_I qs cI 2312 T.1, ar_I qc cI 2312 T.2] ++ []) sz (fun r w1 p1 _ => r = none ∧ w1 = [ob_TB a qs qc K W F, ar_I qs cI 2312 (fs_w K s T 16).1, ar_I qc cI 2312 (fs_w K s T 16).2] ∧ p1 = []) rm_2) 0 0 [(cI, .int)] [ob_TB a qs qc K W F, ar_I qs cI 2312 (fs_h K s w T1 16).1, ar_I qc cI 2312 (fs_h K s w T1 16).2] [] [some (.ref a), some (.int (iI s)), some (.int (iI w)), none] [] 38) → ∀ m n : Nat, n + m = 16 → VV X (b_TB_fillStage, 4, "SheetTrees$Tables", rm_2) (cq X ([ob_TB a qs qc K W F, ar_I qs cI 2312 T.1, ar_I qc cI 2312 T.2] ++ []) sz (fun r w1 p1 _ => r = none ∧ w1 = [ob_TB a qs qc K W F, ar_I qs cI 2312 (fs_w K s T 16).1, ar_I qc cI 2312 (fs_w K s T 16).2] ∧ p1 = []) rm_2) 0 0 [(cI, .int)] [ob_TB a qs qc K W F, ar_I qs cI 2312 (fs_h K s w T1 n).1, ar_I qc cI 2312 (fs_h K s w T1 n).2] [] [some (.ref a), some (.int (iI s)), some (.int (iI w)), some (.int (iI ((n : Int) + 1)))] [] 10 := by
    intro T1 w hT1 hw1 hx m
    induction m with
    | zero =>
      intro n hn
      have hn2 : n = 16 := by omega
      subst hn2
      refine vv_iload_n d_TB_fillStage_10 rfl ?_
      refine vv_bipush d_TB_fillStage_11 (by decide +kernel) ?_
      refine vv_icmp_gt (tgt := 38) d_TB_fillStage_13 (by decide) ⟨by omega, by omega⟩ (fun c13 => ?_) (fun c13 => ?_)
      · exact vv_le (by repeat (first | exact lo_le_nil _ | refine lo_le_cons _ ?_ | refine lo_le_none _ ?_)) hx
      · exfalso; omega
    | succ m ih =>
      intro n hn
      have hI := TI_fsh hT1 hK.1 hs hw1 n (by omega)
      have hI2 := (TI_ch2 hI hK.1 hs hw1 (h := (n : Int) + 1) (by omega)).1
      refine vv_iload_n d_TB_fillStage_10 rfl ?_
      refine vv_bipush d_TB_fillStage_11 (by decide +kernel) ?_
      refine vv_icmp_gt (tgt := 38) d_TB_fillStage_13 (by decide) ⟨by omega, by omega⟩ (fun c13 => ?_) (fun c13 => ?_)
      · exfalso; omega
      · skip
        refine vv_aload_n d_TB_fillStage_16 rfl ?_
        refine vv_iload_n d_TB_fillStage_17 rfl ?_
        refine vv_iconst d_TB_fillStage_18 ?_
        refine vv_iload_n d_TB_fillStage_19 rfl ?_
        refine vv_iload_n d_TB_fillStage_20 rfl ?_
        refine vv_nV hw (wc := [ob_TB a qs qc K W F, ar_I qs cI 2312 (fs_h K s w T1 n).1, ar_I qc cI 2312 (fs_h K s w T1 n).2]) (wr := []) [] (c_TB_choose0 (cx_l X) (cx_D X) cI a qs qc K W F s w ((n : Int) + 1) (fs_h K s w T1 n).1 (fs_h K s w T1 n).2 hK hs hw1 (by omega) (TI_bd hI)) lk_TB_75 d_TB_fillStage_21 rfl (rc_at 0 rfl rfl rfl) [0, 1, 2] [] ⟨rfl, rfl⟩ ⟨rfl, rfl, by decide⟩ [0] rfl ⟨⟨by decide, by decide⟩, ⟨by decide, by decide⟩, Nat.le_of_ble_eq_true rfl⟩ ⟨rfl, rfl⟩ ?_
        rintro v w1 p1 t1 ⟨rfl, rfl, rfl⟩
        dsimp only [Option.toList, List.cons_append, List.nil_append, List.append_nil]
        refine vv_aload_n d_TB_fillStage_24 rfl ?_
        refine vv_iload_n d_TB_fillStage_25 rfl ?_
        refine vv_iconst d_TB_fillStage_26 ?_
        refine vv_iload_n d_TB_fillStage_27 rfl ?_
        refine vv_iload_n d_TB_fillStage_28 rfl ?_
        refine vv_nV hw (wc := [ob_TB a qs qc K W F, ar_I qs cI 2312 (ch_up K s 0 w ((n : Int) + 1) (fs_h K s w T1 n)).1, ar_I qc cI 2312 (ch_up K s 0 w ((n : Int) + 1) (fs_h K s w T1 n)).2]) (wr := []) [] (c_TB_choose1 (cx_l X) (cx_D X) cI a qs qc K W F s w ((n : Int) + 1) (ch_up K s 0 w ((n : Int) + 1) (fs_h K s w T1 n)).1 (ch_up K s 0 w ((n : Int) + 1) (fs_h K s w T1 n)).2 hK hs hw1 (by omega) (TI_bd hI2)) lk_TB_75 d_TB_fillStage_29 rfl (rc_at 0 rfl rfl rfl) [0, 1, 2] [] ⟨rfl, rfl⟩ ⟨rfl, rfl, by decide⟩ [0] rfl ⟨⟨by decide, by decide⟩, ⟨by decide, by decide⟩, Nat.le_of_ble_eq_true rfl⟩ ⟨rfl, rfl⟩ ?_
        rintro v w1 p1 t1 ⟨rfl, rfl, rfl⟩
        dsimp only [Option.toList, List.cons_append, List.nil_append, List.append_nil]
        refine vv_iinc d_TB_fillStage_32 rfl rfl (by decide) ?_
        dsimp only [List.set]
        refine vv_goto (tgt := 10) d_TB_fillStage_35 (by decide) ?_
        exact ih (n + 1) (by omega)
  have outer : ∀ m n : Nat, n + m = 16 → VV X (b_TB_fillStage, 4, "SheetTrees$Tables", rm_2) (cq X ([ob_TB a qs qc K W F, ar_I qs cI 2312 T.1, ar_I qc cI 2312 T.2] ++ []) sz (fun r w1 p1 _ => r = none ∧ w1 = [ob_TB a qs qc K W F, ar_I qs cI 2312 (fs_w K s T 16).1, ar_I qc cI 2312 (fs_w K s T 16).2] ∧ p1 = []) rm_2) 0 0 [(cI, .int)] [ob_TB a qs qc K W F, ar_I qs cI 2312 (fs_w K s T n).1, ar_I qc cI 2312 (fs_w K s T n).2] [] [some (.ref a), some (.int (iI s)), some (.int (iI ((n : Int) + 1))), none] [] 2 := by
    intro m
    induction m with
    | zero =>
      intro n hn
      have hn2 : n = 16 := by omega
      subst hn2
      refine vv_iload_n d_TB_fillStage_2 rfl ?_
      refine vv_bipush d_TB_fillStage_3 (by decide +kernel) ?_
      refine vv_icmp_gt (tgt := 44) d_TB_fillStage_5 (by decide) ⟨by omega, by omega⟩ (fun c5 => ?_) (fun c5 => ?_)
      · skip
        exact vv_vret hA hw hr d_TB_fillStage_44 (by decide) (by decide) (by exact ⟨rfl, rfl, rfl⟩)
      · exfalso; omega
    | succ m ih =>
      intro n hn
      have hI := TI_fsw hT hK.1 hs n (by omega)
      refine vv_iload_n d_TB_fillStage_2 rfl ?_
      refine vv_bipush d_TB_fillStage_3 (by decide +kernel) ?_
      refine vv_icmp_gt (tgt := 44) d_TB_fillStage_5 (by decide) ⟨by omega, by omega⟩ (fun c5 => ?_) (fun c5 => ?_)
      · exfalso; omega
      · skip
        refine vv_iconst d_TB_fillStage_8 ?_
        refine vv_istore_n d_TB_fillStage_9 rfl (by decide) ?_
        dsimp only [List.set]
        refine inner (fs_w K s T n) ((n : Int) + 1) hI (by omega) ?_ 16 0 (by omega)
        refine vv_iinc d_TB_fillStage_38 rfl rfl (by decide) ?_
        dsimp only [List.set]
        refine vv_goto (tgt := 2) d_TB_fillStage_41 (by decide) ?_
        exact ih (n + 1) (by omega)
  show VV X (b_TB_fillStage, 4, "SheetTrees$Tables", rm_2) _ 0 0 [(cI, .int)] [ob_TB a qs qc K W F, ar_I qs cI 2312 T.1, ar_I qc cI 2312 T.2] [] [some (.ref a), some (.int (iI s)), none, none] [] 0
  refine vv_iconst d_TB_fillStage_0 ?_
  refine vv_istore_n d_TB_fillStage_1 rfl (by decide) ?_
  dsimp only [List.set]
  exact outer 16 0 (by omega)
