/-! pure: what choices are, and the budget of a layout -/
abbrev ar_of (R : Nat → pa_T) : Nat → Int := fun p => (R p).1 * (R p).2.1
def bitm (m p : Nat) : Prop := m / 2 ^ p % 2 = 1
def CX (ar : Nat → Int) (m : Nat) (ch : Nat → Int) : Prop := ∀ s d w h : Int, 0 ≤ s → s ≤ 3 → 0 ≤ d → d ≤ 1 → 1 ≤ w → w ≤ 16 → 1 ≤ h → h ≤ 16 → 0 ≤ ch (pl_at s d w h).toNat ∧ (8 < ch (pl_at s d w h).toNat → 1 ≤ s ∧ ch (pl_at s d w h).toNat - 8 < (if d = 0 then w else h)) ∧ (ch (pl_at s d w h).toNat < 8 → bitm m (ch (pl_at s d w h).toNat).toNat ∧ ar (ch (pl_at s d w h).toNat).toNat = w * h)
theorem CX_CI {ar : Nat → Int} {m : Nat} {ch : Nat → Int} (h : CX ar m ch) : CI ch := fun s d w h' a1 a2 a3 a4 a5 a6 a7 a8 => ⟨(h s d w h' a1 a2 a3 a4 a5 a6 a7 a8).1, (h s d w h' a1 a2 a3 a4 a5 a6 a7 a8).2.1⟩
theorem CX_up {ar : Nat → Int} {m : Nat} {ch : Nat → Int} {s d w h v : Int} (hC : CX ar m ch) (hs : 0 ≤ s ∧ s ≤ 3) (hd : 0 ≤ d ∧ d ≤ 1) (hw : 1 ≤ w ∧ w ≤ 16) (hh : 1 ≤ h ∧ h ≤ 16) (hv : 0 ≤ v ∧ (8 < v → 1 ≤ s ∧ v - 8 < (if d = 0 then w else h)) ∧ (v < 8 → bitm m v.toNat ∧ ar v.toNat = w * h)) : CX ar m (va_up ch (pl_at s d w h).toNat v) := by
  intro s' d' w' h' a1 a2 a3 a4 a5 a6 a7 a8
  by_cases e : (pl_at s' d' w' h').toNat = (pl_at s d w h).toNat
  · obtain ⟨e1, e2, e3, e4⟩ := pl_ne ⟨a1, a2⟩ ⟨a3, a4⟩ ⟨by omega, a6⟩ ⟨by omega, a8⟩ hs hd ⟨by omega, hw.2⟩ ⟨by omega, hh.2⟩ e
    subst e1; subst e2; subst e3; subst e4
    rw [va_up_self]
    exact hv
  · rw [va_up_ne _ _ e]
    exact hC s' d' w' h' a1 a2 a3 a4 a5 a6 a7 a8
theorem cz_ch {sc : Nat → Int} {K fb sb st L : Int} {p0 : Int × Int} : ∀ n : Nat, (cz sc K fb sb st L p0 n).2 = p0.2 ∨ ∃ c : Int, 1 ≤ c ∧ c ≤ (n : Int) ∧ (cz sc K fb sb st L p0 n).2 = 8 + c
  | 0 => Or.inl rfl
  | n + 1 => by
    unfold cz
    split
    · exact Or.inr ⟨(n : Int) + 1, by omega, by omega, rfl⟩
    · rcases cz_ch (sc := sc) (K := K) (fb := fb) (sb := sb) (st := st) (L := L) (p0 := p0) n with h | ⟨c, h1, h2, h3⟩
      · exact Or.inl h
      · exact Or.inr ⟨c, h1, by omega, h3⟩
theorem CX_res {ar : Nat → Int} {m : Nat} {sc ch : Nat → Int} {K s d w h : Int} (hC : CX ar m ch) (hs : 1 ≤ s ∧ s ≤ 3) (hd : d = 0 ∨ d = 1) (hw : 1 ≤ w ∧ w ≤ 16) (hh : 1 ≤ h ∧ h ≤ 16) : 0 ≤ (ch_res sc ch K s d w h).2 ∧ (8 < (ch_res sc ch K s d w h).2 → 1 ≤ s ∧ (ch_res sc ch K s d w h).2 - 8 < (if d = 0 then w else h)) ∧ ((ch_res sc ch K s d w h).2 < 8 → bitm m (ch_res sc ch K s d w h).2.toNat ∧ ar (ch_res sc ch K s d w h).2.toNat = w * h) := by
  have key : ∀ (v L : Int), (d = 0 → L = w) → (d = 1 → L = h) → (v = ch (pl_at 0 d w h).toNat ∨ ∃ c : Int, 1 ≤ c ∧ c ≤ (((L - 1).toNat : Nat) : Int) ∧ v = 8 + c) → 0 ≤ v ∧ (8 < v → 1 ≤ s ∧ v - 8 < (if d = 0 then w else h)) ∧ (v < 8 → bitm m v.toNat ∧ ar v.toNat = w * h) := by
    intro v L e0 e1 hv
    have h0 := hC 0 d w h (by omega) (by omega) (by omega) (by omega) hw.1 hw.2 hh.1 hh.2
    rcases hv with rfl | ⟨c, h1, h2, rfl⟩
    · refine ⟨h0.1, fun h8 => ?_, h0.2.2⟩
      have := h0.2.1 h8
      omega
    · refine ⟨by omega, fun _ => ⟨hs.1, ?_⟩, fun h8 => by omega⟩
      split
      · have := e0 (by assumption)
        omega
      · have := e1 (by omega)
        omega
  rcases hd with rfl | rfl
  · unfold ch_res
    rw [if_pos rfl]
    refine key _ w (fun _ => rfl) (fun q => by omega) ?_
    rw [← rd_plc (ch := ch) (s := 0) (d := 0) (w := w) (h := h) (by omega) (by omega) (by omega) (by omega)]
    exact cz_ch _
  · unfold ch_res
    rw [if_neg (by decide)]
    refine key _ h (fun q => by omega) (fun _ => rfl) ?_
    rw [← rd_plc (ch := ch) (s := 0) (d := 1) (w := w) (h := h) (by omega) (by omega) (by omega) (by omega)]
    exact cz_ch _
theorem CX_ch2 {ar : Nat → Int} {m : Nat} {K s w h : Int} {T : tp_T} (hC : CX ar m T.2) (hs : 1 ≤ s ∧ s ≤ 3) (hw : 1 ≤ w ∧ w ≤ 16) (hh : 1 ≤ h ∧ h ≤ 16) : CX ar m (ch_2 K s w h T).2 := by
  have h1 : CX ar m (ch_up K s 0 w h T).2 := CX_up hC (by omega) (by omega) hw hh (CX_res hC hs (Or.inl rfl) hw hh)
  exact CX_up h1 (by omega) (by omega) hw hh (CX_res h1 hs (Or.inr rfl) hw hh)
theorem CX_fsh {ar : Nat → Int} {m : Nat} {K s w : Int} {T : tp_T} (hC : CX ar m T.2) (hs : 1 ≤ s ∧ s ≤ 3) (hw : 1 ≤ w ∧ w ≤ 16) : ∀ n : Nat, n ≤ 16 → CX ar m (fs_h K s w T n).2
  | 0, _ => hC
  | n + 1, hn => CX_ch2 (CX_fsh hC hs hw n (by omega)) hs hw (by omega)
theorem CX_fsw {ar : Nat → Int} {m : Nat} {K s : Int} {T : tp_T} (hC : CX ar m T.2) (hs : 1 ≤ s ∧ s ≤ 3) : ∀ n : Nat, n ≤ 16 → CX ar m (fs_w K s T n).2
  | 0, _ => hC
  | n + 1, hn => CX_fsh (CX_fsw hC hs n (by omega)) hs (by omega) 16 (by omega)
theorem CX_fg {ar : Nat → Int} {m : Nat} {K F : Int} {T : tp_T} (hC : CX ar m T.2) (hF : 0 ≤ F) : ∀ n : Nat, F + n ≤ 3 → CX ar m (fg K F T n).2
  | 0, _ => hC
  | n + 1, hn => CX_fsw (CX_fg hC hF n (by omega)) (by omega) 16 (by omega)
theorem CX_wc0 (ar : Nat → Int) (m : Nat) (T : tp_T) : CX ar m (wc_0 T).2 := by
  intro s d w h a1 a2 a3 a4 a5 a6 a7 a8
  have h1 : (pl_at s d w h).toNat < 2312 := by unfold pl_at; omega
  have e : (wc_0 T).2 (pl_at s d w h).toNat = 8 := if_pos h1
  rw [e]
  exact ⟨by decide, fun q => by omega, fun q => by omega⟩
theorem CX_pp {ar : Nat → Int} {m : Nat} {w h : Int} {p : Nat} {T : tp_T} (hC : CX ar m T.2) (hp : p < 8) (hb : bitm m p) (ha : ar p = w * h) (hw : 1 ≤ w ∧ w ≤ 16) (hh : 1 ≤ h ∧ h ≤ 16) : CX ar m (pp_up p w h T).2 := by
  have hv : ∀ d : Int, 0 ≤ (p : Int) ∧ (8 < (p : Int) → 1 ≤ (0 : Int) ∧ (p : Int) - 8 < (if d = 0 then w else h)) ∧ ((p : Int) < 8 → bitm m (p : Int).toNat ∧ ar (p : Int).toNat = w * h) := fun d => ⟨by omega, fun q => by omega, fun _ => by rw [Int.toNat_natCast]; exact ⟨hb, ha⟩⟩
  exact CX_up (CX_up hC (by omega) (by omega) hw hh (hv 0)) (by omega) (by omega) hw hh (hv 1)
theorem CX_wc {R : Nat → pa_T} {m : Nat} {T : tp_T} (hP : PW R m) : ∀ k : Nat, k ≤ 8 → CX (ar_of R) m (wc_dn R m T k).2
  | 0, _ => CX_wc0 _ _ T
  | k + 1, hk => by
    have ih := CX_wc (T := T) hP k (by omega)
    show CX _ _ (wc_at R m (7 - k) (wc_dn R m T k)).2
    unfold wc_at
    split
    · rename_i hb
      obtain ⟨h1, h2⟩ := hP (7 - k) (by omega) hb
      split
      · exact CX_pp ih (by omega) hb rfl h1 h2
      · exact CX_pp (CX_pp ih (by omega) hb rfl h1 h2) (by omega) hb (Int.mul_comm _ _) h2 h1
    · exact ih
/-- the invariant of the tables that stand -/
def HT (ar : Nat → Int) (W : Int) (T : tp_T) : Prop := ∀ m : Nat, (m : Int) = W → TI T.1 ∧ CX ar m T.2
theorem HT_fl {R : Nat → pa_T} {m : Nat} {K S W F : Int} {T : tp_T} (hK : 0 ≤ K) (hS : 0 ≤ S ∧ S ≤ 3) (hF : 0 ≤ F ∧ F ≤ 3) (hP : PW R m) (hT : HT (ar_of R) W T) : TI (fl_T K R m S W F T).1 ∧ CX (ar_of R) m (fl_T K R m S W F T).2 ∧ 0 ≤ fl_G m S W F ∧ fl_G m S W F ≤ 3 := by
  unfold fl_T fl_T1 fl_G fl_F
  by_cases e : (m : Int) = W
  · simp only [if_pos e]
    exact ⟨TI_fg (hT m e).1 hK hF.1 _ (by omega), CX_fg (hT m e).2 hF.1 _ (by omega), by omega, by omega⟩
  · simp only [if_neg e]
    exact ⟨TI_fg (TI_wc hP 8 (by omega)) hK (by omega) _ (by omega), CX_fg (CX_wc hP 8 (by omega)) (by omega) _ (by omega), by omega, by omega⟩
theorem HT_of {ar : Nat → Int} {m : Nat} {T : tp_T} (h1 : TI T.1) (h2 : CX ar m T.2) : HT ar (m : Int) T := fun k e => by
  have e2 : k = m := by omega
  subst e2
  exact ⟨h1, h2⟩
def wsum (co ar : Nat → Int) : Nat → Int
  | 0 => 0
  | n + 1 => wsum co ar n + co n * ar n
theorem wsum_ge {co ar : Nat → Int} {k : Nat} {v : Int} : ∀ n : Nat, n ≤ k → wsum (va_up co k v) ar n = wsum co ar n
  | 0, _ => rfl
  | n + 1, h => by
    show wsum (va_up co k v) ar n + va_up co k v n * ar n = wsum co ar n + co n * ar n
    rw [wsum_ge n (by omega), va_up_ne _ _ (by omega)]
theorem wsum_up {co ar : Nat → Int} {k : Nat} : ∀ n : Nat, k < n → wsum (va_up co k (co k + 1)) ar n = wsum co ar n + ar k
  | 0, h => by omega
  | n + 1, h => by
    show wsum (va_up co k (co k + 1)) ar n + va_up co k (co k + 1) n * ar n = wsum co ar n + co n * ar n + ar k
    by_cases e : k = n
    · subst e
      rw [wsum_ge k (by omega), va_up_self, Int.add_mul]
      omega
    · rw [wsum_up n (by omega), va_up_ne _ _ (fun q => e q.symm)]
      omega
def LB (ar : Nat → Int) (B : Int) (st : ly_T) : Prop := (0 ≤ st.1 ∧ st.1 ≤ B) ∧ wsum st.2.2.2.2 ar 8 ≤ B ∧ (∀ p : Nat, p < 8 → 0 ≤ st.2.2.2.2 p ∧ st.2.2.2.2 p ≤ B) ∧ ∀ i : Nat, (i : Int) < st.1 → 0 ≤ st.2.2.2.1 i ∧ st.2.2.2.1 i < 2147483648
theorem LB_mono {ar : Nat → Int} {B B' : Int} {st : ly_T} (h : LB ar B st) (hB : B ≤ B') : LB ar B' st := ⟨⟨h.1.1, by have := h.1.2; omega⟩, by have := h.2.1; omega, fun p hp => ⟨(h.2.2.1 p hp).1, by have := (h.2.2.1 p hp).2; omega⟩, h.2.2.2⟩
theorem LB_cut {ar : Nat → Int} {B m : Int} {st : ly_T} (h : LB ar B st) : LB ar B (ly_cut m st) := h
theorem LB_add {ar : Nat → Int} {B k q a : Int} {st : ly_T} (h : LB ar B st) (hk : 0 ≤ k ∧ k ≤ 8) (hq : 0 ≤ q ∧ q < 2147483648) (ha : 1 ≤ a) (har : k < 8 → ar k.toNat = a) (hB : B + a ≤ 256) : LB ar (B + a) (ly_add k q st) := by
  obtain ⟨h1, h2, h3, h4⟩ := h
  have hlt : st.1 < 256 := by omega
  have e1 : (ly_add k q st).1 = st.1 + 1 := if_pos hlt
  have e2 : (ly_add k q st).2.2.2.1 = va_up st.2.2.2.1 st.1.toNat q := if_pos hlt
  unfold LB
  rw [e1, e2]
  refine ⟨by omega, ?_, ?_, ?_⟩
  · by_cases e : k < 8
    · have e3 : (ly_add k q st).2.2.2.2 = va_up st.2.2.2.2 k.toNat (st.2.2.2.2 k.toNat + 1) := if_pos ⟨hk.1, e⟩
      rw [e3, wsum_up 8 (by omega), har e]
      omega
    · have e3 : (ly_add k q st).2.2.2.2 = st.2.2.2.2 := if_neg (fun q => e q.2)
      rw [e3]
      omega
  · intro p hp
    have h3p := h3 p hp
    by_cases e : k < 8
    · have e3 : (ly_add k q st).2.2.2.2 = va_up st.2.2.2.2 k.toNat (st.2.2.2.2 k.toNat + 1) := if_pos ⟨hk.1, e⟩
      rw [e3]
      by_cases e4 : p = k.toNat
      · rw [e4, va_up_self]
        rw [e4] at h3p
        omega
      · rw [va_up_ne _ _ e4]
        omega
    · have e3 : (ly_add k q st).2.2.2.2 = st.2.2.2.2 := if_neg (fun q => e q.2)
      rw [e3]
      omega
  · intro i hi
    by_cases e : i = st.1.toNat
    · rw [e, va_up_self]
      exact hq
    · rw [va_up_ne _ _ e]
      exact h4 i (by omega)
theorem pk_bd {k x y w h : Int} (hk : 0 ≤ k ∧ k ≤ 8) (hok : okp x y w h) : 0 ≤ pk_z k x y w h ∧ pk_z k x y w h < 2147483648 := by
  unfold okp at hok
  unfold pk_z
  omega
theorem LB_go0 {ar : Nat → Int} {m : Nat} {rec : Int → Int → Int → Int → ly_T → ly_T} {ch : Nat → Int} {K s x y w h : Int} (hC : CX ar m ch) (hK : 0 ≤ K) (hs : 0 ≤ s ∧ s ≤ 3) (hok : okp x y w h) (hr : 1 ≤ s → ∀ x y w h st B, okp x y w h → LB ar B st → B + w * h ≤ 256 → LB ar (B + w * h) (rec x y w h st)) : ∀ (n : Nat) (fr B : Int) (st : ly_T), 0 ≤ fr → LB ar B st → (fr < w → B + (w - fr) * h ≤ 256) → LB ar (if fr < w then B + (w - fr) * h else B) (lt0_go rec ch K s x y w h n fr st)
  | 0, fr, B, st, h0, hB, h2 => by
    have hok' := hok
    unfold okp at hok'
    unfold lt0_go
    split
    · rename_i hlt
      refine LB_mono hB ?_
      have := Int.mul_nonneg (a := w - fr) (b := h) (by omega) (by omega)
      omega
    · exact hB
  | n + 1, fr, B, st, h0, hB, h2 => by
    have hok' := hok
    unfold okp at hok'
    unfold lt0_go
    by_cases hlt : fr < w
    · rw [if_pos hlt, if_pos hlt]
      have h2 := h2 hlt
      have e : rd_choiceAt ch (pl_at s 0 (w - fr) h) = ch (pl_at s 0 (w - fr) h).toNat := rd_plc hs (by omega) (by omega) (by omega)
      have hc := hC s 0 (w - fr) h hs.1 hs.2 (by decide) (by decide) (by omega) (by omega) (by omega) (by omega)
      rw [← e] at hc
      have hlen : (if (0 : Int) = 0 then w - fr else h) = w - fr := by exact if_pos rfl
      rw [hlen] at hc
      generalize rd_choiceAt ch (pl_at s 0 (w - fr) h) = c at hc ⊢
      have hokp : okp (x + fr) y (w - fr) h := by unfold okp; omega
      have hal : 1 ≤ (w - fr) * h := by
        have := Int.mul_le_mul (a := 1) (b := 1) (c := w - fr) (d := h) (by omega) (by omega) (by omega) (by omega)
        omega
      split
      · rename_i h8
        have h88 : c ≤ 8 := by
          rcases h8 with h8 | h8
          · exact h8
          · by_cases h9 : 8 < c
            · have := hc.2.1 h9
              omega
            · omega
        exact LB_add hB ⟨hc.1, h88⟩ (pk_bd ⟨hc.1, h88⟩ hokp) hal (fun q => (hc.2.2 q).2) h2
      · rename_i h8
        have hc1 : 8 < c := by omega
        obtain ⟨hs1, hc2⟩ := hc.2.1 hc1
        have hokc : okp (x + fr) y (c - 8) h := by unfold okp; omega
        have m1 := mono_le (b := h) (a := (c - 8)) (x := (w - fr)) (by omega) (by omega)
        have hb1 := hr hs1 _ _ _ _ _ _ hokc (LB_cut (m := h) hB) (by omega)
        have m0 : 0 ≤ (c - 8) * h := Int.mul_nonneg (by omega) (by omega)
        by_cases hl2 : fr + (c - 8 + K) < w
        · have m2 := mono_le (b := h) (a := (w - (fr + (c - 8 + K)))) (x := (w - fr - (c - 8))) (by omega) (by omega)
          have m3 : (c - 8) * h + (w - fr - (c - 8)) * h = (w - fr) * h := by rw [← Int.add_mul]; congr 1; omega
          have ih := LB_go0 hC hK hs hok hr n (fr + (c - 8 + K)) _ _ (by omega) hb1 (fun _ => by omega)
          rw [if_pos hl2] at ih
          exact LB_mono ih (by omega)
        · have ih := LB_go0 hC hK hs hok hr n (fr + (c - 8 + K)) _ _ (by omega) hb1 (fun q => absurd q hl2)
          rw [if_neg hl2] at ih
          exact LB_mono ih (by omega)
    · rw [if_neg hlt, if_neg hlt]
      exact hB
theorem LB_go1 {ar : Nat → Int} {m : Nat} {rec : Int → Int → Int → Int → ly_T → ly_T} {ch : Nat → Int} {K s x y w h : Int} (hC : CX ar m ch) (hK : 0 ≤ K) (hs : 0 ≤ s ∧ s ≤ 3) (hok : okp x y w h) (hr : 1 ≤ s → ∀ x y w h st B, okp x y w h → LB ar B st → B + w * h ≤ 256 → LB ar (B + w * h) (rec x y w h st)) : ∀ (n : Nat) (fr B : Int) (st : ly_T), 0 ≤ fr → LB ar B st → (fr < h → B + w * (h - fr) ≤ 256) → LB ar (if fr < h then B + w * (h - fr) else B) (lt1_go rec ch K s x y w h n fr st)
  | 0, fr, B, st, h0, hB, h2 => by
    have hok' := hok
    unfold okp at hok'
    unfold lt1_go
    split
    · rename_i hlt
      refine LB_mono hB ?_
      have := Int.mul_nonneg (a := w) (b := h - fr) (by omega) (by omega)
      omega
    · exact hB
  | n + 1, fr, B, st, h0, hB, h2 => by
    have hok' := hok
    unfold okp at hok'
    unfold lt1_go
    by_cases hlt : fr < h
    · rw [if_pos hlt, if_pos hlt]
      have h2 := h2 hlt
      have e : rd_choiceAt ch (pl_at s 1 w (h - fr)) = ch (pl_at s 1 w (h - fr)).toNat := rd_plc hs (by omega) (by omega) (by omega)
      have hc := hC s 1 w (h - fr) hs.1 hs.2 (by decide) (by decide) (by omega) (by omega) (by omega) (by omega)
      rw [← e] at hc
      have hlen : (if (1 : Int) = 0 then w else h - fr) = h - fr := by exact if_neg (by decide)
      rw [hlen] at hc
      generalize rd_choiceAt ch (pl_at s 1 w (h - fr)) = c at hc ⊢
      have hokp : okp x (y + fr) w (h - fr) := by unfold okp; omega
      have hal : 1 ≤ w * (h - fr) := by
        have := Int.mul_le_mul (a := 1) (b := 1) (c := w) (d := h - fr) (by omega) (by omega) (by omega) (by omega)
        omega
      split
      · rename_i h8
        have h88 : c ≤ 8 := by
          rcases h8 with h8 | h8
          · exact h8
          · by_cases h9 : 8 < c
            · have := hc.2.1 h9
              omega
            · omega
        exact LB_add hB ⟨hc.1, h88⟩ (pk_bd ⟨hc.1, h88⟩ hokp) hal (fun q => (hc.2.2 q).2) h2
      · rename_i h8
        have hc1 : 8 < c := by omega
        obtain ⟨hs1, hc2⟩ := hc.2.1 hc1
        have hokc : okp x (y + fr) w (c - 8) := by unfold okp; omega
        have m1 := Int.mul_le_mul_of_nonneg_left (c := w) (a := (c - 8)) (b := (h - fr)) (by omega) (by omega)
        have hb1 := hr hs1 _ _ _ _ _ _ hokc (LB_cut (m := w) hB) (by omega)
        have m0 : 0 ≤ w * (c - 8) := Int.mul_nonneg (by omega) (by omega)
        by_cases hl2 : fr + (c - 8 + K) < h
        · have m2 := Int.mul_le_mul_of_nonneg_left (c := w) (a := (h - (fr + (c - 8 + K)))) (b := (h - fr - (c - 8))) (by omega) (by omega)
          have m3 : w * (c - 8) + w * (h - fr - (c - 8)) = w * (h - fr) := by rw [← Int.mul_add]; congr 1; omega
          have ih := LB_go1 hC hK hs hok hr n (fr + (c - 8 + K)) _ _ (by omega) hb1 (fun _ => by omega)
          rw [if_pos hl2] at ih
          exact LB_mono ih (by omega)
        · have ih := LB_go1 hC hK hs hok hr n (fr + (c - 8 + K)) _ _ (by omega) hb1 (fun q => absurd q hl2)
          rw [if_neg hl2] at ih
          exact LB_mono ih (by omega)
    · rw [if_neg hlt, if_neg hlt]
      exact hB
theorem LB_lt {ar : Nat → Int} {m : Nat} {ch : Nat → Int} {K : Int} (hC : CX ar m ch) (hK : 0 ≤ K) : ∀ (s : Nat) (d : Bool) (x y w h B : Int) (st : ly_T), s ≤ 3 → okp x y w h → LB ar B st → B + w * h ≤ 256 → LB ar (B + w * h) (lt ch K s d x y w h st)
  | 0, false, x, y, w, h, B, st, hs, hok, hB, h2 => by
    have := LB_go0 (rec := fun _ _ _ _ st => st) hC hK (s := 0) (by omega) hok (fun q => by omega) 16 0 B st (by omega) hB (fun _ => by rw [Int.sub_zero]; exact h2)
    rw [if_pos (by unfold okp at hok; omega), Int.sub_zero] at this
    exact this
  | 0, true, x, y, w, h, B, st, hs, hok, hB, h2 => by
    have := LB_go1 (rec := fun _ _ _ _ st => st) hC hK (s := 0) (by omega) hok (fun q => by omega) 16 0 B st (by omega) hB (fun _ => by rw [Int.sub_zero]; exact h2)
    rw [if_pos (by unfold okp at hok; omega), Int.sub_zero] at this
    exact this
  | s + 1, false, x, y, w, h, B, st, hs, hok, hB, h2 => by
    have := LB_go0 (rec := lt ch K s true) hC hK (s := (s : Int) + 1) (by omega) hok (fun _ x y w h st B a b c => LB_lt hC hK s true x y w h B st (by omega) a b c) 16 0 B st (by omega) hB (fun _ => by rw [Int.sub_zero]; exact h2)
    rw [if_pos (by unfold okp at hok; omega), Int.sub_zero] at this
    exact this
  | s + 1, true, x, y, w, h, B, st, hs, hok, hB, h2 => by
    have := LB_go1 (rec := lt ch K s false) hC hK (s := (s : Int) + 1) (by omega) hok (fun _ x y w h st B a b c => LB_lt hC hK s false x y w h B st (by omega) a b c) 16 0 B st (by omega) hB (fun _ => by rw [Int.sub_zero]; exact h2)
    rw [if_pos (by unfold okp at hok; omega), Int.sub_zero] at this
    exact this
theorem LB_0 {ar : Nat → Int} {st : ly_T} : LB ar 0 (ly0 st) := by
  have h0 : ∀ p : Nat, p < 8 → (ly0 st).2.2.2.2 p = 0 := fun p hp => if_pos hp
  have hw : ∀ n : Nat, n ≤ 8 → wsum (ly0 st).2.2.2.2 ar n = 0 := by
    intro n
    induction n with
    | zero => intro _; rfl
    | succ n ih =>
      intro hn
      show wsum (ly0 st).2.2.2.2 ar n + (ly0 st).2.2.2.2 n * ar n = 0
      rw [ih (by omega), h0 n (by omega), Int.zero_mul]
      rfl
  refine ⟨⟨Int.le_refl 0, Int.le_refl 0⟩, ?_, ?_, ?_⟩
  · rw [hw 8 (by omega)]
    omega
  · intro p hp
    rw [h0 p hp]
    omega
  · intro i hi
    have : (i : Int) < 0 := hi
    omega
theorem LB_lay {ar : Nat → Int} {m S : Nat} {K w h : Int} {T : tp_T} {st : ly_T} (hC : CX ar m T.2) (hK : 0 ≤ K) (hS : S ≤ 3) (hw : 1 ≤ w ∧ w ≤ 16) (hh : 1 ≤ h ∧ h ≤ 16) : LB ar 256 (lay T K S w h st) := by
  have ha := area_le (w := w) (h := h) (by omega) (by omega) (by omega) (by omega)
  unfold lay
  exact LB_mono (LB_lt hC hK S _ 0 0 w h 0 _ hS (by unfold okp; omega) LB_0 (by omega)) (by omega)
theorem at_bd {co : Nat → Int} {R : Nat → pa_T} (hc : ∀ p : Nat, p < 8 → 0 ≤ co p) (hl : ∀ p : Nat, p < 8 → 0 ≤ (R p).2.2.2.2) (ha : ∀ p : Nat, p < 8 → 0 ≤ ar_of R p) : ∀ n : Nat, n ≤ 8 → 0 ≤ at_sum co R n ∧ at_sum co R n ≤ wsum co (ar_of R) n
  | 0, _ => ⟨Int.le_refl 0, Int.le_refl 0⟩
  | n + 1, hn => by
    have ih := at_bd hc hl ha n (by omega)
    have h1 := hc n (by omega)
    have h2 := hl n (by omega)
    have h3 := ha n (by omega)
    unfold at_sum wsum
    have h4 : 0 ≤ min (co n) (R n).2.2.2.2 * ((R n).1 * (R n).2.1) := Int.mul_nonneg (by omega) h3
    have h5 : min (co n) (R n).2.2.2.2 * ((R n).1 * (R n).2.1) ≤ co n * ar_of R n := Int.mul_le_mul_of_nonneg_right (by omega) h3
    exact ⟨by omega, by omega⟩
