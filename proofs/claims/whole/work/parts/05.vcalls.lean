/-! Calls in a walk. sp_ok: the callee's picture wc ++ plc is cut out of ws ++ pl by the places 'is' (and the pool, or nothing of it). -/
def sp_ok (ws pl wc plc : va_W) (is : List Nat) : Prop := is.map (fun i => ws[i]?) = wc.map some ∧ va_nd is = true ∧ (plc = [] ∨ plc = pl)
theorem sp_P {D : va_G} {ws pl wc plc : va_W} {is : List Nat} {H : Heap} (h : sp_ok ws pl wc plc is) (hP : va_P D classes (ws ++ pl) H) : va_P D classes (wc ++ plc) H := by
  obtain ⟨h1, h2, h3⟩ := h
  have h4 := hP.part is h1
  rcases h3 with h3 | h3
  · subst h3
    rw [List.append_nil]
    exact va_pre h4
  · subst h3
    exact h4
theorem sp_D {A : Nat → Prop} {ws pl wc plc : va_W} {is : List Nat} (h : sp_ok ws pl wc plc is) (hD : va_D A (ws ++ pl)) : va_D A (wc ++ plc) := by
  obtain ⟨h1, h2, h3⟩ := h
  have h4 := hD.part is h2 h1
  rcases h3 with h3 | h3
  · subst h3
    rw [List.append_nil]
    exact va_dre h4
  · subst h3
    exact h4
def rc_ok (ws pl : va_W) (a : Nat) (C : String) : Prop := ∃ (q0 ci : Nat) (fs : List Value) (r : vw_C), (ws ++ pl)[q0]? = some (a, .inr (ci, fs)) ∧ classes[ci]? = some r ∧ r.1 = C
theorem rc_at {ws pl : va_W} {a ci : Nat} {C : String} {fs : List Value} {r : vw_C} (q0 : Nat) (h : ws[q0]? = some (a, .inr (ci, fs))) (hc : classes[ci]? = some r) (hC : r.1 = C) : rc_ok ws pl a C := ⟨q0, ci, fs, r, vv_at h, hc, hC⟩
theorem rc_pl {ws : va_W} {L : List Nat} {f : Nat → va_E} {a ci : Nat} {C : String} {fs : List Value} {r : vw_C} (hm : a ∈ L) (h : f a = .inr (ci, fs)) (hc : classes[ci]? = some r) (hC : r.1 = C) : rc_ok ws (va_pl L f) a C := by
  obtain ⟨q, hq⟩ := va_pl_get (X := ws) (f := f) hm
  exact ⟨q, ci, fs, r, by rw [hq, h], hc, hC⟩
theorem rc_use {D : va_G} {ws pl : va_W} {a : Nat} {C : String} {s : State} {H : Heap} {tys : List (ClassId × FieldType)} (h : rc_ok ws pl a C) (hK : va_K D classes tys s) (hP : va_P D classes (ws ++ pl) H) : ∃ cell : Cell, H[a]? = some cell ∧ cell.vm.isStatics = false ∧ s.vm.findClass C = some cell.cls := by
  obtain ⟨q0, ci, fs, r, h1, h2, h3⟩ := h
  subst h3
  exact va_recv hK hP h2 h1
/-- the callee's start -/
theorem cl_pre {X : cx_T} {M : ms_T} {av : List Value} {tys tc : List (ClassId × FieldType)} {ws pl wc plc : va_W} {is it : List Nat} {H : Heap} (C : cx_ok X M) (hsp : sp_ok ws pl wc plc is) (hit : it.filterMap (fun i => tys[i]?) = tc) (hK : va_K (cx_D X) classes tys (cx_s X)) (hP : va_P (cx_D X) classes (ws ++ pl) H) (hD : va_D (cx_B X) (ws ++ pl)) :
    ∀ U : State, U.heap = H → (cx_s X).WarmedH U.vm → va_Pc av (fun U => U.heap.size = H.size ∧ tb_ok U ∧ va_P (cx_D X) classes (wc ++ plc) U.heap ∧ va_K (cx_D X) classes tc U ∧ va_D (fun _ => True) (wc ++ plc)) av.toArray U := fun U hU hW =>
  ⟨rfl, by rw [hU], tb_moved hW C.2.2.2.2.1, by rw [hU]; exact sp_P hsp hP, va_K.moved hW.alike (hK.sub it hit), (sp_D hsp hD).weaken (fun _ _ _ _ => trivial)⟩
section VVC
variable {X : cx_T} {M : ms_T} {Q : State → Prop} {k n : Nat} {tys tc : List (ClassId × FieldType)} {ws pl wc plc wr : va_W} {lv : List (Option Value)} {st : List Value} {pc idx nL a : Nat} {rm : Room} {y : MethodName} {b : ByteArray} {rt : Option FieldType} {pst : Option Value → Prop} {post : Option Value → va_W → va_W → List (ClassId × FieldType) → Prop}
theorem pb_any {H : Heap} {locs : List Loc} {ls : Array Slot} {rest : List Value} {av : List Value} (C : cx_ok X M) (hz : rm.cells = 0 ∧ rm.slots = 0) (hK : va_K (cx_D X) classes tys (cx_s X)) (hP : va_P (cx_D X) classes (ws ++ pl) H) (hD : va_D (cx_B X) (ws ++ pl)) (hS : va_S (cx_A X) (cx_s X).heap H locs) (hl : lo_has ls M.2.1 lv)
    (hr : va_Run (cx_p X) (cx_l X) (cx_e X) M.2.2.2 (cx_s X) (cx_m X) (cx_a X) (cx_b X) (cx_M X) (cx_c X) H locs k n rm.cells rm.slots (F0 (cx_m X) pc ls st) rest (cp_Q H.size pst av.toArray) (fun q => H.size ≤ q))
    (kk : ∀ v, pst v → VV X M Q k n tys ws pl lv (v.toList ++ rest) (pc + 3)) : W (cx_p X) (cx_l X) (cx_e X) M.2.2.2 (cx_s X) (cx_m X) (cx_a X) (cx_b X) (cx_M X) (cx_c X) H locs k n Q (F0 (cx_m X) pc ls st) := by
  refine bh_any (B := fun v _ => pst v) (A0 := cx_A X) (A1 := fun q => H.size ≤ q) hr hS (fun q h1 h2 => by omega) (fun q h => (C.2.2.2.2.2.1 q (Nat.le_trans hS.1 h)).1) (fun v t H1 locs1 ht hvm hb hz1 hk1 hS1 => ?_)
  rw [hz.1, hz.2]
  exact kk v hb C H1 locs1 ls hK (hP.kept (fun j q hj => hk1 q.1 ((hP j q hj).lt) (by have := (hP j q hj).lt; omega))) hD hS1 hl
theorem mb_pl {H : Heap} {locs : List Loc} {ls : Array Slot} {rest : List Value} {av : List Value} {is ir : List Nat} (C : cx_ok X M) (hw : cx_w X) (hz : rm.cells = 0 ∧ rm.slots = 0) (hsp : is.map (fun i => ws[i]?) = wc.map some ∧ va_nd is = true) (hrs : ir.map (fun i => ws[i]?) = wr.map some ∧ va_nd ir = true ∧ ∀ i ∈ ir, i ∉ is) (hK : va_K (cx_D X) classes tys (cx_s X)) (hP : va_P (cx_D X) classes (ws ++ pl) H) (hD : va_D (cx_B X) (ws ++ pl)) (hS : va_S (cx_A X) (cx_s X).heap H locs) (hl : lo_has ls M.2.1 lv)
    (hr : va_Run (cx_p X) (cx_l X) (cx_e X) M.2.2.2 (cx_s X) (cx_m X) (cx_a X) (cx_b X) (cx_M X) (cx_c X) H locs k n rm.cells rm.slots (F0 (cx_m X) pc ls st) rest (cm_Q (cx_D X) (wc ++ pl) H.size post av.toArray) (va_A (wc ++ pl) H.size))
    (kk : ∀ v w1 p1 t1, post v w1 p1 t1 → VV X M Q k n tys (wr ++ w1) p1 lv (v.toList ++ rest) (pc + 3)) : W (cx_p X) (cx_l X) (cx_e X) M.2.2.2 (cx_s X) (cx_m X) (cx_a X) (cx_b X) (cx_M X) (cx_c X) H locs k n Q (F0 (cx_m X) pc ls st) := by
  have hF : ∀ q, va_A (wc ++ pl) H.size q → cx_B X q := fun q h => by
    rcases h with ⟨k2, e2, h⟩ | h
    · exact hD.2 _ (q, e2) (va_part is hsp.1 k2 _ h)
    · exact (C.2.2.2.2.2.1 q (Nat.le_trans hS.1 h)).2
  refine bh_any (B := cm_B (cx_D X) (wc ++ pl) H.size post) (A0 := cx_A X) (A1 := va_A (wc ++ pl) H.size) hr hS (fun q h1 h2 => hw _ (hF q h2)) (fun q h => hw _ (hF q h)) (fun v t H1 locs1 ht hvm hb hz1 hk1 hS1 => ?_)
  obtain ⟨w1, p1, t1, g1, g2, g3, g4⟩ := hb
  rw [ht] at g2
  rw [hz.1, hz.2]
  obtain ⟨j1, j2⟩ := va_joinP hP hD is ir hsp.1 hrs.1 hrs.2.1 hrs.2.2 hk1 hF g2 g3
  exact kk v w1 p1 t1 g1 C H1 locs1 ls hK j1 j2 hS1 hl
theorem mb_no {H : Heap} {locs : List Loc} {ls : Array Slot} {rest : List Value} {av : List Value} {is ir : List Nat} (C : cx_ok X M) (hw : cx_w X) (hz : rm.cells = 0 ∧ rm.slots = 0) (hsp : is.map (fun i => ws[i]?) = wc.map some ∧ va_nd is = true) (hrs : ir.map (fun i => ws[i]?) = wr.map some ∧ va_nd ir = true ∧ ∀ i ∈ ir, i ∉ is) (hK : va_K (cx_D X) classes tys (cx_s X)) (hP : va_P (cx_D X) classes (ws ++ pl) H) (hD : va_D (cx_B X) (ws ++ pl)) (hS : va_S (cx_A X) (cx_s X).heap H locs) (hl : lo_has ls M.2.1 lv)
    (hr : va_Run (cx_p X) (cx_l X) (cx_e X) M.2.2.2 (cx_s X) (cx_m X) (cx_a X) (cx_b X) (cx_M X) (cx_c X) H locs k n rm.cells rm.slots (F0 (cx_m X) pc ls st) rest (cm_Q (cx_D X) (wc ++ []) H.size post av.toArray) (va_A (wc ++ []) H.size))
    (kk : ∀ v w1 p1 t1, post v w1 p1 t1 → VV X M Q k n tys (wr ++ (w1 ++ p1)) pl lv (v.toList ++ rest) (pc + 3)) : W (cx_p X) (cx_l X) (cx_e X) M.2.2.2 (cx_s X) (cx_m X) (cx_a X) (cx_b X) (cx_M X) (cx_c X) H locs k n Q (F0 (cx_m X) pc ls st) := by
  rw [List.append_nil] at hr
  have hF : ∀ q, va_A wc H.size q → cx_B X q := fun q h => by
    rcases h with ⟨k2, e2, h⟩ | h
    · obtain ⟨i, h1, h2⟩ := va_in_of is hsp.1 h
      exact hD.2 i (q, e2) (vv_at h2)
    · exact (C.2.2.2.2.2.1 q (Nat.le_trans hS.1 h)).2
  refine bh_any (B := cm_B (cx_D X) wc H.size post) (A0 := cx_A X) (A1 := va_A wc H.size) hr hS (fun q h1 h2 => hw _ (hF q h2)) (fun q h => hw _ (hF q h)) (fun v t H1 locs1 ht hvm hb hz1 hk1 hS1 => ?_)
  obtain ⟨w1, p1, t1, g1, g2, g3, g4⟩ := hb
  rw [ht] at g2
  rw [hz.1, hz.2]
  obtain ⟨j1, j2⟩ := va_joinQ hP hD is ir hsp.1 hrs.1 hrs.2.1 hrs.2.2 hk1 hF g2 g3
  exact kk v w1 p1 t1 g1 C H1 locs1 ls hK j1 j2 hS1 hl

theorem vv_pV {As : List Value} (rest : List Value) (hM : CP (cx_l X) y b nL rt rm (.ref a :: As) (cx_D X) tc (wc ++ plc) pst) (hL : lk_V M.2.2.1 idx y b nL rt As.length) (hd : decode M.1 pc = .ok (.invokevirtual idx, 3)) (hst : As.reverse ++ .ref a :: rest = st) (hrc : rc_ok ws pl a y.cls) (is : List Nat) (hsp : sp_ok ws pl wc plc is) (it : List Nat) (hit : it.filterMap (fun i => tys[i]?) = tc) (hR : rm_ok M.2.2.2 rm nL k n rest) (hz : rm.cells = 0 ∧ rm.slots = 0) (kk : ∀ v, pst v → VV X M Q k n tys ws pl lv (v.toList ++ rest) (pc + 3)) : VV X M Q k n tys ws pl lv st pc := fun C H locs ls hK hP hD hS hl => by
  subst hst
  exact pb_any C hz hK hP hD hS hl (rn_V C hL (hM H.size) cm_blind (rc_use hrc hK hP) (cl_pre C hsp hit hK hP hD) hl.1 hR hd) kk
theorem vv_mV (hw : cx_w X) {As : List Value} (rest : List Value) (hM : CM (cx_l X) y b nL rt rm (.ref a :: As) (cx_D X) tc (wc ++ pl) post) (hL : lk_V M.2.2.1 idx y b nL rt As.length) (hd : decode M.1 pc = .ok (.invokevirtual idx, 3)) (hst : As.reverse ++ .ref a :: rest = st) (hrc : rc_ok ws pl a y.cls) (is ir : List Nat) (hsp : is.map (fun i => ws[i]?) = wc.map some ∧ va_nd is = true) (hrs : ir.map (fun i => ws[i]?) = wr.map some ∧ va_nd ir = true ∧ ∀ i ∈ ir, i ∉ is) (it : List Nat) (hit : it.filterMap (fun i => tys[i]?) = tc) (hR : rm_ok M.2.2.2 rm nL k n rest) (hz : rm.cells = 0 ∧ rm.slots = 0) (kk : ∀ v w1 p1 t1, post v w1 p1 t1 → VV X M Q k n tys (wr ++ w1) p1 lv (v.toList ++ rest) (pc + 3)) : VV X M Q k n tys ws pl lv st pc := fun C H locs ls hK hP hD hS hl => by
  subst hst
  exact mb_pl C hw hz hsp hrs hK hP hD hS hl (rn_V C hL (hM H.size) cm_blind (rc_use hrc hK hP) (cl_pre C (is := is) (plc := pl) ⟨hsp.1, hsp.2, Or.inr rfl⟩ hit hK hP hD) hl.1 hR hd) kk
theorem vv_nV (hw : cx_w X) {As : List Value} (rest : List Value) (hM : CM (cx_l X) y b nL rt rm (.ref a :: As) (cx_D X) tc (wc ++ []) post) (hL : lk_V M.2.2.1 idx y b nL rt As.length) (hd : decode M.1 pc = .ok (.invokevirtual idx, 3)) (hst : As.reverse ++ .ref a :: rest = st) (hrc : rc_ok ws pl a y.cls) (is ir : List Nat) (hsp : is.map (fun i => ws[i]?) = wc.map some ∧ va_nd is = true) (hrs : ir.map (fun i => ws[i]?) = wr.map some ∧ va_nd ir = true ∧ ∀ i ∈ ir, i ∉ is) (it : List Nat) (hit : it.filterMap (fun i => tys[i]?) = tc) (hR : rm_ok M.2.2.2 rm nL k n rest) (hz : rm.cells = 0 ∧ rm.slots = 0) (kk : ∀ v w1 p1 t1, post v w1 p1 t1 → VV X M Q k n tys (wr ++ (w1 ++ p1)) pl lv (v.toList ++ rest) (pc + 3)) : VV X M Q k n tys ws pl lv st pc := fun C H locs ls hK hP hD hS hl => by
  subst hst
  exact mb_no C hw hz hsp hrs hK hP hD hS hl (rn_V C hL (hM H.size) cm_blind (rc_use hrc hK hP) (cl_pre C (is := is) (plc := []) ⟨hsp.1, hsp.2, Or.inl rfl⟩ hit hK hP hD) hl.1 hR hd) kk
theorem vv_pS {As : List Value} (rest : List Value) (hM : CP (cx_l X) y b nL rt rm As (cx_D X) tc (wc ++ plc) pst) (hL : lk_S M.2.2.1 idx y b nL rt As.length) (hd : decode M.1 pc = .ok (.invokestatic idx, 3)) (hst : As.reverse ++ rest = st) (is : List Nat) (hsp : sp_ok ws pl wc plc is) (it : List Nat) (hit : it.filterMap (fun i => tys[i]?) = tc) (hR : rm_ok M.2.2.2 rm nL k n rest) (hz : rm.cells = 0 ∧ rm.slots = 0) (kk : ∀ v, pst v → VV X M Q k n tys ws pl lv (v.toList ++ rest) (pc + 3)) : VV X M Q k n tys ws pl lv st pc := fun C H locs ls hK hP hD hS hl => by
  subst hst
  exact pb_any C hz hK hP hD hS hl (rn_S C hL (hM H.size) cm_blind (cl_pre C hsp hit hK hP hD) hl.1 hR hd) kk
theorem vv_mS (hw : cx_w X) {As : List Value} (rest : List Value) (hM : CM (cx_l X) y b nL rt rm As (cx_D X) tc (wc ++ pl) post) (hL : lk_S M.2.2.1 idx y b nL rt As.length) (hd : decode M.1 pc = .ok (.invokestatic idx, 3)) (hst : As.reverse ++ rest = st) (is ir : List Nat) (hsp : is.map (fun i => ws[i]?) = wc.map some ∧ va_nd is = true) (hrs : ir.map (fun i => ws[i]?) = wr.map some ∧ va_nd ir = true ∧ ∀ i ∈ ir, i ∉ is) (it : List Nat) (hit : it.filterMap (fun i => tys[i]?) = tc) (hR : rm_ok M.2.2.2 rm nL k n rest) (hz : rm.cells = 0 ∧ rm.slots = 0) (kk : ∀ v w1 p1 t1, post v w1 p1 t1 → VV X M Q k n tys (wr ++ w1) p1 lv (v.toList ++ rest) (pc + 3)) : VV X M Q k n tys ws pl lv st pc := fun C H locs ls hK hP hD hS hl => by
  subst hst
  exact mb_pl C hw hz hsp hrs hK hP hD hS hl (rn_S C hL (hM H.size) cm_blind (cl_pre C (is := is) (plc := pl) ⟨hsp.1, hsp.2, Or.inr rfl⟩ hit hK hP hD) hl.1 hR hd) kk
theorem vv_nS (hw : cx_w X) {As : List Value} (rest : List Value) (hM : CM (cx_l X) y b nL rt rm As (cx_D X) tc (wc ++ []) post) (hL : lk_S M.2.2.1 idx y b nL rt As.length) (hd : decode M.1 pc = .ok (.invokestatic idx, 3)) (hst : As.reverse ++ rest = st) (is ir : List Nat) (hsp : is.map (fun i => ws[i]?) = wc.map some ∧ va_nd is = true) (hrs : ir.map (fun i => ws[i]?) = wr.map some ∧ va_nd ir = true ∧ ∀ i ∈ ir, i ∉ is) (it : List Nat) (hit : it.filterMap (fun i => tys[i]?) = tc) (hR : rm_ok M.2.2.2 rm nL k n rest) (hz : rm.cells = 0 ∧ rm.slots = 0) (kk : ∀ v w1 p1 t1, post v w1 p1 t1 → VV X M Q k n tys (wr ++ (w1 ++ p1)) pl lv (v.toList ++ rest) (pc + 3)) : VV X M Q k n tys ws pl lv st pc := fun C H locs ls hK hP hD hS hl => by
  subst hst
  exact mb_no C hw hz hsp hrs hK hP hD hS hl (rn_S C hL (hM H.size) cm_blind (cl_pre C (is := is) (plc := []) ⟨hsp.1, hsp.2, Or.inl rfl⟩ hit hK hP hD) hl.1 hR hd) kk
theorem vv_pI {As : List Value} (rest : List Value) (hM : CP (cx_l X) y b nL none rm (.ref a :: As) (cx_D X) tc (wc ++ plc) pst) (hL : lk_I M.2.2.1 idx y b nL As.length) (hd : decode M.1 pc = .ok (.invokespecial idx, 3)) (hst : As.reverse ++ .ref a :: rest = st) (is : List Nat) (hsp : sp_ok ws pl wc plc is) (it : List Nat) (hit : it.filterMap (fun i => tys[i]?) = tc) (hR : rm_ok M.2.2.2 rm nL k n rest) (hz : rm.cells = 0 ∧ rm.slots = 0) (kk : ∀ v, pst v → VV X M Q k n tys ws pl lv (v.toList ++ rest) (pc + 3)) : VV X M Q k n tys ws pl lv st pc := fun C H locs ls hK hP hD hS hl => by
  subst hst
  exact pb_any C hz hK hP hD hS hl (rn_I C hL (hM H.size) cm_blind (cl_pre C hsp hit hK hP hD) hl.1 hR hd) kk
theorem vv_mI (hw : cx_w X) {As : List Value} (rest : List Value) (hM : CM (cx_l X) y b nL none rm (.ref a :: As) (cx_D X) tc (wc ++ pl) post) (hL : lk_I M.2.2.1 idx y b nL As.length) (hd : decode M.1 pc = .ok (.invokespecial idx, 3)) (hst : As.reverse ++ .ref a :: rest = st) (is ir : List Nat) (hsp : is.map (fun i => ws[i]?) = wc.map some ∧ va_nd is = true) (hrs : ir.map (fun i => ws[i]?) = wr.map some ∧ va_nd ir = true ∧ ∀ i ∈ ir, i ∉ is) (it : List Nat) (hit : it.filterMap (fun i => tys[i]?) = tc) (hR : rm_ok M.2.2.2 rm nL k n rest) (hz : rm.cells = 0 ∧ rm.slots = 0) (kk : ∀ v w1 p1 t1, post v w1 p1 t1 → VV X M Q k n tys (wr ++ w1) p1 lv (v.toList ++ rest) (pc + 3)) : VV X M Q k n tys ws pl lv st pc := fun C H locs ls hK hP hD hS hl => by
  subst hst
  exact mb_pl C hw hz hsp hrs hK hP hD hS hl (rn_I C hL (hM H.size) cm_blind (cl_pre C (is := is) (plc := pl) ⟨hsp.1, hsp.2, Or.inr rfl⟩ hit hK hP hD) hl.1 hR hd) kk
theorem vv_nI (hw : cx_w X) {As : List Value} (rest : List Value) (hM : CM (cx_l X) y b nL none rm (.ref a :: As) (cx_D X) tc (wc ++ []) post) (hL : lk_I M.2.2.1 idx y b nL As.length) (hd : decode M.1 pc = .ok (.invokespecial idx, 3)) (hst : As.reverse ++ .ref a :: rest = st) (is ir : List Nat) (hsp : is.map (fun i => ws[i]?) = wc.map some ∧ va_nd is = true) (hrs : ir.map (fun i => ws[i]?) = wr.map some ∧ va_nd ir = true ∧ ∀ i ∈ ir, i ∉ is) (it : List Nat) (hit : it.filterMap (fun i => tys[i]?) = tc) (hR : rm_ok M.2.2.2 rm nL k n rest) (hz : rm.cells = 0 ∧ rm.slots = 0) (kk : ∀ v w1 p1 t1, post v w1 p1 t1 → VV X M Q k n tys (wr ++ (w1 ++ p1)) pl lv (v.toList ++ rest) (pc + 3)) : VV X M Q k n tys ws pl lv st pc := fun C H locs ls hK hP hD hS hl => by
  subst hst
  exact mb_no C hw hz hsp hrs hK hP hD hS hl (rn_I C hL (hM H.size) cm_blind (cl_pre C (is := is) (plc := []) ⟨hsp.1, hsp.2, Or.inl rfl⟩ hit hK hP hD) hl.1 hR hd) kk
end VVC