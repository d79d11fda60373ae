/-! the law: rows -/
theorem vD_perm {A : Nat → Prop} {l r : va_W} (h : l.Perm r) (hD : va_D A l) : va_D A r := by
  have h1 : (l.map Prod.fst).Nodup := by
    refine List.pairwise_iff_getElem.mpr (fun i j hi hj hij he => ?_)
    rw [List.length_map] at hi hj
    rw [List.getElem_map, List.getElem_map] at he
    have h3 := hD.1 i j _ _ (List.getElem?_eq_getElem hi) (List.getElem?_eq_getElem hj) he
    omega
  have h2 : (r.map Prod.fst).Nodup := (h.map Prod.fst).nodup_iff.mp h1
  have h2 := List.pairwise_iff_getElem.mp h2
  refine ⟨fun i j p q hi hj hpq => ?_, fun k q hk => ?_⟩
  · have li := (List.getElem?_eq_some_iff.mp hi).1
    have lj := (List.getElem?_eq_some_iff.mp hj).1
    have key : ∀ a b : Nat, a < b → b < r.length → ∀ p q, r[a]? = some p → r[b]? = some q → p.1 = q.1 → False := fun a b hab hb p q ha hb2 e => h2 a b (by rw [List.length_map]; omega) (by rw [List.length_map]; exact hb) hab (by
      rw [List.getElem_map, List.getElem_map, (List.getElem?_eq_some_iff.mp ha).2, (List.getElem?_eq_some_iff.mp hb2).2]
      exact e)
    rcases Nat.lt_trichotomy i j with c | c | c
    · exact absurd (key i j c lj p q hi hj hpq) id
    · exact c
    · exact absurd (key j i c li q p hj hi hpq.symm) id
  · have hm : q ∈ l := h.mem_iff.mpr (List.mem_iff_getElem?.mpr ⟨k, hk⟩)
    obtain ⟨k2, hk2⟩ := List.mem_iff_getElem?.mp hm
    exact hD.2 k2 q hk2
theorem vP_perm {D : va_G} {cl : List vw_C} {l r : va_W} {H : Heap} (h : l.Perm r) (hP : va_P D cl l H) : va_P D cl r H := fun k q hk => by
  obtain ⟨k2, hk2⟩ := List.mem_iff_getElem?.mp (h.mem_iff.mpr (List.mem_iff_getElem?.mpr ⟨k, hk⟩))
  exact hP k2 q hk2
def lk_SW (own : String) (idx : Nat) (y : MethodName) (b : ByteArray) (nL : Nat) (rt : Option FieldType) (hh : hd_T) (np : Nat) : Prop := Cond.methodLink own idx y ∈ tb_l ∧ Cond.static y ∈ tb_l ∧ Cond.initialized y.cls ∈ tb_l ∧ Cond.codeWith y b nL rt hh ∈ tb_l ∧ (y.cls ≠ "java/lang/invoke/MethodHandle" ∧ y.cls ≠ "java/lang/invoke/VarHandle") ∧ (parseMethodDescriptor y.desc).map (fun d => d.parameters.length) = some np
section LWR
variable {X : cx_T} {M : ms_T} {Q : State → Prop} {k n : Nat} {tys tc : List (ClassId × FieldType)} {ws pl wc plc wr : va_W} {lv : List (Option Value)} {st : List Value} {pc idx nL : Nat} {rm : Room} {y : MethodName} {b : ByteArray} {rt : Option FieldType} {pst : Option Value → Prop} {post : Option Value → va_W → va_W → List (ClassId × FieldType) → Prop} {hh : hd_T}
theorem vv_perm {ws2 pl2 : va_W} (h : (ws ++ pl).Perm (ws2 ++ pl2)) (kk : VV X M Q k n tys ws2 pl2 lv st pc) : VV X M Q k n tys ws pl lv st pc := fun C H locs ls hK hP hD hS hl => kk C H locs ls hK (vP_perm h hP) (vD_perm h hD) hS hl
/-- the cell made last, behind the pool, joins the others -/
theorem vv_rot {c : Nat × va_E} (kk : VV X M Q k n tys (ws ++ [c]) pl lv st pc) : VV X M Q k n tys ws (pl ++ [c]) lv st pc := vv_perm (by
  rw [List.append_assoc]
  exact List.Perm.append_left ws List.perm_append_comm) kk
/-- what a constructor made last is a pool -/
theorem vv_split {w1 p1 : va_W} (kk : VV X M Q k n tys (ws ++ w1) p1 lv st pc) : VV X M Q k n tys (ws ++ (w1 ++ p1)) [] lv st pc := fun C H locs ls hK hP hD hS hl => by
  rw [List.append_nil, ← List.append_assoc] at hP hD
  exact kk C H locs ls hK hP hD hS hl
theorem vv_lald {a N : Nat} {cA : ClassId} {g : Nat → Int64} {z : Int} (hd : decode M.1 pc = .ok (.laload, 1)) (q0 t0 : Nat) (ha : ws[q0]? = some (a, .inl (cA, N, .inr (.inl g)))) (ht : tys[t0]? = some (cA, .long)) (hz : 0 ≤ z ∧ z < (N : Int) ∧ N < 2147483648) (kk : VV X M Q k n tys ws pl lv (.long (g z.toNat) :: st) (pc + 1)) : VV X M Q k n tys ws pl lv (.int (iI z) :: .ref a :: st) pc := fun C H locs ls hK hP hD hS hl =>
  va_lald C.1 C.2.1 hK hP q0 t0 (vv_at ha) ht (iI_in hz.1 hz.2.1 hz.2.2) hd (by rw [iI_cl hz.1 (by omega)]; exact kk C H locs ls hK hP hD hS hl)
/-- a constructor that makes cells, and the arrays' classes that it has met -/
theorem vv_xT (hw : cx_w X) {a : Nat} {As : List Value} (rest : List Value) (hM : CM (cx_l X) y b nL none rm (.ref a :: As) (cx_D X) tc (wc ++ []) post) (hL : lk_I M.2.2.1 idx y b nL As.length) (hd : decode M.1 pc = .ok (.invokespecial idx, 3)) (hst : As.reverse ++ .ref a :: rest = st) (is ir : List Nat) (hsp : is.map (fun i => ws[i]?) = wc.map some ∧ va_nd is = true) (hrs : ir.map (fun i => ws[i]?) = wr.map some ∧ va_nd ir = true ∧ ∀ i ∈ ir, i ∉ is) (it : List Nat) (hit : it.filterMap (fun i => tys[i]?) = tc) (hR : rm_ok M.2.2.2 rm nL k n rest) (kk : ∀ v w1 p1 t1, post v w1 p1 t1 → VV X M Q (k + rm.cells) (n + rm.slots) (tys ++ t1) (wr ++ (w1 ++ p1)) pl lv (v.toList ++ rest) (pc + 3)) : VV X M Q k n tys ws pl lv st pc := fun C H locs ls hK hP hD hS hl => by
  subst hst
  have hr := rn_I C hL (hM H.size) cm_blind (cl_pre C (is := is) (plc := []) ⟨hsp.1, hsp.2, Or.inl rfl⟩ hit hK hP hD) hl.1 hR hd (locs := locs)
  rw [List.append_nil] at hr
  have hF : ∀ q, va_A wc H.size q → cx_B X q := fun q h => by
    rcases h with ⟨k2, e2, h⟩ | h
    · obtain ⟨i, h1, h2⟩ := va_in_of is hsp.1 h
      exact hD.2 i (q, e2) (vv_at h2)
    · exact (C.2.2.2.2.2.1 q (Nat.le_trans hS.1 h)).2
  refine bh_any (B := cm_B (cx_D X) wc H.size post) (A0 := cx_A X) (A1 := va_A wc H.size) hr hS (fun q h1 h2 => hw _ (hF q h2)) (fun q h => hw _ (hF q h)) (fun v t H1 locs1 ht hvm hb hz1 hk1 hS1 => ?_)
  obtain ⟨w1, p1, t1, g1, g2, g3, g4⟩ := hb
  rw [ht] at g2
  obtain ⟨j1, j2⟩ := va_joinQ hP hD is ir hsp.1 hrs.1 hrs.2.1 hrs.2.2 hk1 hF g2 g3
  have hK2 := va_K.moved hvm.symm g4
  refine kk v w1 p1 t1 g1 C H1 locs1 ls ⟨hK.1, fun j x hx => ?_⟩ j1 j2 hS1 hl
  by_cases hj : j < tys.length
  · rw [List.getElem?_append_left hj] at hx
    exact hK.2 j x hx
  · rw [List.getElem?_append_right (by omega)] at hx
    exact hK2.2 _ x hx
/-- the script, and the world of throws, as the law began -/
def lx (X : cx_T) (b N : Nat) (g : Nat → Int) : Prop := TX (cx_s X) ∧ cx_A X = (fun q => (cx_s X).heap.size ≤ q) ∧ va_X b N (fun j => iI (g j)) (cx_s X) (cx_s X).heap ∧ b < (cx_s X).heap.size
theorem lx_TX {b N : Nat} {g : Nat → Int} {H : Heap} {locs : List Loc} {U : State} (h : lx X b N g) (hS : va_S (cx_A X) (cx_s X).heap H locs) (hU : U.heap = H) (hW : (cx_s X).WarmedH U.vm) : TX U := by
  refine TX.kept hW (fun q hq => ?_) h.1
  rw [hU]
  exact hS.2.1 q hq (by rw [h.2.1]; omega)
theorem lx_X {b N : Nat} {g : Nat → Int} {H : Heap} {locs : List Loc} {U : State} (h : lx X b N g) (hS : va_S (cx_A X) (cx_s X).heap H locs) (hU : U.heap = H) (hW : (cx_s X).WarmedH U.vm) : va_X b N (fun j => iI (g j)) U U.heap := by
  rw [hU]
  exact va_X.moved hW.alike (h.2.2.1.kept (hS.2.1 b h.2.2.2 (by rw [h.2.1]; have := h.2.2.2; omega)))
/-- an int of the script; its length -/
theorem vv_sld {b N : Nat} {g : Nat → Int} {z : Int} (hs : va_X b N (fun j => iI (g j)) (cx_s X) (cx_s X).heap ∧ b < (cx_s X).heap.size ∧ cx_A X = (fun q => (cx_s X).heap.size ≤ q)) (hd : decode M.1 pc = .ok (.iaload, 1)) (hz : 0 ≤ z ∧ z < (N : Int) ∧ N < 2147483648) (kk : VV X M Q k n tys ws pl lv (.int (iI (g z.toNat)) :: st) (pc + 1)) : VV X M Q k n tys ws pl lv (.int (iI z) :: .ref b :: st) pc := fun C H locs ls hK hP hD hS hl =>
  va_sld C.1 C.2.1 hs.1 hs.2.1 (by rw [hs.2.2]; have := hs.2.1; omega) hS (iI_in hz.1 hz.2.1 hz.2.2) hd (by rw [iI_cl hz.1 (by omega)]; exact kk C H locs ls hK hP hD hS hl)
theorem vv_slen {b N : Nat} {g : Nat → Int} (hs : va_X b N (fun j => iI (g j)) (cx_s X) (cx_s X).heap ∧ b < (cx_s X).heap.size ∧ cx_A X = (fun q => (cx_s X).heap.size ≤ q)) (hd : decode M.1 pc = .ok (.arraylength, 1)) (kk : VV X M Q k n tys ws pl lv (.int (iI (N : Int)) :: st) (pc + 1)) : VV X M Q k n tys ws pl lv (.ref b :: st) pc := fun C H locs ls hK hP hD hS hl =>
  va_slen C.1 C.2.1 hs.1 hs.2.1 (by rw [hs.2.2]; have := hs.2.1; omega) hS hd (kk C H locs ls hK hP hD hS hl)
theorem rn_SW {As rest : List Value} {H : Heap} {locs : List Loc} {ls : Array Slot} {Pc : Array Value → State → Prop} {Qc : Array Value → State → Outcome → State → Prop} {free : Addr → Prop} (C : cx_ok X M) (hL : lk_SW M.2.2.1 idx y b nL rt hh As.length) (hM : Met (cx_l X) y [.codeWith y b nL rt hh] rm Pc Qc rm.cells rm.slots free) (hbl : FrameBlind Pc)
    (hPc : ∀ U : State, U.heap = H → (cx_s X).WarmedH U.vm → Pc As.toArray U) (hls : ls.size = M.2.1) (hR : rm_ok M.2.2.2 rm nL k n rest) (hd : decode M.1 pc = .ok (.invokestatic idx, 3)) :
    va_Run (cx_p X) (cx_l X) (cx_e X) M.2.2.2 (cx_s X) (cx_m X) (cx_a X) (cx_b X) (cx_M X) (cx_c X) H locs k n rm.cells rm.slots (F0 (cx_m X) pc ls (As.reverse ++ rest)) rest (Qc As.toArray) free := by
  obtain ⟨h1, h2, h4, h5, h6, h7⟩ := hL
  have hts : ∀ w ∈ tb_l, w.before (cx_a X) (cx_s X) = true := fun w hw => C.2.2.2.2.1 w hw _
  have hK : Back (cx_l X) M.2.2.2 (cx_p X) (cx_e X) (cx_b X) (cx_s X) (cx_a X) y 3 8 (PreOf M.2.2.2 rm.cells rm.slots Pc) (PostOf Qc rm.cells rm.slots free) := va_backW (hh := hh) (bytes := b) (maxL := nL) (ret := rt) hM hbl rfl rfl hR.1.1 hR.1.2 (rn_ws C h5) (List.mem_singleton.mpr rfl) (fun a' U hW => tb_moved hW C.2.2.2.2.1 _ h4 a')
  intro T hT X0
  obtain ⟨mk, methM, cM, hnamed, hmethM, -, -, -, -, -, -, hsigM⟩ := Cond.codeWith_spec (hts _ h5)
  have hstatic : methM.isStatic = true := Cond.static_spec hnamed hmethM (hts _ h2)
  obtain ⟨kP, hkP, -⟩ := className_of_methodNamed hnamed
  have hinitP : kP.init = .initialized := Cond.initialized_spec (findClass_of_methodNamed hnamed) hkP (hts _ h4)
  obtain ⟨vm1, X1, hstep1⟩ := X0.invokestatic C.1 C.2.2.2.1 (hts _ h1) hnamed hmethM hstatic hkP hinitP h6 (g := F0 (cx_m X) pc ls (As.reverse ++ rest)) rfl (argsL := As) (rest := rest) (lk_np h7 _ hsigM) rfl (by rw [C.2.1]; exact hd)
  obtain ⟨v, ⟨U2, l2, c2, s2⟩, X2, hpost, hsteps⟩ := hK (cx_m X) (cx_M X) (cx_c X) ⟨T.setVm vm1, locs, k, n⟩ { F0 (cx_m X) pc ls (As.reverse ++ rest) with stack := rest } (.invokestatic idx) mk As.toArray X1 rfl (hls.trans C.2.2.1.symm) (by rw [C.2.1]; exact hd) (lv_room hR.2.2) (X1.named hnamed) ⟨hR.2.1.1, hR.2.1.2, hPc (T.setVm vm1) hT X1.warmed⟩
  obtain ⟨g2, mk2, t, L, e1, e2, hq, e3, hL, e4, e5⟩ := hpost
  dsimp only [Pt.U, Pt.locs, Pt.cells, Pt.slots] at X2 e1 e2 e3 e4 e5 hsteps
  subst e3; subst e4; subst e5
  exact ⟨v, (T.setVm vm1).calling g2 mk2 As.toArray, t, U2, L, hT, X2, hL, e1, e2, hq, fun target h => hstep1 _ (fun acts => by rw [doInvoke_state]; exact hsteps.trans h)⟩
/-- a catching method that throws inside: its code comes back, a cell is spent -/
theorem vv_pSW {sb sN : Nat} {sg : Nat → Int} (hx : lx X sb sN sg) {As : List Value} (rest : List Value) (hM : CPW (cx_l X) y b nL rt hh rm As (cx_D X) tc (wc ++ plc) pst) (hL : lk_SW M.2.2.1 idx y b nL rt hh As.length) (hd : decode M.1 pc = .ok (.invokestatic idx, 3)) (hst : As.reverse ++ rest = st) (is : List Nat) (hsp : sp_ok ws pl wc plc is) (it : List Nat) (hit : it.filterMap (fun i => tys[i]?) = tc) (hR : rm_ok M.2.2.2 rm nL k n rest) (kk : ∀ v, pst v → VV X M Q (k + rm.cells) (n + rm.slots) tys ws pl lv (v.toList ++ rest) (pc + 3)) : VV X M Q k n tys ws pl lv st pc := fun C H locs ls hK hP hD hS hl => by
  subst hst
  refine bh_any (B := fun v _ => pst v) (A0 := cx_A X) (A1 := fun q => H.size ≤ q) (rn_SW C hL (hM H.size) ct_blind (fun U hU hW => ?_) hl.1 hR hd) hS (fun q h1 h2 => by omega) (fun q h => (C.2.2.2.2.2.1 q (Nat.le_trans hS.1 h)).1) (fun v t H1 locs1 ht hvm hb hz1 hk1 hS1 => ?_)
  · obtain ⟨c0, c1, c2, c3, c4, c5⟩ := cl_pre (av := As) C hsp hit hK hP hD U hU hW
    exact ⟨c0, ⟨c1, lx_TX hx hS hU hW⟩, c2, c3, c4, c5⟩
  · exact kk v hb C H1 locs1 ls hK (hP.kept (fun j q hj => hk1 q.1 ((hP j q hj).lt) (by have := (hP j q hj).lt; omega))) hD hS1 hl
/-- a catching method that returns -/
theorem vv_mSW (hw : cx_w X) {As : List Value} (rest : List Value) (hM : CMW (cx_l X) y b nL rt hh rm As (cx_D X) tc (wc ++ pl) post) (hL : lk_SW M.2.2.1 idx y b nL rt hh As.length) (hd : decode M.1 pc = .ok (.invokestatic idx, 3)) (hst : As.reverse ++ rest = st) (is ir : List Nat) (hsp : is.map (fun i => ws[i]?) = wc.map some ∧ va_nd is = true) (hrs : ir.map (fun i => ws[i]?) = wr.map some ∧ va_nd ir = true ∧ ∀ i ∈ ir, i ∉ is) (it : List Nat) (hit : it.filterMap (fun i => tys[i]?) = tc) (hR : rm_ok M.2.2.2 rm nL k n rest) (hz : rm.cells = 0 ∧ rm.slots = 0) (kk : ∀ v w1 p1 t1, post v w1 p1 t1 → VV X M Q k n tys (wr ++ w1) p1 lv (v.toList ++ rest) (pc + 3)) : VV X M Q k n tys ws pl lv st pc := fun C H locs ls hK hP hD hS hl => by
  subst hst
  exact mb_pl C hw hz hsp hrs hK hP hD hS hl (rn_SW C hL (hM H.size) cm_blind (cl_pre C (is := is) (plc := pl) ⟨hsp.1, hsp.2, Or.inr rfl⟩ hit hK hP hD) hl.1 hR hd) kk
theorem vv_same {x : Int32} {off : Int} {tgt : Nat} (hd : decode M.1 pc = .ok (.if_icmp .eq off, 3)) (ht : (pc : Int) + off = (tgt : Int)) (kt : VV X M Q k n tys ws pl lv st tgt) : VV X M Q k n tys ws pl lv (.int x :: .int x :: st) pc := fun C H locs ls hK hP hD hS hl => lv_icmp_eq C.1 C.2.1 hd ht (fun _ => kt C H locs ls hK hP hD hS hl) (fun q => absurd rfl q)
end LWR
/-! SheetTreesLaw.cell, of the script -/
set_option maxHeartbeats 4000000 in
set_option maxRecDepth 100000 in
theorem cell_v {X : cx_T} {b N sz : Nat} {g : Nat → Int} {k : Int} (hs : va_X b N (fun j => iI (g j)) (cx_s X) (cx_s X).heap ∧ b < (cx_s X).heap.size ∧ cx_A X = (fun q => (cx_s X).heap.size ≤ q)) (hA : cx_A X = (fun q => sz ≤ q)) (hr : (cx_M X).sig.returnType = some .int) (hk : 0 ≤ k ∧ k < 100) (hN : N < 2147483648) : VV X (b_LW_cell, 2, "SheetTreesLaw", rm_0) (cr X sz (fun r => r = some (.int (iI (cel g N k)))) rm_0) 0 0 [] [] [] [some (.ref b), some (.int (iI k))] [] 0 := by
  refine vv_iload_n d_LW_cell_0 rfl ?_
  refine vv_aload_n d_LW_cell_1 rfl ?_
  refine vv_slen hs d_LW_cell_2 ?_
  refine vv_icmp_ge (tgt := 12) d_LW_cell_3 (by decide) ⟨by omega, by omega⟩ (fun c3 => ?_) (fun c3 => ?_)
  · refine vv_iconst d_LW_cell_12 ?_
    exact vp_iret hA hr d_LW_cell_13 (by decide) (by decide) (by unfold cel; rw [if_neg (by omega)])
  · refine vv_aload_n d_LW_cell_6 rfl ?_
    refine vv_iload_n d_LW_cell_7 rfl ?_
    refine vv_sld hs d_LW_cell_8 (by omega) ?_
    refine vv_goto (tgt := 13) d_LW_cell_9 (by decide) ?_
    exact vp_iret hA hr d_LW_cell_13 (by decide) (by decide) (by unfold cel; rw [if_pos (by omega)])
theorem c_cell (l : Launch) (D : va_G) (b N : Nat) (g : Nat → Int) (k : Int) (hk : 0 ≤ k ∧ k < 100) (hN : N < 2147483648) (sz : Nat) : Met l y_LW_cell [.code y_LW_cell b_LW_cell 2 (some .int)] rm_0 (va_Pc [.ref b, .int (iI k)] (fun U => U.heap.size = sz ∧ tb_ok U ∧ va_X b N (fun j => iI (g j)) U U.heap ∧ b < sz ∧ va_K D classes [] U)) (cp_Q sz (fun r => r = some (.int (iI (cel g N k))))) rm_0.cells rm_0.slots (fun q => sz ≤ q) := by
  refine Met.ofW (cc := b_LW_cell) (maxL := 2) (ret := some .int) (by decide) rfl ?_
  intro p e s m args below meth c s₁ B hml hv
  obtain ⟨rfl, hsz, hTB, hX, hb, hK⟩ := hv
  subst hsz
  rw [lg_entry_eq]
  exact cell_v (X := (p, l, e, s, m, ([.ref b, .int (iI k)] : List Value).toArray, below, meth, c, D, (fun q => s.heap.size ≤ q), fun _ => True)) ⟨hX, hb, rfl⟩ rfl B.returns hk hN
    ⟨B.exec, B.bytes, hml, findClass_of_methodNamed B.named, hTB, fun q h => ⟨h, trivial⟩, B.notSynchronized⟩ s.heap [] _ hK (fun j q hj => (by cases hj)) ⟨fun i j p q hi => (by cases hi), fun j q hj => (by cases hj)⟩ va_S.rf (lo_entry [.ref b, .int (iI k)] (Nat.le_of_ble_eq_true rfl))
theorem cs_blind {av : List Value} {D : va_G} {sz b N : Nat} {g : Nat → Int} : FrameBlind (va_Pc av (fun U => U.heap.size = sz ∧ tb_ok U ∧ va_X b N (fun j => iI (g j)) U U.heap ∧ b < sz ∧ va_K D classes [] U)) := fun a U g2 mk q => by
  obtain ⟨q0, qz, q1, q2, q3, q4⟩ := q
  exact ⟨q0, qz, tb_same (s := U) (U := U.calling g2 mk a) rfl q1, va_X.moved (u := U) (U := U.calling g2 mk a) (Vm.Alike.refl U.vm) q2, q3, va_K.moved (u := U) (U := U.calling g2 mk a) (Vm.Alike.refl U.vm) q4⟩
theorem vv_cell {X : cx_T} {M : ms_T} {Q : State → Prop} {k n : Nat} {tys : List (ClassId × FieldType)} {ws pl : va_W} {lv : List (Option Value)} {st : List Value} {pc : Nat} {b N : Nat} {g : Nat → Int} {z : Int} (hx : lx X b N g) (rest : List Value) (hz : 0 ≤ z ∧ z < 100) (hN : N < 2147483648) (hL : lk_S M.2.2.1 48 y_LW_cell b_LW_cell 2 (some .int) 2) (hd : decode M.1 pc = .ok (.invokestatic 48, 3)) (hst : .int (iI z) :: .ref b :: rest = st) (hR : rm_ok M.2.2.2 rm_0 2 k n rest) (kk : VV X M Q k n tys ws pl lv (.int (iI (cel g N z)) :: rest) (pc + 3)) : VV X M Q k n tys ws pl lv st pc := fun C H locs ls hK hP hD hS hl => by
  subst hst
  refine pb_any (pst := fun r => r = some (.int (iI (cel g N z)))) (rm := rm_0) (av := [.ref b, .int (iI z)]) C ⟨rfl, rfl⟩ hK hP hD hS hl (rn_S (As := [.ref b, .int (iI z)]) (rest := rest) C hL (c_cell (cx_l X) (cx_D X) b N g z hz hN H.size) cs_blind (fun U hU hW => ⟨rfl, by rw [hU], tb_moved hW C.2.2.2.2.1, lx_X hx hS hU hW, Nat.lt_of_lt_of_le hx.2.2.2 hS.1, va_K.moved hW.alike (hK.sub [] rfl)⟩) hl.1 hR hd) (fun v hv => ?_)
  subst hv
  exact kk
theorem lg_same (x : Int64) : lg_cmp x x = iI 0 := by
  unfold lg_cmp
  simp only [gt_iff_lt, Int64.lt_irrefl, if_false, if_true]
  rfl
