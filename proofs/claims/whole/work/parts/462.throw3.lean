/-! methods with handlers: contracts, catching -/
abbrev hd_T : Type := List (Nat × Nat × Nat × Nat)
def CPW (l : Launch) (y : MethodName) (b : ByteArray) (nL : Nat) (rt : Option FieldType) (hh : hd_T) (rm : Room) (av : List Value) (D : va_G) (tys : List (ClassId × FieldType)) (ws : va_W) (post : Option Value → Prop) : Prop :=
  ∀ sz : Nat, Met l y [.codeWith y b nL rt hh] rm (va_Pc av (fun U => (U.heap.size = sz ∧ TX U) ∧ tb_ok U ∧ va_P D classes ws U.heap ∧ va_K D classes tys U ∧ va_D (fun _ => True) ws)) (cp_Q sz post) rm.cells rm.slots (fun q => sz ≤ q)
def CMW (l : Launch) (y : MethodName) (b : ByteArray) (nL : Nat) (rt : Option FieldType) (hh : hd_T) (rm : Room) (av : List Value) (D : va_G) (tys : List (ClassId × FieldType)) (ws : va_W) (post : Option Value → va_W → va_W → List (ClassId × FieldType) → Prop) : Prop :=
  ∀ sz : Nat, Met l y [.codeWith y b nL rt hh] rm (va_Pc av (fun U => U.heap.size = sz ∧ tb_ok U ∧ va_P D classes ws U.heap ∧ va_K D classes tys U ∧ va_D (fun _ => True) ws)) (cm_Q D ws sz post) rm.cells rm.slots (va_A ws sz)
def tcw (X : cx_T) (sz : Nat) (hh : hd_T) : Prop := (cx_s X).heap.size = sz ∧ TX (cx_s X) ∧ cx_A X = (fun q => sz ≤ q) ∧ (cx_c X).exceptionTable.toList.map (fun h => (h.startPc, h.endPc, h.handlerPc, h.catchType)) = hh ∧ (cx_s X).vm.method? (cx_m X) = some (cx_M X) ∧ (cx_M X).code = some (cx_c X)
theorem cmw_of {l : Launch} {y : MethodName} {b : ByteArray} {nL : Nat} {rt : Option FieldType} {hh : hd_T} {rm : Room} {av : List Value} {D : va_G} {tys : List (ClassId × FieldType)} {ws pl : va_W} {post : Option Value → va_W → va_W → List (ClassId × FieldType) → Prop}
    (hy : plainName y.cls = true) (hav : (lg_sl av).length ≤ nL)
    (body : ∀ (X : cx_T) (sz : Nat), cx_l X = l → (cx_M X).sig.returnType = rt → (cx_M X).name = y.name → cx_D X = D → cx_A X = va_A (ws ++ pl) sz → cx_w X → VV X (b, nL, y.cls, rm) (cq X (ws ++ pl) sz post rm) 0 0 tys ws pl (lo_pad (lo_args av) nL) [] 0) :
    CMW l y b nL rt hh rm av D tys (ws ++ pl) post := by
  intro sz
  refine va_MetW (cc := b) (maxL := nL) (ret := rt) (hh := hh) hy rfl ?_
  intro p e s m args below meth c s₁ B hml hv
  obtain ⟨rfl, hsz, hTB, hP, hK, hD0⟩ := hv
  subst hsz
  rw [lg_entry_eq]
  exact body (p, l, e, s, m, av.toArray, below, meth, c, D, va_A (ws ++ pl) s.heap.size, va_A (ws ++ pl) s.heap.size) s.heap.size rfl B.returns (name_of_methodNamed B.named B.method).1 rfl rfl (fun _ h => h)
    ⟨B.exec, B.bytes, hml, findClass_of_methodNamed B.named, hTB, fun q h => ⟨Or.inr h, Or.inr h⟩, B.notSynchronized⟩ s.heap [] _ hK hP hD0.self va_S.rf (lo_entry av hav)
theorem cpw_of {l : Launch} {y : MethodName} {b : ByteArray} {nL : Nat} {rt : Option FieldType} {hh : hd_T} {rm : Room} {av : List Value} {D : va_G} {tys : List (ClassId × FieldType)} {ws pl : va_W} {post : Option Value → Prop}
    (hy : plainName y.cls = true) (hav : (lg_sl av).length ≤ nL)
    (body : ∀ (X : cx_T) (sz : Nat), cx_l X = l → (cx_M X).sig.returnType = rt → cx_D X = D → cx_A X = (fun q => sz ≤ q) → tcw X sz hh → VV X (b, nL, y.cls, rm) (cr X sz post rm) 0 0 tys ws pl (lo_pad (lo_args av) nL) [] 0) :
    CPW l y b nL rt hh rm av D tys (ws ++ pl) post := by
  intro sz
  refine va_MetW (cc := b) (maxL := nL) (ret := rt) (hh := hh) hy rfl ?_
  intro p e s m args below meth c s₁ B hml hv
  obtain ⟨rfl, ⟨hsz, hTX⟩, hTB, hP, hK, hD0⟩ := hv
  subst hsz
  have X0 := Stand.of_body B
  obtain ⟨m9, meth9, c9, hn9, h1, h2, h3, h4, h5, -⟩ := Cond.codeWith_spec (atoms_spec (ws := [Cond.codeWith y b nL rt hh]) B.pre _ List.mem_cons_self)
  cases B.named.symm.trans hn9
  cases B.method.symm.trans h1
  cases X0.code.symm.trans h2
  rw [lg_entry_eq]
  exact body (p, l, e, s, m, av.toArray, below, meth, c, D, (fun q => s.heap.size ≤ q), fun _ => True) s.heap.size rfl B.returns rfl rfl ⟨rfl, hTX, rfl, h5, B.method, h2⟩
    ⟨B.exec, B.bytes, hml, findClass_of_methodNamed B.named, hTB, fun q h => ⟨h, trivial⟩, B.notSynchronized⟩ s.heap [] _ hK hP hD0 va_S.rf (lo_entry av hav)
section CATCH
variable {X : cx_T} {M : ms_T} {k n : Nat} {tys tc' : List (ClassId × FieldType)} {ws pl wc plc : va_W} {lv : List (Option Value)} {pc sz idx nL a : Nat} {rm : Room} {xn own : String} {y : MethodName} {b : ByteArray} {rt : Option FieldType} {st : List Value} {Q : State → Prop} {hh : hd_T}
theorem hd_cons {c : Code} {q : Nat × Nat × Nat × Nat} {hr : hd_T} {es : List ExceptionTableEntry} (h : es.map (fun h => (h.startPc, h.endPc, h.handlerPc, h.catchType)) = q :: hr) : ∃ (x : ExceptionTableEntry) (t : List ExceptionTableEntry), es = x :: t ∧ (x.startPc = q.1 ∧ x.endPc = q.2.1 ∧ x.handlerPc = q.2.2.1 ∧ x.catchType = q.2.2.2) ∧ t.map (fun h => (h.startPc, h.endPc, h.handlerPc, h.catchType)) = hr := by
  cases es with
  | nil => cases h
  | cons x t =>
    rw [List.map_cons] at h
    obtain ⟨h1, h2⟩ := List.cons.inj h
    subst h1
    exact ⟨x, t, rfl, ⟨rfl, rfl, rfl, rfl⟩, h2⟩
theorem vv_catch1 {As : List Value} (rest : List Value) (ht : tcw X sz hh) {q : Nat × Nat × Nat × Nat} {hr : hd_T} (hq : hh = q :: hr) (hcv : q.1 ≤ pc ∧ pc < q.2.1 ∧ q.2.2.2 ≠ 0) (hcl : Cond.classLink M.2.2.1 q.2.2.2 xn ∈ tb_l)
    (hM : CT (cx_l X) y b nL rt rm (.ref a :: As) (cx_D X) tc' (wc ++ plc) xn) (hL : lk_V M.2.2.1 idx y b nL rt As.length) (hl1 : Cond.methodLink M.2.2.1 idx y ∈ tb_l) (hd : decode M.1 pc = .ok (.invokevirtual idx, 3)) (hst : As.reverse ++ .ref a :: rest = st) (hrc : rc_ok ws pl a y.cls) (is : List Nat) (hsp : sp_ok ws pl wc plc is) (it : List Nat) (hit : it.filterMap (fun i => tys[i]?) = tc') (hR : rm_ok M.2.2.2 rm nL k n rest)
    (kk : ∀ v : Nat, VV X M Q (k + rm.cells) (n + rm.slots) tys ws pl lv [.ref v] q.2.2.1) : VV X M Q k n tys ws pl lv st pc := fun C H locs ls hK hP hD hS hl => by
  subst hst
  obtain ⟨hsz, hTX, hA, hex, hme, hco⟩ := ht
  have hts : ∀ w ∈ tb_l, w.before (cx_a X) (cx_s X) = true := fun w hw => C.2.2.2.2.1 w hw _
  subst hq
  obtain ⟨x, t, hes, ⟨hx1, hx2, hx3, hx4⟩, -⟩ := hd_cons (c := cx_c X) hex
  intro T hT X0
  obtain ⟨v, U, L, X', hLf, hX, hz, hk, hsteps⟩ := tcall hM hL hl1 hd hrc is hsp it hit hR C hTX (fun q hq => hS.2.1 q hq (by rw [hA]; omega)) hK hP hD hl T hT X0
  have hpl : (cx_e X).platform.magicAccessors = ({} : Platform).magicAccessors := by rw [X'.admits.platform]
  obtain ⟨cc, hfcc, hlks⟩ := Cond.classLink_spec C.2.2.2.1 (hts _ hcl) (cx_e X).platform hpl
  obtain ⟨hg1, hw1, hrd1⟩ := State.classEntry (e := cx_e X) X'.warmed hlks
  generalize hvm : U.vm.noted (cx_m X).cls q.2.2.2 (.cls cc) = vm1 at hg1 hw1 hrd1
  obtain ⟨hx5, ce, hc1, hc2, hc3⟩ := hX
  have e1 : cc = ce.cls := Option.some.inj (hfcc.symm.trans hc2)
  subst e1
  have hcell : ((U.setTop (F0 (cx_m X) pc ls rest)).pushFrame (.throwing v)).heap[v]? = some ce := by rw [throwing_heap]; exact hc1
  have hvme : ((U.setTop (F0 (cx_m X) pc ls rest)).pushFrame (.throwing v)).vm = U.vm := throwing_vm _ _ _
  have hobj : ∀ k, ce.vm ≠ .statics k := fun k h => by rw [hc3] at h; cases h
  have hkc : ∃ k, vm1.classes[ce.cls]? = some k := Vm.classAt_of_findClass (name := xn) (by rw [hw1.alike.findClass]; exact hfcc)
  have hfind : FindsV (cx_e X) ((U.setTop (F0 (cx_m X) pc ls rest)).pushFrame (.throwing v)) (F0 (cx_m X) pc ls rest) v (.found q.2.2.1) (((U.setTop (F0 (cx_m X) pc ls rest)).pushFrame (.throwing v)).setVm vm1) := by
    intro Q' E d acts
    rw [W.findHandler_eq (meth := cx_M X) (code := cx_c X) (by rw [hvme]; exact X'.method') hco, hes]
    rw [go_cold (vm' := vm1) (c := ce.cls) (cell := ce) (by show covers x pc = true; unfold covers; rw [hx1, hx2]; simp [hcv.1, hcv.2.1]) (by rw [hx4]; exact hcv.2.2) (by rw [hvme, hx4]; exact hg1) (by rw [hvme, ← hvm, Vm.size_noted]; exact Nat.le_refl _) hcell hobj hkc hkc, if_pos (va_asg _ _), hx3]
  have hat : At U (F0 (cx_m X) pc ls rest).method (cx_c X) (cx_b X) := X'.here
  have hS2 : va_S (cx_A X) (cx_s X).heap U.heap (locs ++ L) := ⟨Nat.le_trans hS.1 hz, fun q h1 h2 => by rw [hk q (Nat.lt_of_lt_of_le h1 hS.1)]; exact hS.2.1 q h1 h2, fun q hq => by
    rcases List.mem_append.mp hq with h | h
    · exact hS.2.2 q h
    · rw [hA]
      show sz ≤ q.base
      have := hLf q h
      have := hS.1
      omega⟩
  obtain ⟨t2, a1, b1⟩ := kk v C U.heap (locs ++ L) ls hK (hP.kept (fun j q hj => hk q.1 ((hP j q hj).lt))) hD hS2 hl (U.setVm vm1) rfl (X'.noted hw1)
  exact ⟨t2, hsteps.trans (caughtV hat hfind a1), b1⟩
theorem vv_catch2 {As : List Value} (rest : List Value) {xo : String} (ht : tcw X sz hh) {q q2 : Nat × Nat × Nat × Nat} {hr : hd_T} (hq : hh = q :: q2 :: hr) (hcv : q.1 ≤ pc ∧ pc < q.2.1 ∧ q.2.2.2 ≠ 0) (hcv2 : q2.1 ≤ pc ∧ pc < q2.2.1 ∧ q2.2.2.2 ≠ 0) (hcl : Cond.classLink M.2.2.1 q.2.2.2 xo ∈ tb_l) (hcl2 : Cond.classLink M.2.2.1 q2.2.2.2 xn ∈ tb_l) (hnc : (xn, xo) ∈ nc_l)
    (hM : CT (cx_l X) y b nL rt rm (.ref a :: As) (cx_D X) tc' (wc ++ plc) xn) (hL : lk_V M.2.2.1 idx y b nL rt As.length) (hl1 : Cond.methodLink M.2.2.1 idx y ∈ tb_l) (hd : decode M.1 pc = .ok (.invokevirtual idx, 3)) (hst : As.reverse ++ .ref a :: rest = st) (hrc : rc_ok ws pl a y.cls) (is : List Nat) (hsp : sp_ok ws pl wc plc is) (it : List Nat) (hit : it.filterMap (fun i => tys[i]?) = tc') (hR : rm_ok M.2.2.2 rm nL k n rest)
    (kk : ∀ v : Nat, VV X M Q (k + rm.cells) (n + rm.slots) tys ws pl lv [.ref v] q2.2.2.1) : VV X M Q k n tys ws pl lv st pc := fun C H locs ls hK hP hD hS hl => by
  subst hst
  obtain ⟨hsz, hTX, hA, hex, hme, hco⟩ := ht
  have hts : ∀ w ∈ tb_l, w.before (cx_a X) (cx_s X) = true := fun w hw => C.2.2.2.2.1 w hw _
  subst hq
  obtain ⟨x, t, hes, ⟨hx1, hx2, hx3, hx4⟩, hex2⟩ := hd_cons (c := cx_c X) hex
  obtain ⟨x', t', hes2, ⟨hy1, hy2, hy3, hy4⟩, -⟩ := hd_cons (c := cx_c X) hex2
  subst hes2
  intro T hT X0
  obtain ⟨v, U, L, X', hLf, hX, hz, hk, hsteps⟩ := tcall hM hL hl1 hd hrc is hsp it hit hR C hTX (fun q hq => hS.2.1 q hq (by rw [hA]; omega)) hK hP hD hl T hT X0
  have hpl : (cx_e X).platform.magicAccessors = ({} : Platform).magicAccessors := by rw [X'.admits.platform]
  obtain ⟨co, hfco, hlko⟩ := Cond.classLink_spec C.2.2.2.1 (hts _ hcl) (cx_e X).platform hpl
  obtain ⟨cc, hfcc, hlks⟩ := Cond.classLink_spec C.2.2.2.1 (hts _ hcl2) (cx_e X).platform hpl
  obtain ⟨hg1, hw1, -⟩ := State.classEntry (e := cx_e X) X'.warmed hlko
  generalize hvm : U.vm.noted (cx_m X).cls q.2.2.2 (.cls co) = vm1 at hg1 hw1
  obtain ⟨hg2, hw2, -⟩ := State.classEntry (e := cx_e X) hw1 hlks
  generalize hvm2 : vm1.noted (cx_m X).cls q2.2.2.2 (.cls cc) = vm2 at hg2 hw2
  obtain ⟨hx5, ce, hc1, hc2, hc3⟩ := hX
  have e1 : cc = ce.cls := Option.some.inj (hfcc.symm.trans hc2)
  subst e1
  have hcell : ((U.setTop (F0 (cx_m X) pc ls rest)).pushFrame (.throwing v)).heap[v]? = some ce := by rw [throwing_heap]; exact hc1
  have hvme : ((U.setTop (F0 (cx_m X) pc ls rest)).pushFrame (.throwing v)).vm = U.vm := throwing_vm _ _ _
  have hobj : ∀ k, ce.vm ≠ .statics k := fun k h => by rw [hc3] at h; cases h
  have hkc1 : ∃ k, vm1.classes[ce.cls]? = some k := Vm.classAt_of_findClass (name := xn) (by rw [hw1.alike.findClass]; exact hfcc)
  have hko1 : ∃ k, vm1.classes[co]? = some k := Vm.classAt_of_findClass (name := xo) (by rw [hw1.alike.findClass]; exact hfco)
  have hkc2 : ∃ k, vm2.classes[ce.cls]? = some k := Vm.classAt_of_findClass (name := xn) (by rw [hw2.alike.findClass]; exact hfcc)
  have hno : vm1.assignable ce.cls co = false := by rw [hw1.alike.assignable]; exact hTX.2.2.2 _ hnc _ _ hfcc hfco
  have hfind : FindsV (cx_e X) ((U.setTop (F0 (cx_m X) pc ls rest)).pushFrame (.throwing v)) (F0 (cx_m X) pc ls rest) v (.found q2.2.2.1) (((U.setTop (F0 (cx_m X) pc ls rest)).pushFrame (.throwing v)).setVm vm2) := by
    intro Q' E d acts
    rw [W.findHandler_eq (meth := cx_M X) (code := cx_c X) (by rw [hvme]; exact X'.method') hco, hes]
    rw [go_cold (vm' := vm1) (c := co) (cell := ce) (by show covers x pc = true; unfold covers; rw [hx1, hx2]; simp [hcv.1, hcv.2.1]) (by rw [hx4]; exact hcv.2.2) (by rw [hvme, hx4]; exact hg1) (by rw [hvme, ← hvm, Vm.size_noted]; exact Nat.le_refl _) hcell hobj hkc1 hko1, if_neg (by rw [hno]; decide)]
    rw [go_cold (s := ((U.setTop (F0 (cx_m X) pc ls rest)).pushFrame (.throwing v)).setVm vm1) (f := F0 (cx_m X) pc ls rest) (x := x') (vm' := vm2) (c := ce.cls) (cell := ce) (by show covers x' pc = true; unfold covers; rw [hy1, hy2]; simp [hcv2.1, hcv2.2.1]) (by rw [hy4]; exact hcv2.2.2) (by rw [hy4]; exact hg2) (by rw [← hvm2, Vm.size_noted]; exact Nat.le_refl _) hcell hobj hkc2 hkc2, if_pos (va_asg _ _), hy3]
    exact Iff.rfl
  have hat : At U (F0 (cx_m X) pc ls rest).method (cx_c X) (cx_b X) := X'.here
  have hS2 : va_S (cx_A X) (cx_s X).heap U.heap (locs ++ L) := ⟨Nat.le_trans hS.1 hz, fun q h1 h2 => by rw [hk q (Nat.lt_of_lt_of_le h1 hS.1)]; exact hS.2.1 q h1 h2, fun q hq => by
    rcases List.mem_append.mp hq with h | h
    · exact hS.2.2 q h
    · rw [hA]
      show sz ≤ q.base
      have := hLf q h
      have := hS.1
      omega⟩
  obtain ⟨t2, a1, b1⟩ := kk v C U.heap (locs ++ L) ls hK (hP.kept (fun j q hj => hk q.1 ((hP j q hj).lt))) hD hS2 hl (U.setVm vm2) rfl (X'.noted hw2)
  exact ⟨t2, hsteps.trans (caughtV hat hfind a1), b1⟩
end CATCH
