/-! a callee that throws: it goes on out, or it is caught -/
def PostT (Qc : Array Value → State → Outcome → State → Prop) (mc ms : Nat) (free : Addr → Prop) : Pt → Array Value → Addr → Pt → Prop := fun A a v B =>
  ∃ (g : JFrame) (mk : MethodId) (t : State) (L : List Loc), B.U.heap = t.heap ∧ B.U.vm = t.vm ∧ Qc a (A.U.calling g mk a) (.threw v) t ∧ B.locs = A.locs ++ L ∧ (∀ q ∈ L, free q.base) ∧ B.cells = A.cells + mc ∧ B.slots = A.slots + ms
theorem bt_of {l : Launch} {R : Room} {p : Program} {e : Env} {below : List Frame} {s : State} {sargs : Array Value} {y : MethodName} {len W : Nat} {ws : List Cond} {rm : Room} {Pc : Array Value → State → Prop} {Qc : Array Value → State → Outcome → State → Prop} {mc ms : Nat} {free : Addr → Prop} {bytes : ByteArray} {maxL : Nat} {ret : Option FieldType}
    (hM : MT l y ws rm Pc Qc mc ms free) (hblind : FrameBlind Pc) (hrc : rm.cells = mc) (hrs : rm.slots = ms)
    (hframes : rm.frames + 1 ≤ R.frames) (hlocals : W + (maxL + 11) + rm.locals ≤ R.locals)
    (hws : ∀ w ∈ ws, ∀ a' U, s.WarmedH U.vm → w.before a' U = true) (hcode : Cond.code y bytes maxL ret ∈ ws) (hinit : ∀ a' U, s.WarmedH U.vm → (Cond.initialized y.cls).before a' U = true) :
    BackT l R p e below s sargs y len W (PreOf R mc ms Pc) (PostT Qc mc ms free) := by
  refine BackT.of_free (S := headSpec ws rm) (P := Pc) (K := fun _ _ _ _ _ => True) (Q := fun a st o t => Qc a st o t ∧ ∃ L, FrameEndT st o t L mc ms ∧ ∀ q ∈ L, free q.base) (bytes := bytes) (maxL := maxL) (ret := ret)
    (E := fun a st o t L k n => k = mc ∧ n = ms ∧ ∀ q ∈ L, free q.base) hM hframes hlocals ?_ ?_ (fun _ _ _ _ _ _ _ _ _ => trivial) ?_ ?_
  · intro m meth c A a X hp
    exact ⟨atoms_intro fun w hw => hws w hw _ _ X.warmed, hws _ hcode _ _ X.warmed, hinit _ _ X.warmed, by rw [show (headSpec ws rm).room.cells = mc from hrc]; exact hp.1, by rw [show (headSpec ws rm).room.slots = ms from hrs]; exact hp.2.1⟩
  · intro m meth c A a g mk X hp
    exact hblind _ _ _ _ hp.2.2
  · intro a st o t ⟨hq, L, hF, hL⟩
    exact ⟨L, mc, ms, hF, rfl, rfl, hL⟩
  · intro m meth c A a g mk v t L k n X hp hq hF ⟨e1, e2, hL⟩
    subst e1; subst e2
    exact ⟨g, mk, t, L, rfl, rfl, hq.1, rfl, hL, rfl, rfl⟩
section CVT
variable {p : Program} {l : Launch} {e : Env} {R : Room} {s : State} {m : MethodId} {args : Array Value} {below : List Frame} {meth : Method} {c : Code} {T : State} {locs : List Loc} {cells slots : Nat}
theorem callVT (X : Stand p l e R s m args below meth c T locs cells slots) (hexec : p.tables.exec = Jvm.exec) {own C : String} {index : Nat} {y : MethodName} {bytes : ByteArray} {maxL : Nat} {ret : Option FieldType}
    (hown : s.vm.findClass own = some m.cls) (hlink : (Cond.methodLink own index y).before args s = true) (hinst : (Cond.instanceMethod y).before args s = true) (hsel : (Cond.selects C y y).before args s = true)
    (hcode : (Cond.code y bytes maxL ret).before args s = true) (hy : y.cls ≠ "java/lang/invoke/MethodHandle" ∧ y.cls ≠ "java/lang/invoke/VarHandle")
    {W : Nat} {Pre : Pt → Array Value → Prop} {Post : Pt → Array Value → Addr → Pt → Prop} (hK : BackT l R p e below s args y 3 W Pre Post)
    {b : Addr} {cellB : Cell} (hcell : T.heap[b]? = some cellB) (hobj : cellB.vm.isStatics = false) (hcls : s.vm.findClass C = some cellB.cls)
    {g : JFrame} (hg : g.method = m) (hsize : g.locals.size = c.maxLocals) {argsL rest : List Value} (hlen : ∀ sig, parseMethodDescriptor y.desc = some sig → argsL.length = sig.parameters.length)
    (hstack : g.stack = argsL.reverse ++ .ref b :: rest) (hW : 2 * g.monitorRoom + (rest.map fun v => v.category).sum ≤ W) (hdg : decode c.code g.pc = .ok (.invokevirtual index, 3))
    (hpre : ∀ vm₁, s.WarmedH vm₁ → Pre ⟨T.setVm vm₁, locs, cells, slots⟩ (Value.ref b :: argsL).toArray) :
    ∃ (v : Addr) (vm₁ : Vm) (B : Pt), s.WarmedH vm₁ ∧ Stand p l e R s m args below meth c B.U B.locs B.cells B.slots ∧ Post ⟨T.setVm vm₁, locs, cells, slots⟩ (Value.ref b :: argsL).toArray v B ∧
      Steps p.tables e below (T.setTop g) ((B.U.setTop { g with stack := rest }).pushFrame (.throwing v)) := by
  obtain ⟨mk, methM, hnamed, hmethM, hstM, habM⟩ := Cond.instanceMethod_spec hinst
  obtain ⟨methM', cM, hmethM', -, -, -, -, -, -, hsigM⟩ := Cond.code_spec hnamed hcode
  cases hmethM.symm.trans hmethM'
  obtain ⟨c2, r2, m2, q1, q2, q3, q4, kP, hkP, hkPi⟩ := Cond.selects_spec hsel
  cases hcls.symm.trans q1
  cases (State.methodFound?_of_named hnamed hy).symm.trans q2
  cases hnamed.symm.trans q3
  have hselP : selectMethod e.platform s.vm cellB.cls mk = .method mk := by rw [Launch.admits_selectMethod X.admits]; exact q4
  obtain ⟨vm₁, X₁, hstep₁⟩ := X.invokevirtual hexec hown hlink hnamed hmethM hstM hkP hkPi hy (a := b) (cell := cellB) hcell
    (fun z h => by rw [h] at hobj; cases hobj) hselP hmethM habM hkP hkPi (g := g) hg (argsL := argsL) (rest := rest) (hlen _ hsigM) hstack hdg
  obtain ⟨v, B, X', hpost, hsteps⟩ := hK m meth c ⟨T.setVm vm₁, locs, cells, slots⟩ { g with stack := rest } (.invokevirtual index) mk (Value.ref b :: argsL).toArray X₁ hg hsize hdg hW (X₁.named hnamed) (hpre vm₁ X₁.warmed)
  exact ⟨v, vm₁, B, X₁.warmed, X', hpost, hstep₁ _ fun acts => by rw [doInvoke_state]; exact hsteps⟩
end CVT
section TCALL
variable {X : cx_T} {M : ms_T} {k n : Nat} {tys tc' : List (ClassId × FieldType)} {ws pl wc plc : va_W} {lv : List (Option Value)} {pc sz idx nL a : Nat} {rm rmo : Room} {xn : String} {y : MethodName} {b : ByteArray} {rt : Option FieldType} {st : List Value}
/-- a call that throws, as far as the throw over this frame -/
theorem tcall {As rest : List Value} {H : Heap} {locs : List Loc} {ls : Array Slot} (hM : CT (cx_l X) y b nL rt rm (.ref a :: As) (cx_D X) tc' (wc ++ plc) xn) (hL : lk_V M.2.2.1 idx y b nL rt As.length) (hl1 : Cond.methodLink M.2.2.1 idx y ∈ tb_l) (hd : decode M.1 pc = .ok (.invokevirtual idx, 3)) (hrc : rc_ok ws pl a y.cls) (is : List Nat) (hsp : sp_ok ws pl wc plc is) (it : List Nat) (hit : it.filterMap (fun i => tys[i]?) = tc') (hR : rm_ok M.2.2.2 rm nL k n rest)
    (C : cx_ok X M) (hTX : TX (cx_s X)) (hA : ∀ q : Nat, q < (cx_s X).heap.size → H[q]? = (cx_s X).heap[q]?) (hK : va_K (cx_D X) classes tys (cx_s X)) (hP : va_P (cx_D X) classes (ws ++ pl) H) (hD : va_D (cx_B X) (ws ++ pl)) (hl : lo_has ls M.2.1 lv) :
    ∀ T : State, T.heap = H → Stand (cx_p X) (cx_l X) (cx_e X) M.2.2.2 (cx_s X) (cx_m X) (cx_a X) (cx_b X) (cx_M X) (cx_c X) T locs k n →
      ∃ (v : Addr) (U : State) (L : List Loc), Stand (cx_p X) (cx_l X) (cx_e X) M.2.2.2 (cx_s X) (cx_m X) (cx_a X) (cx_b X) (cx_M X) (cx_c X) U (locs ++ L) (k + rm.cells) (n + rm.slots) ∧ (∀ q ∈ L, H.size ≤ q.base) ∧ XC xn H.size (cx_s X) U v ∧ H.size ≤ U.heap.size ∧ (∀ q : Nat, q < H.size → U.heap[q]? = H[q]?) ∧
        Steps (cx_p X).tables (cx_e X) (cx_b X) (T.setTop (F0 (cx_m X) pc ls (As.reverse ++ .ref a :: rest))) ((U.setTop (F0 (cx_m X) pc ls rest)).pushFrame (.throwing v)) := by
  obtain ⟨-, ⟨h2, h3⟩, h4, h5, h6, h7⟩ := hL
  have hts : ∀ w ∈ tb_l, w.before (cx_a X) (cx_s X) = true := fun w hw => C.2.2.2.2.1 w hw _
  obtain ⟨cellB, hcB, hoB, hclB⟩ := rc_use hrc hK hP
  have hPc : ∀ U : State, U.heap = H → (cx_s X).WarmedH U.vm → va_Pc (.ref a :: As) (fun U => (U.heap.size = H.size ∧ TX U) ∧ tb_ok U ∧ va_P (cx_D X) classes (wc ++ plc) U.heap ∧ va_K (cx_D X) classes tc' U ∧ va_D (fun _ => True) (wc ++ plc)) (Value.ref a :: As).toArray U := fun U hU hW =>
    ⟨rfl, ⟨by rw [hU], hTX.kept hW (fun q hq => by rw [hU]; exact hA q hq)⟩, tb_moved hW C.2.2.2.2.1, by rw [hU]; exact sp_P hsp hP, va_K.moved hW.alike (hK.sub it hit), (sp_D hsp hD).weaken (fun _ _ _ _ => trivial)⟩
  have hBT := bt_of (p := cx_p X) (e := cx_e X) (below := cx_b X) (s := cx_s X) (sargs := cx_a X) (R := M.2.2.2) (len := 3) (W := 8) (bytes := b) (maxL := nL) (ret := rt) (hM H.size) ct_blind rfl rfl hR.1.1 hR.1.2 (rn_ws C h5) (List.mem_singleton.mpr rfl) (fun a' U hW => tb_moved hW C.2.2.2.2.1 _ h4 a')
  intro T hT X0
  obtain ⟨v, vm₁, ⟨U', l2, c2, s2⟩, hW₁, X', ⟨g', mk, t, L, e1, e2, hq, g1, hLf, g2, g3⟩, hst⟩ := callVT X0 C.1 (own := M.2.2.1) (C := y.cls) (index := idx) (bytes := b) (maxL := nL) (ret := rt) C.2.2.2.1 (hts _ hl1) (hts _ h2) (hts _ h3) (hts _ h5) h6 hBT (by rw [hT]; exact hcB) hoB hclB (g := F0 (cx_m X) pc ls (As.reverse ++ .ref a :: rest)) rfl (by rw [C.2.2.1]; exact hl.1) (argsL := As) (rest := rest) (fun sig h => lk_np h7 sig h) rfl (lv_room hR.2.2) (by rw [C.2.1]; exact hd)
    (fun vm₁ hW₁ => ⟨hR.2.1.1, hR.2.1.2, hPc (T.setVm vm₁) hT hW₁⟩)
  dsimp only [Pt.U, Pt.locs, Pt.cells, Pt.slots] at X' e1 e2 g1 g2 g3 hst
  subst g1; subst g2; subst g3
  obtain ⟨⟨v', hv, hx1, ce, hx2, hx3, hx4⟩, hF1, hF2⟩ := hq
  cases hv
  refine ⟨v, U', L, X', hLf, ⟨hx1, ce, by rw [e1]; exact hx2, ?_, hx4⟩, ?_, fun q hq => ?_, hst⟩
  · have h9 : ((T.setVm vm₁).calling g' mk (Value.ref a :: As).toArray).vm = vm₁ := rfl
    rw [h9, hW₁.alike.findClass] at hx3
    exact hx3
  · rw [e1]
    have h9 : ((T.setVm vm₁).calling g' mk (Value.ref a :: As).toArray).heap = T.heap := rfl
    rw [h9, hT] at hF1
    exact hF1
  · rw [e1]
    have h9 : ((T.setVm vm₁).calling g' mk (Value.ref a :: As).toArray).heap = T.heap := rfl
    rw [h9, hT] at hF2
    exact hF2 q hq (by omega)
/-- it goes on out -/
theorem vv_tV {As : List Value} (rest : List Value) (ht : tc X sz) (hM : CT (cx_l X) y b nL rt rm (.ref a :: As) (cx_D X) tc' (wc ++ plc) xn) (hL : lk_V M.2.2.1 idx y b nL rt As.length) (hl1 : Cond.methodLink M.2.2.1 idx y ∈ tb_l) (hd : decode M.1 pc = .ok (.invokevirtual idx, 3)) (hst : As.reverse ++ .ref a :: rest = st) (hrc : rc_ok ws pl a y.cls) (is : List Nat) (hsp : sp_ok ws pl wc plc is) (it : List Nat) (hit : it.filterMap (fun i => tys[i]?) = tc') (hR : rm_ok M.2.2.2 rm nL k n rest) (hrm : k + rm.cells ≤ rmo.cells ∧ n + rm.slots ≤ rmo.slots) : VV X M (ce X sz xn rmo) k n tys ws pl lv st pc := fun C H locs ls hK hP hD hS hl => by
  subst hst
  obtain ⟨hsz, hTX, hA, hfl, hnh⟩ := ht
  have hlocs : ∀ x ∈ locs, sz ≤ x.base := fun x hx => by
    have := hS.2.2 x hx
    rw [hA] at this
    exact this
  have hHsz : sz ≤ H.size := by rw [← hsz]; exact hS.1
  intro T hT X0
  obtain ⟨v, U, L, X', hLf, hX, hz, hk, hsteps⟩ := tcall hM hL hl1 hd hrc is hsp it hit hR C hTX (fun q hq => hS.2.1 q hq (by rw [hA]; omega)) hK hP hD hl T hT X0
  have hl2 : ∀ x ∈ locs ++ L, sz ≤ x.base := fun x hx => by
    rcases List.mem_append.mp hx with h | h
    · exact hlocs x h
    · have := hLf x h
      omega
  obtain ⟨q1, q2, q3, q4, q5⟩ := X'.leaveThrown v (g := F0 (cx_m X) pc ls rest) rfl rfl rfl (hnh _) C.2.2.2.2.2.2
  refine ⟨_, hsteps.trans q1, .threw v, q2, q3, ⟨⟨v, rfl, by have := hX.1; omega, hX.2⟩, ct_F hsz hl2 q5⟩, locs ++ L, ⟨⟨_, rfl⟩, q4, q5.mono hrm.1 hrm.2⟩, hl2⟩
end TCALL
/-! the cold search for a handler -/
def FindsV (e : Env) (s : State) (f : JFrame) (a : Addr) (h : Handler) (s' : State) : Prop :=
  ∀ (Q : Handler → Pre) (E : CtlPost) (d : Bool) (acts : List Action), wp (findHandler f a) Q E e d acts s ↔ Q h d acts s'
theorem go_cold {E : CtlPost} {e : Env} {d : Bool} {acts : List Action} {s : State} {f : JFrame} {a : Addr} {Q : Handler → Pre} {x : ExceptionTableEntry} {t : List ExceptionTableEntry} {c : ClassId} {cell : Cell} {vm' : Vm} (hx : covers x f.pc = true) (h0 : x.catchType ≠ 0)
    (hg : (resolveClass f.method.cls x.catchType).Gives e.toSetting s.vm (.ok c) vm') (hsz : vm'.classes.size ≤ s.vm.classes.size) (hcell : s.heap[a]? = some cell) (hobj : ∀ k, cell.vm ≠ .statics k)
    (hk : ∃ k, vm'.classes[cell.cls]? = some k) (hc : ∃ k, vm'.classes[c]? = some k) :
    wp (findHandler.go f a (x :: t)) Q E e d acts s ↔
      if vm'.assignable cell.cls c = true then Q (.found x.handlerPc) d acts (s.setVm vm') else wp (findHandler.go f a t) Q E e d acts (s.setVm vm') := by
  simp only [covers] at hx
  have hop : (VmOp.resolveClass f.method.cls x.catchType).answer e s.vm = .ok c ∧ (VmOp.resolveClass f.method.cls x.catchType).tables e s.vm = vm' := hg.op rfl
  have hsame := fun (Q : Except LinkFail ClassId → Pre) => W.vmOp_same (E := E) (e := e) (d := d) (acts := acts) (s := s) (VmOp.resolveClass f.method.cls x.catchType) (Q := Q) (by rw [hop.2]; exact hsz)
  cases hfit : vm'.assignable cell.cls c <;>
    simp [-W.vmOp, findHandler.go, hx, h0, hsame, hop.1, hop.2, hcell, hobj, hk, hc, hfit, VmOp.dirties, VmOp.acts]
theorem stepThrowing_catchV {e : Env} {s s' : State} {a : Addr} {f : JFrame} {r : List Frame} {pc : Nat} (hfind : FindsV e s f a (.found pc) s') :
    (stepThrowing e s a (.java f :: r)).Is (s'.setFrames (.java { f with pc := pc, stack := [.ref a] } :: r)) [] := by
  simp only [stepThrowing, searchFrame, vmDo]
  generalize hr : Sem.go _ e false [] s = res
  obtain ⟨as, rfl, ha⟩ := Sem.eq_ok_of hr (a := Handler.found pc) (s' := s') (acts' := []) (by simp [hfind _ _ _ _])
  exact ⟨rfl, ha⟩
theorem caughtV {tb : Tables} {e : Env} {s target : State} {g : JFrame} {c : Code} {below : List Frame} {a : Addr} {vm' : Vm} (h : At s g.method c below) {pc : Nat} (hfind : FindsV e ((s.setTop g).pushFrame (.throwing a)) g a (.found pc) (((s.setTop g).pushFrame (.throwing a)).setVm vm'))
    (hrest : Steps tb e below ((s.setVm vm').setTop { g with pc := pc, stack := [.ref a] }) target) :
    Steps tb e below ((s.setTop g).pushFrame (.throwing a)) target := by
  obtain ⟨hgo, hw⟩ := h.throwing a
  refine Steps.head hgo hw ?_
  rw [stepThread_throwing (frames_entered h.top _), (stepThrowing_catchV (s := (s.setTop g).pushFrame (.throwing a)) hfind).1]
  obtain ⟨g₀, hg⟩ := Option.isSome_iff_exists.mp h.top
  obtain ⟨r, hr⟩ := State.topJava?_eq_some.mp hg
  have hr' : (s.setVm vm').frames = .java g₀ :: r := hr
  rw [State.setTop_of_frames _ hr'] at hrest
  rw [hr]
  have e1 : (((s.setTop g).pushFrame (.throwing a)).setVm vm').setFrames (.java { g with pc := pc, stack := [.ref a] } :: (Frame.java g₀ :: r).tail) = (s.setVm vm').setFrames (.java { g with pc := pc, stack := [.ref a] } :: r) := by
    rw [State.pushFrame, State.setTop_of_frames _ hr, State.setFrames_setFrames]
    show ((s.setVm vm').setFrames _).setFrames _ = _
    rw [State.setFrames_setFrames]
    rfl
  rw [e1]
  exact hrest
