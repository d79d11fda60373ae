/-! Contracts over whole pictures, and calls by them. -/
def cp_Q (sz : Nat) (post : Option Value → Prop) : Array Value → State → Outcome → State → Prop := fun _ st oc t => (∃ v, oc = .returned v ∧ post v) ∧ va_F (fun q => sz ≤ q) st t
/-- a method that only reads: it answers v with 'post v', nothing old changes -/
def CP (l : Launch) (y : MethodName) (b : ByteArray) (nL : Nat) (rt : Option FieldType) (rm : Room) (av : List Value) (D : va_G) (tys : List (ClassId × FieldType)) (ws : va_W) (post : Option Value → Prop) : Prop :=
  ∀ sz : Nat, Met l y [.code y b nL rt] rm (va_Pc av (fun U => U.heap.size = sz ∧ tb_ok U ∧ va_P D classes ws U.heap ∧ va_K D classes tys U ∧ va_D (fun _ => True) ws)) (cp_Q sz post) rm.cells rm.slots (fun q => sz ≤ q)
def cm_B (D : va_G) (ws : va_W) (sz : Nat) (post : Option Value → va_W → va_W → List (ClassId × FieldType) → Prop) (v : Option Value) (t : State) : Prop :=
  ∃ (w1 p1 : va_W) (t1 : List (ClassId × FieldType)), post v w1 p1 t1 ∧ va_P D classes (w1 ++ p1) t.heap ∧ va_D (va_A ws sz) (w1 ++ p1) ∧ va_K D classes t1 t
def cm_Q (D : va_G) (ws : va_W) (sz : Nat) (post : Option Value → va_W → va_W → List (ClassId × FieldType) → Prop) : Array Value → State → Outcome → State → Prop := fun _ st oc t =>
  (∃ v : Option Value, oc = .returned v ∧ cm_B D ws sz post v t) ∧ va_F (va_A ws sz) st t
/-- a method that writes: from the picture ws it comes to a picture w1 ++ p1, with the arrays' classes t1, 'post v w1 p1 t1' -/
def CM (l : Launch) (y : MethodName) (b : ByteArray) (nL : Nat) (rt : Option FieldType) (rm : Room) (av : List Value) (D : va_G) (tys : List (ClassId × FieldType)) (ws : va_W) (post : Option Value → va_W → va_W → List (ClassId × FieldType) → Prop) : Prop :=
  ∀ sz : Nat, Met l y [.code y b nL rt] rm (va_Pc av (fun U => U.heap.size = sz ∧ tb_ok U ∧ va_P D classes ws U.heap ∧ va_K D classes tys U ∧ va_D (fun _ => True) ws)) (cm_Q D ws sz post) rm.cells rm.slots (va_A ws sz)
theorem cm_blind {av : List Value} {D : va_G} {tys : List (ClassId × FieldType)} {ws : va_W} {sz : Nat} : FrameBlind (va_Pc av (fun U => U.heap.size = sz ∧ tb_ok U ∧ va_P D classes ws U.heap ∧ va_K D classes tys U ∧ va_D (fun _ => True) ws)) := fun a U g mk q => by
  obtain ⟨q0, qz, q1, q2, q3, q4⟩ := q
  exact ⟨q0, qz, tb_same (s := U) (U := U.calling g mk a) rfl q1, q2, va_K.moved (u := U) (U := U.calling g mk a) (Vm.Alike.refl U.vm) q3, q4⟩
/-- locals at the entry -/
def lo_args : List Value → List (Option Value)
  | [] => []
  | v :: vs => if v.category = 2 then some v :: none :: lo_args vs else some v :: lo_args vs
theorem lo_args_sub : ∀ (vs : List Value) (j i : Nat) (v : Value), (lo_args vs)[i]? = some (some v) → (j + i, v) ∈ lv_args j vs
  | [], j, i, v, h => by simp [lo_args] at h
  | u :: vs, j, i, v, h => by
    unfold lo_args at h
    by_cases hc : u.category = 2
    · rw [if_pos hc] at h
      cases i with
      | zero =>
        have e1 : u = v := Option.some.inj (Option.some.inj h)
        subst e1
        exact List.mem_cons_self
      | succ i =>
        cases i with
        | zero => cases h
        | succ i =>
          have h2 := lo_args_sub vs (j + 2) i v h
          show (j + (i + 1 + 1), v) ∈ (j, u) :: lv_args (if u.category = 2 then j + 2 else j + 1) vs
          rw [if_pos hc, show j + (i + 1 + 1) = j + 2 + i by omega]
          exact List.mem_cons_of_mem _ h2
    · rw [if_neg hc] at h
      cases i with
      | zero =>
        have e1 : u = v := Option.some.inj (Option.some.inj h)
        subst e1
        exact List.mem_cons_self
      | succ i =>
        have h2 := lo_args_sub vs (j + 1) i v h
        show (j + (i + 1), v) ∈ (j, u) :: lv_args (if u.category = 2 then j + 2 else j + 1) vs
        rw [if_neg hc, show j + (i + 1) = j + 1 + i by omega]
        exact List.mem_cons_of_mem _ h2
def lo_pad (lv : List (Option Value)) (nL : Nat) : List (Option Value) := lv ++ List.replicate (nL - lv.length) none
theorem lo_entry (vs : List Value) {nL : Nat} (h : (lg_sl vs).length ≤ nL) : lo_has ((lg_sl vs ++ List.replicate (nL - (lg_sl vs).length) Slot.unset).toArray) nL (lo_pad (lo_args vs) nL) := by
  have h0 := lv_entry vs h
  refine ⟨h0.1, h0.2.1, fun i v hi => ?_⟩
  refine h0.2.2 (i, v) ?_
  have h1 : (lo_args vs)[i]? = some (some v) := by
    unfold lo_pad at hi
    by_cases hl : i < (lo_args vs).length
    · rw [List.getElem?_append_left hl] at hi
      exact hi
    · rw [List.getElem?_append_right (by omega), List.getElem?_replicate] at hi
      split at hi
      · cases hi
      · cases hi
  have h2 := lo_args_sub vs 0 i v h1
  rw [Nat.zero_add] at h2
  exact h2
def cq (X : cx_T) (ws : va_W) (sz : Nat) (post : Option Value → va_W → va_W → List (ClassId × FieldType) → Prop) (rm : Room) : State → Prop := MQ (cx_b X) (cm_Q (cx_D X) ws sz post) (cx_a X) (cx_s X) rm.cells rm.slots (va_A ws sz)
def cr (X : cx_T) (sz : Nat) (post : Option Value → Prop) (rm : Room) : State → Prop := MQ (cx_b X) (cp_Q sz post) (cx_a X) (cx_s X) rm.cells rm.slots (fun q => sz ≤ q)
theorem cm_of {l : Launch} {y : MethodName} {b : ByteArray} {nL : Nat} {rt : Option FieldType} {rm : Room} {av : List Value} {D : va_G} {tys : List (ClassId × FieldType)} {ws pl : va_W} {post : Option Value → va_W → va_W → List (ClassId × FieldType) → Prop}
    (hy : plainName y.cls = true) (hav : (lg_sl av).length ≤ nL)
    (body : ∀ (X : cx_T) (sz : Nat), cx_l X = l → (cx_M X).sig.returnType = rt → (cx_M X).name = y.name → cx_D X = D → cx_A X = va_A (ws ++ pl) sz → cx_w X → VV X (b, nL, y.cls, rm) (cq X (ws ++ pl) sz post rm) 0 0 tys ws pl (lo_pad (lo_args av) nL) [] 0) :
    CM l y b nL rt rm av D tys (ws ++ pl) post := by
  intro sz
  refine Met.ofW (cc := b) (maxL := nL) (ret := rt) hy rfl ?_
  intro p e s m args below meth c s₁ B hml hv
  obtain ⟨rfl, hsz, hTB, hP, hK, hD0⟩ := hv
  subst hsz
  rw [lg_entry_eq]
  exact body (p, l, e, s, m, av.toArray, below, meth, c, D, va_A (ws ++ pl) s.heap.size, va_A (ws ++ pl) s.heap.size) s.heap.size rfl B.returns (name_of_methodNamed B.named B.method).1 rfl rfl (fun _ h => h)
    ⟨B.exec, B.bytes, hml, findClass_of_methodNamed B.named, hTB, fun q h => ⟨Or.inr h, Or.inr h⟩, B.notSynchronized⟩ s.heap [] _ hK hP hD0.self va_S.rf (lo_entry av hav)
theorem cp_of {l : Launch} {y : MethodName} {b : ByteArray} {nL : Nat} {rt : Option FieldType} {rm : Room} {av : List Value} {D : va_G} {tys : List (ClassId × FieldType)} {ws pl : va_W} {post : Option Value → Prop}
    (hy : plainName y.cls = true) (hav : (lg_sl av).length ≤ nL)
    (body : ∀ (X : cx_T) (sz : Nat), cx_l X = l → (cx_M X).sig.returnType = rt → cx_D X = D → cx_A X = (fun q => sz ≤ q) → VV X (b, nL, y.cls, rm) (cr X sz post rm) 0 0 tys ws pl (lo_pad (lo_args av) nL) [] 0) :
    CP l y b nL rt rm av D tys (ws ++ pl) post := by
  intro sz
  refine Met.ofW (cc := b) (maxL := nL) (ret := rt) hy rfl ?_
  intro p e s m args below meth c s₁ B hml hv
  obtain ⟨rfl, hsz, hTB, hP, hK, hD0⟩ := hv
  subst hsz
  rw [lg_entry_eq]
  exact body (p, l, e, s, m, av.toArray, below, meth, c, D, (fun q => s.heap.size ≤ q), fun _ => True) s.heap.size rfl B.returns rfl rfl
    ⟨B.exec, B.bytes, hml, findClass_of_methodNamed B.named, hTB, fun q h => ⟨h, trivial⟩, B.notSynchronized⟩ s.heap [] _ hK hP hD0 va_S.rf (lo_entry av hav)
section RET
variable {X : cx_T} {M : ms_T} {k n : Nat} {tys : List (ClassId × FieldType)} {ws pl ws0 : va_W} {lv : List (Option Value)} {pc sz : Nat} {rm : Room} {post : Option Value → va_W → va_W → List (ClassId × FieldType) → Prop} {pst : Option Value → Prop}
theorem rt_Q {H : Heap} {locs : List Loc} {v : Option Value} (hA : cx_A X = va_A ws0 sz) (hw : cx_w X) (hp : post v ws pl tys) (hK : va_K (cx_D X) classes tys (cx_s X)) (hP : va_P (cx_D X) classes (ws ++ pl) H) (hD : va_D (cx_B X) (ws ++ pl)) (hS : va_S (cx_A X) (cx_s X).heap H locs) : ∀ t : State, t.heap = H → (cx_s X).WarmedH t.vm → cm_Q (cx_D X) ws0 sz post (cx_a X) (cx_s X) (.returned v) t := fun t ht hW =>
  ⟨⟨v, rfl, ws, pl, tys, hp, by rw [ht]; exact hP, by rw [← hA]; exact hD.weaken (fun _ _ _ h => hw _ h), va_K.moved hW.alike hK⟩, by rw [← hA]; exact hS.F ht⟩
theorem rp_Q {H : Heap} {locs : List Loc} {v : Option Value} (hA : cx_A X = (fun q => sz ≤ q)) (hp : pst v) (hS : va_S (cx_A X) (cx_s X).heap H locs) : ∀ t : State, t.heap = H → (cx_s X).WarmedH t.vm → cp_Q sz pst (cx_a X) (cx_s X) (.returned v) t := fun t ht _ =>
  ⟨⟨v, rfl, hp⟩, by rw [← hA]; exact hS.F ht⟩
theorem vv_iret {x : Int32} (hA : cx_A X = va_A ws0 sz) (hw : cx_w X) (hr : (cx_M X).sig.returnType = some .int) (hd : decode M.1 pc = .ok (.ireturn, 1)) (hk : k ≤ rm.cells) (hn : n ≤ rm.slots) (hp : post (some (.int x)) ws pl tys) : VV X M (cq X ws0 sz post rm) k n tys ws pl lv [.int x] pc := fun C H locs ls hK hP hD hS hl =>
  W.widen hk hn (W.iret (v := x) C.1 C.2.1 hr (rt_Q hA hw hp hK hP hD hS) (by rw [← hA]; exact hS.2.2) hd C.2.2.2.2.2.2)
theorem vv_zret {x : Int32} {ty : FieldType} (hA : cx_A X = va_A ws0 sz) (hw : cx_w X) (hr : (cx_M X).sig.returnType = some ty) (hnr : narrow ty (.int x) = .int x) (hd : decode M.1 pc = .ok (.ireturn, 1)) (hk : k ≤ rm.cells) (hn : n ≤ rm.slots) (hp : post (some (.int x)) ws pl tys) : VV X M (cq X ws0 sz post rm) k n tys ws pl lv [.int x] pc := fun C H locs ls hK hP hD hS hl =>
  W.widen hk hn (W.zret (v := x) C.1 C.2.1 hr hnr (rt_Q hA hw hp hK hP hD hS) (by rw [← hA]; exact hS.2.2) hd C.2.2.2.2.2.2)
theorem vv_lret {x : Int64} (hA : cx_A X = va_A ws0 sz) (hw : cx_w X) (hr : (cx_M X).sig.returnType = some .long) (hd : decode M.1 pc = .ok (.lreturn, 1)) (hk : k ≤ rm.cells) (hn : n ≤ rm.slots) (hp : post (some (.long x)) ws pl tys) : VV X M (cq X ws0 sz post rm) k n tys ws pl lv [.long x] pc := fun C H locs ls hK hP hD hS hl =>
  W.widen hk hn (W.lret (v := x) C.1 C.2.1 hr (rt_Q hA hw hp hK hP hD hS) (by rw [← hA]; exact hS.2.2) hd C.2.2.2.2.2.2)
theorem vv_vret (hA : cx_A X = va_A ws0 sz) (hw : cx_w X) (hr : (cx_M X).sig.returnType = none) (hd : decode M.1 pc = .ok (.return_, 1)) (hk : k ≤ rm.cells) (hn : n ≤ rm.slots) (hp : post none ws pl tys) : VV X M (cq X ws0 sz post rm) k n tys ws pl lv [] pc := fun C H locs ls hK hP hD hS hl =>
  W.widen hk hn (W.vret C.1 C.2.1 hr (rt_Q hA hw hp hK hP hD hS) (by rw [← hA]; exact hS.2.2) hd C.2.2.2.2.2.2)
theorem vp_iret {x : Int32} (hA : cx_A X = (fun q => sz ≤ q)) (hr : (cx_M X).sig.returnType = some .int) (hd : decode M.1 pc = .ok (.ireturn, 1)) (hk : k ≤ rm.cells) (hn : n ≤ rm.slots) (hp : pst (some (.int x))) : VV X M (cr X sz pst rm) k n tys ws pl lv [.int x] pc := fun C H locs ls hK hP hD hS hl =>
  W.widen hk hn (W.iret (v := x) C.1 C.2.1 hr (rp_Q hA hp hS) (by have h9 := hS.2.2; rw [hA] at h9; exact h9) hd C.2.2.2.2.2.2)
theorem vp_zret {x : Int32} {ty : FieldType} (hA : cx_A X = (fun q => sz ≤ q)) (hr : (cx_M X).sig.returnType = some ty) (hnr : narrow ty (.int x) = .int x) (hd : decode M.1 pc = .ok (.ireturn, 1)) (hk : k ≤ rm.cells) (hn : n ≤ rm.slots) (hp : pst (some (.int x))) : VV X M (cr X sz pst rm) k n tys ws pl lv [.int x] pc := fun C H locs ls hK hP hD hS hl =>
  W.widen hk hn (W.zret (v := x) C.1 C.2.1 hr hnr (rp_Q hA hp hS) (by have h9 := hS.2.2; rw [hA] at h9; exact h9) hd C.2.2.2.2.2.2)
theorem vp_lret {x : Int64} (hA : cx_A X = (fun q => sz ≤ q)) (hr : (cx_M X).sig.returnType = some .long) (hd : decode M.1 pc = .ok (.lreturn, 1)) (hk : k ≤ rm.cells) (hn : n ≤ rm.slots) (hp : pst (some (.long x))) : VV X M (cr X sz pst rm) k n tys ws pl lv [.long x] pc := fun C H locs ls hK hP hD hS hl =>
  W.widen hk hn (W.lret (v := x) C.1 C.2.1 hr (rp_Q hA hp hS) (by have h9 := hS.2.2; rw [hA] at h9; exact h9) hd C.2.2.2.2.2.2)
theorem vp_aret {a : Nat} {rt : FieldType} (hA : cx_A X = (fun q => sz ≤ q)) (hr : (cx_M X).sig.returnType = some rt) (hrt : (∃ n, rt = .object n) ∨ ∃ t, rt = .array t) (hd : decode M.1 pc = .ok (.areturn, 1)) (hk : k ≤ rm.cells) (hn : n ≤ rm.slots) (hp : pst (some (.ref a))) : VV X M (cr X sz pst rm) k n tys ws pl lv [.ref a] pc := fun C H locs ls hK hP hD hS hl =>
  W.widen hk hn (W.aret (v := .ref a) C.1 C.2.1 hr hrt (Or.inr ⟨a, rfl⟩) (rp_Q hA hp hS) (by have h9 := hS.2.2; rw [hA] at h9; exact h9) hd C.2.2.2.2.2.2)
theorem vp_vret (hA : cx_A X = (fun q => sz ≤ q)) (hr : (cx_M X).sig.returnType = none) (hd : decode M.1 pc = .ok (.return_, 1)) (hk : k ≤ rm.cells) (hn : n ≤ rm.slots) (hp : pst none) : VV X M (cr X sz pst rm) k n tys ws pl lv [] pc := fun C H locs ls hK hP hD hS hl =>
  W.widen hk hn (W.vret C.1 C.2.1 hr (rp_Q hA hp hS) (by have h9 := hS.2.2; rw [hA] at h9; exact h9) hd C.2.2.2.2.2.2)
end RET

/-! ### how a call is linked -/
def lk_V (own : String) (idx : Nat) (y : MethodName) (b : ByteArray) (nL : Nat) (rt : Option FieldType) (np : Nat) : Prop :=
  (Cond.methodLink own idx y ∈ tb_l ∨ ∃ host, Cond.methodLinkNest own idx y host ∈ tb_l) ∧ (Cond.instanceMethod y ∈ tb_l ∧ Cond.selects y.cls y y ∈ tb_l) ∧ Cond.initialized y.cls ∈ tb_l ∧ Cond.code y b nL rt ∈ tb_l ∧ (y.cls ≠ "java/lang/invoke/MethodHandle" ∧ y.cls ≠ "java/lang/invoke/VarHandle") ∧ (parseMethodDescriptor y.desc).map (fun d => d.parameters.length) = some np
def lk_S (own : String) (idx : Nat) (y : MethodName) (b : ByteArray) (nL : Nat) (rt : Option FieldType) (np : Nat) : Prop :=
  (Cond.methodLink own idx y ∈ tb_l ∨ ∃ host, Cond.methodLinkNest own idx y host ∈ tb_l) ∧ Cond.static y ∈ tb_l ∧ Cond.initialized y.cls ∈ tb_l ∧ Cond.code y b nL rt ∈ tb_l ∧ (y.cls ≠ "java/lang/invoke/MethodHandle" ∧ y.cls ≠ "java/lang/invoke/VarHandle") ∧ (parseMethodDescriptor y.desc).map (fun d => d.parameters.length) = some np
def lk_I (own : String) (idx : Nat) (y : MethodName) (b : ByteArray) (nL : Nat) (np : Nat) : Prop :=
  (Cond.methodLink own idx y ∈ tb_l ∨ ∃ host, Cond.methodLinkNest own idx y host ∈ tb_l) ∧ (Cond.instanceMethod y ∈ tb_l ∧ y.name = "<init>") ∧ Cond.initialized y.cls ∈ tb_l ∧ Cond.code y b nL none ∈ tb_l ∧ (y.cls ≠ "java/lang/invoke/MethodHandle" ∧ y.cls ≠ "java/lang/invoke/VarHandle") ∧ (parseMethodDescriptor y.desc).map (fun d => d.parameters.length) = some np
/-- the room that a callee wants -/
def rm_ok (R rm : Room) (nL k n : Nat) (rest : List Value) : Prop := (rm.frames + 1 ≤ R.frames ∧ 8 + (nL + 11) + rm.locals ≤ R.locals) ∧ (k + rm.cells ≤ R.cells ∧ n + rm.slots ≤ R.slots) ∧ (rest.map fun v => v.category).sum ≤ 8
theorem lk_np {y : MethodName} {np : Nat} (h : (parseMethodDescriptor y.desc).map (fun d => d.parameters.length) = some np) : ∀ sig, parseMethodDescriptor y.desc = some sig → np = sig.parameters.length := fun sig hs => by
  rw [hs] at h
  exact (Option.some.inj h).symm
section RUN
variable {X : cx_T} {M : ms_T} {k n : Nat} {pc idx nL a : Nat} {rm : Room} {y : MethodName} {b : ByteArray} {rt : Option FieldType} {As rest : List Value} {H : Heap} {locs : List Loc} {ls : Array Slot} {Pc : Array Value → State → Prop} {Qc : Array Value → State → Outcome → State → Prop} {free : Addr → Prop}
theorem rn_ws (C : cx_ok X M) {w0 : Cond} (h : w0 ∈ tb_l) : ∀ w ∈ [w0], ∀ (a' : Array Value) (U : State), (cx_s X).WarmedH U.vm → w.before a' U = true := fun w hw a' U hW => by
  rw [List.mem_singleton] at hw
  subst hw
  exact tb_moved hW C.2.2.2.2.1 w h a'
theorem rn_V (C : cx_ok X M) (hL : lk_V M.2.2.1 idx y b nL rt As.length) (hM : Met (cx_l X) y [.code y b nL rt] rm Pc Qc rm.cells rm.slots free) (hbl : FrameBlind Pc) (hrc : ∃ cell : Cell, H[a]? = some cell ∧ cell.vm.isStatics = false ∧ (cx_s X).vm.findClass y.cls = some cell.cls)
    (hPc : ∀ U : State, U.heap = H → (cx_s X).WarmedH U.vm → Pc (Value.ref a :: As).toArray U) (hls : ls.size = M.2.1) (hR : rm_ok M.2.2.2 rm nL k n rest) (hd : decode M.1 pc = .ok (.invokevirtual idx, 3)) :
    va_Run (cx_p X) (cx_l X) (cx_e X) M.2.2.2 (cx_s X) (cx_m X) (cx_a X) (cx_b X) (cx_M X) (cx_c X) H locs k n rm.cells rm.slots (F0 (cx_m X) pc ls (As.reverse ++ .ref a :: rest)) rest (Qc (Value.ref a :: As).toArray) free := by
  obtain ⟨h1, ⟨h2, h3⟩, h4, h5, h6, h7⟩ := hL
  have hts : ∀ w ∈ tb_l, w.before (cx_a X) (cx_s X) = true := fun w hw => C.2.2.2.2.1 w hw _
  rcases h1 with h1 | ⟨host, h1⟩
  · exact va_runV (C := y.cls) (As := As) (rest := rest) (bytes := b) (maxL := nL) (ret := rt) (n := As.length) ⟨C.1, C.2.1, C.2.2.1, C.2.2.2.1, hts⟩ hM
      ⟨⟨rfl, rfl, hR.1.1, hR.1.2, rn_ws C h5, List.mem_singleton.mpr rfl, hts _ h5, hts _ h4, h6, lk_np h7, hts _ h1⟩, hts _ h2, hts _ h3⟩ ⟨hbl, hrc, hPc⟩ rfl rfl hls rfl (lv_room hR.2.2) hd hR.2.1
  · exact va_runVN (C := y.cls) (As := As) (rest := rest) (bytes := b) (maxL := nL) (ret := rt) (n := As.length) ⟨C.1, C.2.1, C.2.2.1, C.2.2.2.1, hts⟩ hM
      ⟨⟨⟨rfl, rfl, hR.1.1, hR.1.2, rn_ws C h5, List.mem_singleton.mpr rfl⟩, hts _ h5, hts _ h4, h6, lk_np h7, hts _ h1⟩, hts _ h2, hts _ h3⟩ ⟨hbl, hrc, hPc⟩ rfl rfl hls rfl (lv_room hR.2.2) hd hR.2.1
theorem rn_S (C : cx_ok X M) (hL : lk_S M.2.2.1 idx y b nL rt As.length) (hM : Met (cx_l X) y [.code y b nL rt] rm Pc Qc rm.cells rm.slots free) (hbl : FrameBlind Pc)
    (hPc : ∀ U : State, U.heap = H → (cx_s X).WarmedH U.vm → Pc As.toArray U) (hls : ls.size = M.2.1) (hR : rm_ok M.2.2.2 rm nL k n rest) (hd : decode M.1 pc = .ok (.invokestatic idx, 3)) :
    va_Run (cx_p X) (cx_l X) (cx_e X) M.2.2.2 (cx_s X) (cx_m X) (cx_a X) (cx_b X) (cx_M X) (cx_c X) H locs k n rm.cells rm.slots (F0 (cx_m X) pc ls (As.reverse ++ rest)) rest (Qc As.toArray) free := by
  obtain ⟨h1, h2, h4, h5, h6, h7⟩ := hL
  have hts : ∀ w ∈ tb_l, w.before (cx_a X) (cx_s X) = true := fun w hw => C.2.2.2.2.1 w hw _
  rcases h1 with h1 | ⟨host, h1⟩
  · exact va_runS (As := As) (rest := rest) (bytes := b) (maxL := nL) (ret := rt) (n := As.length) ⟨C.1, C.2.1, C.2.2.1, C.2.2.2.1, hts⟩ hM
      ⟨⟨rfl, rfl, hR.1.1, hR.1.2, rn_ws C h5, List.mem_singleton.mpr rfl, hts _ h5, hts _ h4, h6, lk_np h7, hts _ h1⟩, hts _ h2⟩ ⟨hbl, hPc⟩ rfl rfl hls rfl (lv_room hR.2.2) hd hR.2.1
  · exact va_runSN (As := As) (rest := rest) (bytes := b) (maxL := nL) (ret := rt) (n := As.length) ⟨C.1, C.2.1, C.2.2.1, C.2.2.2.1, hts⟩ hM
      ⟨⟨⟨rfl, rfl, hR.1.1, hR.1.2, rn_ws C h5, List.mem_singleton.mpr rfl⟩, hts _ h5, hts _ h4, h6, lk_np h7, hts _ h1⟩, hts _ h2, trivial⟩ ⟨hbl, hPc⟩ rfl rfl hls rfl (lv_room hR.2.2) hd hR.2.1
theorem rn_I (C : cx_ok X M) (hL : lk_I M.2.2.1 idx y b nL As.length) (hM : Met (cx_l X) y [.code y b nL none] rm Pc Qc rm.cells rm.slots free) (hbl : FrameBlind Pc)
    (hPc : ∀ U : State, U.heap = H → (cx_s X).WarmedH U.vm → Pc (Value.ref a :: As).toArray U) (hls : ls.size = M.2.1) (hR : rm_ok M.2.2.2 rm nL k n rest) (hd : decode M.1 pc = .ok (.invokespecial idx, 3)) :
    va_Run (cx_p X) (cx_l X) (cx_e X) M.2.2.2 (cx_s X) (cx_m X) (cx_a X) (cx_b X) (cx_M X) (cx_c X) H locs k n rm.cells rm.slots (F0 (cx_m X) pc ls (As.reverse ++ .ref a :: rest)) rest (Qc (Value.ref a :: As).toArray) free := by
  obtain ⟨h1, ⟨h2, h3⟩, h4, h5, h6, h7⟩ := hL
  have hts : ∀ w ∈ tb_l, w.before (cx_a X) (cx_s X) = true := fun w hw => C.2.2.2.2.1 w hw _
  rcases h1 with h1 | ⟨host, h1⟩
  · exact va_runI (As := As) (rest := rest) (bytes := b) (maxL := nL) (n := As.length) ⟨C.1, C.2.1, C.2.2.1, C.2.2.2.1, hts⟩ hM
      ⟨⟨rfl, rfl, hR.1.1, hR.1.2, rn_ws C h5, List.mem_singleton.mpr rfl, hts _ h5, hts _ h4, h6, lk_np h7, hts _ h1⟩, h3, hts _ h2⟩ ⟨hbl, hPc⟩ rfl rfl hls rfl (lv_room hR.2.2) hd hR.2.1
  · exact va_runIN (As := As) (rest := rest) (bytes := b) (maxL := nL) (n := As.length) ⟨C.1, C.2.1, C.2.2.1, C.2.2.2.1, hts⟩ hM
      ⟨⟨⟨rfl, rfl, hR.1.1, hR.1.2, rn_ws C h5, List.mem_singleton.mpr rfl⟩, hts _ h5, hts _ h4, h6, lk_np h7, hts _ h1⟩, h3, hts _ h2⟩ ⟨hbl, hPc⟩ rfl rfl hls rfl (lv_room hR.2.2) hd hR.2.1
end RUN
/-! ### behind a call -/
section BEH
variable {p : Program} {l : Launch} {e : Env} {R : Room} {s : State} {m : MethodId} {args : Array Value} {below : List Frame} {meth : Method} {c : Code} {H : Heap} {locs : List Loc} {cells slots : Nat} {Q : State → Prop}
variable {pc : Nat} {ls : Array Slot} {rest st0 : List Value} {A0 A1 : Nat → Prop} {H0 : Heap} {mc ms : Nat} {free : Addr → Prop}
theorem bh_any {B : Option Value → State → Prop} (hr : va_Run p l e R s m args below meth c H locs cells slots mc ms (F0 m pc ls st0) rest (fun st oc t => (∃ v, oc = .returned v ∧ B v t) ∧ va_F A1 st t) free) (hS : va_S A0 H0 H locs) (hA : ∀ q, q < H.size → A1 q → A0 q) (hf : ∀ q, free q → A0 q)
    (kk : ∀ (v : Option Value) (t : State) (H1 : Heap) (locs1 : List Loc), t.heap = H1 → s.vm.Alike t.vm → B v t → H.size ≤ H1.size → (∀ q : Nat, q < H.size → ¬ A1 q → H1[q]? = H[q]?) → va_S A0 H0 H1 locs1 → W p l e R s m args below meth c H1 locs1 (cells + mc) (slots + ms) Q (F0 m (pc + 3) ls (v.toList ++ rest))) : W p l e R s m args below meth c H locs cells slots Q (F0 m pc ls st0) := by
  intro T hT X
  obtain ⟨v, st₀, t, T', L, h0, X', hL, e1, e2, ⟨⟨v', hv, hb⟩, hz, hk⟩, st⟩ := hr T hT X
  cases hv
  rw [h0] at hz hk
  obtain ⟨t2, a1, b1⟩ := kk v t T'.heap (locs ++ L) e1.symm (by rw [← e2]; exact X'.warmed.alike) hb (by rw [e1]; exact hz) (fun q h1 h2 => by rw [e1]; exact hk q h1 h2)
    ⟨Nat.le_trans hS.1 (by rw [e1]; exact hz), fun q h1 h2 => by rw [e1, hk q (Nat.lt_of_lt_of_le h1 hS.1) (fun z => h2 (hA q (Nat.lt_of_lt_of_le h1 hS.1) z))]; exact hS.2.1 q h1 h2, fun q hq => by
      rcases List.mem_append.mp hq with h | h
      · exact hS.2.2 q h
      · exact hf _ (hL q h)⟩ T' rfl X'
  exact ⟨t2, st t2 a1, b1⟩
end BEH
theorem va_pre {D : va_G} {cl : List vw_C} {w1 w2 : va_W} {H : Heap} (h : va_P D cl (w1 ++ w2) H) : va_P D cl w1 H := fun j q hj => h j q (by rw [List.getElem?_append_left (List.getElem?_eq_some_iff.mp hj).1]; exact hj)
theorem va_dre {A : Nat → Prop} {w1 w2 : va_W} (h : va_D A (w1 ++ w2)) : va_D A w1 := ⟨fun i j x y hx hy hxy => h.1 i j x y (by rw [List.getElem?_append_left (List.getElem?_eq_some_iff.mp hx).1]; exact hx) (by rw [List.getElem?_append_left (List.getElem?_eq_some_iff.mp hy).1]; exact hy) hxy, fun j q hj => h.2 j q (by rw [List.getElem?_append_left (List.getElem?_eq_some_iff.mp hj).1]; exact hj)⟩
