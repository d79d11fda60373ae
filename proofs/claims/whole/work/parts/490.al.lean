/-! allocation -/
theorem cn_of {l : Launch} {y : MethodName} {b : ByteArray} {nL : Nat} {rt : Option FieldType} {rm : Room} {av : List Value} {D : va_G} {tys : List (ClassId × FieldType)} {ws pl : va_W} {post : Option Value → va_W → va_W → List (ClassId × FieldType) → Prop}
    (hy : plainName y.cls = true) (hav : (lg_sl av).length ≤ nL)
    (body : ∀ (X : cx_T) (sz : Nat), cx_l X = l → (cx_M X).sig.returnType = rt → (cx_M X).name = y.name → cx_D X = D → cx_A X = va_A (ws ++ pl) sz → cx_w X → (∀ q, cx_A X q → cx_B X q) → VV X (b, nL, y.cls, rm) (cq X (ws ++ pl) sz post rm) 0 0 tys ws pl (lo_pad (lo_args av) nL) [] 0) :
    CM l y b nL rt rm av D tys (ws ++ pl) post := by
  intro sz
  refine Met.ofW (cc := b) (maxL := nL) (ret := rt) hy rfl ?_
  intro p e s m args below meth c s₁ B hml hv
  obtain ⟨rfl, hsz, hTB, hP, hK, hD0⟩ := hv
  subst hsz
  rw [lg_entry_eq]
  exact body (p, l, e, s, m, av.toArray, below, meth, c, D, va_A (ws ++ pl) s.heap.size, va_A (ws ++ pl) s.heap.size) s.heap.size rfl B.returns (name_of_methodNamed B.named B.method).1 rfl rfl (fun _ h => h) (fun _ h => h)
    ⟨B.exec, B.bytes, hml, findClass_of_methodNamed B.named, hTB, fun q h => ⟨Or.inr h, Or.inr h⟩, B.notSynchronized⟩ s.heap [] _ hK hP hD0.self va_S.rf (lo_entry av hav)
section AL
variable {X : cx_T} {M : ms_T} {Q : State → Prop} {k n : Nat} {tys : List (ClassId × FieldType)} {ws pl : va_W} {lv : List (Option Value)} {st : List Value} {pc : Nat}
theorem vv_toW {c : Nat × va_E} (kk : VV X M Q k n tys (ws ++ [c]) [] lv st pc) : VV X M Q k n tys ws ([] ++ [c]) lv st pc := fun C H locs ls hK hP hD hS hl =>
  kk C H locs ls hK (by rw [List.append_nil]; exact hP) (by rw [List.append_nil]; exact hD) hS hl
theorem vv_newa (hw : cx_w X) (hAB : ∀ q, cx_A X q → cx_B X q) {atype : ArrayType} {ty : FieldType} {z : Int} {N : Nat} {a0 : vp_A} (hd : decode M.1 pc = .ok (.newarray atype, 2)) (harr : Cond.arrayClass (newarray.typeOf atype) ∈ tb_l) (hty : newarray.typeOf atype = ty) (ha : ∀ cA : ClassId, vp_cell cA a0 = arrV cA N (fun _ => defaultValue ty)) (hz : z = (N : Int) ∧ N < 2147483648) (hby : N * componentBytes ty ≤ 536870912) (hc : k + 1 ≤ M.2.2.2.cells ∧ n + N ≤ M.2.2.2.slots)
    (kk : ∀ (q : Nat) (cA : ClassId), VV X M Q (k + 1) (n + N) (tys ++ [(cA, ty)]) ws (pl ++ [(q, .inl (cA, a0))]) lv (.ref q :: st) (pc + 2)) : VV X M Q k n tys ws pl lv (.int (iI z) :: st) pc := fun C H locs ls hK hP hD hS hl => by
  obtain ⟨rfl, hN⟩ := hz
  refine va_newa C.1 C.2.1 (C.2.2.2.2.1 _ harr _) hty hK hP (hD.weaken (fun _ _ _ h => hw _ h)) hS (fun q h => (C.2.2.2.2.2.1 q h).1) ha (fun h => ?_) ?_ hby hc.1 hc.2 hd (fun q cA H1 g1 g2 g3 g4 => ?_)
  · rw [← iI_0] at h
    have := (iI_lt (a := (N : Int)) (b := 0) (by omega) (by omega) (by omega) (by omega)).mp h
    omega
  · rw [iI_cl (by omega) (by omega), Int.toNat_natCast]
  · rw [List.append_assoc] at g2 g3
    exact kk q cA C H1 locs ls g1 g2 (g3.weaken (fun _ _ _ h => hAB _ h)) g4 hl
theorem vv_newq (hw : cx_w X) (hAB : ∀ q, cx_A X q → cx_B X q) {idx : Nat} {E : String} {z : Int} {N : Nat} (hd : decode M.1 pc = .ok (.anewarray idx, 3)) (hcl : Cond.classLink M.2.2.1 idx E ∈ tb_l) (hov : Cond.arrayOver (.object E) ∈ tb_l) (hz : z = (N : Int) ∧ N < 2147483648) (hby : N * 4 ≤ 536870912) (hc : k + 1 ≤ M.2.2.2.cells ∧ n + N ≤ M.2.2.2.slots)
    (kk : ∀ (q : Nat) (cA : ClassId), VV X M Q (k + 1) (n + N) (tys ++ [(cA, .object E)]) ws (pl ++ [(q, .inl (cA, N, .inr (.inr (.inr (.inr (fun _ => none))))))]) lv (.ref q :: st) (pc + 3)) : VV X M Q k n tys ws pl lv (.int (iI z) :: st) pc := fun C H locs ls hK hP hD hS hl => by
  obtain ⟨rfl, hN⟩ := hz
  refine va_newq C.1 C.2.1 C.2.2.2.1 (C.2.2.2.2.1 _ hcl _) (va_AO.of (C.2.2.2.2.1 _ hov #[])) hK hP (hD.weaken (fun _ _ _ h => hw _ h)) hS (fun q h => (C.2.2.2.2.2.1 q h).1) (fun h => ?_) ?_ hby hc.1 hc.2 hd (fun q cA H1 g1 g2 g3 g4 => ?_)
  · rw [← iI_0] at h
    have := (iI_lt (a := (N : Int)) (b := 0) (by omega) (by omega) (by omega) (by omega)).mp h
    omega
  · rw [iI_cl (by omega) (by omega), Int.toNat_natCast]
  · rw [List.append_assoc] at g2 g3
    exact kk q cA C H1 locs ls g1 g2 (g3.weaken (fun _ _ _ h => hAB _ h)) g4 hl
theorem vv_newo (hw : cx_w X) (hAB : ∀ q, cx_A X q → cx_B X q) {Cn : String} {T : u_T} {N ci idx : Nat} {fs : List Value} (hd : decode M.1 pc = .ok (.new idx, 3)) (hin : ∀ w ∈ u_ws Cn T N, w ∈ tb_l) (ty : Nat → FieldType) (hty : ∀ j, j < N → parseFieldDescriptor (T j).2.2.1 = some (ty j)) (hcl : Cond.classLink M.2.2.1 idx Cn ∈ tb_l) (hinst : Cond.instantiable Cn N ∈ tb_l) (hini : Cond.initialized Cn ∈ tb_l) (hci : classes[ci]? = some (Cn, T, N)) (hfs : ∀ j, j < N → defaultValue (ty j) = vp_V fs j) (hc : k + 1 ≤ M.2.2.2.cells ∧ n + N ≤ M.2.2.2.slots)
    (kk : ∀ q : Nat, VV X M Q (k + 1) (n + N) tys ws (pl ++ [(q, .inr (ci, fs))]) lv (.ref q :: st) (pc + 3)) : VV X M Q k n tys ws pl lv st pc := fun C H locs ls hK hP hD hS hl =>
  va_new C.1 C.2.1 (Ts := tb_l) (fun w hw2 => C.2.2.2.2.1 w hw2 _) hin ty hty C.2.2.2.1 (C.2.2.2.2.1 _ hcl _) (C.2.2.2.2.1 _ hinst _) (C.2.2.2.2.1 _ hini _) hK hP (hD.weaken (fun _ _ _ h => hw _ h)) hS (fun q h => (C.2.2.2.2.2.1 q h).1) hci hfs hc.1 hc.2 hd (fun q H1 g2 g3 g4 => by
    rw [List.append_assoc] at g2 g3
    exact kk q C H1 locs ls hK g2 (g3.weaken (fun _ _ _ h => hAB _ h)) g4 hl)
end AL
