/-- a field's link from the class 'own' (entry idx of its pool) to the field j of the class ci -/
def fl_ok (own : String) (idx ci j : Nat) : Prop := ∃ (C : String) (T : u_T) (N : Nat), classes[ci]? = some (C, T, N) ∧ j < N ∧ (∀ w ∈ u_ws C T N, w ∈ tb_l) ∧ (Cond.fieldLink own idx C (T j).2.1 (T j).2.2.1 ∈ tb_l ∨ ∃ host, Cond.fieldLinkNest own idx C (T j).2.1 (T j).2.2.1 host ∈ tb_l) ∧ (T j).1 = C
def fp_ok (own : String) (idx ci j : Nat) (ty : FieldType) : Prop := ∃ (C : String) (T : u_T) (N : Nat) (t : Nat → FieldType), classes[ci]? = some (C, T, N) ∧ j < N ∧ (∀ w ∈ u_ws C T N, w ∈ tb_l) ∧ (Cond.fieldLink own idx C (T j).2.1 (T j).2.2.1 ∈ tb_l ∨ ∃ host, Cond.fieldLinkNest own idx C (T j).2.1 (T j).2.2.1 host ∈ tb_l) ∧ (T j).1 = C ∧ (T j).2.2.2 = false ∧ (∀ k, k < N → parseFieldDescriptor (T k).2.2.1 = some (t k)) ∧ (∀ a, a < N → ∀ b, b < N → a ≠ b → (T a).2.1 ≠ (T b).2.1) ∧ t j = ty
def fF_ok (own : String) (idx ci j : Nat) (ty : FieldType) : Prop := ∃ (C : String) (T : u_T) (N : Nat) (t : Nat → FieldType), classes[ci]? = some (C, T, N) ∧ j < N ∧ (∀ w ∈ u_ws C T N, w ∈ tb_l) ∧ (Cond.fieldLink own idx C (T j).2.1 (T j).2.2.1 ∈ tb_l) ∧ (T j).1 = C ∧ (T j).2.2.2 = true ∧ (∀ k, k < N → parseFieldDescriptor (T k).2.2.1 = some (t k)) ∧ (∀ a, a < N → ∀ b, b < N → a ≠ b → (T a).2.1 ≠ (T b).2.1) ∧ t j = ty ∧ (T j).1 = own
theorem zz_eq {a : Int} (a1 : -2147483648 ≤ a) (a2 : a < 2147483648) : iI a = 0 ↔ a = 0 := by
  rw [← iI_0, iI_eq a1 a2 (by omega) (by omega)]
theorem zz_lt {a : Int} (a1 : -2147483648 ≤ a) (a2 : a < 2147483648) : iI a < 0 ↔ a < 0 := by
  rw [← iI_0, iI_lt a1 a2 (by omega) (by omega)]
theorem zz_ge {a : Int} (a1 : -2147483648 ≤ a) (a2 : a < 2147483648) : 0 ≤ iI a ↔ 0 ≤ a := by
  rw [← iI_0, iI_le (by omega) (by omega) a1 a2]
theorem zz_gt {a : Int} (a1 : -2147483648 ≤ a) (a2 : a < 2147483648) : 0 < iI a ↔ 0 < a := by
  rw [← iI_0, iI_lt (by omega) (by omega) a1 a2]
theorem zz_le {a : Int} (a1 : -2147483648 ≤ a) (a2 : a < 2147483648) : iI a ≤ 0 ↔ a ≤ 0 := by
  rw [← iI_0, iI_le a1 a2 (by omega) (by omega)]
/-! VV: what a walk of one method has to show at a point: the picture of the cells 'ws', of the locals 'lv', the operand stack 'st', the pc. -/
abbrev cx_T : Type := Program × Launch × Env × State × MethodId × Array Value × List Frame × Method × Code × va_G × (Nat → Prop) × (Nat → Prop)
abbrev cx_p (X : cx_T) : Program := X.1
abbrev cx_l (X : cx_T) : Launch := X.2.1
abbrev cx_e (X : cx_T) : Env := X.2.2.1
abbrev cx_s (X : cx_T) : State := X.2.2.2.1
abbrev cx_m (X : cx_T) : MethodId := X.2.2.2.2.1
abbrev cx_a (X : cx_T) : Array Value := X.2.2.2.2.2.1
abbrev cx_b (X : cx_T) : List Frame := X.2.2.2.2.2.2.1
abbrev cx_M (X : cx_T) : Method := X.2.2.2.2.2.2.2.1
abbrev cx_c (X : cx_T) : Code := X.2.2.2.2.2.2.2.2.1
abbrev cx_D (X : cx_T) : va_G := X.2.2.2.2.2.2.2.2.2.1
abbrev cx_A (X : cx_T) : Nat → Prop := X.2.2.2.2.2.2.2.2.2.2.1
abbrev cx_B (X : cx_T) : Nat → Prop := X.2.2.2.2.2.2.2.2.2.2.2
/-- the picture's cells may be written -/
def cx_w (X : cx_T) : Prop := ∀ q, cx_B X q → cx_A X q
/-- a method's bytes, its number of locals, its class, its room -/
abbrev ms_T : Type := ByteArray × Nat × String × Room
def cx_ok (X : cx_T) (M : ms_T) : Prop := (cx_p X).tables.exec = Jvm.exec ∧ (cx_c X).code = M.1 ∧ (cx_c X).maxLocals = M.2.1 ∧ (cx_s X).vm.findClass M.2.2.1 = some (cx_m X).cls ∧ tb_ok (cx_s X) ∧ (∀ q, (cx_s X).heap.size ≤ q → cx_A X q ∧ cx_B X q) ∧ (cx_M X).locks = false
def lo_has (ls : Array Slot) (nL : Nat) (lv : List (Option Value)) : Prop := ls.size = nL ∧ lv_wf ls ∧ ∀ (i : Nat) (v : Value), lv[i]? = some (some v) → ls[i]? = some (.val v)
def lo_l (lv : List (Option Value)) : List (Nat × Value) := (List.range lv.length).filterMap (fun i => match lv[i]? with | some (some v) => some (i, v) | _ => none)
theorem lo_mem {lv : List (Option Value)} {i : Nat} {v : Value} : (i, v) ∈ lo_l lv ↔ lv[i]? = some (some v) := by
  unfold lo_l
  rw [List.mem_filterMap]
  constructor
  · rintro ⟨j, -, h⟩
    split at h
    · rename_i w hw
      have := Option.some.inj h
      cases this
      exact hw
    · cases h
  · intro h
    refine ⟨i, List.mem_range.mpr (List.getElem?_eq_some_iff.mp h).1, ?_⟩
    rw [h]
theorem lo_to {ls : Array Slot} {nL : Nat} {lv : List (Option Value)} (h : lo_has ls nL lv) : lv_has ls nL (lo_l lv) := ⟨h.1, h.2.1, fun q hq => h.2.2 q.1 q.2 (lo_mem.mp hq)⟩
/-- the place before is no long -/
def lo_ok (lv : List (Option Value)) (i : Nat) : Bool := match i with
  | 0 => true
  | j + 1 => match lv[j]? with
    | some (some v) => v.category == 1
    | _ => true
theorem lo_set {ls' : Array Slot} {nL i : Nat} {v : Value} {lv : List (Option Value)} (ho : lo_ok lv i = true) (h : lv_has ls' nL ((i, v) :: (lo_l lv).filter (fun q => !(q.1 == i) && !(q.1 + 1 == i && q.2.category == 2)))) : lo_has ls' nL (lv.set i (some v)) := by
  refine ⟨h.1, h.2.1, fun j w hj => ?_⟩
  by_cases hji : j = i
  · subst hji
    have hl : j < (lv.set j (some v)).length := (List.getElem?_eq_some_iff.mp hj).1
    rw [List.getElem?_set_self (by simpa using hl)] at hj
    have e1 : v = w := Option.some.inj (Option.some.inj hj)
    subst e1
    exact h.2.2 (j, v) List.mem_cons_self
  · rw [List.getElem?_set_ne (Ne.symm hji)] at hj
    refine h.2.2 (j, w) (List.mem_cons_of_mem _ (List.mem_filter.mpr ⟨lo_mem.mpr hj, ?_⟩))
    have hc : ¬ (j + 1 = i ∧ w.category = 2) := by
      rintro ⟨e1, e2⟩
      subst e1
      simp only [lo_ok, hj] at ho
      rw [e2] at ho
      exact absurd ho (by decide)
    simp [hji]
    by_cases e1 : j + 1 = i
    · exact Or.inr (fun e2 => hc ⟨e1, e2⟩)
    · exact Or.inl e1
theorem lo_set2 {ls' : Array Slot} {nL i : Nat} {v : Value} {lv : List (Option Value)} (ho : lo_ok lv i = true) (h : lv_has ls' nL ((i, v) :: (lo_l lv).filter (fun q => !(q.1 == i) && (!(q.1 == i + 1) && !(q.1 + 1 == i && q.2.category == 2))))) : lo_has ls' nL ((lv.set (i + 1) none).set i (some v)) := by
  refine ⟨h.1, h.2.1, fun j w hj => ?_⟩
  by_cases hji : j = i
  · subst hji
    have hl : j < ((lv.set (j + 1) none).set j (some v)).length := (List.getElem?_eq_some_iff.mp hj).1
    rw [List.getElem?_set_self (by simpa using hl)] at hj
    have e1 : v = w := Option.some.inj (Option.some.inj hj)
    subst e1
    exact h.2.2 (j, v) List.mem_cons_self
  · rw [List.getElem?_set_ne (Ne.symm hji)] at hj
    by_cases hj1 : j = i + 1
    · subst hj1
      have hl : i + 1 < (lv.set (i + 1) none).length := (List.getElem?_eq_some_iff.mp hj).1
      rw [List.getElem?_set_self (by simpa using hl)] at hj
      cases hj
    · rw [List.getElem?_set_ne (Ne.symm hj1)] at hj
      refine h.2.2 (j, w) (List.mem_cons_of_mem _ (List.mem_filter.mpr ⟨lo_mem.mpr hj, ?_⟩))
      have hc : ¬ (j + 1 = i ∧ w.category = 2) := by
        rintro ⟨e1, e2⟩
        subst e1
        simp only [lo_ok, hj] at ho
        rw [e2] at ho
        exact absurd ho (by decide)
      simp [hji, hj1]
      by_cases e1 : j + 1 = i
      · exact Or.inr (fun e2 => hc ⟨e1, e2⟩)
      · exact Or.inl e1
/-- fewer locals known -/
def lo_le (a b : List (Option Value)) : Prop := ∀ (i : Nat) (v : Value), a[i]? = some (some v) → b[i]? = some (some v)
theorem lo_le_nil (b : List (Option Value)) : lo_le [] b := fun i v h => by simp at h
theorem lo_le_cons {a b : List (Option Value)} (x : Option Value) (h : lo_le a b) : lo_le (x :: a) (x :: b) := fun i v hi => by
  cases i with
  | zero => exact hi
  | succ j => exact h j v hi
theorem lo_le_none {a b : List (Option Value)} (x : Option Value) (h : lo_le a b) : lo_le (none :: a) (x :: b) := fun i v hi => by
  cases i with
  | zero => cases hi
  | succ j => exact h j v hi
def lo_mask : List Bool → List (Option Value) → List (Option Value)
  | b :: bs, v :: vs => (if b then v else none) :: lo_mask bs vs
  | _, _ => []
theorem lo_mask_le : ∀ (bs : List Bool) (vs : List (Option Value)), lo_le (lo_mask bs vs) vs
  | [], vs => lo_le_nil _
  | b :: bs, [] => lo_le_nil _
  | b :: bs, v :: vs => by
    cases b
    · exact lo_le_none v (lo_mask_le bs vs)
    · exact lo_le_cons v (lo_mask_le bs vs)
def VV (X : cx_T) (M : ms_T) (Q : State → Prop) (k n : Nat) (tys : List (ClassId × FieldType)) (ws pl : va_W) (lv : List (Option Value)) (st : List Value) (pc : Nat) : Prop :=
  cx_ok X M → ∀ (H : Heap) (locs : List Loc) (ls : Array Slot), va_K (cx_D X) classes tys (cx_s X) → va_P (cx_D X) classes (ws ++ pl) H → va_D (cx_B X) (ws ++ pl) → va_S (cx_A X) (cx_s X).heap H locs → lo_has ls M.2.1 lv →
    W (cx_p X) (cx_l X) (cx_e X) M.2.2.2 (cx_s X) (cx_m X) (cx_a X) (cx_b X) (cx_M X) (cx_c X) H locs k n Q (F0 (cx_m X) pc ls st)
section VV
variable {X : cx_T} {M : ms_T} {Q : State → Prop} {k n : Nat} {tys : List (ClassId × FieldType)} {ws pl : va_W} {lv : List (Option Value)} {st : List Value} {pc : Nat}
theorem vv_mask (bs : List Bool) (kk : VV X M Q k n tys ws pl (lo_mask bs lv) st pc) : VV X M Q k n tys ws pl lv st pc := fun C H locs ls hK hP hD hS hl => kk C H locs ls hK hP hD hS ⟨hl.1, hl.2.1, fun i v h => hl.2.2 i v (lo_mask_le bs lv i v h)⟩
theorem vv_le {lv' : List (Option Value)} (hle : lo_le lv' lv) (kk : VV X M Q k n tys ws pl lv' st pc) : VV X M Q k n tys ws pl lv st pc := fun C H locs ls hK hP hD hS hl => kk C H locs ls hK hP hD hS ⟨hl.1, hl.2.1, fun i v h => hl.2.2 i v (hle i v h)⟩
theorem vv_widen {k' n' : Nat} (h1 : k ≤ k') (h2 : n ≤ n') (kk : VV X M Q k' n' tys ws pl lv st pc) : VV X M Q k n tys ws pl lv st pc := fun C H locs ls hK hP hD hS hl => W.widen h1 h2 (kk C H locs ls hK hP hD hS hl)
theorem vv_sub {ws' : va_W} (is : List Nat) (hn : va_nd is = true) (hs : is.map (fun i => ws[i]?) = ws'.map some) (kk : VV X M Q k n tys ws' pl lv st pc) : VV X M Q k n tys ws pl lv st pc := fun C H locs ls hK hP hD hS hl => kk C H locs ls hK (hP.part is hs) (hD.part is hn hs) hS hl
theorem vv_tys {tys' : List (ClassId × FieldType)} (is : List Nat) (hs : is.filterMap (fun i => tys[i]?) = tys') (kk : VV X M Q k n tys' ws pl lv st pc) : VV X M Q k n tys ws pl lv st pc := fun C H locs ls hK hP hD hS hl => kk C H locs ls (hK.sub is hs) hP hD hS hl

theorem vv_iconst {z : Int} (hd : decode M.1 pc = .ok (.iconst z, 1)) (kk : VV X M Q k n tys ws pl lv (.int (iI z) :: st) (pc + 1)) : VV X M Q k n tys ws pl lv (st) pc := fun C H locs ls hK hP hD hS hl => lv_iconst C.1 C.2.1 hd rfl (kk C H locs ls hK hP hD hS hl)
theorem vv_bipush {z : Int} (hd : decode M.1 pc = .ok (.bipush z, 2)) (hz : (Int8.ofInt z).toInt32 = iI z) (kk : VV X M Q k n tys ws pl lv (.int (iI z) :: st) (pc + 2)) : VV X M Q k n tys ws pl lv (st) pc := fun C H locs ls hK hP hD hS hl => lv_bipush C.1 C.2.1 hd hz (kk C H locs ls hK hP hD hS hl)
theorem vv_sipush {z : Int} (hd : decode M.1 pc = .ok (.sipush z, 3)) (hz : (Int16.ofInt z).toInt32 = iI z) (kk : VV X M Q k n tys ws pl lv (.int (iI z) :: st) (pc + 3)) : VV X M Q k n tys ws pl lv (st) pc := fun C H locs ls hK hP hD hS hl => lv_sipush C.1 C.2.1 hd hz (kk C H locs ls hK hP hD hS hl)
theorem vv_null (hd : decode M.1 pc = .ok (.aconst_null, 1)) (kk : VV X M Q k n tys ws pl lv (.null :: st) (pc + 1)) : VV X M Q k n tys ws pl lv (st) pc := fun C H locs ls hK hP hD hS hl => lv_null C.1 C.2.1 hd (kk C H locs ls hK hP hD hS hl)
theorem vv_iload_n {j : Fin 4} {x : Int32} (hd : decode M.1 pc = .ok (.iload_n j, 1)) (hv : lv[(j : Nat)]? = some (some (.int x))) (kk : VV X M Q k n tys ws pl lv (.int x :: st) (pc + 1)) : VV X M Q k n tys ws pl lv (st) pc := fun C H locs ls hK hP hD hS hl => lv_iload_n C.1 C.2.1 hd rfl (hl.2.2 _ _ hv) (kk C H locs ls hK hP hD hS hl)
theorem vv_iload {j : Nat} {x : Int32} (hd : decode M.1 pc = .ok (.iload j, 2)) (hv : lv[j]? = some (some (.int x))) (kk : VV X M Q k n tys ws pl lv (.int x :: st) (pc + 2)) : VV X M Q k n tys ws pl lv (st) pc := fun C H locs ls hK hP hD hS hl => lv_iload C.1 C.2.1 hd (hl.2.2 _ _ hv) (kk C H locs ls hK hP hD hS hl)
theorem vv_aload_n {j : Fin 4} {x : Nat} (hd : decode M.1 pc = .ok (.aload_n j, 1)) (hv : lv[(j : Nat)]? = some (some (.ref x))) (kk : VV X M Q k n tys ws pl lv (.ref x :: st) (pc + 1)) : VV X M Q k n tys ws pl lv (st) pc := fun C H locs ls hK hP hD hS hl => lv_aload_n C.1 C.2.1 hd rfl (hl.2.2 _ _ hv) (kk C H locs ls hK hP hD hS hl)
theorem vv_aload {j : Nat} {x : Nat} (hd : decode M.1 pc = .ok (.aload j, 2)) (hv : lv[j]? = some (some (.ref x))) (kk : VV X M Q k n tys ws pl lv (.ref x :: st) (pc + 2)) : VV X M Q k n tys ws pl lv (st) pc := fun C H locs ls hK hP hD hS hl => lv_aload C.1 C.2.1 hd (hl.2.2 _ _ hv) (kk C H locs ls hK hP hD hS hl)
theorem vv_lload_n {j : Fin 4} {x : Int64} (hd : decode M.1 pc = .ok (.lload_n j, 1)) (hv : lv[(j : Nat)]? = some (some (.long x))) (kk : VV X M Q k n tys ws pl lv (.long x :: st) (pc + 1)) : VV X M Q k n tys ws pl lv (st) pc := fun C H locs ls hK hP hD hS hl => lv_lload_n C.1 C.2.1 hd rfl (hl.2.2 _ _ hv) (kk C H locs ls hK hP hD hS hl)
theorem vv_lload {j : Nat} {x : Int64} (hd : decode M.1 pc = .ok (.lload j, 2)) (hv : lv[j]? = some (some (.long x))) (kk : VV X M Q k n tys ws pl lv (.long x :: st) (pc + 2)) : VV X M Q k n tys ws pl lv (st) pc := fun C H locs ls hK hP hD hS hl => lv_lload C.1 C.2.1 hd (hl.2.2 _ _ hv) (kk C H locs ls hK hP hD hS hl)
theorem vv_istore_n {j : Fin 4} {x : Int32} (hd : decode M.1 pc = .ok (.istore_n j, 1)) (ho : lo_ok lv (j : Nat) = true) (hn : (j : Nat) < M.2.1) (kk : VV X M Q k n tys ws pl (lv.set (j : Nat) (some (.int x))) st (pc + 1)) : VV X M Q k n tys ws pl lv (.int x :: st) pc := fun C H locs ls hK hP hD hS hl => lv_istore_n C.1 C.2.1 hd rfl (lo_to hl) hn rfl (fun ls' h' => kk C H locs ls' hK hP hD hS (lo_set ho h'))
theorem vv_istore {j : Nat} {x : Int32} (hd : decode M.1 pc = .ok (.istore j, 2)) (ho : lo_ok lv j = true) (hn : j < M.2.1) (kk : VV X M Q k n tys ws pl (lv.set j (some (.int x))) st (pc + 2)) : VV X M Q k n tys ws pl lv (.int x :: st) pc := fun C H locs ls hK hP hD hS hl => lv_istore C.1 C.2.1 hd (lo_to hl) hn rfl (fun ls' h' => kk C H locs ls' hK hP hD hS (lo_set ho h'))
theorem vv_astore_n {j : Fin 4} {x : Nat} (hd : decode M.1 pc = .ok (.astore_n j, 1)) (ho : lo_ok lv (j : Nat) = true) (hn : (j : Nat) < M.2.1) (kk : VV X M Q k n tys ws pl (lv.set (j : Nat) (some (.ref x))) st (pc + 1)) : VV X M Q k n tys ws pl lv (.ref x :: st) pc := fun C H locs ls hK hP hD hS hl => lv_astore_n C.1 C.2.1 hd rfl (lo_to hl) hn rfl (fun ls' h' => kk C H locs ls' hK hP hD hS (lo_set ho h'))
theorem vv_astore {j : Nat} {x : Nat} (hd : decode M.1 pc = .ok (.astore j, 2)) (ho : lo_ok lv j = true) (hn : j < M.2.1) (kk : VV X M Q k n tys ws pl (lv.set j (some (.ref x))) st (pc + 2)) : VV X M Q k n tys ws pl lv (.ref x :: st) pc := fun C H locs ls hK hP hD hS hl => lv_astore C.1 C.2.1 hd (lo_to hl) hn rfl (fun ls' h' => kk C H locs ls' hK hP hD hS (lo_set ho h'))
theorem vv_lstore_n {j : Fin 4} {x : Int64} (hd : decode M.1 pc = .ok (.lstore_n j, 1)) (ho : lo_ok lv (j : Nat) = true) (hn : (j : Nat) + 1 < M.2.1) (kk : VV X M Q k n tys ws pl ((lv.set ((j : Nat) + 1) none).set (j : Nat) (some (.long x))) st (pc + 1)) : VV X M Q k n tys ws pl lv (.long x :: st) pc := fun C H locs ls hK hP hD hS hl => lv_lstore_n C.1 C.2.1 hd rfl (lo_to hl) hn rfl (fun ls' h' => kk C H locs ls' hK hP hD hS (lo_set2 ho h'))
theorem vv_lstore {j : Nat} {x : Int64} (hd : decode M.1 pc = .ok (.lstore j, 2)) (ho : lo_ok lv j = true) (hn : j + 1 < M.2.1) (kk : VV X M Q k n tys ws pl ((lv.set (j + 1) none).set j (some (.long x))) st (pc + 2)) : VV X M Q k n tys ws pl lv (.long x :: st) pc := fun C H locs ls hK hP hD hS hl => lv_lstore C.1 C.2.1 hd (lo_to hl) hn rfl (fun ls' h' => kk C H locs ls' hK hP hD hS (lo_set2 ho h'))
theorem vv_iinc {j : Nat} {z a : Int} (hd : decode M.1 pc = .ok (.iinc j z, 3)) (hv : lv[j]? = some (some (.int (iI a)))) (ho : lo_ok lv j = true) (hn : j < M.2.1) (kk : VV X M Q k n tys ws pl (lv.set j (some (.int (iI (a + z))))) st (pc + 3)) : VV X M Q k n tys ws pl lv st pc := fun C H locs ls hK hP hD hS hl => by
  obtain ⟨i0, h0⟩ := List.getElem?_of_mem (lo_mem.mpr hv)
  exact lv_iinc C.1 C.2.1 hd (lo_to hl) h0 (iI_add a z) hn rfl (fun ls' h' => kk C H locs ls' hK hP hD hS (lo_set ho h'))
theorem vv_iadd {a b : Int} (hd : decode M.1 pc = .ok (.iadd, 1)) (kk : VV X M Q k n tys ws pl lv (.int (iI (a + b)) :: st) (pc + 1)) : VV X M Q k n tys ws pl lv (.int (iI b) :: .int (iI a) :: st) pc := fun C H locs ls hK hP hD hS hl => lv_iadd C.1 C.2.1 hd (by rw [iI_add]; exact kk C H locs ls hK hP hD hS hl)
theorem vv_isub {a b : Int} (hd : decode M.1 pc = .ok (.isub, 1)) (kk : VV X M Q k n tys ws pl lv (.int (iI (a - b)) :: st) (pc + 1)) : VV X M Q k n tys ws pl lv (.int (iI b) :: .int (iI a) :: st) pc := fun C H locs ls hK hP hD hS hl => lv_isub C.1 C.2.1 hd (by rw [iI_sub]; exact kk C H locs ls hK hP hD hS hl)
theorem vv_imul {a b : Int} (hd : decode M.1 pc = .ok (.imul, 1)) (kk : VV X M Q k n tys ws pl lv (.int (iI (a * b)) :: st) (pc + 1)) : VV X M Q k n tys ws pl lv (.int (iI b) :: .int (iI a) :: st) pc := fun C H locs ls hK hP hD hS hl => lv_imul C.1 C.2.1 hd (by rw [iI_mul]; exact kk C H locs ls hK hP hD hS hl)
theorem vv_idiv {a b : Int} (hd : decode M.1 pc = .ok (.idiv, 1)) (h : (-2147483648 ≤ a ∧ a < 2147483648) ∧ 0 < b ∧ b < 2147483648) (kk : VV X M Q k n tys ws pl lv (.int (iI (a.tdiv b)) :: st) (pc + 1)) : VV X M Q k n tys ws pl lv (.int (iI b) :: .int (iI a) :: st) pc := fun C H locs ls hK hP hD hS hl => lv_idiv C.1 C.2.1 hd (iI_ne0 h.2.1 h.2.2) (by rw [iI_tdiv h.1.1 h.1.2 h.2.1 h.2.2]; exact kk C H locs ls hK hP hD hS hl)
theorem vv_iand {x y v : Int32} (hd : decode M.1 pc = .ok (.iand, 1)) (hv : x &&& y = v) (kk : VV X M Q k n tys ws pl lv (.int v :: st) (pc + 1)) : VV X M Q k n tys ws pl lv (.int y :: .int x :: st) pc := fun C H locs ls hK hP hD hS hl => lv_iand C.1 C.2.1 hd (by rw [hv]; exact kk C H locs ls hK hP hD hS hl)
theorem vv_ior {x y v : Int32} (hd : decode M.1 pc = .ok (.ior, 1)) (hv : x ||| y = v) (kk : VV X M Q k n tys ws pl lv (.int v :: st) (pc + 1)) : VV X M Q k n tys ws pl lv (.int y :: .int x :: st) pc := fun C H locs ls hK hP hD hS hl => lv_ior C.1 C.2.1 hd (by rw [hv]; exact kk C H locs ls hK hP hD hS hl)
theorem vv_ixor {x y v : Int32} (hd : decode M.1 pc = .ok (.ixor, 1)) (hv : x ^^^ y = v) (kk : VV X M Q k n tys ws pl lv (.int v :: st) (pc + 1)) : VV X M Q k n tys ws pl lv (.int y :: .int x :: st) pc := fun C H locs ls hK hP hD hS hl => lv_ixor C.1 C.2.1 hd (by rw [hv]; exact kk C H locs ls hK hP hD hS hl)
theorem vv_ishl {x y v : Int32} (hd : decode M.1 pc = .ok (.ishl, 1)) (hv : x <<< (y &&& 31) = v) (kk : VV X M Q k n tys ws pl lv (.int v :: st) (pc + 1)) : VV X M Q k n tys ws pl lv (.int y :: .int x :: st) pc := fun C H locs ls hK hP hD hS hl => lv_ishl C.1 C.2.1 hd (by rw [hv]; exact kk C H locs ls hK hP hD hS hl)
theorem vv_ishr {x y v : Int32} (hd : decode M.1 pc = .ok (.ishr, 1)) (hv : x >>> (y &&& 31) = v) (kk : VV X M Q k n tys ws pl lv (.int v :: st) (pc + 1)) : VV X M Q k n tys ws pl lv (.int y :: .int x :: st) pc := fun C H locs ls hK hP hD hS hl => lv_ishr C.1 C.2.1 hd (by rw [hv]; exact kk C H locs ls hK hP hD hS hl)
theorem vv_i2l {x : Int32} {v : Int64} (hd : decode M.1 pc = .ok (.i2l, 1)) (hv : x.toInt64 = v) (kk : VV X M Q k n tys ws pl lv (.long v :: st) (pc + 1)) : VV X M Q k n tys ws pl lv (.int x :: st) pc := fun C H locs ls hK hP hD hS hl => lv_i2l C.1 C.2.1 hd hv (kk C H locs ls hK hP hD hS hl)
theorem vv_ladd {x y v : Int64} (hd : decode M.1 pc = .ok (.ladd, 1)) (hv : x + y = v) (kk : VV X M Q k n tys ws pl lv (.long v :: st) (pc + 1)) : VV X M Q k n tys ws pl lv (.long y :: .long x :: st) pc := fun C H locs ls hK hP hD hS hl => lv_ladd C.1 C.2.1 hd (by rw [hv]; exact kk C H locs ls hK hP hD hS hl)
theorem vv_lsub {x y v : Int64} (hd : decode M.1 pc = .ok (.lsub, 1)) (hv : x - y = v) (kk : VV X M Q k n tys ws pl lv (.long v :: st) (pc + 1)) : VV X M Q k n tys ws pl lv (.long y :: .long x :: st) pc := fun C H locs ls hK hP hD hS hl => lv_lsub C.1 C.2.1 hd (by rw [hv]; exact kk C H locs ls hK hP hD hS hl)
theorem vv_lmul {x y v : Int64} (hd : decode M.1 pc = .ok (.lmul, 1)) (hv : x * y = v) (kk : VV X M Q k n tys ws pl lv (.long v :: st) (pc + 1)) : VV X M Q k n tys ws pl lv (.long y :: .long x :: st) pc := fun C H locs ls hK hP hD hS hl => lv_lmul C.1 C.2.1 hd (by rw [hv]; exact kk C H locs ls hK hP hD hS hl)
theorem vv_lconst {z : Fin 2} {v : Int64} (hd : decode M.1 pc = .ok (.lconst z, 1)) (hv : Int64.ofNat (z : Nat) = v) (kk : VV X M Q k n tys ws pl lv (.long v :: st) (pc + 1)) : VV X M Q k n tys ws pl lv (st) pc := fun C H locs ls hK hP hD hS hl => lv_lconst C.1 C.2.1 hd hv (kk C H locs ls hK hP hD hS hl)
theorem vv_lcmp {x y : Int64} {v : Int32} (hd : decode M.1 pc = .ok (.lcmp, 1)) (hv : lg_cmp x y = v) (kk : VV X M Q k n tys ws pl lv (.int v :: st) (pc + 1)) : VV X M Q k n tys ws pl lv (.long y :: .long x :: st) pc := fun C H locs ls hK hP hD hS hl => W.lcmp C.1 C.2.1 hd (by rw [hv]; exact kk C H locs ls hK hP hD hS hl)
theorem vv_dup {u : Value} (hd : decode M.1 pc = .ok (.dup, 1)) (hu : u.category = 1) (kk : VV X M Q k n tys ws pl lv (u :: u :: st) (pc + 1)) : VV X M Q k n tys ws pl lv (u :: st) pc := fun C H locs ls hK hP hD hS hl => lv_dup C.1 C.2.1 hd hu (kk C H locs ls hK hP hD hS hl)
theorem vv_pop {u : Value} (hd : decode M.1 pc = .ok (.pop, 1)) (hu : u.category = 1) (kk : VV X M Q k n tys ws pl lv (st) (pc + 1)) : VV X M Q k n tys ws pl lv (u :: st) pc := fun C H locs ls hK hP hD hS hl => lv_pop C.1 C.2.1 hd hu (kk C H locs ls hK hP hD hS hl)
theorem vv_dup_x1 {u w : Value} (hd : decode M.1 pc = .ok (.dup_x1, 1)) (hu : u.category = 1) (hw : w.category = 1) (kk : VV X M Q k n tys ws pl lv (u :: w :: u :: st) (pc + 1)) : VV X M Q k n tys ws pl lv (u :: w :: st) pc := fun C H locs ls hK hP hD hS hl => lv_dup_x1 C.1 C.2.1 hd hu hw (kk C H locs ls hK hP hD hS hl)
theorem vv_dup_x2 {u w z : Value} (hd : decode M.1 pc = .ok (.dup_x2, 1)) (hu : u.category = 1) (hw : w.category = 1) (hz : z.category = 1) (kk : VV X M Q k n tys ws pl lv (u :: w :: z :: u :: st) (pc + 1)) : VV X M Q k n tys ws pl lv (u :: w :: z :: st) pc := fun C H locs ls hK hP hD hS hl => lv_dup_x2 C.1 C.2.1 hd hu hw hz (kk C H locs ls hK hP hD hS hl)
theorem vv_dup2 {u w : Value} (hd : decode M.1 pc = .ok (.dup2, 1)) (hu : u.category = 1) (hw : w.category = 1) (kk : VV X M Q k n tys ws pl lv (u :: w :: u :: w :: st) (pc + 1)) : VV X M Q k n tys ws pl lv (u :: w :: st) pc := fun C H locs ls hK hP hD hS hl => lv_dup2_11 C.1 C.2.1 hd hu hw (kk C H locs ls hK hP hD hS hl)
theorem vv_goto {off : Int} {tgt : Nat} (hd : decode M.1 pc = .ok (.goto off, 3)) (ht : (pc : Int) + off = (tgt : Int)) (kk : VV X M Q k n tys ws pl lv st tgt) : VV X M Q k n tys ws pl lv st pc := fun C H locs ls hK hP hD hS hl => lv_goto C.1 C.2.1 hd ht (kk C H locs ls hK hP hD hS hl)
theorem vv_icmp_eq {a b : Int} {off : Int} {tgt : Nat} (hd : decode M.1 pc = .ok (.if_icmp .eq off, 3)) (ht : (pc : Int) + off = (tgt : Int)) (h : (-2147483648 ≤ a ∧ a < 2147483648) ∧ -2147483648 ≤ b ∧ b < 2147483648) (kt : a = b → VV X M Q k n tys ws pl lv st tgt) (kf : ¬ a = b → VV X M Q k n tys ws pl lv st (pc + 3)) : VV X M Q k n tys ws pl lv (.int (iI b) :: .int (iI a) :: st) pc := fun C H locs ls hK hP hD hS hl => lv_icmp_eq C.1 C.2.1 hd ht (fun q => kt ((iI_eq h.1.1 h.1.2 h.2.1 h.2.2).mp q) C H locs ls hK hP hD hS hl) (fun q => kf (fun z => q ((iI_eq h.1.1 h.1.2 h.2.1 h.2.2).mpr z)) C H locs ls hK hP hD hS hl)
theorem vv_if_eq {a : Int} {off : Int} {tgt : Nat} (hd : decode M.1 pc = .ok (.ifCond .eq off, 3)) (ht : (pc : Int) + off = (tgt : Int)) (h : -2147483648 ≤ a ∧ a < 2147483648) (kt : a = 0 → VV X M Q k n tys ws pl lv st tgt) (kf : ¬ a = 0 → VV X M Q k n tys ws pl lv st (pc + 3)) : VV X M Q k n tys ws pl lv (.int (iI a) :: st) pc := fun C H locs ls hK hP hD hS hl => lv_if_eq C.1 C.2.1 hd ht (fun q => kt ((zz_eq h.1 h.2).mp q) C H locs ls hK hP hD hS hl) (fun q => kf (fun z => q ((zz_eq h.1 h.2).mpr z)) C H locs ls hK hP hD hS hl)
theorem vv_icmp_ne {a b : Int} {off : Int} {tgt : Nat} (hd : decode M.1 pc = .ok (.if_icmp .ne off, 3)) (ht : (pc : Int) + off = (tgt : Int)) (h : (-2147483648 ≤ a ∧ a < 2147483648) ∧ -2147483648 ≤ b ∧ b < 2147483648) (kt : ¬ a = b → VV X M Q k n tys ws pl lv st tgt) (kf : a = b → VV X M Q k n tys ws pl lv st (pc + 3)) : VV X M Q k n tys ws pl lv (.int (iI b) :: .int (iI a) :: st) pc := fun C H locs ls hK hP hD hS hl => lv_icmp_ne C.1 C.2.1 hd ht (fun q => kt (fun z => q ((iI_eq h.1.1 h.1.2 h.2.1 h.2.2).mpr z)) C H locs ls hK hP hD hS hl) (fun q => kf ((iI_eq h.1.1 h.1.2 h.2.1 h.2.2).mp q) C H locs ls hK hP hD hS hl)
theorem vv_if_ne {a : Int} {off : Int} {tgt : Nat} (hd : decode M.1 pc = .ok (.ifCond .ne off, 3)) (ht : (pc : Int) + off = (tgt : Int)) (h : -2147483648 ≤ a ∧ a < 2147483648) (kt : ¬ a = 0 → VV X M Q k n tys ws pl lv st tgt) (kf : a = 0 → VV X M Q k n tys ws pl lv st (pc + 3)) : VV X M Q k n tys ws pl lv (.int (iI a) :: st) pc := fun C H locs ls hK hP hD hS hl => lv_if_ne C.1 C.2.1 hd ht (fun q => kt (fun z => q ((zz_eq h.1 h.2).mpr z)) C H locs ls hK hP hD hS hl) (fun q => kf ((zz_eq h.1 h.2).mp q) C H locs ls hK hP hD hS hl)
theorem vv_icmp_lt {a b : Int} {off : Int} {tgt : Nat} (hd : decode M.1 pc = .ok (.if_icmp .lt off, 3)) (ht : (pc : Int) + off = (tgt : Int)) (h : (-2147483648 ≤ a ∧ a < 2147483648) ∧ -2147483648 ≤ b ∧ b < 2147483648) (kt : a < b → VV X M Q k n tys ws pl lv st tgt) (kf : ¬ a < b → VV X M Q k n tys ws pl lv st (pc + 3)) : VV X M Q k n tys ws pl lv (.int (iI b) :: .int (iI a) :: st) pc := fun C H locs ls hK hP hD hS hl => lv_icmp_lt C.1 C.2.1 hd ht (fun q => kt ((iI_lt h.1.1 h.1.2 h.2.1 h.2.2).mp q) C H locs ls hK hP hD hS hl) (fun q => kf (fun z => q ((iI_lt h.1.1 h.1.2 h.2.1 h.2.2).mpr z)) C H locs ls hK hP hD hS hl)
theorem vv_if_lt {a : Int} {off : Int} {tgt : Nat} (hd : decode M.1 pc = .ok (.ifCond .lt off, 3)) (ht : (pc : Int) + off = (tgt : Int)) (h : -2147483648 ≤ a ∧ a < 2147483648) (kt : a < 0 → VV X M Q k n tys ws pl lv st tgt) (kf : ¬ a < 0 → VV X M Q k n tys ws pl lv st (pc + 3)) : VV X M Q k n tys ws pl lv (.int (iI a) :: st) pc := fun C H locs ls hK hP hD hS hl => lv_if_lt C.1 C.2.1 hd ht (fun q => kt ((zz_lt h.1 h.2).mp q) C H locs ls hK hP hD hS hl) (fun q => kf (fun z => q ((zz_lt h.1 h.2).mpr z)) C H locs ls hK hP hD hS hl)
theorem vv_icmp_ge {a b : Int} {off : Int} {tgt : Nat} (hd : decode M.1 pc = .ok (.if_icmp .ge off, 3)) (ht : (pc : Int) + off = (tgt : Int)) (h : (-2147483648 ≤ a ∧ a < 2147483648) ∧ -2147483648 ≤ b ∧ b < 2147483648) (kt : b ≤ a → VV X M Q k n tys ws pl lv st tgt) (kf : ¬ b ≤ a → VV X M Q k n tys ws pl lv st (pc + 3)) : VV X M Q k n tys ws pl lv (.int (iI b) :: .int (iI a) :: st) pc := fun C H locs ls hK hP hD hS hl => lv_icmp_ge C.1 C.2.1 hd ht (fun q => kt ((iI_le h.2.1 h.2.2 h.1.1 h.1.2).mp q) C H locs ls hK hP hD hS hl) (fun q => kf (fun z => q ((iI_le h.2.1 h.2.2 h.1.1 h.1.2).mpr z)) C H locs ls hK hP hD hS hl)
theorem vv_if_ge {a : Int} {off : Int} {tgt : Nat} (hd : decode M.1 pc = .ok (.ifCond .ge off, 3)) (ht : (pc : Int) + off = (tgt : Int)) (h : -2147483648 ≤ a ∧ a < 2147483648) (kt : 0 ≤ a → VV X M Q k n tys ws pl lv st tgt) (kf : ¬ 0 ≤ a → VV X M Q k n tys ws pl lv st (pc + 3)) : VV X M Q k n tys ws pl lv (.int (iI a) :: st) pc := fun C H locs ls hK hP hD hS hl => lv_if_ge C.1 C.2.1 hd ht (fun q => kt ((zz_ge h.1 h.2).mp q) C H locs ls hK hP hD hS hl) (fun q => kf (fun z => q ((zz_ge h.1 h.2).mpr z)) C H locs ls hK hP hD hS hl)
theorem vv_icmp_gt {a b : Int} {off : Int} {tgt : Nat} (hd : decode M.1 pc = .ok (.if_icmp .gt off, 3)) (ht : (pc : Int) + off = (tgt : Int)) (h : (-2147483648 ≤ a ∧ a < 2147483648) ∧ -2147483648 ≤ b ∧ b < 2147483648) (kt : b < a → VV X M Q k n tys ws pl lv st tgt) (kf : ¬ b < a → VV X M Q k n tys ws pl lv st (pc + 3)) : VV X M Q k n tys ws pl lv (.int (iI b) :: .int (iI a) :: st) pc := fun C H locs ls hK hP hD hS hl => lv_icmp_gt C.1 C.2.1 hd ht (fun q => kt ((iI_lt h.2.1 h.2.2 h.1.1 h.1.2).mp q) C H locs ls hK hP hD hS hl) (fun q => kf (fun z => q ((iI_lt h.2.1 h.2.2 h.1.1 h.1.2).mpr z)) C H locs ls hK hP hD hS hl)
theorem vv_if_gt {a : Int} {off : Int} {tgt : Nat} (hd : decode M.1 pc = .ok (.ifCond .gt off, 3)) (ht : (pc : Int) + off = (tgt : Int)) (h : -2147483648 ≤ a ∧ a < 2147483648) (kt : 0 < a → VV X M Q k n tys ws pl lv st tgt) (kf : ¬ 0 < a → VV X M Q k n tys ws pl lv st (pc + 3)) : VV X M Q k n tys ws pl lv (.int (iI a) :: st) pc := fun C H locs ls hK hP hD hS hl => lv_if_gt C.1 C.2.1 hd ht (fun q => kt ((zz_gt h.1 h.2).mp q) C H locs ls hK hP hD hS hl) (fun q => kf (fun z => q ((zz_gt h.1 h.2).mpr z)) C H locs ls hK hP hD hS hl)
theorem vv_icmp_le {a b : Int} {off : Int} {tgt : Nat} (hd : decode M.1 pc = .ok (.if_icmp .le off, 3)) (ht : (pc : Int) + off = (tgt : Int)) (h : (-2147483648 ≤ a ∧ a < 2147483648) ∧ -2147483648 ≤ b ∧ b < 2147483648) (kt : a ≤ b → VV X M Q k n tys ws pl lv st tgt) (kf : ¬ a ≤ b → VV X M Q k n tys ws pl lv st (pc + 3)) : VV X M Q k n tys ws pl lv (.int (iI b) :: .int (iI a) :: st) pc := fun C H locs ls hK hP hD hS hl => lv_icmp_le C.1 C.2.1 hd ht (fun q => kt ((iI_le h.1.1 h.1.2 h.2.1 h.2.2).mp q) C H locs ls hK hP hD hS hl) (fun q => kf (fun z => q ((iI_le h.1.1 h.1.2 h.2.1 h.2.2).mpr z)) C H locs ls hK hP hD hS hl)
theorem vv_if_le {a : Int} {off : Int} {tgt : Nat} (hd : decode M.1 pc = .ok (.ifCond .le off, 3)) (ht : (pc : Int) + off = (tgt : Int)) (h : -2147483648 ≤ a ∧ a < 2147483648) (kt : a ≤ 0 → VV X M Q k n tys ws pl lv st tgt) (kf : ¬ a ≤ 0 → VV X M Q k n tys ws pl lv st (pc + 3)) : VV X M Q k n tys ws pl lv (.int (iI a) :: st) pc := fun C H locs ls hK hP hD hS hl => lv_if_le C.1 C.2.1 hd ht (fun q => kt ((zz_le h.1 h.2).mp q) C H locs ls hK hP hD hS hl) (fun q => kf (fun z => q ((zz_le h.1 h.2).mpr z)) C H locs ls hK hP hD hS hl)
theorem vv_at {q0 : Nat} {x : Nat × va_E} (h : ws[q0]? = some x) : (ws ++ pl)[q0]? = some x := by
  rw [List.getElem?_append_left (List.getElem?_eq_some_iff.mp h).1]
  exact h
theorem vv_sets {q0 : Nat} {x y : Nat × va_E} (h : ws[q0]? = some x) : (ws ++ pl).set q0 y = ws.set q0 y ++ pl := List.set_append_left q0 y (List.getElem?_eq_some_iff.mp h).1
theorem vv_get {idx ci a j : Nat} {fs : List Value} {v : Value} (hd : decode M.1 pc = .ok (.getfield idx, 3)) (q0 : Nat) (he : ws[q0]? = some (a, .inr (ci, fs))) (hf : fl_ok M.2.2.1 idx ci j) (hv : fs[j]? = some v) (kk : VV X M Q k n tys ws pl lv (v :: st) (pc + 3)) : VV X M Q k n tys ws pl lv (.ref a :: st) pc := fun C H locs ls hK hP hD hS hl => by
  obtain ⟨Cn, T, N, h1, h2, h3, h4, h5⟩ := hf
  have hts : ∀ w ∈ tb_l, w.before (cx_a X) (cx_s X) = true := fun w hw => C.2.2.2.2.1 w hw _
  rcases h4 with h4 | ⟨host, h4⟩
  · exact va_get C.1 C.2.1 hts h3 C.2.2.2.1 hK hP q0 (vv_at he) h1 j h2 (hts _ h4) (fun x hx => by rw [h5] at hx; exact hx) hv hd (kk C H locs ls hK hP hD hS hl)
  · exact va_getN C.1 C.2.1 hts h3 C.2.2.2.1 hK hP q0 (vv_at he) h1 j h2 (hts _ h4) (fun x hx => by rw [h5] at hx; exact hx) hv hd (kk C H locs ls hK hP hD hS hl)
theorem vv_put (hw : cx_w X) {idx ci a j : Nat} {fs : List Value} {v : Value} {ty : FieldType} (hd : decode M.1 pc = .ok (.putfield idx, 3)) (q0 : Nat) (he : ws[q0]? = some (a, .inr (ci, fs))) (hf : fp_ok M.2.2.1 idx ci j ty) (hn : narrow ty v = v) (hfit : fits ty v = true) (hj : j < fs.length) (kk : VV X M Q k n tys (ws.set q0 (a, .inr (ci, fs.set j v))) pl lv st (pc + 3)) : VV X M Q k n tys ws pl lv (v :: .ref a :: st) pc := fun C H locs ls hK hP hD hS hl => by
  obtain ⟨Cn, T, N, t, h1, h2, h3, h4, h5, h6, h7, h8, h9⟩ := hf
  have hts : ∀ w ∈ tb_l, w.before (cx_a X) (cx_s X) = true := fun w hw => C.2.2.2.2.1 w hw _
  rcases h4 with h4 | ⟨host, h4⟩
  · exact va_put C.1 C.2.1 hts h3 t h7 h8 C.2.2.2.1 hK hP (hD.weaken (fun _ _ _ h => hw _ h)) hS q0 (vv_at he) h1 j h2 (hts _ h4) (fun x hx => by rw [h5] at hx; exact hx) h6 (by rw [h7 j h2, h9]) hn hfit hj hd (fun H1 locs1 hP1 hD1 hS1 => kk C H1 locs1 ls hK (by rw [← vv_sets he]; exact hP1) (by rw [← vv_sets he]; exact hD.set (vv_at he)) hS1 hl)
  · exact va_putN C.1 C.2.1 hts h3 t h7 h8 C.2.2.2.1 hK hP (hD.weaken (fun _ _ _ h => hw _ h)) hS q0 (vv_at he) h1 j h2 (hts _ h4) (fun x hx => by rw [h5] at hx; exact hx) h6 (by rw [h7 j h2, h9]) hn hfit hj hd (fun H1 locs1 hP1 hD1 hS1 => kk C H1 locs1 ls hK (by rw [← vv_sets he]; exact hP1) (by rw [← vv_sets he]; exact hD.set (vv_at he)) hS1 hl)
theorem vv_putF (hw : cx_w X) {idx ci a j : Nat} {fs : List Value} {v : Value} {ty : FieldType} (hin : (cx_M X).name = "<init>") (hd : decode M.1 pc = .ok (.putfield idx, 3)) (q0 : Nat) (he : ws[q0]? = some (a, .inr (ci, fs))) (hf : fF_ok M.2.2.1 idx ci j ty) (hn : narrow ty v = v) (hfit : fits ty v = true) (hj : j < fs.length) (kk : VV X M Q k n tys (ws.set q0 (a, .inr (ci, fs.set j v))) pl lv st (pc + 3)) : VV X M Q k n tys ws pl lv (v :: .ref a :: st) pc := fun C H locs ls hK hP hD hS hl => by
  obtain ⟨Cn, T, N, t, h1, h2, h3, h4, h5, h6, h7, h8, h9, h10⟩ := hf
  have hts : ∀ w ∈ tb_l, w.before (cx_a X) (cx_s X) = true := fun w hw => C.2.2.2.2.1 w hw _
  exact va_putF C.1 C.2.1 hts h3 t h7 h8 C.2.2.2.1 hK hP (hD.weaken (fun _ _ _ h => hw _ h)) hS q0 (vv_at he) h1 j h2 (hts _ h4) (fun x hx => by rw [h5] at hx; exact hx) h6 hin h10 (by rw [h7 j h2, h9]) hn hfit hj hd (fun H1 locs1 hP1 hD1 hS1 => kk C H1 locs1 ls hK (by rw [← vv_sets he]; exact hP1) (by rw [← vv_sets he]; exact hD.set (vv_at he)) hS1 hl)
theorem vv_iald {a N : Nat} {cA : ClassId} {g : Nat → Int} {z : Int} (hd : decode M.1 pc = .ok (.iaload, 1)) (q0 t0 : Nat) (ha : ws[q0]? = some (a, .inl (cA, N, .inl (fun j => iI (g j))))) (ht : tys[t0]? = some (cA, .int)) (hz : 0 ≤ z ∧ z < (N : Int) ∧ N < 2147483648) (kk : VV X M Q k n tys ws pl lv (.int (iI (g z.toNat)) :: st) (pc + 1)) : VV X M Q k n tys ws pl lv (.int (iI z) :: .ref a :: st) pc := fun C H locs ls hK hP hD hS hl =>
  va_iald C.1 C.2.1 hK hP q0 t0 (vv_at ha) ht (iI_in hz.1 hz.2.1 hz.2.2) hd (by rw [iI_cl hz.1 (by omega)]; exact kk C H locs ls hK hP hD hS hl)
theorem vv_iast (hw : cx_w X) {a N : Nat} {cA : ClassId} {g : Nat → Int} {z v : Int} (hd : decode M.1 pc = .ok (.iastore, 1)) (q0 t0 : Nat) (ha : ws[q0]? = some (a, .inl (cA, N, .inl (fun j => iI (g j))))) (ht : tys[t0]? = some (cA, .int)) (hz : 0 ≤ z ∧ z < (N : Int) ∧ N < 2147483648) (kk : VV X M Q k n tys (ws.set q0 (a, .inl (cA, N, .inl (fun j => iI (va_up g z.toNat v j))))) pl lv st (pc + 1)) : VV X M Q k n tys ws pl lv (.int (iI v) :: .int (iI z) :: .ref a :: st) pc := fun C H locs ls hK hP hD hS hl =>
  va_iast C.1 C.2.1 hK hP (hD.weaken (fun _ _ _ h => hw _ h)) hS q0 t0 (vv_at ha) ht (iI_in hz.1 hz.2.1 hz.2.2) hd (fun H1 locs1 hP1 hD1 hS1 => by
    have e1 : upd (fun j => iI (g j)) (iI z).toNatClampNeg (iI v) = fun j => iI (va_up g z.toNat v j) := by
      rw [iI_cl hz.1 (by omega)]
      funext j
      by_cases hj : j = z.toNat
      · simp [upd, va_up, hj]
      · simp [upd, va_up, hj]
    rw [e1, vv_sets ha] at hP1
    exact kk C H1 locs1 ls hK hP1 (by rw [← vv_sets ha]; exact hD.set (vv_at ha)) hS1 hl)
theorem vv_alen {a : Nat} {cA : ClassId} {x : vp_A} {ty : FieldType} {v : Int} (hd : decode M.1 pc = .ok (.arraylength, 1)) (q0 t0 : Nat) (ha : ws[q0]? = some (a, .inl (cA, x))) (ht : tys[t0]? = some (cA, ty)) (hv : (x.1 : Int) = v) (kk : VV X M Q k n tys ws pl lv (.int (iI v) :: st) (pc + 1)) : VV X M Q k n tys ws pl lv (.ref a :: st) pc := fun C H locs ls hK hP hD hS hl =>
  va_alen C.1 C.2.1 hK hP q0 t0 (vv_at ha) ht (by rw [← hv, iI_nat]; rfl) hd (kk C H locs ls hK hP hD hS hl)
theorem vv_aald {a N b : Nat} {cA : ClassId} {Cn : String} {f : Nat → Option Nat} {z : Int} (hd : decode M.1 pc = .ok (.aaload, 1)) (q0 t0 : Nat) (ha : ws[q0]? = some (a, .inl (cA, N, .inr (.inr (.inr (.inr f)))))) (ht : tys[t0]? = some (cA, .object Cn)) (hz : 0 ≤ z ∧ z < (N : Int) ∧ N < 2147483648) (hb : f z.toNat = some b) (kk : VV X M Q k n tys ws pl lv (.ref b :: st) (pc + 1)) : VV X M Q k n tys ws pl lv (.int (iI z) :: .ref a :: st) pc := fun C H locs ls hK hP hD hS hl =>
  va_aldq C.1 C.2.1 hK hP q0 t0 (vv_at ha) ht (iI_in hz.1 hz.2.1 hz.2.2) hd (by rw [iI_cl hz.1 (by omega), hb]; exact kk C H locs ls hK hP hD hS hl)

end VV
