/-! throws: the world that a throw wants; contracts that end in a throw; the throw itself -/
def ZS (n d : String) (U : State) : Prop := ∃ (c : ClassId) (k : Class) (i : Nat) (f : Field) (a : Nat) (cell : Cell) (v : Value), U.vm.findClass Bundle.tN = some c ∧ U.fieldFound? Bundle.tN n d = some (c, k, i, f) ∧ f.isStatic = true ∧ k.statics = some a ∧ U.heap[a]? = some cell ∧ cell.vm.isStatics = true ∧ cell.cls = c ∧ f.slot < cell.slots.size ∧ k.staticTypes[f.slot]? = some f.type ∧ cell.slots[f.slot]? = some v ∧ (v = .null ∨ ∃ t : Nat, v = .ref t)
theorem ZS.of {n d : String} {a : Array Value} {s : State} (hl : (Cond.laysStatic Bundle.tN n d).before a s = true) (h : (Cond.isRef (.static Bundle.tN n d)).before a s = true) : ZS n d s := by
  obtain ⟨c, k, i, f, q, cell, hc, hi, hst, ha, hcell, hs, hcls, hlt, hty⟩ := Cond.laysStatic_spec hl
  cases hv : (Term.static Bundle.tN n d).eval a s none [] s with
  | none => simp [Cond.before, Cond.holds, Cond.value, hv] at h
  | some w =>
    obtain ⟨-, a', cell', ha', hcell', -, hslot⟩ := Term.static_spec hi hv
    cases ha.symm.trans ha'
    cases hcell.symm.trans hcell'
    refine ⟨c, k, i, f, q, cell, w, hc, hi, hst, ha, hcell, hs, hcls, hlt, hty, hslot, ?_⟩
    simp only [Cond.before, Cond.holds, Cond.value, hv] at h
    cases w with
    | null => exact Or.inl rfl
    | ref t => exact Or.inr ⟨t, rfl⟩
    | _ => simp at h
theorem ZS.kept {n d : String} {s U : State} (hW : s.WarmedH U.vm) (hh : ∀ q : Nat, q < s.heap.size → U.heap[q]? = s.heap[q]?) (h : ZS n d s) : ZS n d U := by
  obtain ⟨c, k, i, f, q, cell, w, hc, hi, hst, ha, hcell, hs, hcls, hlt, hty, hslot, hr⟩ := h
  obtain ⟨k', hi', he⟩ := State.fieldFound?_setVm hW.alike hi
  exact ⟨c, k', i, f, q, cell, w, by rw [hW.alike.findClass]; exact hc, hi', hst, by rw [he]; exact ha, by rw [hh q (Array.getElem?_eq_some_iff.mp hcell).1]; exact hcell, hs, hcls, hlt, by rw [he]; exact hty, hslot, hr⟩
theorem ZS.lays {n d : String} {U : State} (h : ZS n d U) (a : Array Value) : (Cond.laysStatic Bundle.tN n d).before a U = true := by
  obtain ⟨c, k, i, f, q, cell, w, hc, hi, hst, ha, hcell, hs, hcls, hlt, hty, hslot, hr⟩ := h
  simp [Cond.before, Cond.holds, Cond.value, hc, hi, hst, ha, hcell, hs, hcls, hlt, hty]
theorem ZS.isr {n d : String} {U : State} (h : ZS n d U) (a : Array Value) : (Cond.isRef (.static Bundle.tN n d)).before a U = true := by
  obtain ⟨c, k, i, f, q, cell, w, hc, hi, hst, ha, hcell, hs, hcls, hlt, hty, hslot, hr⟩ := h
  have hv : (Term.static Bundle.tN n d).eval a U none [] U = some w := by simp [Term.eval, State.fieldNamed?, hi, hst, ha, hcell, hs, hslot]
  rcases hr with rfl | ⟨t, rfl⟩ <;> simp [Cond.before, Cond.holds, Cond.value, hv]
def sx_l : List (Nat × String) := [(91, "a side is not 1 .. 16"), (100, "cents are not 1 .. 10000"), (102, "stock is not 0 .. 20"), (106, "there are 4 sheets"), (121, "count is not 0 .. 50"), (123, "there are 8 parts"), (243, "there is no such part"), (137, "way is not 0 or 1"), (139, "stages are not 0 .. 3"), (241, "nothing was run since something was told"), (245, "there is no such cut sheet"), (191, "what is not 0 .. 7"), (194, "there is no such part taken"), (196, "what is not 0 .. 4"), (211, "there is no such rest"), (213, "what is not 0 .. 3"), (224, "what is not 0 .. 2")]
def nc_l : List (String × String) := [("java/lang/IllegalStateException", "java/lang/IllegalArgumentException"), ("java/lang/IllegalArgumentException", "java/lang/IndexOutOfBoundsException"), ("java/lang/IndexOutOfBoundsException", "java/lang/IllegalStateException")]
def TX (U : State) : Prop := ZS "UNASSIGNED_STACK" Bundle.steD U ∧ ZS "SUPPRESSED_SENTINEL" Bundle.listD U ∧ (∀ q ∈ sx_l, ∃ r : Nat, vk_R "SheetTrees" q.1 q.2 r U) ∧ ∀ q ∈ nc_l, ∀ cA cB : ClassId, U.vm.findClass q.1 = some cA → U.vm.findClass q.2 = some cB → U.vm.assignable cA cB = false
theorem TX.kept {s U : State} (hW : s.WarmedH U.vm) (hh : ∀ q : Nat, q < s.heap.size → U.heap[q]? = s.heap[q]?) (h : TX s) : TX U := ⟨h.1.kept hW hh, h.2.1.kept hW hh, fun q hq => by
  obtain ⟨r, hr⟩ := h.2.2.1 q hq
  exact ⟨r, hr.warm hW⟩, fun q hq cA cB h1 h2 => by
  rw [hW.alike.findClass] at h1 h2
  rw [hW.alike.assignable]
  exact h.2.2.2 q hq cA cB h1 h2⟩
theorem TX.same {s U : State} (hv : U.vm = s.vm) (hh : U.heap = s.heap) (h : TX s) : TX U := h.kept (by rw [hv]; exact State.WarmedH.refl s) (fun q _ => by rw [hh])
def nmX : List String := ["java/lang/RuntimeException", "java/lang/Exception"]
def tx_l : List Cond := [.laysStatic Bundle.tN "UNASSIGNED_STACK" Bundle.steD, .laysStatic Bundle.tN "SUPPRESSED_SENTINEL" Bundle.listD, .isRef (.static Bundle.tN "UNASSIGNED_STACK" Bundle.steD), .isRef (.static Bundle.tN "SUPPRESSED_SENTINEL" Bundle.listD)]
theorem tx_ok {U : State} (h : TX U) (a : Array Value) : ∀ w ∈ tx_l, w.before a U = true := by
  refine List.forall_mem_cons.mpr ⟨h.1.lays a, List.forall_mem_cons.mpr ⟨h.2.1.lays a, List.forall_mem_cons.mpr ⟨h.1.isr a, List.forall_mem_cons.mpr ⟨h.2.1.isr a, fun _ q => ?_⟩⟩⟩⟩
  cases q
/-- the words that a throw of cls in SheetTrees wants -/
def tw (cls : String) (i1 i3 : Nat) : Prop := Bundle.fit cls = true ∧ Cond.classLink "SheetTrees" i1 cls ∈ tb_l ∧ Cond.instantiable cls 6 ∈ tb_l ∧ Cond.initialized cls ∈ tb_l ∧ ∀ w ∈ Bundle.ownAtoms "SheetTrees" i3 cls nmX, w ∈ tb_l ∨ w ∈ tx_l
abbrev n_IAE : String := "java/lang/IllegalArgumentException"
set_option maxHeartbeats 4000000 in
set_option maxRecDepth 100000 in
theorem tw_IAE : tw n_IAE 89 93 := by
  refine ⟨by decide +kernel, tb_at 456 rfl rfl, tb_at 457 rfl rfl, tb_at 56 rfl rfl, ?_⟩
  refine List.forall_mem_cons.mpr ⟨Or.inl (tb_at 53 rfl rfl), ?_⟩
  refine List.forall_mem_cons.mpr ⟨Or.inl (tb_at 478 rfl rfl), ?_⟩
  refine List.forall_mem_cons.mpr ⟨Or.inl (tb_at 487 rfl rfl), ?_⟩
  refine List.forall_mem_cons.mpr ⟨Or.inl (tb_at 491 rfl rfl), ?_⟩
  refine List.forall_mem_cons.mpr ⟨Or.inl (tb_at 494 rfl rfl), ?_⟩
  refine List.forall_mem_cons.mpr ⟨Or.inl (tb_at 496 rfl rfl), ?_⟩
  refine List.forall_mem_cons.mpr ⟨Or.inl (tb_at 479 rfl rfl), ?_⟩
  refine List.forall_mem_cons.mpr ⟨Or.inl (tb_at 480 rfl rfl), ?_⟩
  refine List.forall_mem_cons.mpr ⟨Or.inl (tb_at 67 rfl rfl), ?_⟩
  refine List.forall_mem_cons.mpr ⟨Or.inl (tb_at 68 rfl rfl), ?_⟩
  refine List.forall_mem_cons.mpr ⟨Or.inl (tb_at 481 rfl rfl), ?_⟩
  refine List.forall_mem_cons.mpr ⟨Or.inl (tb_at 486 rfl rfl), ?_⟩
  refine List.forall_mem_cons.mpr ⟨Or.inl (tb_at 492 rfl rfl), ?_⟩
  refine List.forall_mem_cons.mpr ⟨Or.inl (tb_at 512 rfl rfl), ?_⟩
  refine List.forall_mem_cons.mpr ⟨Or.inl (tb_at 468 rfl rfl), ?_⟩
  refine List.forall_mem_cons.mpr ⟨Or.inl (tb_at 513 rfl rfl), ?_⟩
  refine List.forall_mem_cons.mpr ⟨Or.inl (tb_at 470 rfl rfl), ?_⟩
  refine List.forall_mem_cons.mpr ⟨Or.inl (tb_at 514 rfl rfl), ?_⟩
  refine List.forall_mem_cons.mpr ⟨Or.inl (tb_at 472 rfl rfl), ?_⟩
  refine List.forall_mem_cons.mpr ⟨Or.inl (tb_at 482 rfl rfl), ?_⟩
  refine List.forall_mem_cons.mpr ⟨Or.inr List.mem_cons_self, ?_⟩
  refine List.forall_mem_cons.mpr ⟨Or.inl (tb_at 484 rfl rfl), ?_⟩
  refine List.forall_mem_cons.mpr ⟨Or.inr (List.mem_cons_of_mem _ List.mem_cons_self), ?_⟩
  refine List.forall_mem_cons.mpr ⟨Or.inl (tb_at 474 rfl rfl), ?_⟩
  refine List.forall_mem_cons.mpr ⟨Or.inl (tb_at 508 rfl rfl), ?_⟩
  refine List.forall_mem_cons.mpr ⟨Or.inl (tb_at 509 rfl rfl), ?_⟩
  refine List.forall_mem_cons.mpr ⟨Or.inl (tb_at 511 rfl rfl), ?_⟩
  refine List.forall_mem_cons.mpr ⟨Or.inl (tb_at 474 rfl rfl), ?_⟩
  refine List.forall_mem_cons.mpr ⟨Or.inl (tb_at 499 rfl rfl), ?_⟩
  refine List.forall_mem_cons.mpr ⟨Or.inl (tb_at 500 rfl rfl), ?_⟩
  refine List.forall_mem_cons.mpr ⟨Or.inl (tb_at 501 rfl rfl), ?_⟩
  refine List.forall_mem_cons.mpr ⟨Or.inl (tb_at 502 rfl rfl), ?_⟩
  refine List.forall_mem_cons.mpr ⟨Or.inl (tb_at 460 rfl rfl), ?_⟩
  refine List.forall_mem_cons.mpr ⟨Or.inl (tb_at 502 rfl rfl), ?_⟩
  refine List.forall_mem_cons.mpr ⟨Or.inl (tb_at 503 rfl rfl), ?_⟩
  refine List.forall_mem_cons.mpr ⟨Or.inl (tb_at 504 rfl rfl), ?_⟩
  refine List.forall_mem_cons.mpr ⟨Or.inl (tb_at 505 rfl rfl), ?_⟩
  refine List.forall_mem_cons.mpr ⟨Or.inl (tb_at 462 rfl rfl), ?_⟩
  refine List.forall_mem_cons.mpr ⟨Or.inl (tb_at 505 rfl rfl), ?_⟩
  refine List.forall_mem_cons.mpr ⟨Or.inl (tb_at 506 rfl rfl), ?_⟩
  refine List.forall_mem_cons.mpr ⟨Or.inl (tb_at 507 rfl rfl), ?_⟩
  refine List.forall_mem_cons.mpr ⟨Or.inl (tb_at 508 rfl rfl), ?_⟩
  refine List.forall_mem_cons.mpr ⟨Or.inl (tb_at 464 rfl rfl), ?_⟩
  refine List.forall_mem_cons.mpr ⟨Or.inl (tb_at 498 rfl rfl), ?_⟩
  refine List.forall_mem_cons.mpr ⟨Or.inl (tb_at 457 rfl rfl), ?_⟩
  refine List.forall_mem_cons.mpr ⟨Or.inl (tb_at 458 rfl rfl), ?_⟩
  refine List.forall_mem_cons.mpr ⟨Or.inl (tb_at 465 rfl rfl), ?_⟩
  refine List.forall_mem_cons.mpr ⟨Or.inl (tb_at 466 rfl rfl), ?_⟩
  refine List.forall_mem_cons.mpr ⟨Or.inl (tb_at 467 rfl rfl), ?_⟩
  refine List.forall_mem_cons.mpr ⟨Or.inl (tb_at 469 rfl rfl), ?_⟩
  refine List.forall_mem_cons.mpr ⟨Or.inl (tb_at 471 rfl rfl), ?_⟩
  refine List.forall_mem_cons.mpr ⟨Or.inl (tb_at 473 rfl rfl), ?_⟩
  refine List.forall_mem_cons.mpr ⟨Or.inr (List.mem_cons_of_mem _ (List.mem_cons_of_mem _ List.mem_cons_self)), ?_⟩
  refine List.forall_mem_cons.mpr ⟨Or.inr (List.mem_cons_of_mem _ (List.mem_cons_of_mem _ (List.mem_cons_of_mem _ List.mem_cons_self))), ?_⟩
  refine List.forall_mem_cons.mpr ⟨Or.inl (tb_at 477 rfl rfl), ?_⟩
  refine List.forall_mem_cons.mpr ⟨Or.inl (tb_at 476 rfl rfl), ?_⟩
  refine List.forall_mem_cons.mpr ⟨Or.inl (tb_at 475 rfl rfl), ?_⟩
  intro w hw
  cases hw
abbrev n_ISE : String := "java/lang/IllegalStateException"
set_option maxHeartbeats 4000000 in
set_option maxRecDepth 100000 in
theorem tw_ISE : tw n_ISE 104 108 := by
  refine ⟨by decide +kernel, tb_at 526 rfl rfl, tb_at 527 rfl rfl, tb_at 57 rfl rfl, ?_⟩
  refine List.forall_mem_cons.mpr ⟨Or.inl (tb_at 53 rfl rfl), ?_⟩
  refine List.forall_mem_cons.mpr ⟨Or.inl (tb_at 478 rfl rfl), ?_⟩
  refine List.forall_mem_cons.mpr ⟨Or.inl (tb_at 487 rfl rfl), ?_⟩
  refine List.forall_mem_cons.mpr ⟨Or.inl (tb_at 491 rfl rfl), ?_⟩
  refine List.forall_mem_cons.mpr ⟨Or.inl (tb_at 494 rfl rfl), ?_⟩
  refine List.forall_mem_cons.mpr ⟨Or.inl (tb_at 496 rfl rfl), ?_⟩
  refine List.forall_mem_cons.mpr ⟨Or.inl (tb_at 479 rfl rfl), ?_⟩
  refine List.forall_mem_cons.mpr ⟨Or.inl (tb_at 480 rfl rfl), ?_⟩
  refine List.forall_mem_cons.mpr ⟨Or.inl (tb_at 67 rfl rfl), ?_⟩
  refine List.forall_mem_cons.mpr ⟨Or.inl (tb_at 68 rfl rfl), ?_⟩
  refine List.forall_mem_cons.mpr ⟨Or.inl (tb_at 481 rfl rfl), ?_⟩
  refine List.forall_mem_cons.mpr ⟨Or.inl (tb_at 486 rfl rfl), ?_⟩
  refine List.forall_mem_cons.mpr ⟨Or.inl (tb_at 492 rfl rfl), ?_⟩
  refine List.forall_mem_cons.mpr ⟨Or.inl (tb_at 512 rfl rfl), ?_⟩
  refine List.forall_mem_cons.mpr ⟨Or.inl (tb_at 468 rfl rfl), ?_⟩
  refine List.forall_mem_cons.mpr ⟨Or.inl (tb_at 513 rfl rfl), ?_⟩
  refine List.forall_mem_cons.mpr ⟨Or.inl (tb_at 470 rfl rfl), ?_⟩
  refine List.forall_mem_cons.mpr ⟨Or.inl (tb_at 514 rfl rfl), ?_⟩
  refine List.forall_mem_cons.mpr ⟨Or.inl (tb_at 472 rfl rfl), ?_⟩
  refine List.forall_mem_cons.mpr ⟨Or.inl (tb_at 482 rfl rfl), ?_⟩
  refine List.forall_mem_cons.mpr ⟨Or.inr List.mem_cons_self, ?_⟩
  refine List.forall_mem_cons.mpr ⟨Or.inl (tb_at 484 rfl rfl), ?_⟩
  refine List.forall_mem_cons.mpr ⟨Or.inr (List.mem_cons_of_mem _ List.mem_cons_self), ?_⟩
  refine List.forall_mem_cons.mpr ⟨Or.inl (tb_at 474 rfl rfl), ?_⟩
  refine List.forall_mem_cons.mpr ⟨Or.inl (tb_at 508 rfl rfl), ?_⟩
  refine List.forall_mem_cons.mpr ⟨Or.inl (tb_at 509 rfl rfl), ?_⟩
  refine List.forall_mem_cons.mpr ⟨Or.inl (tb_at 511 rfl rfl), ?_⟩
  refine List.forall_mem_cons.mpr ⟨Or.inl (tb_at 474 rfl rfl), ?_⟩
  refine List.forall_mem_cons.mpr ⟨Or.inl (tb_at 537 rfl rfl), ?_⟩
  refine List.forall_mem_cons.mpr ⟨Or.inl (tb_at 538 rfl rfl), ?_⟩
  refine List.forall_mem_cons.mpr ⟨Or.inl (tb_at 539 rfl rfl), ?_⟩
  refine List.forall_mem_cons.mpr ⟨Or.inl (tb_at 502 rfl rfl), ?_⟩
  refine List.forall_mem_cons.mpr ⟨Or.inl (tb_at 460 rfl rfl), ?_⟩
  refine List.forall_mem_cons.mpr ⟨Or.inl (tb_at 502 rfl rfl), ?_⟩
  refine List.forall_mem_cons.mpr ⟨Or.inl (tb_at 503 rfl rfl), ?_⟩
  refine List.forall_mem_cons.mpr ⟨Or.inl (tb_at 504 rfl rfl), ?_⟩
  refine List.forall_mem_cons.mpr ⟨Or.inl (tb_at 505 rfl rfl), ?_⟩
  refine List.forall_mem_cons.mpr ⟨Or.inl (tb_at 462 rfl rfl), ?_⟩
  refine List.forall_mem_cons.mpr ⟨Or.inl (tb_at 505 rfl rfl), ?_⟩
  refine List.forall_mem_cons.mpr ⟨Or.inl (tb_at 506 rfl rfl), ?_⟩
  refine List.forall_mem_cons.mpr ⟨Or.inl (tb_at 507 rfl rfl), ?_⟩
  refine List.forall_mem_cons.mpr ⟨Or.inl (tb_at 508 rfl rfl), ?_⟩
  refine List.forall_mem_cons.mpr ⟨Or.inl (tb_at 464 rfl rfl), ?_⟩
  refine List.forall_mem_cons.mpr ⟨Or.inl (tb_at 536 rfl rfl), ?_⟩
  refine List.forall_mem_cons.mpr ⟨Or.inl (tb_at 527 rfl rfl), ?_⟩
  refine List.forall_mem_cons.mpr ⟨Or.inl (tb_at 528 rfl rfl), ?_⟩
  refine List.forall_mem_cons.mpr ⟨Or.inl (tb_at 529 rfl rfl), ?_⟩
  refine List.forall_mem_cons.mpr ⟨Or.inl (tb_at 489 rfl rfl), ?_⟩
  refine List.forall_mem_cons.mpr ⟨Or.inl (tb_at 530 rfl rfl), ?_⟩
  refine List.forall_mem_cons.mpr ⟨Or.inl (tb_at 531 rfl rfl), ?_⟩
  refine List.forall_mem_cons.mpr ⟨Or.inl (tb_at 532 rfl rfl), ?_⟩
  refine List.forall_mem_cons.mpr ⟨Or.inl (tb_at 533 rfl rfl), ?_⟩
  refine List.forall_mem_cons.mpr ⟨Or.inr (List.mem_cons_of_mem _ (List.mem_cons_of_mem _ List.mem_cons_self)), ?_⟩
  refine List.forall_mem_cons.mpr ⟨Or.inr (List.mem_cons_of_mem _ (List.mem_cons_of_mem _ (List.mem_cons_of_mem _ List.mem_cons_self))), ?_⟩
  refine List.forall_mem_cons.mpr ⟨Or.inl (tb_at 477 rfl rfl), ?_⟩
  refine List.forall_mem_cons.mpr ⟨Or.inl (tb_at 476 rfl rfl), ?_⟩
  refine List.forall_mem_cons.mpr ⟨Or.inl (tb_at 534 rfl rfl), ?_⟩
  intro w hw
  cases hw
abbrev n_IOB : String := "java/lang/IndexOutOfBoundsException"
set_option maxHeartbeats 4000000 in
set_option maxRecDepth 100000 in
theorem tw_IOB : tw n_IOB 189 193 := by
  refine ⟨by decide +kernel, tb_at 563 rfl rfl, tb_at 564 rfl rfl, tb_at 58 rfl rfl, ?_⟩
  refine List.forall_mem_cons.mpr ⟨Or.inl (tb_at 53 rfl rfl), ?_⟩
  refine List.forall_mem_cons.mpr ⟨Or.inl (tb_at 478 rfl rfl), ?_⟩
  refine List.forall_mem_cons.mpr ⟨Or.inl (tb_at 487 rfl rfl), ?_⟩
  refine List.forall_mem_cons.mpr ⟨Or.inl (tb_at 491 rfl rfl), ?_⟩
  refine List.forall_mem_cons.mpr ⟨Or.inl (tb_at 494 rfl rfl), ?_⟩
  refine List.forall_mem_cons.mpr ⟨Or.inl (tb_at 496 rfl rfl), ?_⟩
  refine List.forall_mem_cons.mpr ⟨Or.inl (tb_at 479 rfl rfl), ?_⟩
  refine List.forall_mem_cons.mpr ⟨Or.inl (tb_at 480 rfl rfl), ?_⟩
  refine List.forall_mem_cons.mpr ⟨Or.inl (tb_at 67 rfl rfl), ?_⟩
  refine List.forall_mem_cons.mpr ⟨Or.inl (tb_at 68 rfl rfl), ?_⟩
  refine List.forall_mem_cons.mpr ⟨Or.inl (tb_at 481 rfl rfl), ?_⟩
  refine List.forall_mem_cons.mpr ⟨Or.inl (tb_at 486 rfl rfl), ?_⟩
  refine List.forall_mem_cons.mpr ⟨Or.inl (tb_at 492 rfl rfl), ?_⟩
  refine List.forall_mem_cons.mpr ⟨Or.inl (tb_at 512 rfl rfl), ?_⟩
  refine List.forall_mem_cons.mpr ⟨Or.inl (tb_at 468 rfl rfl), ?_⟩
  refine List.forall_mem_cons.mpr ⟨Or.inl (tb_at 513 rfl rfl), ?_⟩
  refine List.forall_mem_cons.mpr ⟨Or.inl (tb_at 470 rfl rfl), ?_⟩
  refine List.forall_mem_cons.mpr ⟨Or.inl (tb_at 514 rfl rfl), ?_⟩
  refine List.forall_mem_cons.mpr ⟨Or.inl (tb_at 472 rfl rfl), ?_⟩
  refine List.forall_mem_cons.mpr ⟨Or.inl (tb_at 482 rfl rfl), ?_⟩
  refine List.forall_mem_cons.mpr ⟨Or.inr List.mem_cons_self, ?_⟩
  refine List.forall_mem_cons.mpr ⟨Or.inl (tb_at 484 rfl rfl), ?_⟩
  refine List.forall_mem_cons.mpr ⟨Or.inr (List.mem_cons_of_mem _ List.mem_cons_self), ?_⟩
  refine List.forall_mem_cons.mpr ⟨Or.inl (tb_at 474 rfl rfl), ?_⟩
  refine List.forall_mem_cons.mpr ⟨Or.inl (tb_at 508 rfl rfl), ?_⟩
  refine List.forall_mem_cons.mpr ⟨Or.inl (tb_at 509 rfl rfl), ?_⟩
  refine List.forall_mem_cons.mpr ⟨Or.inl (tb_at 511 rfl rfl), ?_⟩
  refine List.forall_mem_cons.mpr ⟨Or.inl (tb_at 474 rfl rfl), ?_⟩
  refine List.forall_mem_cons.mpr ⟨Or.inl (tb_at 574 rfl rfl), ?_⟩
  refine List.forall_mem_cons.mpr ⟨Or.inl (tb_at 575 rfl rfl), ?_⟩
  refine List.forall_mem_cons.mpr ⟨Or.inl (tb_at 576 rfl rfl), ?_⟩
  refine List.forall_mem_cons.mpr ⟨Or.inl (tb_at 502 rfl rfl), ?_⟩
  refine List.forall_mem_cons.mpr ⟨Or.inl (tb_at 460 rfl rfl), ?_⟩
  refine List.forall_mem_cons.mpr ⟨Or.inl (tb_at 502 rfl rfl), ?_⟩
  refine List.forall_mem_cons.mpr ⟨Or.inl (tb_at 503 rfl rfl), ?_⟩
  refine List.forall_mem_cons.mpr ⟨Or.inl (tb_at 504 rfl rfl), ?_⟩
  refine List.forall_mem_cons.mpr ⟨Or.inl (tb_at 505 rfl rfl), ?_⟩
  refine List.forall_mem_cons.mpr ⟨Or.inl (tb_at 462 rfl rfl), ?_⟩
  refine List.forall_mem_cons.mpr ⟨Or.inl (tb_at 505 rfl rfl), ?_⟩
  refine List.forall_mem_cons.mpr ⟨Or.inl (tb_at 506 rfl rfl), ?_⟩
  refine List.forall_mem_cons.mpr ⟨Or.inl (tb_at 507 rfl rfl), ?_⟩
  refine List.forall_mem_cons.mpr ⟨Or.inl (tb_at 508 rfl rfl), ?_⟩
  refine List.forall_mem_cons.mpr ⟨Or.inl (tb_at 464 rfl rfl), ?_⟩
  refine List.forall_mem_cons.mpr ⟨Or.inl (tb_at 573 rfl rfl), ?_⟩
  refine List.forall_mem_cons.mpr ⟨Or.inl (tb_at 564 rfl rfl), ?_⟩
  refine List.forall_mem_cons.mpr ⟨Or.inl (tb_at 565 rfl rfl), ?_⟩
  refine List.forall_mem_cons.mpr ⟨Or.inl (tb_at 566 rfl rfl), ?_⟩
  refine List.forall_mem_cons.mpr ⟨Or.inl (tb_at 490 rfl rfl), ?_⟩
  refine List.forall_mem_cons.mpr ⟨Or.inl (tb_at 567 rfl rfl), ?_⟩
  refine List.forall_mem_cons.mpr ⟨Or.inl (tb_at 568 rfl rfl), ?_⟩
  refine List.forall_mem_cons.mpr ⟨Or.inl (tb_at 569 rfl rfl), ?_⟩
  refine List.forall_mem_cons.mpr ⟨Or.inl (tb_at 570 rfl rfl), ?_⟩
  refine List.forall_mem_cons.mpr ⟨Or.inr (List.mem_cons_of_mem _ (List.mem_cons_of_mem _ List.mem_cons_self)), ?_⟩
  refine List.forall_mem_cons.mpr ⟨Or.inr (List.mem_cons_of_mem _ (List.mem_cons_of_mem _ (List.mem_cons_of_mem _ List.mem_cons_self))), ?_⟩
  refine List.forall_mem_cons.mpr ⟨Or.inl (tb_at 477 rfl rfl), ?_⟩
  refine List.forall_mem_cons.mpr ⟨Or.inl (tb_at 476 rfl rfl), ?_⟩
  refine List.forall_mem_cons.mpr ⟨Or.inl (tb_at 571 rfl rfl), ?_⟩
  intro w hw
  cases hw
def XC (xn : String) (sz : Nat) (st t : State) (a : Nat) : Prop := sz ≤ a ∧ ∃ ce : Cell, t.heap[a]? = some ce ∧ st.vm.findClass xn = some ce.cls ∧ ce.vm = .none
def ct_Q (xn : String) (sz : Nat) : Array Value → State → Outcome → State → Prop := fun _ st oc t => (∃ a : Nat, oc = .threw a ∧ XC xn sz st t a) ∧ va_F (fun q => sz ≤ q) st t
def MT (l : Launch) (y : MethodName) (ws : List Cond) (rm : Room) (Pc : Array Value → State → Prop) (Qc : Array Value → State → Outcome → State → Prop) (mc ms : Nat) (free : Addr → Prop) : Prop :=
  MetFree l y (headSpec ws rm) Pc (fun _ _ _ _ _ => True) (fun a st o t => Qc a st o t ∧ ∃ L, FrameEndT st o t L mc ms ∧ ∀ q ∈ L, free q.base)
def MQT (below : List Frame) (Qc : Array Value → State → Outcome → State → Prop) (a : Array Value) (s : State) (mc ms : Nat) (free : Addr → Prop) : State → Prop := fun t =>
  ∃ o, t.status = .running ∧ Ended t below o ∧ Qc a s o t ∧ ∃ L, FrameEndT s o t L mc ms ∧ ∀ q ∈ L, free q.base
/-- a method that throws an xn and changes nothing old -/
def CT (l : Launch) (y : MethodName) (b : ByteArray) (nL : Nat) (rt : Option FieldType) (rm : Room) (av : List Value) (D : va_G) (tys : List (ClassId × FieldType)) (ws : va_W) (xn : String) : Prop :=
  ∀ sz : Nat, MT l y [.code y b nL rt] rm (va_Pc av (fun U => (U.heap.size = sz ∧ TX U) ∧ tb_ok U ∧ va_P D classes ws U.heap ∧ va_K D classes tys U ∧ va_D (fun _ => True) ws)) (ct_Q xn sz) rm.cells rm.slots (fun q => sz ≤ q)
theorem ct_blind {av : List Value} {D : va_G} {tys : List (ClassId × FieldType)} {ws : va_W} {sz : Nat} : FrameBlind (va_Pc av (fun U => (U.heap.size = sz ∧ TX U) ∧ tb_ok U ∧ va_P D classes ws U.heap ∧ va_K D classes tys U ∧ va_D (fun _ => True) ws)) := fun a U g mk q => by
  obtain ⟨q0, ⟨qz, qx⟩, q1, q2, q3, q4⟩ := q
  exact ⟨q0, ⟨qz, TX.same (s := U) (U := U.calling g mk a) rfl rfl qx⟩, tb_same (s := U) (U := U.calling g mk a) rfl q1, q2, va_K.moved (u := U) (U := U.calling g mk a) (Vm.Alike.refl U.vm) q3, q4⟩
def ce (X : cx_T) (sz : Nat) (xn : String) (rm : Room) : State → Prop := MQT (cx_b X) (ct_Q xn sz) (cx_a X) (cx_s X) rm.cells rm.slots (fun q => sz ≤ q)
/-- where a throw can leave: nothing catches here, traces are off, the world of throws stands -/
def tc (X : cx_T) (sz : Nat) : Prop := (cx_s X).heap.size = sz ∧ TX (cx_s X) ∧ cx_A X = (fun q => sz ≤ q) ∧ (cx_l X).flags = flags0 ∧ ∀ pc : Nat, ∀ x ∈ (cx_c X).exceptionTable.toList, covers x pc = false
theorem ct_of {l : Launch} {y : MethodName} {b : ByteArray} {nL : Nat} {rt : Option FieldType} {rm : Room} {av : List Value} {D : va_G} {tys : List (ClassId × FieldType)} {ws pl : va_W} {xn : String}
    (hfl : l.flags = flags0) (hy : plainName y.cls = true) (hav : (lg_sl av).length ≤ nL)
    (body : ∀ (X : cx_T) (sz : Nat), cx_l X = l → (cx_M X).sig.returnType = rt → cx_D X = D → tc X sz → VV X (b, nL, y.cls, rm) (ce X sz xn rm) 0 0 tys ws pl (lo_pad (lo_args av) nL) [] 0) :
    CT l y b nL rt rm av D tys (ws ++ pl) xn := by
  intro sz
  refine MetFree.of_bodyS (code := b) (maxLocals := nL) (ret := rt) hy ?_ ?_
  · intro args s m h hn
    obtain ⟨meth, c, h1, h2, h3, h4, h5, h6, -, -⟩ := Cond.code_spec hn (atoms_spec (ws := [Cond.code y b nL rt]) h _ List.mem_cons_self)
    exact ⟨meth, c, h1, h2, h3, h4, h5, h6⟩
  · intro p e s m args below meth c s₁ B hml hv _
    obtain ⟨rfl, ⟨hsz, hTX⟩, hTB, hP, hK, hD0⟩ := hv
    subst hsz
    have hh0 : s₁.heap = s.heap := by rw [B.state]; rfl
    have hcode : (Cond.code y b nL rt).before av.toArray s = true := atoms_spec (ws := [Cond.code y b nL rt]) B.pre _ List.mem_cons_self
    have hnh := B.noHandlers hcode
    rw [lg_entry_eq]
    obtain ⟨t, a1, o, b1, b2, b3⟩ := body (p, l, e, s, m, av.toArray, below, meth, c, D, (fun q => s.heap.size ≤ q), fun _ => True) s.heap.size rfl B.returns rfl ⟨rfl, hTX, rfl, hfl, fun pc => covers_of_empty hnh pc⟩
      ⟨B.exec, B.bytes, hml, findClass_of_methodNamed B.named, hTB, fun q h => ⟨h, trivial⟩, B.notSynchronized⟩ s.heap [] _ hK hP hD0 va_S.rf (lo_entry av hav) s₁ hh0 (Stand.of_body B)
    exact ⟨t, o, a1, b1, b2, b3.1, b3.2⟩
theorem ct_F {sz k n : Nat} {s U : State} {locs : List Loc} (hsz : s.heap.size = sz) (hl : ∀ x ∈ locs, sz ≤ x.base) (h : s.sameButNew ({ U with vm := s.vm } : State) locs k n) : va_F (fun q => sz ≤ q) s U := by
  refine ⟨h.2.1, fun q hq _ => ?_⟩
  obtain ⟨c, hc⟩ : ∃ c, s.heap[q]? = some c := ⟨s.heap[q], by simp [hq]⟩
  have h2 := h.kept_off (a := q) (c := c) (fun i hm => by have := hl _ hm; dsimp only at this; omega) hc
  rw [hc]
  exact h2
section THROW
variable {X : cx_T} {M : ms_T} {k n : Nat} {tys : List (ClassId × FieldType)} {ws pl : va_W} {lv : List (Option Value)} {pc sz : Nat} {rm : Room} {cls : String}
set_option maxHeartbeats 1000000 in
theorem vv_throw {i1 i2 i3 : Nat} {tx : String} (ht : tc X sz) (hown : M.2.2.1 = "SheetTrees") (hk : tw cls i1 i3) (hs : (i2, tx) ∈ sx_l)
    (hd0 : decode M.1 pc = .ok (.new i1, 3)) (hd1 : decode M.1 (pc + 3) = .ok (.dup, 1)) (hd2 : decode M.1 (pc + 4) = .ok (.ldc i2, 2)) (hd3 : decode M.1 (pc + 6) = .ok (.invokespecial i3, 3)) (hd4 : decode M.1 (pc + 9) = .ok (.athrow, 1))
    (hR : (6 ≤ M.2.2.2.frames ∧ 128 ≤ M.2.2.2.locals) ∧ k + 1 ≤ M.2.2.2.cells ∧ n + 6 ≤ M.2.2.2.slots) (hrm : k + 1 ≤ rm.cells ∧ n + 6 ≤ rm.slots) : VV X M (ce X sz cls rm) k n tys ws pl lv [] pc := fun C H locs ls hK hP hD hS hl => by
  obtain ⟨hsz, hTX, hA, hfl, hnh⟩ := ht
  obtain ⟨w1, w2, w3, w4, w5⟩ := hk
  have hts : ∀ w ∈ tb_l, w.before (cx_a X) (cx_s X) = true := fun w hw => C.2.2.2.2.1 w hw _
  have hfc : (cx_s X).vm.findClass "SheetTrees" = some (cx_m X).cls := by rw [← hown]; exact C.2.2.2.1
  have hlk : (cx_M X).locks = false := C.2.2.2.2.2.2
  have hlocs : ∀ x ∈ locs, sz ≤ x.base := fun x hx => by
    have := hS.2.2 x hx
    rw [hA] at this
    exact this
  intro T hT X0
  have htr : (cx_e X).platform.stackTraces = false := Launch.traces_off hfl X0.admits
  obtain ⟨vm₁, cX, kX, hfX, hkX, -, -, X₁, st1⟩ := X0.newCold C.1 (own := "SheetTrees") (C := cls) (index := i1) (n := 6) hfc (hts _ w2) (hts _ w3) (hts _ w4) (g := F0 (cx_m X) pc ls []) rfl (by rw [C.2.1]; exact hd0) hR.2.1 hR.2.2
  generalize hT1 : (T.setVm vm₁).pushCell { cls := cX, slots := kX.instanceTypes.map defaultValue, vm := .none } = T1 at X₁ st1
  have hcellA : T1.heap[T.heap.size]? = some (freshCell cX kX) := by rw [← hT1]; exact State.heap_pushCell_size _ _
  have hle : (cx_s X).heap.size ≤ T.heap.size := by rw [hT]; exact hS.1
  obtain ⟨r, hr⟩ := hTX.2.2.1 (i2, tx) hs
  obtain ⟨U, hsteps, hrun, hend, hW, hsame, ce, hce, K⟩ := X₁.ctorThrowS C.1 htr (own := "SheetTrees") (cls := cls) (names := nmX) (ic := i3) hfc w1 (by decide +kernel)
    (fun y hy => by
      rcases w5 y hy with h | h
      · exact hts _ h
      · exact tx_ok hTX _ _ h)
    (fun y hy cell hc => by
      have h1 := hlocs y hy
      have h2 := (Array.getElem?_eq_some_iff.mp hc).1
      omega) hfX hkX hcellA hle (msg := .ref r) rfl
    (g := F0 (cx_m X) (pc + 6) ls [.ref r, .ref T.heap.size, .ref T.heap.size]) rfl (by rw [C.2.2.1]; exact hl.1) rfl rfl (rest := []) rfl (by rw [C.2.1]; exact hd3) (by rw [C.2.1]; exact hd4) (hnh _)
    (by show nmX.length + 3 < _; have := hR.1.1; have e : nmX.length = 2 := rfl; omega) (by have h1 : nmX.length = 2 := rfl; rw [h1]; have h2 := hR.1.2; show 2 * 0 + 1 + (13 * (2 + 1) + 42) ≤ _; omega) hlk
  refine ⟨U, ?_, .threw T.heap.size, hrun, hend, ⟨⟨T.heap.size, rfl, by omega, ce, hce, K.cls, K.vm⟩, ct_F hsz hlocs hsame⟩, locs, ⟨⟨_, rfl⟩, hW, hsame.mono hrm.1 hrm.2⟩, hlocs⟩
  refine st1 _ ?_
  jvm_step X₁.here [X₁.here.top, C.1, C.2.1, hd1, Value.category]
  exact X₁.ldcString C.1 (own := "SheetTrees") (text := tx) (index := i2) (a := r) hfc hr.1 hr.2 (g := F0 (cx_m X) (pc + 4) ls [.ref T.heap.size, .ref T.heap.size]) rfl (by rw [C.2.1]; exact hd2) _ hsteps
end THROW
