/-! The pool: Sheets, Parts, CutSheets by their addresses. -/
abbrev ob_CS (c : Nat → Int) : va_E := .inr (0, [.int (iI (c 0)), .int (iI (c 1)), .int (iI (c 2)), .int (iI (c 3)), .int (iI (c 4)), .int (iI (c 5)), .int (iI (c 6)), .int (iI (c 7)), .int (iI (c 8)), .int (iI (c 9)), .int (iI (c 10)), .int (iI (c 11)), .int (iI (c 12))])
def SS (L : List Nat) (f : Nat → va_E) (aS : Nat → Nat) (Sh : Nat → pa_T) : Prop := ∀ i : Nat, i < 4 → aS i ∈ L ∧ f (aS i) = ob_SH (Sh i)
def CC (L : List Nat) (f : Nat → va_E) (aC : Nat → Nat) (Cs : Nat → Nat → Int) : Prop := ∀ i : Nat, i < 20 → aC i ∈ L ∧ f (aC i) = ob_CS (Cs i)
def PL (L : List Nat) (f : Nat → va_E) (aS aP aC : Nat → Nat) (Sh R : Nat → pa_T) (Cs : Nat → Nat → Int) : Prop := SS L f aS Sh ∧ PP L f aP R ∧ CC L f aC Cs
/-- the addresses of one kind are apart -/
def AD (aS aP aC : Nat → Nat) : Prop := (∀ i j : Nat, i < 4 → j < 4 → aS i = aS j → i = j) ∧ (∀ i j : Nat, i < 8 → j < 8 → aP i = aP j → i = j) ∧ (∀ i j : Nat, i < 20 → j < 20 → aC i = aC j → i = j)
theorem ne_of_f {f : Nat → va_E} {a b i j : Nat} {u v : List Value} (h1 : f a = .inr (i, u)) (h2 : f b = .inr (j, v)) (hij : i ≠ j) : a ≠ b := fun e => by
  subst e
  rw [h1] at h2
  have h3 := Sum.inr.inj h2
  exact hij (congrArg Prod.fst h3)
theorem PL_S {L : List Nat} {f : Nat → va_E} {aS aP aC : Nat → Nat} {Sh R : Nat → pa_T} {Cs : Nat → Nat → Int} {i : Nat} {r : pa_T} (h : PL L f aS aP aC Sh R Cs) (hA : AD aS aP aC) (hi : i < 4) : PL L (va_up f (aS i) (ob_SH r)) aS aP aC (va_up Sh i r) R Cs := by
  obtain ⟨h1, h2, h3⟩ := h
  refine ⟨fun j hj => ⟨(h1 j hj).1, ?_⟩, fun j hj => ⟨(h2 j hj).1, ?_⟩, fun j hj => ⟨(h3 j hj).1, ?_⟩⟩
  · by_cases e : j = i
    · subst e
      rw [va_up_self, va_up_self]
    · rw [va_up_ne _ _ (fun q => e (hA.1 j i hj hi q)), va_up_ne _ _ e]
      exact (h1 j hj).2
  · rw [va_up_ne _ _ (ne_of_f (h2 j hj).2 (h1 i hi).2 (by decide))]
    exact (h2 j hj).2
  · rw [va_up_ne _ _ (ne_of_f (h3 j hj).2 (h1 i hi).2 (by decide))]
    exact (h3 j hj).2
theorem PL_P {L : List Nat} {f : Nat → va_E} {aS aP aC : Nat → Nat} {Sh R : Nat → pa_T} {Cs : Nat → Nat → Int} {i : Nat} {r : pa_T} (h : PL L f aS aP aC Sh R Cs) (hA : AD aS aP aC) (hi : i < 8) : PL L (va_up f (aP i) (ob_PA r)) aS aP aC Sh (va_up R i r) Cs := by
  obtain ⟨h1, h2, h3⟩ := h
  refine ⟨fun j hj => ⟨(h1 j hj).1, ?_⟩, fun j hj => ⟨(h2 j hj).1, ?_⟩, fun j hj => ⟨(h3 j hj).1, ?_⟩⟩
  · rw [va_up_ne _ _ (ne_of_f (h1 j hj).2 (h2 i hi).2 (by decide))]
    exact (h1 j hj).2
  · by_cases e : j = i
    · subst e
      rw [va_up_self, va_up_self]
    · rw [va_up_ne _ _ (fun q => e (hA.2.1 j i hj hi q)), va_up_ne _ _ e]
      exact (h2 j hj).2
  · rw [va_up_ne _ _ (ne_of_f (h3 j hj).2 (h2 i hi).2 (by decide))]
    exact (h3 j hj).2
theorem PL_C {L : List Nat} {f : Nat → va_E} {aS aP aC : Nat → Nat} {Sh R : Nat → pa_T} {Cs : Nat → Nat → Int} {i : Nat} {c : Nat → Int} (h : PL L f aS aP aC Sh R Cs) (hA : AD aS aP aC) (hi : i < 20) : PL L (va_up f (aC i) (ob_CS c)) aS aP aC Sh R (va_up Cs i c) := by
  obtain ⟨h1, h2, h3⟩ := h
  refine ⟨fun j hj => ⟨(h1 j hj).1, ?_⟩, fun j hj => ⟨(h2 j hj).1, ?_⟩, fun j hj => ⟨(h3 j hj).1, ?_⟩⟩
  · rw [va_up_ne _ _ (ne_of_f (h1 j hj).2 (h3 i hi).2 (by decide))]
    exact (h1 j hj).2
  · rw [va_up_ne _ _ (ne_of_f (h2 j hj).2 (h3 i hi).2 (by decide))]
    exact (h2 j hj).2
  · by_cases e : j = i
    · subst e
      rw [va_up_self, va_up_self]
    · rw [va_up_ne _ _ (fun q => e (hA.2.2 j i hj hi q)), va_up_ne _ _ e]
      exact (h3 j hj).2
section PU
variable {X : cx_T} {M : ms_T} {Q : State → Prop} {k n : Nat} {tys : List (ClassId × FieldType)} {ws pl : va_W} {lv : List (Option Value)} {st : List Value} {pc idx : Nat}
theorem up_id {f : Nat → va_E} {a : Nat} {e : va_E} (he : f a = e) : va_up f a e = f := by
  funext j
  by_cases hj : j = a
  · subst hj
    rw [va_up_self, he]
  · rw [va_up_ne _ _ hj]
theorem vv_enter {L : List Nat} {f : Nat → va_E} {a : Nat} {e : va_E} (he : f a = e) (kk : VV X M Q k n tys ws (va_pl L (va_up f a e)) lv st pc) : VV X M Q k n tys ws (va_pl L f) lv st pc := by
  rw [up_id he] at kk
  exact kk
theorem vv_putU (hw : cx_w X) {L : List Nat} {f : Nat → va_E} {ci a j : Nat} {fs : List Value} {v : Value} {ty : FieldType} (hd : decode M.1 pc = .ok (.putfield idx, 3)) (hm : a ∈ L) (hf : fp_ok M.2.2.1 idx ci j ty) (hn : narrow ty v = v) (hfit : fits ty v = true) (hj : j < fs.length) (kk : VV X M Q k n tys ws (va_pl L (va_up f a (.inr (ci, fs.set j v)))) lv st (pc + 3)) : VV X M Q k n tys ws (va_pl L (va_up f a (.inr (ci, fs)))) lv (v :: .ref a :: st) pc := by
  refine vv_putP hw hd hm (va_up_self _ _ _) hf hn hfit hj ?_
  rw [bx_uu]
  exact kk
theorem vv_getU {L : List Nat} {f : Nat → va_E} {ci a j : Nat} {fs : List Value} {v : Value} (hd : decode M.1 pc = .ok (.getfield idx, 3)) (hm : a ∈ L) (hf : fl_ok M.2.2.1 idx ci j) (hv : fs[j]? = some v) (kk : VV X M Q k n tys ws (va_pl L (va_up f a (.inr (ci, fs)))) lv (v :: st) (pc + 3)) : VV X M Q k n tys ws (va_pl L (va_up f a (.inr (ci, fs)))) lv (.ref a :: st) pc := vv_getP hd hm (va_up_self _ _ _) hf hv kk
end PU
