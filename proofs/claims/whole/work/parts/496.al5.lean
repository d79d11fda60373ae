/-! pure: objects of one kind join the pool -/
def KIN (n : Nat) (L : List Nat) (f : Nat → va_E) (a : Nat → Nat) (F : Nat → Option Nat) (e : va_E) : Prop := (∀ j : Nat, j < n → a j ∈ L ∧ f (a j) = e ∧ F j = some (a j)) ∧ ∀ i j : Nat, i < n → j < n → a i = a j → i = j
theorem KIN_keep {n q : Nat} {L : List Nat} {f : Nat → va_E} {a : Nat → Nat} {F : Nat → Option Nat} {e e0 e1 : va_E} (h : KIN n L f a F e) (hq : q ∉ L) : KIN n (L ++ [q]) (va_up (va_up f q e0) q e1) a F e := by
  refine ⟨fun j hj => ?_, h.2⟩
  obtain ⟨h1, h2, h3⟩ := h.1 j hj
  have hne : a j ≠ q := fun z => hq (z ▸ h1)
  exact ⟨List.mem_append_left _ h1, by rw [va_up_ne _ _ hne, va_up_ne _ _ hne]; exact h2, h3⟩
theorem KIN_new {n q : Nat} {L : List Nat} {f : Nat → va_E} {a : Nat → Nat} {F : Nat → Option Nat} {e e0 : va_E} (h : KIN n L f a F e) (hq : q ∉ L) : KIN (n + 1) (L ++ [q]) (va_up (va_up f q e0) q e) (va_up a n q) (va_up F n (some q)) e := by
  have hk := KIN_keep (e0 := e0) (e1 := e) h hq
  refine ⟨fun j hj => ?_, fun i j hi hj hij => ?_⟩
  · by_cases ej : j = n
    · subst ej
      rw [va_up_self, va_up_self, va_up_self]
      exact ⟨List.mem_append_right _ List.mem_cons_self, rfl, rfl⟩
    · rw [va_up_ne _ _ ej, va_up_ne _ _ ej]
      exact hk.1 j (by omega)
  · by_cases ei : i = n
    · by_cases ej : j = n
      · omega
      · rw [ei, va_up_self, va_up_ne _ _ ej] at hij
        exact absurd (hij ▸ (h.1 j (by omega)).1) hq
    · by_cases ej : j = n
      · rw [ej, va_up_self, va_up_ne _ _ ei] at hij
        exact absurd (hij ▸ (h.1 i (by omega)).1) hq
      · rw [va_up_ne _ _ ei, va_up_ne _ _ ej] at hij
        exact h.2 i j (by omega) (by omega) hij
theorem KIN_0 {L : List Nat} {f : Nat → va_E} {a : Nat → Nat} {F : Nat → Option Nat} {e : va_E} : KIN 0 L f a F e := ⟨fun j hj => by omega, fun i j hi => by omega⟩
theorem KIN_PL {L : List Nat} {f : Nat → va_E} {aS aP aC : Nat → Nat} {fS fP fC : Nat → Option Nat} (h1 : KIN 4 L f aS fS (ob_SH ((0, 0, 0, 0, 0) : pa_T))) (h2 : KIN 8 L f aP fP (ob_PA ((0, 0, 0, 0, 0) : pa_T))) (h3 : KIN 20 L f aC fC (ob_CS (fun _ => 0))) : PL L f aS aP aC (fun _ => (0, 0, 0, 0, 0)) (fun _ => (0, 0, 0, 0, 0)) (fun _ _ => 0) ∧ AD aS aP aC ∧ (∀ i : Nat, i < 4 → fS i = some (aS i)) ∧ (∀ i : Nat, i < 8 → fP i = some (aP i)) ∧ (∀ i : Nat, i < 20 → fC i = some (aC i)) :=
  ⟨⟨fun i hi => ⟨(h1.1 i hi).1, (h1.1 i hi).2.1⟩, fun i hi => ⟨(h2.1 i hi).1, (h2.1 i hi).2.1⟩, fun i hi => ⟨(h3.1 i hi).1, (h3.1 i hi).2.1⟩⟩, ⟨h1.2, h2.2, h3.2⟩, fun i hi => (h1.1 i hi).2.2, fun i hi => (h2.1 i hi).2.2, fun i hi => (h3.1 i hi).2.2⟩
