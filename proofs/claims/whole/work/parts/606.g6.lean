/-! pure: one node, class and reference -/
abbrev mv_T.cc (v : mv_T) : Nat → Int := v.1
abbrev mv_T.mi (v : mv_T) : Nat → Int := v.2.1
abbrev mv_T.tc (v : mv_T) : Nat → Int := v.2.2.1
abbrev mv_T.ta (v : mv_T) : Nat → Int := v.2.2.2.1
abbrev mv_T.rc (v : mv_T) : Nat → Int := v.2.2.2.2.1
abbrev mv_T.nc (v : mv_T) : Nat → Int := v.2.2.2.2.2.1
abbrev mv_T.no (v : mv_T) : Nat → Int := v.2.2.2.2.2.2.1
abbrev mv_T.tk (v : mv_T) : Nat → Int := v.2.2.2.2.2.2.2.1
abbrev mv_T.rs (v : mv_T) : Nat → Int := v.2.2.2.2.2.2.2.2.1
abbrev mv_T.st (v : mv_T) : Nat → Int := v.2.2.2.2.2.2.2.2.2
def nc' (t : Nat) (v : mv_T) : Nat → Int := va_up v.nc t (v.nc t + 1)
def no' (t : Nat) (c : Int) (v : mv_T) : Nat → Int := va_up v.no (600 * (t : Int) + v.nc t).toNat (dec c)
section RST
variable {le c x y w h : Int} {d : Bool} {t : Nat} {v : mv_T}
theorem rst_cut (hc : 8 < c) : rst le t v (c, x, y, w, h, d) = (va_up v.cc t (v.cc t + 1), va_up v.mi t (v.mi t + (if d = true then w else h)), v.tc, v.ta, v.rc, nc' t v, no' t c v, v.tk, v.rs, v.st) := by
  unfold rst
  dsimp only
  rw [if_pos hc]
  cases d <;> rfl
theorem rst_keep (hc : c = 8) (hk : le ≤ w ∧ le ≤ h) : rst le t v (c, x, y, w, h, d) = (v.cc, v.mi, v.tc, v.ta, va_up v.rc t (v.rc t + 1), nc' t v, no' t c v, v.tk, kr v.rc t x y w h v.rs, v.st) := by
  unfold rst
  dsimp only
  rw [if_neg (by omega), if_pos hc]
  unfold mw_rest
  rw [if_pos hk]
  rfl
theorem rst_drop (hc : c = 8) (hk : ¬ (le ≤ w ∧ le ≤ h)) : rst le t v (c, x, y, w, h, d) = (v.cc, v.mi, v.tc, v.ta, v.rc, nc' t v, no' t c v, v.tk, v.rs, v.st) := by
  unfold rst
  dsimp only
  rw [if_neg (by omega), if_pos hc]
  unfold mw_rest
  rw [if_neg hk]
  rfl
theorem rst_take (hc : c < 8) (hk : 0 < v.st c.toNat) : rst le t v (c, x, y, w, h, d) = (v.cc, v.mi, va_up v.tc t (v.tc t + 1), va_up v.ta t (v.ta t + w * h), v.rc, nc' t v, no' t c v, tkg v.tc t c x y w h v.tk, v.rs, va_up v.st c.toNat (v.st c.toNat - 1)) := by
  have e : dec c = c := by unfold dec; rw [if_neg (by omega), if_pos hc]
  unfold rst
  dsimp only
  rw [if_neg (by omega), if_neg (by omega)]
  unfold mw_take
  rw [if_pos (by rw [e]; exact hk), e]
  show _ = (_, _, _, _, _, _, va_up v.no (600 * (t : Int) + v.nc t).toNat (dec c), _)
  rw [e]
  rfl
theorem rst_pass (hc : c < 8) (hk : ¬ 0 < v.st c.toNat) : rst le t v (c, x, y, w, h, d) = (v.cc, v.mi, v.tc, v.ta, v.rc, nc' t v, no' t c v, v.tk, v.rs, v.st) := by
  have e : dec c = c := by unfold dec; rw [if_neg (by omega), if_pos hc]
  unfold rst
  dsimp only
  rw [if_neg (by omega), if_neg (by omega)]
  unfold mw_take
  rw [if_neg (by rw [e]; exact hk)]
  rfl
end RST
theorem pf_pk {k x y w h : Int} (hk : 0 ≤ k ∧ k < 32) (hx : 0 ≤ x ∧ x < 32) (hy : 0 ≤ y ∧ y < 32) (hw : 0 ≤ w ∧ w < 32) (hh : 0 ≤ h ∧ h < 32) : pf_z (pk_z k x y w h) 0 = k ∧ pf_z (pk_z k x y w h) 1 = x ∧ pf_z (pk_z k x y w h) 2 = y ∧ pf_z (pk_z k x y w h) 3 = w ∧ pf_z (pk_z k x y w h) 4 = h := by
  have e : ∀ P : Int, pf_z P 0 = P / 1048576 % 32 ∧ pf_z P 1 = P / 32768 % 32 ∧ pf_z P 2 = P / 1024 % 32 ∧ pf_z P 3 = P / 32 % 32 ∧ pf_z P 4 = P / 1 % 32 := fun P => ⟨rfl, rfl, rfl, rfl, rfl⟩
  obtain ⟨e0, e1, e2, e3, e4⟩ := e (pk_z k x y w h)
  rw [e0, e1, e2, e3, e4]
  unfold pk_z
  omega
theorem ts_ext {le : Int} {ps ps' : Nat → Int} {s : ts_T} : ∀ n : Nat, (∀ i : Nat, i < n → ps' i = ps i) → ts_go le ps' s n = ts_go le ps s n
  | 0, _ => rfl
  | n + 1, h => by
    unfold ts_go
    rw [ts_ext n (fun i hi => h i (by omega)), h n (by omega)]
/-- what the class has taken and kept after a layout -/
abbrev tsl (le : Int) (s0 : ts_T) (L : ly_T) : ts_T := ts_go le L.2.2.2.1 s0 L.1.toNat
theorem tsl_leaf {le : Int} {s0 : ts_T} {L : ly_T} {q : nd_T} (h8 : q.1 ≤ 8) (h0 : 0 ≤ L.1 ∧ L.1 < 256) : tsl le s0 (cstep L q) = ts_step le (pk_z q.1 q.2.1 q.2.2.1 q.2.2.2.1 q.2.2.2.2.1) (tsl le s0 L) := by
  have e : cstep L q = ly_add q.1 (pk_z q.1 q.2.1 q.2.2.1 q.2.2.2.1 q.2.2.2.2.1) L := by unfold cstep; rw [if_pos h8]
  have e1 : (cstep L q).1 = L.1 + 1 := by rw [e]; exact if_pos h0.2
  have e2 : (cstep L q).2.2.2.1 = va_up L.2.2.2.1 L.1.toNat (pk_z q.1 q.2.1 q.2.2.1 q.2.2.2.1 q.2.2.2.2.1) := by rw [e]; exact if_pos h0.2
  unfold tsl
  rw [e1, e2, show (L.1 + 1).toNat = L.1.toNat + 1 by omega]
  show ts_step le _ _ = _
  rw [va_up_self, ts_ext _ (fun i hi => va_up_ne _ _ (by omega))]
theorem tsl_cut {le : Int} {s0 : ts_T} {L : ly_T} {q : nd_T} (h8 : ¬ q.1 ≤ 8) : tsl le s0 (cstep L q) = tsl le s0 L := by
  unfold cstep
  rw [if_neg h8]
  rfl
abbrev ts_T.R (s : ts_T) : Nat → pa_T := s.2.2.2.2.1
abbrev ts_T.c (s : ts_T) : Nat → Int := s.2.2.2.2.2
/-- taken and kept: class (since s0) and reference (at t) -/
def I3 (t : Nat) (s0 X : ts_T) (v : mv_T) : Prop := (v.tc t = X.1 - s0.1 ∧ 0 ≤ v.tc t) ∧ (v.rc t = X.2.1 - s0.2.1 ∧ 0 ≤ v.rc t) ∧ v.ta t = X.c 9 ∧ (∀ p : Nat, p < 8 → v.st p = (X.R p).2.2.2.2) ∧ (∀ p : Nat, (X.R p).1 = (s0.R p).1 ∧ (X.R p).2.1 = (s0.R p).2.1 ∧ (X.R p).2.2.1 = (s0.R p).2.2.1 ∧ (X.R p).2.2.2.1 = (s0.R p).2.2.2.1) ∧ (∀ j f : Nat, (j : Int) < v.tc t → f < 5 → v.tk (5 * (256 * t + j) + f) = pf_z (X.2.2.1 (s0.1 + (j : Int)).toNat) f) ∧ (∀ j f : Nat, (j : Int) < v.rc t → f < 4 → v.rs (4 * (256 * t + j) + f) = pf_z (X.2.2.2.1 (s0.2.1 + (j : Int)).toNat) (1 + (f : Int))) ∧ (∀ i : Nat, (i : Int) < s0.1 → X.2.2.1 i = s0.2.2.1 i) ∧ (∀ i : Nat, (i : Int) < s0.2.1 → X.2.2.2.1 i = s0.2.2.2.1 i) ∧ ∀ k : Nat, k ≠ 9 → X.c k = s0.c k
/-- a node's bounds -/
def QB (ar : Nat → Int) (q : nd_T) : Prop := 0 ≤ q.1 ∧ okp q.2.1 q.2.2.1 q.2.2.2.1 q.2.2.2.2.1 ∧ (q.1 < 8 → ar q.1.toNat = q.2.2.2.1 * q.2.2.2.2.1)
theorem kr_at {rc g : Nat → Int} {t : Nat} {x y w h : Int} {r : Nat} (hr : rc t = (r : Int)) : (∀ i : Nat, i < 4 * (256 * t + r) → kr rc t x y w h g i = g i) ∧ kr rc t x y w h g (4 * (256 * t + r)) = x ∧ kr rc t x y w h g (4 * (256 * t + r) + 1) = y ∧ kr rc t x y w h g (4 * (256 * t + r) + 2) = w ∧ kr rc t x y w h g (4 * (256 * t + r) + 3) = h := by
  have e : kr_z rc t = ((4 * (256 * t + r) : Nat) : Int) := by
    unfold kr_z
    rw [Int.toNat_natCast, hr]
    omega
  unfold kr
  rw [e]
  have e0 : (((4 * (256 * t + r) : Nat) : Int)).toNat = 4 * (256 * t + r) := by omega
  have e1 : (((4 * (256 * t + r) : Nat) : Int) + 1).toNat = 4 * (256 * t + r) + 1 := by omega
  have e2 : (((4 * (256 * t + r) : Nat) : Int) + 2).toNat = 4 * (256 * t + r) + 2 := by omega
  have e3 : (((4 * (256 * t + r) : Nat) : Int) + 3).toNat = 4 * (256 * t + r) + 3 := by omega
  rw [e0, e1, e2, e3]
  generalize 4 * (256 * t + r) = z
  refine ⟨fun i hi => ?_, ?_, ?_, ?_, ?_⟩
  · rw [va_up_ne _ _ (by omega), va_up_ne _ _ (by omega), va_up_ne _ _ (by omega), va_up_ne _ _ (by omega)]
  · rw [va_up_ne _ _ (by omega), va_up_ne _ _ (by omega), va_up_ne _ _ (by omega), va_up_self]
  · rw [va_up_ne _ _ (by omega), va_up_ne _ _ (by omega), va_up_self]
  · rw [va_up_ne _ _ (by omega), va_up_self]
  · rw [va_up_self]
theorem tkg_at {tc g : Nat → Int} {t : Nat} {k x y w h : Int} {r : Nat} (hr : tc t = (r : Int)) : (∀ i : Nat, i < 5 * (256 * t + r) → tkg tc t k x y w h g i = g i) ∧ tkg tc t k x y w h g (5 * (256 * t + r)) = k ∧ tkg tc t k x y w h g (5 * (256 * t + r) + 1) = x ∧ tkg tc t k x y w h g (5 * (256 * t + r) + 2) = y ∧ tkg tc t k x y w h g (5 * (256 * t + r) + 3) = w ∧ tkg tc t k x y w h g (5 * (256 * t + r) + 4) = h := by
  have e : tk_z tc t = ((5 * (256 * t + r) : Nat) : Int) := by
    unfold tk_z
    rw [Int.toNat_natCast, hr]
    omega
  unfold tkg
  rw [e]
  have e0 : (((5 * (256 * t + r) : Nat) : Int)).toNat = 5 * (256 * t + r) := by omega
  have e1 : (((5 * (256 * t + r) : Nat) : Int) + 1).toNat = 5 * (256 * t + r) + 1 := by omega
  have e2 : (((5 * (256 * t + r) : Nat) : Int) + 2).toNat = 5 * (256 * t + r) + 2 := by omega
  have e3 : (((5 * (256 * t + r) : Nat) : Int) + 3).toNat = 5 * (256 * t + r) + 3 := by omega
  have e4 : (((5 * (256 * t + r) : Nat) : Int) + 4).toNat = 5 * (256 * t + r) + 4 := by omega
  rw [e0, e1, e2, e3, e4]
  generalize 5 * (256 * t + r) = z
  refine ⟨fun i hi => ?_, ?_, ?_, ?_, ?_, ?_⟩
  · rw [va_up_ne _ _ (by omega), va_up_ne _ _ (by omega), va_up_ne _ _ (by omega), va_up_ne _ _ (by omega), va_up_ne _ _ (by omega)]
  · rw [va_up_ne _ _ (by omega), va_up_ne _ _ (by omega), va_up_ne _ _ (by omega), va_up_ne _ _ (by omega), va_up_self]
  · rw [va_up_ne _ _ (by omega), va_up_ne _ _ (by omega), va_up_ne _ _ (by omega), va_up_self]
  · rw [va_up_ne _ _ (by omega), va_up_ne _ _ (by omega), va_up_self]
  · rw [va_up_ne _ _ (by omega), va_up_self]
  · rw [va_up_self]
theorem I3_step {ar : Nat → Int} {le : Int} {t : Nat} {s0 X : ts_T} {v : mv_T} {q : nd_T} (h0 : 0 ≤ s0.1 ∧ 0 ≤ s0.2.1) (hI : I3 t s0 X v) (hq : QB ar q) (har : ∀ p : Nat, p < 8 → ar p = (s0.R p).1 * (s0.R p).2.1) : I3 t s0 (if q.1 ≤ 8 then ts_step le (pk_z q.1 q.2.1 q.2.2.1 q.2.2.2.1 q.2.2.2.2.1) X else X) (rst le t v q) := by
  obtain ⟨c, x, y, w, h, d⟩ := q
  obtain ⟨g1, g2, g3⟩ := hq
  dsimp only at g1 g2 g3 ⊢
  have hok := g2
  unfold okp at hok
  by_cases h8 : c ≤ 8
  · rw [if_pos h8]
    obtain ⟨p0, p1, p2, p3, p4⟩ := pf_pk (k := c) (x := x) (y := y) (w := w) (h := h) (by omega) (by omega) (by omega) (by omega) (by omega)
    obtain ⟨i1, i2, i3, i4, i5, i6, i7, i8, i9, i10⟩ := hI
    by_cases e8 : c = 8
    · by_cases hk : le ≤ w ∧ le ≤ h
      · have ex : ts_step le (pk_z c x y w h) X = (X.1, X.2.1 + 1, X.2.2.1, va_up X.2.2.2.1 X.2.1.toNat (pk_z c x y w h), X.2.2.2.2) := by
          unfold ts_step
          rw [p0, if_pos e8, p3, p4, if_pos hk]
        rw [ex, rst_keep e8 hk]
        obtain ⟨r, hr⟩ : ∃ r : Nat, v.rc t = (r : Int) := ⟨(v.rc t).toNat, by omega⟩
        obtain ⟨k0, k1, k2, k3, k4⟩ := kr_at (g := v.rs) (x := x) (y := y) (w := w) (h := h) hr
        refine ⟨i1, ?_, i3, i4, i5, i6, ?_, i8, ?_, i10⟩
        · show va_up v.rc t (v.rc t + 1) t = _ ∧ 0 ≤ va_up v.rc t (v.rc t + 1) t
          rw [va_up_self]
          exact ⟨by show v.rc t + 1 = X.2.1 + 1 - s0.2.1; omega, by omega⟩
        · intro j f hj hf
          have hj2 : (j : Int) < v.rc t + 1 := by
            have hj3 : (j : Int) < va_up v.rc t (v.rc t + 1) t := hj
            rw [va_up_self] at hj3
            exact hj3
          show kr v.rc t x y w h v.rs _ = pf_z (va_up X.2.2.2.1 X.2.1.toNat (pk_z c x y w h) _) _
          by_cases ej : j = r
          · subst ej
            rw [show (s0.2.1 + (j : Int)).toNat = X.2.1.toNat by omega, va_up_self]
            rcases (show f = 0 ∨ f = 1 ∨ f = 2 ∨ f = 3 by omega) with rfl | rfl | rfl | rfl
            · exact k1.trans p1.symm
            · exact k2.trans p2.symm
            · exact k3.trans p3.symm
            · exact k4.trans p4.symm
          · rw [k0 _ (by omega), va_up_ne _ _ (by omega)]
            exact i7 j f (by omega) hf
        · intro i hi
          show va_up X.2.2.2.1 X.2.1.toNat (pk_z c x y w h) i = _
          rw [va_up_ne _ _ (by omega)]
          exact i9 i hi
      · have ex : ts_step le (pk_z c x y w h) X = X := by
          unfold ts_step
          rw [p0, if_pos e8, p3, p4, if_neg hk]
        rw [ex, rst_drop e8 hk]
        exact ⟨i1, i2, i3, i4, i5, i6, i7, i8, i9, i10⟩
    · have ek : ts_k (pk_z c x y w h) = c.toNat := by
        unfold ts_k
        rw [p0]
      have hst := i4 c.toNat (by omega)
      by_cases hk : 0 < v.st c.toNat
      · have ex : ts_step le (pk_z c x y w h) X = (X.1 + 1, X.2.1, va_up X.2.2.1 X.1.toNat (pk_z c x y w h), X.2.2.2.1, va_up X.R c.toNat ((X.R c.toNat).1, (X.R c.toNat).2.1, (X.R c.toNat).2.2.1, (X.R c.toNat).2.2.2.1, (X.R c.toNat).2.2.2.2 - 1), va_up X.c 9 (X.c 9 + (X.R c.toNat).1 * (X.R c.toNat).2.1)) := by
          unfold ts_step
          rw [p0, if_neg e8, if_pos (by omega), ek, if_pos (by rw [← hst]; exact hk)]
        rw [ex, rst_take (by omega) hk]
        obtain ⟨r, hr⟩ : ∃ r : Nat, v.tc t = (r : Int) := ⟨(v.tc t).toNat, by omega⟩
        obtain ⟨k0, k1, k2, k3, k4, k5⟩ := tkg_at (g := v.tk) (k := c) (x := x) (y := y) (w := w) (h := h) hr
        refine ⟨?_, i2, ?_, ?_, ?_, ?_, i7, ?_, i9, ?_⟩
        · show va_up v.tc t (v.tc t + 1) t = _ ∧ 0 ≤ va_up v.tc t (v.tc t + 1) t
          rw [va_up_self]
          exact ⟨by show v.tc t + 1 = X.1 + 1 - s0.1; omega, by omega⟩
        · show va_up v.ta t (v.ta t + w * h) t = va_up X.c 9 (X.c 9 + (X.R c.toNat).1 * (X.R c.toNat).2.1) 9
          rw [va_up_self, va_up_self, i3, (i5 c.toNat).1, (i5 c.toNat).2.1, ← har c.toNat (by omega), g3 (by omega)]
        · intro p hp
          show va_up v.st c.toNat (v.st c.toNat - 1) p = (va_up X.R c.toNat _ p).2.2.2.2
          by_cases ep : p = c.toNat
          · rw [ep, va_up_self, va_up_self, hst]
          · rw [va_up_ne _ _ ep, va_up_ne _ _ ep]
            exact i4 p hp
        · intro p
          show (va_up X.R c.toNat _ p).1 = _ ∧ (va_up X.R c.toNat _ p).2.1 = _ ∧ (va_up X.R c.toNat _ p).2.2.1 = _ ∧ (va_up X.R c.toNat _ p).2.2.2.1 = _
          by_cases ep : p = c.toNat
          · rw [ep, va_up_self]
            exact i5 c.toNat
          · rw [va_up_ne _ _ ep]
            exact i5 p
        · intro j f hj hf
          have hj2 : (j : Int) < v.tc t + 1 := by
            have hj3 : (j : Int) < va_up v.tc t (v.tc t + 1) t := hj
            rw [va_up_self] at hj3
            exact hj3
          show tkg v.tc t c x y w h v.tk _ = pf_z (va_up X.2.2.1 X.1.toNat (pk_z c x y w h) _) _
          by_cases ej : j = r
          · subst ej
            rw [show (s0.1 + (j : Int)).toNat = X.1.toNat by omega, va_up_self]
            rcases (show f = 0 ∨ f = 1 ∨ f = 2 ∨ f = 3 ∨ f = 4 by omega) with rfl | rfl | rfl | rfl | rfl
            · exact k1.trans p0.symm
            · exact k2.trans p1.symm
            · exact k3.trans p2.symm
            · exact k4.trans p3.symm
            · exact k5.trans p4.symm
          · rw [k0 _ (by omega), va_up_ne _ _ (by omega)]
            exact i6 j f (by omega) hf
        · intro i hi
          show va_up X.2.2.1 X.1.toNat (pk_z c x y w h) i = _
          rw [va_up_ne _ _ (by omega)]
          exact i8 i hi
        · intro k hk9
          show va_up X.c 9 _ k = _
          rw [va_up_ne _ _ hk9]
          exact i10 k hk9
      · have ex : ts_step le (pk_z c x y w h) X = X := by
          unfold ts_step
          rw [p0, if_neg e8, if_pos (by omega), ek, if_neg (by rw [← hst]; exact hk)]
        rw [ex, rst_pass (by omega) hk]
        exact ⟨i1, i2, i3, i4, i5, i6, i7, i8, i9, i10⟩
  · rw [if_neg h8, rst_cut (by omega)]
    exact hI
