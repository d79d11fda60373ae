/-! pure: the reference's walk, mirrored: its stack, its counters, its rows -/
abbrev mw_T : Type := Nat × (Nat → Int) × (Nat → Int) × (Nat → Int) × (Nat → Int) × (Nat → Int) × (Nat → Int) × (Nat → Int) × (Nat → Int) × (Nat → Int) × (Nat → Int) × (Nat → Int)
abbrev mw_T.n (u : mw_T) : Nat := u.1
abbrev mw_T.wt (u : mw_T) : Nat → Int := u.2.1
abbrev mw_T.cc (u : mw_T) : Nat → Int := u.2.2.1
abbrev mw_T.mi (u : mw_T) : Nat → Int := u.2.2.2.1
abbrev mw_T.tc (u : mw_T) : Nat → Int := u.2.2.2.2.1
abbrev mw_T.ta (u : mw_T) : Nat → Int := u.2.2.2.2.2.1
abbrev mw_T.rc (u : mw_T) : Nat → Int := u.2.2.2.2.2.2.1
abbrev mw_T.nc (u : mw_T) : Nat → Int := u.2.2.2.2.2.2.2.1
abbrev mw_T.no (u : mw_T) : Nat → Int := u.2.2.2.2.2.2.2.2.1
abbrev mw_T.tk (u : mw_T) : Nat → Int := u.2.2.2.2.2.2.2.2.2.1
abbrev mw_T.rs (u : mw_T) : Nat → Int := u.2.2.2.2.2.2.2.2.2.2.1
abbrev mw_T.st (u : mw_T) : Nat → Int := u.2.2.2.2.2.2.2.2.2.2.2
def mw_nd (t c : Int) (k : Nat) (u : mw_T) : mw_T := (k, u.wt, u.cc, u.mi, u.tc, u.ta, u.rc, va_up u.nc t.toNat (u.nc t.toNat + 1), va_up u.no (600 * t + u.nc t.toNat).toNat c, u.tk, u.rs, u.st)
def mw_rest (le t x y w h : Int) (u : mw_T) : mw_T := if le ≤ w ∧ le ≤ h then (u.n, u.wt, u.cc, u.mi, u.tc, u.ta, va_up u.rc t.toNat (u.rc t.toNat + 1), u.nc, u.no, u.tk, kr u.rc t x y w h u.rs, u.st) else u
def mw_take (t k x y w h : Int) (u : mw_T) : mw_T := if 0 < u.st k.toNat then (u.n, u.wt, u.cc, u.mi, va_up u.tc t.toNat (u.tc t.toNat + 1), va_up u.ta t.toNat (u.ta t.toNat + w * h), u.rc, u.nc, u.no, tkg u.tc t k x y w h u.tk, u.rs, va_up u.st k.toNat (u.st k.toNat - 1)) else u
def mw_r (K c w h d : Int) : Int := (if d = 0 then w else h) - c - K
/-- the second piece of a cut goes onto the stack, if there is one -/
def mw_two (K c x y w h d s : Int) (u : mw_T) : mw_T := if 0 < mw_r K c w h d then (u.n + 1, ps (u.n : Int) (if d = 0 then x + c + K else x) (if d = 0 then y else y + c + K) (if d = 0 then mw_r K c w h d else w) (if d = 0 then h else mw_r K c w h d) d s u.wt, u.cc, u.mi, u.tc, u.ta, u.rc, u.nc, u.no, u.tk, u.rs, u.st) else u
def mw_one (c x y w h d s : Int) (u : mw_T) : mw_T := (u.n + 1, ps (u.n : Int) x y (if d = 0 then c else w) (if d = 0 then h else c) (1 - d) (s - 1) u.wt, u.cc, u.mi, u.tc, u.ta, u.rc, u.nc, u.no, u.tk, u.rs, u.st)
def mw_cnt (t w h d : Int) (u : mw_T) : mw_T := (u.n, u.wt, va_up u.cc t.toNat (u.cc t.toNat + 1), va_up u.mi t.toNat (u.mi t.toNat + (if d = 0 then h else w)), u.tc, u.ta, u.rc, u.nc, u.no, u.tk, u.rs, u.st)
def mw_cut (K t c x y w h d s : Int) (u : mw_T) : mw_T := mw_one c x y w h d s (mw_two K c x y w h d s (mw_cnt t w h d u))
/-- a step for the piece x y w h, way d, stages s, choice c, that stood at k -/
def mw_do (K le t c x y w h d s : Int) (k : Nat) (u : mw_T) : mw_T := if 16 < c then mw_cut K t (c - 16) x y w h d s (mw_nd t c k u) else if c = -1 then mw_rest le t x y w h (mw_nd t c k u) else mw_take t c x y w h (mw_nd t c k u)
def mw_step (ch : Nat → Int) (K le t : Int) (k : Nat) (u : mw_T) : mw_T := mw_do K le t (ch (mp (u.wt (6 * k + 5)) (u.wt (6 * k + 4)) (u.wt (6 * k + 2)) (u.wt (6 * k + 3))).toNat) (u.wt (6 * k)) (u.wt (6 * k + 1)) (u.wt (6 * k + 2)) (u.wt (6 * k + 3)) (u.wt (6 * k + 4)) (u.wt (6 * k + 5)) k u
def mw_go (ch : Nat → Int) (K le t : Int) : Nat → mw_T → mw_T
  | 0, u => u
  | f + 1, u => match u.n with
    | 0 => u
    | k + 1 => mw_go ch K le t f (mw_step ch K le t k u)
def MCH (ch : Nat → Int) : Prop := ∀ s d w h : Int, 0 ≤ s → s ≤ 3 → 0 ≤ d → d ≤ 1 → 1 ≤ w → w ≤ 16 → 1 ≤ h → h ≤ 16 → (ch (mp s d w h).toNat = -1 ∨ (0 ≤ ch (mp s d w h).toNat ∧ ch (mp s d w h).toNat < 8)) ∨ (16 < ch (mp s d w h).toNat ∧ 1 ≤ s ∧ ch (mp s d w h).toNat - 16 < (if d = 0 then w else h))
def SA (g : Nat → Int) : Nat → Int
  | 0 => 0
  | k + 1 => SA g k + g (6 * k + 2) * g (6 * k + 3)
theorem SA_ext {g g' : Nat → Int} : ∀ n : Nat, (∀ i : Nat, i < 6 * n → g' i = g i) → SA g' n = SA g n
  | 0, _ => rfl
  | n + 1, h => by
    show SA g' n + g' (6 * n + 2) * g' (6 * n + 3) = SA g n + g (6 * n + 2) * g (6 * n + 3)
    rw [SA_ext n (fun i hi => h i (by omega)), h _ (by omega), h _ (by omega)]
def pe_ok (g : Nat → Int) (i : Nat) : Prop := okp (g (6 * i)) (g (6 * i + 1)) (g (6 * i + 2)) (g (6 * i + 3)) ∧ (g (6 * i + 4) = 0 ∨ g (6 * i + 4) = 1) ∧ 0 ≤ g (6 * i + 5) ∧ g (6 * i + 5) ≤ 3
theorem pe_ext {g g' : Nat → Int} {i : Nat} (h : ∀ j : Nat, j < 6 * i + 6 → g' j = g j) (hp : pe_ok g i) : pe_ok g' i := by
  unfold pe_ok
  rw [h _ (by omega), h _ (by omega), h _ (by omega), h _ (by omega), h _ (by omega), h _ (by omega)]
  exact hp
theorem ps_lt {k i : Nat} {x y w h d s : Int} {g : Nat → Int} (hi : i < 6 * k) : ps (k : Int) x y w h d s g i = g i := by
  unfold ps
  rw [va_up_ne _ _ (by omega), va_up_ne _ _ (by omega), va_up_ne _ _ (by omega), va_up_ne _ _ (by omega), va_up_ne _ _ (by omega), va_up_ne _ _ (by omega)]
theorem ps_at {k : Nat} {x y w h d s : Int} {g : Nat → Int} : ps (k : Int) x y w h d s g (6 * k) = x ∧ ps (k : Int) x y w h d s g (6 * k + 1) = y ∧ ps (k : Int) x y w h d s g (6 * k + 2) = w ∧ ps (k : Int) x y w h d s g (6 * k + 3) = h ∧ ps (k : Int) x y w h d s g (6 * k + 4) = d ∧ ps (k : Int) x y w h d s g (6 * k + 5) = s := by
  have e0 : (6 * (k : Int)).toNat = 6 * k := by omega
  have e1 : (6 * (k : Int) + 1).toNat = 6 * k + 1 := by omega
  have e2 : (6 * (k : Int) + 2).toNat = 6 * k + 2 := by omega
  have e3 : (6 * (k : Int) + 3).toNat = 6 * k + 3 := by omega
  have e4 : (6 * (k : Int) + 4).toNat = 6 * k + 4 := by omega
  have e5 : (6 * (k : Int) + 5).toNat = 6 * k + 5 := by omega
  unfold ps
  rw [e0, e1, e2, e3, e4, e5]
  refine ⟨?_, ?_, ?_, ?_, ?_, ?_⟩
  · rw [va_up_ne _ _ (by omega), va_up_ne _ _ (by omega), va_up_ne _ _ (by omega), va_up_ne _ _ (by omega), va_up_ne _ _ (by omega), va_up_self]
  · rw [va_up_ne _ _ (by omega), va_up_ne _ _ (by omega), va_up_ne _ _ (by omega), va_up_ne _ _ (by omega), va_up_self]
  · rw [va_up_ne _ _ (by omega), va_up_ne _ _ (by omega), va_up_ne _ _ (by omega), va_up_self]
  · rw [va_up_ne _ _ (by omega), va_up_ne _ _ (by omega), va_up_self]
  · rw [va_up_ne _ _ (by omega), va_up_self]
  · rw [va_up_self]
theorem ps_pe {k : Nat} {x y w h d s : Int} {g : Nat → Int} (hok : okp x y w h) (hd : d = 0 ∨ d = 1) (hs : 0 ≤ s ∧ s ≤ 3) : pe_ok (ps (k : Int) x y w h d s g) k := by
  obtain ⟨a0, a1, a2, a3, a4, a5⟩ := ps_at (k := k) (x := x) (y := y) (w := w) (h := h) (d := d) (s := s) (g := g)
  unfold pe_ok
  rw [a0, a1, a2, a3, a4, a5]
  exact ⟨hok, hd, hs⟩
theorem ps_SA {k : Nat} {x y w h d s : Int} {g : Nat → Int} : SA (ps (k : Int) x y w h d s g) (k + 1) = SA g k + w * h := by
  obtain ⟨a0, a1, a2, a3, a4, a5⟩ := ps_at (k := k) (x := x) (y := y) (w := w) (h := h) (d := d) (s := s) (g := g)
  show SA (ps (k : Int) x y w h d s g) k + _ = _
  rw [a2, a3, SA_ext k (fun i hi => ps_lt hi)]
def STK (u : mw_T) : Prop := ∀ i : Nat, i < u.n → pe_ok u.wt i
theorem SA_ge {g : Nat → Int} : ∀ n : Nat, (∀ i : Nat, i < n → pe_ok g i) → (n : Int) ≤ SA g n
  | 0, _ => by unfold SA; omega
  | n + 1, h => by
    have ih := SA_ge n (fun i hi => h i (by omega))
    have h1 := (h n (by omega)).1
    unfold okp at h1
    have h2 := wh1 (w := g (6 * n + 2)) (h := g (6 * n + 3)) (by omega) (by omega)
    unfold SA
    omega
/-- stack, budget of nodes, of leaves, of area -/
def CNT (t : Int) (u : mw_T) : Prop := (0 ≤ u.nc t.toNat ∧ u.nc t.toNat + 2 * SA u.wt u.n - u.n ≤ 511) ∧ (0 ≤ u.tc t.toNat ∧ 0 ≤ u.rc t.toNat ∧ u.tc t.toNat + u.rc t.toNat + SA u.wt u.n ≤ 256) ∧ (0 ≤ u.ta t.toNat ∧ u.ta t.toNat + SA u.wt u.n ≤ 256) ∧ ∀ p : Nat, p < 8 → 0 ≤ u.st p ∧ u.st p ≤ 50
def MWI (t : Int) (u : mw_T) : Prop := STK u ∧ CNT t u
theorem mw_leaf {t c : Int} {k : Nat} {u : mw_T} (hn : u.n = k + 1) (h : MWI t u) : STK (mw_nd t c k u) ∧ SA u.wt u.n = SA u.wt k + u.wt (6 * k + 2) * u.wt (6 * k + 3) ∧ 1 ≤ u.wt (6 * k + 2) * u.wt (6 * k + 3) ∧ (k : Int) ≤ SA u.wt k := by
  have hp := h.1 k (by omega)
  have h1 := hp.1
  unfold okp at h1
  have h2 := wh1 (w := u.wt (6 * k + 2)) (h := u.wt (6 * k + 3)) (by omega) (by omega)
  refine ⟨fun i hi => h.1 i ?_, ?_, h2.1, SA_ge k (fun i hi => h.1 i (by omega))⟩
  · have : i < k := hi
    omega
  · rw [hn]
    rfl
theorem MWI_rest {le t x y w h : Int} {c : Int} {k : Nat} {u : mw_T} (hn : u.n = k + 1) (hu : MWI t u) : MWI t (mw_rest le t x y w h (mw_nd t c k u)) ∧ 2 * SA (mw_rest le t x y w h (mw_nd t c k u)).wt (mw_rest le t x y w h (mw_nd t c k u)).n - (mw_rest le t x y w h (mw_nd t c k u)).n < 2 * SA u.wt u.n - u.n := by
  obtain ⟨l1, l2, l3, l4⟩ := mw_leaf (c := c) hn hu
  obtain ⟨c1, c2, c3, c4⟩ := hu.2
  rw [l2, hn] at c1
  rw [l2] at c2 c3
  rw [l2, hn]
  unfold mw_rest
  split
  · refine ⟨⟨l1, ⟨?_, ?_⟩, ⟨?_, ?_, ?_⟩, ⟨?_, ?_⟩, c4⟩, ?_⟩
    · show 0 ≤ va_up u.nc t.toNat _ t.toNat
      rw [va_up_self]
      omega
    · show va_up u.nc t.toNat _ t.toNat + 2 * SA u.wt k - k ≤ 511
      rw [va_up_self]
      omega
    · exact c2.1
    · show 0 ≤ va_up u.rc t.toNat (u.rc t.toNat + 1) t.toNat
      rw [va_up_self]
      omega
    · show u.tc t.toNat + va_up u.rc t.toNat (u.rc t.toNat + 1) t.toNat + SA u.wt k ≤ 256
      rw [va_up_self]
      omega
    · exact c3.1
    · show u.ta t.toNat + SA u.wt k ≤ 256
      omega
    · show 2 * SA u.wt k - (k : Int) < _
      omega
  · refine ⟨⟨l1, ⟨?_, ?_⟩, ⟨c2.1, c2.2.1, ?_⟩, ⟨c3.1, ?_⟩, c4⟩, ?_⟩
    · show 0 ≤ va_up u.nc t.toNat _ t.toNat
      rw [va_up_self]
      omega
    · show va_up u.nc t.toNat _ t.toNat + 2 * SA u.wt k - k ≤ 511
      rw [va_up_self]
      omega
    · show u.tc t.toNat + u.rc t.toNat + SA u.wt k ≤ 256
      omega
    · show u.ta t.toNat + SA u.wt k ≤ 256
      omega
    · show 2 * SA u.wt k - (k : Int) < _
      omega
theorem MWI_take {t p x y w h : Int} {c : Int} {k : Nat} {u : mw_T} (hn : u.n = k + 1) (hu : MWI t u) (hp : 0 ≤ p ∧ p < 8) (ew : w = u.wt (6 * k + 2)) (eh : h = u.wt (6 * k + 3)) : MWI t (mw_take t p x y w h (mw_nd t c k u)) ∧ 2 * SA (mw_take t p x y w h (mw_nd t c k u)).wt (mw_take t p x y w h (mw_nd t c k u)).n - (mw_take t p x y w h (mw_nd t c k u)).n < 2 * SA u.wt u.n - u.n := by
  obtain ⟨l1, l2, l3, l4⟩ := mw_leaf (c := c) hn hu
  obtain ⟨c1, c2, c3, c4⟩ := hu.2
  rw [l2, hn] at c1
  rw [l2] at c2 c3
  rw [l2, hn]
  rw [← ew, ← eh] at *
  unfold mw_take
  split
  · rename_i hpos
    have hst : 0 < u.st p.toNat := hpos
    refine ⟨⟨l1, ⟨?_, ?_⟩, ⟨?_, ?_, ?_⟩, ⟨?_, ?_⟩, ?_⟩, ?_⟩
    · show 0 ≤ va_up u.nc t.toNat _ t.toNat
      rw [va_up_self]
      omega
    · show va_up u.nc t.toNat _ t.toNat + 2 * SA u.wt k - k ≤ 511
      rw [va_up_self]
      omega
    · show 0 ≤ va_up u.tc t.toNat _ t.toNat
      rw [va_up_self]
      have := c2.1
      show 0 ≤ u.tc t.toNat + 1
      omega
    · exact c2.2.1
    · show va_up u.tc t.toNat (u.tc t.toNat + 1) t.toNat + u.rc t.toNat + SA u.wt k ≤ 256
      rw [va_up_self]
      omega
    · show 0 ≤ va_up u.ta t.toNat (u.ta t.toNat + w * h) t.toNat
      rw [va_up_self]
      omega
    · show va_up u.ta t.toNat (u.ta t.toNat + w * h) t.toNat + SA u.wt k ≤ 256
      rw [va_up_self]
      omega
    · intro j hj
      show 0 ≤ va_up u.st p.toNat (u.st p.toNat - 1) j ∧ va_up u.st p.toNat (u.st p.toNat - 1) j ≤ 50
      have h1 := c4 p.toNat (by omega)
      by_cases e : j = p.toNat
      · rw [e, va_up_self]
        omega
      · rw [va_up_ne _ _ e]
        exact c4 j hj
    · show 2 * SA u.wt k - (k : Int) < _
      omega
  · refine ⟨⟨l1, ⟨?_, ?_⟩, ⟨c2.1, c2.2.1, ?_⟩, ⟨c3.1, ?_⟩, c4⟩, ?_⟩
    · show 0 ≤ va_up u.nc t.toNat _ t.toNat
      rw [va_up_self]
      omega
    · show va_up u.nc t.toNat _ t.toNat + 2 * SA u.wt k - k ≤ 511
      rw [va_up_self]
      omega
    · show u.tc t.toNat + u.rc t.toNat + SA u.wt k ≤ 256
      omega
    · show u.ta t.toNat + SA u.wt k ≤ 256
      omega
    · show 2 * SA u.wt k - (k : Int) < _
      omega
def mw_push (x y w h d s : Int) (u : mw_T) : mw_T := (u.n + 1, ps (u.n : Int) x y w h d s u.wt, u.cc, u.mi, u.tc, u.ta, u.rc, u.nc, u.no, u.tk, u.rs, u.st)
theorem STK_push {x y w h d s : Int} {u : mw_T} (hS : STK u) (hok : okp x y w h) (hd : d = 0 ∨ d = 1) (hs : 0 ≤ s ∧ s ≤ 3) : STK (mw_push x y w h d s u) := by
  intro i hi
  have hi2 : i < u.n + 1 := hi
  show pe_ok (ps (u.n : Int) x y w h d s u.wt) i
  by_cases e : i = u.n
  · rw [e]
    exact ps_pe hok hd hs
  · exact pe_ext (fun j hj => ps_lt (by omega)) (hS i (by omega))
theorem SA_push {x y w h d s : Int} {u : mw_T} : SA (mw_push x y w h d s u).wt (mw_push x y w h d s u).n = SA u.wt u.n + w * h := ps_SA
theorem MWI_push {t x y w h d s : Int} {u : mw_T} (hS : STK u) (hok : okp x y w h) (hd : d = 0 ∨ d = 1) (hs : 0 ≤ s ∧ s ≤ 3) (h1 : 0 ≤ u.nc t.toNat ∧ u.nc t.toNat + 2 * (SA u.wt u.n + w * h) - ((u.n : Int) + 1) ≤ 511) (h2 : 0 ≤ u.tc t.toNat ∧ 0 ≤ u.rc t.toNat ∧ u.tc t.toNat + u.rc t.toNat + (SA u.wt u.n + w * h) ≤ 256) (h3 : 0 ≤ u.ta t.toNat ∧ u.ta t.toNat + (SA u.wt u.n + w * h) ≤ 256) (h4 : ∀ p : Nat, p < 8 → 0 ≤ u.st p ∧ u.st p ≤ 50) : MWI t (mw_push x y w h d s u) := by
  refine ⟨STK_push hS hok hd hs, ?_, ?_, ?_, h4⟩
  · rw [SA_push]
    exact ⟨h1.1, by show u.nc t.toNat + 2 * (SA u.wt u.n + w * h) - ((u.n + 1 : Nat) : Int) ≤ 511; omega⟩
  · rw [SA_push]
    exact h2
  · rw [SA_push]
    exact h3
theorem MWI_cut {K t c cx x y w h d s : Int} {k : Nat} {u : mw_T} (hn : u.n = k + 1) (hu : MWI t u) (hok : okp x y w h) (hd : d = 0 ∨ d = 1) (hs : 1 ≤ s ∧ s ≤ 3) (hK : 0 ≤ K) (hc : 1 ≤ c ∧ c < (if d = 0 then w else h)) (ew : w = u.wt (6 * k + 2)) (eh : h = u.wt (6 * k + 3)) : MWI t (mw_cut K t c x y w h d s (mw_nd t cx k u)) ∧ 2 * SA (mw_cut K t c x y w h d s (mw_nd t cx k u)).wt (mw_cut K t c x y w h d s (mw_nd t cx k u)).n - (mw_cut K t c x y w h d s (mw_nd t cx k u)).n < 2 * SA u.wt u.n - u.n := by
  obtain ⟨l1, l2, l3, l4⟩ := mw_leaf (c := cx) hn hu
  obtain ⟨c1, c2, c3, c4⟩ := hu.2
  rw [l2, hn] at c1
  rw [l2] at c2 c3
  rw [l2, hn]
  rw [← ew, ← eh] at *
  have hok' := hok
  unfold okp at hok'
  have q0 : STK (mw_cnt t w h d (mw_nd t cx k u)) := l1
  have qn : (mw_cnt t w h d (mw_nd t cx k u)).n = k := rfl
  have qw : (mw_cnt t w h d (mw_nd t cx k u)).wt = u.wt := rfl
  have qc : (mw_cnt t w h d (mw_nd t cx k u)).nc t.toNat = u.nc t.toNat + 1 := by
    show va_up u.nc t.toNat _ t.toNat = _
    rw [va_up_self]
  have key : ∀ (w1 h1 d1 s1 x2 y2 w2 h2 : Int), okp x y w1 h1 → (d1 = 0 ∨ d1 = 1) → (0 ≤ s1 ∧ s1 ≤ 3) → (0 < mw_r K c w h d → okp x2 y2 w2 h2) → (0 < mw_r K c w h d → w1 * h1 + w2 * h2 ≤ w * h) → (¬ 0 < mw_r K c w h d → w1 * h1 ≤ w * h - 1) → (∀ v : mw_T, v = (if 0 < mw_r K c w h d then mw_push x2 y2 w2 h2 d s (mw_cnt t w h d (mw_nd t cx k u)) else mw_cnt t w h d (mw_nd t cx k u)) → MWI t (mw_push x y w1 h1 d1 s1 v) ∧ 2 * SA (mw_push x y w1 h1 d1 s1 v).wt (mw_push x y w1 h1 d1 s1 v).n - ((mw_push x y w1 h1 d1 s1 v).n : Int) < 2 * (SA u.wt k + w * h) - ((k + 1 : Nat) : Int)) := by
    intro w1 h1 d1 s1 x2 y2 w2 h2 o1 o2 o3 o4 o5 o6 v hv
    by_cases hr : 0 < mw_r K c w h d
    · rw [if_pos hr] at hv
      subst hv
      have e1 := SA_push (x := x2) (y := y2) (w := w2) (h := h2) (d := d) (s := s) (u := mw_cnt t w h d (mw_nd t cx k u))
      rw [qw, qn] at e1
      have e2 : (mw_push x2 y2 w2 h2 d s (mw_cnt t w h d (mw_nd t cx k u))).n = k + 1 := rfl
      have o5 := o5 hr
      have m1 := MWI_push (t := t) (u := mw_push x2 y2 w2 h2 d s (mw_cnt t w h d (mw_nd t cx k u))) (STK_push q0 (o4 hr) hd (by omega)) o1 o2 o3 (by rw [e1, e2]; show 0 ≤ (mw_cnt t w h d (mw_nd t cx k u)).nc t.toNat ∧ (mw_cnt t w h d (mw_nd t cx k u)).nc t.toNat + _ - _ ≤ _; rw [qc]; omega) (by rw [e1]; show 0 ≤ u.tc t.toNat ∧ 0 ≤ u.rc t.toNat ∧ u.tc t.toNat + u.rc t.toNat + _ ≤ 256; omega) (by rw [e1]; show 0 ≤ u.ta t.toNat ∧ u.ta t.toNat + _ ≤ 256; omega) c4
      refine ⟨m1, ?_⟩
      rw [SA_push, e1]
      show _ - ((k + 1 + 1 : Nat) : Int) < _
      omega
    · rw [if_neg hr] at hv
      subst hv
      have o6 := o6 hr
      have m1 := MWI_push (t := t) (u := mw_cnt t w h d (mw_nd t cx k u)) q0 o1 o2 o3 (by rw [qw, qn, qc]; omega) (by rw [qw, qn]; show 0 ≤ u.tc t.toNat ∧ 0 ≤ u.rc t.toNat ∧ u.tc t.toNat + u.rc t.toNat + _ ≤ 256; omega) (by rw [qw, qn]; show 0 ≤ u.ta t.toNat ∧ u.ta t.toNat + _ ≤ 256; omega) c4
      refine ⟨m1, ?_⟩
      rw [SA_push, qw, qn]
      show _ - ((k + 1 : Nat) : Int) < _
      omega
  refine key (if d = 0 then c else w) (if d = 0 then h else c) (1 - d) (s - 1) (if d = 0 then x + c + K else x) (if d = 0 then y else y + c + K) (if d = 0 then mw_r K c w h d else w) (if d = 0 then h else mw_r K c w h d) ?_ (by omega) (by omega) ?_ ?_ ?_ _ rfl
  · rcases hd with rfl | rfl
    · rw [if_pos rfl] at hc
      rw [if_pos rfl, if_pos rfl]
      unfold okp
      omega
    · rw [if_neg (by decide)] at hc
      rw [if_neg (by decide), if_neg (by decide)]
      unfold okp
      omega
  · intro hr
    unfold mw_r at hr ⊢
    rcases hd with rfl | rfl
    · simp only [if_pos] at hr hc ⊢
      unfold okp
      omega
    · rw [if_neg (by decide)] at hr hc
      rw [if_neg (by decide), if_neg (by decide), if_neg (by decide), if_neg (by decide), if_neg (by decide)]
      unfold okp
      omega
  · intro hr
    unfold mw_r at hr ⊢
    rcases hd with rfl | rfl
    · simp only [if_pos] at hr hc ⊢
      rw [← Int.add_mul]
      exact mono_le (by omega) (by omega)
    · rw [if_neg (by decide)] at hr hc
      rw [if_neg (by decide), if_neg (by decide), if_neg (by decide), if_neg (by decide), if_neg (by decide), ← Int.mul_add]
      exact Int.mul_le_mul_of_nonneg_left (by omega) (by omega)
  · intro hr
    rcases hd with rfl | rfl
    · simp only [if_pos] at hc ⊢
      have e1 : c * h ≤ (w - 1) * h := mono_le (by omega) (by omega)
      rw [Int.sub_mul] at e1
      omega
    · rw [if_neg (by decide)] at hc
      rw [if_neg (by decide), if_neg (by decide)]
      have e1 : w * c ≤ w * (h - 1) := Int.mul_le_mul_of_nonneg_left (by omega) (by omega)
      rw [Int.mul_sub] at e1
      omega
theorem MWI_step {ch : Nat → Int} {K le t : Int} {k : Nat} {u : mw_T} (hC : MCH ch) (hK : 0 ≤ K) (hn : u.n = k + 1) (hu : MWI t u) : MWI t (mw_step ch K le t k u) ∧ 2 * SA (mw_step ch K le t k u).wt (mw_step ch K le t k u).n - (mw_step ch K le t k u).n < 2 * SA u.wt u.n - u.n := by
  obtain ⟨p1, p2, p3⟩ := hu.1 k (by omega)
  have p1' := p1
  unfold okp at p1'
  have hc := hC (u.wt (6 * k + 5)) (u.wt (6 * k + 4)) (u.wt (6 * k + 2)) (u.wt (6 * k + 3)) p3.1 p3.2 (by omega) (by omega) (by omega) (by omega) (by omega) (by omega)
  unfold mw_step mw_do
  split
  · rename_i h16
    have hc2 := hc.resolve_left (by omega)
    exact MWI_cut hn hu p1 p2 (by omega) hK (by omega) rfl rfl
  · split
    · exact MWI_rest hn hu
    · exact MWI_take hn hu (by omega) rfl rfl

