/-! pure: trees; the class's layout and the reference's walk go through the same nodes -/
def CVc (C : Nat → Bool → Int → Int → Int) : Prop := ∀ (s : Nat) (d : Bool) (w h : Int), rg s w h → 0 ≤ C s d w h ∧ (8 < C s d w h → 1 ≤ s ∧ C s d w h - 8 < (if d = true then h else w))
theorem uo_ch (Fit : Nat → Int → Int → Bool) (w h : Int) : 0 ≤ (uo Fit w h).2 ∧ (uo Fit w h).2 ≤ 8 := by
  rcases uo_cases Fit w h with ⟨e, _⟩ | ⟨p, h1, _, _, e⟩
  · rw [e]
    exact ⟨by decide, by decide⟩
  · rw [e]
    exact ⟨by show 0 ≤ (p : Int); omega, by show (p : Int) ≤ 8; omega⟩
theorem idl_cv {Fit : Nat → Int → Int → Bool} {K : Int} (hK : 0 ≤ K) : CVc (fun s d w h => (idl (uo Fit) K s d w h).2) := by
  intro s d w h hr
  have hu := uo_ch Fit w h
  cases s with
  | zero => exact ⟨hu.1, fun q => absurd hu.2 (by have : 8 < (uo Fit w h).2 := q; omega)⟩
  | succ s =>
    dsimp only
    cases d with
    | false =>
      rw [idl_e0 hK hr.2.1.1]
      rcases fm_ch (a := fun c => (idl (uo Fit) K s true c h).1 + (idl (uo Fit) K (s + 1) false (max 0 (w - c - K)) h).1 - 1) (p0 := uo Fit w h) (w - 1).toNat with e | ⟨c, h1, h2, e⟩
      · rw [e]
        exact ⟨hu.1, fun q => by omega⟩
      · rw [e]
        exact ⟨by show 0 ≤ 8 + c; omega, fun _ => ⟨by omega, by show 8 + c - 8 < w; have := hr.2.1; omega⟩⟩
    | true =>
      rw [idl_e1 hK hr.2.2.1]
      rcases fm_ch (a := fun c => (idl (uo Fit) K s false w c).1 + (idl (uo Fit) K (s + 1) true w (max 0 (h - c - K))).1 - 1) (p0 := uo Fit w h) (h - 1).toNat with e | ⟨c, h1, h2, e⟩
      · rw [e]
        exact ⟨hu.1, fun q => by omega⟩
      · rw [e]
        exact ⟨by show 0 ≤ 8 + c; omega, fun _ => ⟨by omega, by show 8 + c - 8 < h; have := hr.2.2; omega⟩⟩
/-- a node: choice, x, y, width, height, way -/
abbrev nd_T : Type := Int × Int × Int × Int × Int × Bool
/-- the nodes of a piece, first pieces before second ones; C: the choices of this stage and way -/
def ns (C : Int → Int → Int) (K : Int) (rec : Int → Int → Int → Int → List nd_T) (d : Bool) : Nat → Int → Int → Int → Int → List nd_T
  | 0, _, _, _, _ => []
  | n + 1, x, y, w, h => if C w h ≤ 8 then [(C w h, x, y, w, h, d)] else (C w h, x, y, w, h, d) :: ((if d = true then rec x y w (C w h - 8) else rec x y (C w h - 8) h) ++ (if 0 < (if d = true then h else w) - (C w h - 8) - K then (if d = true then ns C K rec d n x (y + (C w h - 8) + K) w (h - (C w h - 8) - K) else ns C K rec d n (x + (C w h - 8) + K) y (w - (C w h - 8) - K) h) else []))
def nod (C : Nat → Bool → Int → Int → Int) (K : Int) : Nat → Bool → Int → Int → Int → Int → List nd_T
  | 0, d, x, y, w, h => ns (C 0 d) K (fun _ _ _ _ => []) d 16 x y w h
  | s + 1, d, x, y, w, h => ns (C (s + 1) d) K (nod C K s (!d)) d 16 x y w h
/-- the class at a node -/
def cstep (st : ly_T) (v : nd_T) : ly_T := if v.1 ≤ 8 then ly_add v.1 (pk_z v.1 v.2.1 v.2.2.1 v.2.2.2.1 v.2.2.2.2.1) st else ly_cut (if v.2.2.2.2.2 = true then v.2.2.2.1 else v.2.2.2.2.1) st
theorem lt0_stop {rec : Int → Int → Int → Int → ly_T → ly_T} {ch : Nat → Int} {K s x y w h fr : Int} {st : ly_T} (hf : ¬ fr < w) : ∀ n : Nat, lt0_go rec ch K s x y w h n fr st = st
  | 0 => rfl
  | n + 1 => by
    unfold lt0_go
    rw [if_neg hf]
theorem lt1_stop {rec : Int → Int → Int → Int → ly_T → ly_T} {ch : Nat → Int} {K s x y w h fr : Int} {st : ly_T} (hf : ¬ fr < h) : ∀ n : Nat, lt1_go rec ch K s x y w h n fr st = st
  | 0 => rfl
  | n + 1 => by
    unfold lt1_go
    rw [if_neg hf]
theorem lt0_ns {rec : Int → Int → Int → Int → ly_T → ly_T} {rl : Int → Int → Int → Int → List nd_T} {C : Int → Int → Int} {ch : Nat → Int} {K s x y w h : Int} (hK : 0 ≤ K) (hw : 1 ≤ w ∧ w ≤ 16) (hh : 1 ≤ h ∧ h ≤ 16) (hc : ∀ w : Int, 1 ≤ w → w ≤ 16 → rd_choiceAt ch (pl_at s 0 w h) = C w h ∧ (8 < C w h → 1 ≤ s ∧ C w h - 8 < w)) (hr : 1 ≤ s → ∀ (x y w : Int) (st : ly_T), 1 ≤ w → w ≤ 16 → rec x y w h st = List.foldl cstep st (rl x y w h)) : ∀ (n : Nat) (fr : Int) (st : ly_T), 0 ≤ fr → fr < w → lt0_go rec ch K s x y w h n fr st = List.foldl cstep st (ns C K rl false n (x + fr) y (w - fr) h)
  | 0, fr, st, _, _ => rfl
  | n + 1, fr, st, h0, h1 => by
    obtain ⟨e1, e2⟩ := hc (w - fr) (by omega) (by omega)
    unfold lt0_go ns
    rw [if_pos h1, e1]
    by_cases h8 : C (w - fr) h ≤ 8
    · rw [if_pos (Or.inl h8), if_pos h8]
      show _ = cstep st _
      unfold cstep
      rw [if_pos h8]
    · obtain ⟨s1, s2⟩ := e2 (by omega)
      rw [if_neg (by omega), if_neg h8]
      simp only [Bool.false_eq_true, if_false]
      rw [List.foldl_cons, List.foldl_append]
      have e3 : cstep st (C (w - fr) h, x + fr, y, w - fr, h, false) = ly_cut h st := by
        unfold cstep
        rw [if_neg h8]
        rfl
      rw [e3, ← hr s1 (x + fr) y (C (w - fr) h - 8) (ly_cut h st) (by omega) (by omega)]
      by_cases hz : 0 < w - fr - (C (w - fr) h - 8) - K
      · rw [if_pos hz, lt0_ns hK hw hh hc hr n _ _ (by omega) (by omega)]
        have a1 : x + (fr + (C (w - fr) h - 8 + K)) = x + fr + (C (w - fr) h - 8) + K := by omega
        have a2 : w - (fr + (C (w - fr) h - 8 + K)) = w - fr - (C (w - fr) h - 8) - K := by omega
        rw [a1, a2]
      · rw [if_neg hz, lt0_stop (by omega)]
        rfl
theorem lt1_ns {rec : Int → Int → Int → Int → ly_T → ly_T} {rl : Int → Int → Int → Int → List nd_T} {C : Int → Int → Int} {ch : Nat → Int} {K s x y w h : Int} (hK : 0 ≤ K) (hw : 1 ≤ w ∧ w ≤ 16) (hh : 1 ≤ h ∧ h ≤ 16) (hc : ∀ h : Int, 1 ≤ h → h ≤ 16 → rd_choiceAt ch (pl_at s 1 w h) = C w h ∧ (8 < C w h → 1 ≤ s ∧ C w h - 8 < h)) (hr : 1 ≤ s → ∀ (x y h : Int) (st : ly_T), 1 ≤ h → h ≤ 16 → rec x y w h st = List.foldl cstep st (rl x y w h)) : ∀ (n : Nat) (fr : Int) (st : ly_T), 0 ≤ fr → fr < h → lt1_go rec ch K s x y w h n fr st = List.foldl cstep st (ns C K rl true n x (y + fr) w (h - fr))
  | 0, fr, st, _, _ => rfl
  | n + 1, fr, st, h0, h1 => by
    obtain ⟨e1, e2⟩ := hc (h - fr) (by omega) (by omega)
    unfold lt1_go ns
    rw [if_pos h1, e1]
    by_cases h8 : C w (h - fr) ≤ 8
    · rw [if_pos (Or.inl h8), if_pos h8]
      show _ = cstep st _
      unfold cstep
      rw [if_pos h8]
    · obtain ⟨s1, s2⟩ := e2 (by omega)
      rw [if_neg (by omega), if_neg h8]
      simp only [if_true]
      rw [List.foldl_cons, List.foldl_append]
      have e3 : cstep st (C w (h - fr), x, y + fr, w, h - fr, true) = ly_cut w st := by
        unfold cstep
        rw [if_neg h8]
        rfl
      rw [e3, ← hr s1 x (y + fr) (C w (h - fr) - 8) (ly_cut w st) (by omega) (by omega)]
      by_cases hz : 0 < h - fr - (C w (h - fr) - 8) - K
      · rw [if_pos hz, lt1_ns hK hw hh hc hr n _ _ (by omega) (by omega)]
        have a1 : y + (fr + (C w (h - fr) - 8 + K)) = y + fr + (C w (h - fr) - 8) + K := by omega
        have a2 : h - (fr + (C w (h - fr) - 8 + K)) = h - fr - (C w (h - fr) - 8) - K := by omega
        rw [a1, a2]
      · rw [if_neg hz, lt1_stop (by omega)]
        rfl
theorem lt_nod {C : Nat → Bool → Int → Int → Int} {ch : Nat → Int} {K : Int} (hK : 0 ≤ K) (hV : CVc C) : ∀ (s : Nat) (d : Bool) (x y w h : Int) (st : ly_T), (∀ (s' : Nat) (d : Bool) (w h : Int), s' ≤ s → rg s' w h → ch (pl_at s' (bz d) w h).toNat = C s' d w h) → rg s w h → lt ch K s d x y w h st = List.foldl cstep st (nod C K s d x y w h)
  | 0, false, x, y, w, h, st, hc, hr => by
    have := lt0_ns (rec := fun _ _ _ _ st => st) (rl := fun _ _ _ _ => []) (C := C 0 false) (ch := ch) (s := 0) (x := x) (y := y) hK hr.2.1 hr.2.2 (fun w' a1 a2 => ⟨by rw [rd_plc (by omega) (by omega) (by omega) (by have := hr.2.2; omega)]; exact hc 0 false w' h (by omega) ⟨by omega, ⟨a1, a2⟩, hr.2.2⟩, fun q => by have := (hV 0 false w' h ⟨by omega, ⟨a1, a2⟩, hr.2.2⟩).2 q; omega⟩) (fun q => by omega) 16 0 st (by omega) (by have := hr.2.1; omega)
    rw [Int.add_zero, Int.sub_zero] at this
    exact this
  | 0, true, x, y, w, h, st, hc, hr => by
    have := lt1_ns (rec := fun _ _ _ _ st => st) (rl := fun _ _ _ _ => []) (C := C 0 true) (ch := ch) (s := 0) (x := x) (y := y) hK hr.2.1 hr.2.2 (fun h' a1 a2 => ⟨by rw [rd_plc (by omega) (by omega) (by have := hr.2.1; omega) (by omega)]; exact hc 0 true w h' (by omega) ⟨by omega, hr.2.1, ⟨a1, a2⟩⟩, fun q => by have := (hV 0 true w h' ⟨by omega, hr.2.1, ⟨a1, a2⟩⟩).2 q; omega⟩) (fun q => by omega) 16 0 st (by omega) (by have := hr.2.2; omega)
    rw [Int.add_zero, Int.sub_zero] at this
    exact this
  | s + 1, false, x, y, w, h, st, hc, hr => by
    have h3 := hr.1
    have es : ((s + 1 : Nat) : Int) = (s : Int) + 1 := by omega
    have := lt0_ns (rec := lt ch K s true) (rl := nod C K s true) (C := C (s + 1) false) (ch := ch) (s := (s : Int) + 1) (x := x) (y := y) hK hr.2.1 hr.2.2 (fun w' a1 a2 => ⟨by rw [rd_plc (by omega) (by omega) (by omega) (by have := hr.2.2; omega), ← es]; exact hc (s + 1) false w' h (by omega) ⟨h3, ⟨a1, a2⟩, hr.2.2⟩, fun q => by have := (hV (s + 1) false w' h ⟨h3, ⟨a1, a2⟩, hr.2.2⟩).2 q; exact ⟨by omega, this.2⟩⟩) (fun _ x' y' w' st' a1 a2 => lt_nod hK hV s true x' y' w' h st' (fun s' d' w'' h'' b1 b2 => hc s' d' w'' h'' (by omega) b2) ⟨by omega, ⟨a1, a2⟩, hr.2.2⟩) 16 0 st (by omega) (by have := hr.2.1; omega)
    rw [Int.add_zero, Int.sub_zero] at this
    exact this
  | s + 1, true, x, y, w, h, st, hc, hr => by
    have h3 := hr.1
    have es : ((s + 1 : Nat) : Int) = (s : Int) + 1 := by omega
    have := lt1_ns (rec := lt ch K s false) (rl := nod C K s false) (C := C (s + 1) true) (ch := ch) (s := (s : Int) + 1) (x := x) (y := y) hK hr.2.1 hr.2.2 (fun h' a1 a2 => ⟨by rw [rd_plc (by omega) (by omega) (by have := hr.2.1; omega) (by omega), ← es]; exact hc (s + 1) true w h' (by omega) ⟨h3, hr.2.1, ⟨a1, a2⟩⟩, fun q => by have := (hV (s + 1) true w h' ⟨h3, hr.2.1, ⟨a1, a2⟩⟩).2 q; exact ⟨by omega, this.2⟩⟩) (fun _ x' y' h' st' a1 a2 => lt_nod hK hV s false x' y' w h' st' (fun s' d' w'' h'' b1 b2 => hc s' d' w'' h'' (by omega) b2) ⟨by omega, hr.2.1, ⟨a1, a2⟩⟩) 16 0 st (by omega) (by have := hr.2.2; omega)
    rw [Int.add_zero, Int.sub_zero] at this
    exact this
/-! the walk -/
abbrev mv_T : Type := (Nat → Int) × (Nat → Int) × (Nat → Int) × (Nat → Int) × (Nat → Int) × (Nat → Int) × (Nat → Int) × (Nat → Int) × (Nat → Int) × (Nat → Int)
def dec (c : Int) : Int := if c = 8 then -1 else if c < 8 then c else c + 8
abbrev mk0 (v : mv_T) : mw_T := (0, (fun _ => 0), v)
/-- the reference at a node -/
def rst (le t : Int) (v : mv_T) (q : nd_T) : mv_T := (if 8 < q.1 then mw_cnt t q.2.2.2.1 q.2.2.2.2.1 (bz q.2.2.2.2.2) (mw_nd t (dec q.1) 0 (mk0 v)) else if q.1 = 8 then mw_rest le t q.2.1 q.2.2.1 q.2.2.2.1 q.2.2.2.2.1 (mw_nd t (dec q.1) 0 (mk0 v)) else mw_take t (dec q.1) q.2.1 q.2.2.1 q.2.2.2.1 q.2.2.2.2.1 (mw_nd t (dec q.1) 0 (mk0 v))).2.2
theorem mr_at {le t x y w h : Int} {k : Nat} {g : Nat → Int} {v : mv_T} : mw_rest le t x y w h (k, g, v) = (k, g, (mw_rest le t x y w h (mk0 v)).2.2) := by
  unfold mw_rest
  split <;> rfl
theorem mt_at {t c x y w h : Int} {k : Nat} {g : Nat → Int} {v : mv_T} : mw_take t c x y w h (k, g, v) = (k, g, (mw_take t c x y w h (mk0 v)).2.2) := by
  unfold mw_take
  by_cases e : 0 < mw_T.st (k, g, v) c.toNat
  · have e2 : 0 < mw_T.st (mk0 v) c.toNat := e
    rw [if_pos e, if_pos e2]
  · have e2 : ¬ 0 < mw_T.st (mk0 v) c.toNat := e
    rw [if_neg e, if_neg e2]
/-- what stands on the stack at k -/
def top (g : Nat → Int) (k : Nat) (x y w h : Int) (d : Bool) (s : Nat) : Prop := g (6 * k) = x ∧ g (6 * k + 1) = y ∧ g (6 * k + 2) = w ∧ g (6 * k + 3) = h ∧ g (6 * k + 4) = bz d ∧ g (6 * k + 5) = (s : Int)
def TOP (ch : Nat → Int) (K le t : Int) (s : Nat) (d : Bool) (x y w h : Int) (l : List nd_T) : Prop := ∀ (k : Nat) (g : Nat → Int) (v : mv_T), top g k x y w h d s → ∃ g' : Nat → Int, (∀ i : Nat, i < 6 * k → g' i = g i) ∧ ∀ f : Nat, mw_go ch K le t (l.length + f) (k + 1, g, v) = mw_go ch K le t f (k, g', List.foldl (rst le t) v l)
theorem ns_top {ch : Nat → Int} {C : Nat → Bool → Int → Int → Int} {K le t : Int} {s : Nat} {d : Bool} {rl : Int → Int → Int → Int → List nd_T} (hK : 0 ≤ K) (hV : CVc C) (hs : s ≤ 3) (hc : ∀ w h : Int, rg s w h → ch (mp s (bz d) w h).toNat = dec (C s d w h)) (hrec : ∀ s' : Nat, s = s' + 1 → ∀ x y w h : Int, rg s' w h → TOP ch K le t s' (!d) x y w h (rl x y w h)) : ∀ (n : Nat) (x y w h : Int), rg s w h → (if d = true then h else w) ≤ (n : Int) → TOP ch K le t s d x y w h (ns (C s d) K rl d n x y w h)
  | 0, x, y, w, h, hr, hn => by
    have h1 := hr.2.1
    have h2 := hr.2.2
    exfalso
    cases d with
    | false =>
      have : w ≤ 0 := hn
      omega
    | true =>
      have : h ≤ 0 := hn
      omega
  | n + 1, x, y, w, h, hr, hn => by
    intro k g v ht
    obtain ⟨t0, t1, t2, t3, t4, t5⟩ := ht
    have hcv := hV s d w h hr
    have hcc := hc w h hr
    have step : ∀ f : Nat, mw_go ch K le t (f + 1) (k + 1, g, v) = mw_go ch K le t f (mw_do K le t (dec (C s d w h)) x y w h (bz d) (s : Int) k (k + 1, g, v)) := by
      intro f
      show mw_go ch K le t f (mw_step ch K le t k (k + 1, g, v)) = _
      unfold mw_step
      show mw_go ch K le t f (mw_do K le t (ch (mp (g (6 * k + 5)) (g (6 * k + 4)) (g (6 * k + 2)) (g (6 * k + 3))).toNat) (g (6 * k)) (g (6 * k + 1)) (g (6 * k + 2)) (g (6 * k + 3)) (g (6 * k + 4)) (g (6 * k + 5)) k (k + 1, g, v)) = _
      rw [t0, t1, t2, t3, t4, t5, hcc]
    unfold ns
    by_cases h8 : C s d w h ≤ 8
    · rw [if_pos h8]
      refine ⟨g, fun _ _ => rfl, fun f => ?_⟩
      show mw_go ch K le t (1 + f) (k + 1, g, v) = mw_go ch K le t f (k, g, rst le t v (C s d w h, x, y, w, h, d))
      rw [Nat.add_comm, step]
      congr 1
      unfold mw_do rst
      dsimp only
      have hd16 : ¬ 16 < dec (C s d w h) := by unfold dec; split <;> (try split) <;> omega
      rw [if_neg hd16, if_neg (show ¬ 8 < C s d w h by omega)]
      by_cases e8 : C s d w h = 8
      · have e1 : dec (C s d w h) = -1 := by unfold dec; rw [if_pos e8]
        rw [if_pos e1, if_pos e8]
        exact mr_at
      · have e1 : ¬ dec (C s d w h) = -1 := by unfold dec; rw [if_neg e8]; split <;> omega
        rw [if_neg e1, if_neg e8]
        exact mt_at
    · rw [if_neg h8]
      obtain ⟨s1, s2⟩ := hcv.2 (by omega)
      obtain ⟨s', rfl⟩ : ∃ s' : Nat, s = s' + 1 := ⟨s - 1, by omega⟩
      have hw := hr.2.1
      have hh := hr.2.2
      have e1 : dec (C (s' + 1) d w h) = C (s' + 1) d w h + 8 := by unfold dec; rw [if_neg (by omega), if_neg (by omega)]
      have e2 : dec (C (s' + 1) d w h) - 16 = C (s' + 1) d w h - 8 := by omega
      have hd16 : 16 < dec (C (s' + 1) d w h) := by omega
      have es : ((s' + 1 : Nat) : Int) - 1 = (s' : Int) := by omega
      have eb : 1 - bz d = bz (!d) := by cases d <;> rfl
      have hv1 : ∀ (k0 : Nat) (g0 : Nat → Int), (mw_cnt t w h (bz d) (mw_nd t (dec (C (s' + 1) d w h)) k0 (k + 1, g, v))).2.2 = rst le t v (C (s' + 1) d w h, x, y, w, h, d) := by
        intro k0 g0
        unfold rst
        dsimp only
        rw [if_pos (show 8 < C (s' + 1) d w h by omega)]
        rfl
      generalize hc0 : C (s' + 1) d w h = c at *
      -- the first piece
      have hr1 : rg s' (if d = true then w else c - 8) (if d = true then c - 8 else h) := by
        cases d with
        | false => exact ⟨by omega, ⟨by show 1 ≤ c - 8; omega, by have : c - 8 < w := s2; show c - 8 ≤ 16; omega⟩, hh⟩
        | true => exact ⟨by omega, hw, ⟨by show 1 ≤ c - 8; omega, by have : c - 8 < h := s2; show c - 8 ≤ 16; omega⟩⟩
      have hT1 := hrec s' rfl x y _ _ hr1
      have er : (if d = true then rl x y w (c - 8) else rl x y (c - 8) h) = rl x y (if d = true then w else c - 8) (if d = true then c - 8 else h) := by cases d <;> rfl
      rw [er]
      have eo : ∀ u : mw_T, mw_one (c - 8) x y w h (bz d) ((s' + 1 : Nat) : Int) u = (u.n + 1, ps (u.n : Int) x y (if d = true then w else c - 8) (if d = true then c - 8 else h) (bz (!d)) (s' : Int) u.wt, u.2.2) := by
        intro u
        unfold mw_one
        rw [eb, es]
        cases d <;> rfl
      have ert : mw_r K (c - 8) w h (bz d) = (if d = true then h else w) - (c - 8) - K := by cases d <;> rfl
      by_cases hz : 0 < (if d = true then h else w) - (c - 8) - K
      · rw [if_pos hz]
        have hr2 : rg (s' + 1) (if d = true then w else w - (c - 8) - K) (if d = true then h - (c - 8) - K else h) := by
          cases d with
          | false => exact ⟨hs, ⟨by have : 0 < w - (c - 8) - K := hz; show 1 ≤ w - (c - 8) - K; omega, by show w - (c - 8) - K ≤ 16; omega⟩, hh⟩
          | true => exact ⟨hs, hw, ⟨by have : 0 < h - (c - 8) - K := hz; show 1 ≤ h - (c - 8) - K; omega, by show h - (c - 8) - K ≤ 16; omega⟩⟩
        have hT2 := ns_top hK hV hs hc hrec n (if d = true then x else x + (c - 8) + K) (if d = true then y + (c - 8) + K else y) _ _ hr2 (by
          cases d with
          | false => show w - (c - 8) - K ≤ (n : Int); have : w ≤ ((n + 1 : Nat) : Int) := hn; omega
          | true => show h - (c - 8) - K ≤ (n : Int); have : h ≤ ((n + 1 : Nat) : Int) := hn; omega)
        have er2 : (if d = true then ns (C (s' + 1) d) K rl d n x (y + (c - 8) + K) w (h - (c - 8) - K) else ns (C (s' + 1) d) K rl d n (x + (c - 8) + K) y (w - (c - 8) - K) h) = ns (C (s' + 1) d) K rl d n (if d = true then x else x + (c - 8) + K) (if d = true then y + (c - 8) + K else y) (if d = true then w else w - (c - 8) - K) (if d = true then h - (c - 8) - K else h) := by cases d <;> rfl
        rw [er2]
        generalize hl1 : rl x y (if d = true then w else c - 8) (if d = true then c - 8 else h) = l1 at *
        generalize hl2 : ns (C (s' + 1) d) K rl d n (if d = true then x else x + (c - 8) + K) (if d = true then y + (c - 8) + K else y) (if d = true then w else w - (c - 8) - K) (if d = true then h - (c - 8) - K else h) = l2 at *
        have ec : mw_do K le t (dec c) x y w h (bz d) ((s' + 1 : Nat) : Int) k (k + 1, g, v) = (k + 2, ps ((k + 1 : Nat) : Int) x y (if d = true then w else c - 8) (if d = true then c - 8 else h) (bz (!d)) (s' : Int) (ps (k : Int) (if d = true then x else x + (c - 8) + K) (if d = true then y + (c - 8) + K else y) (if d = true then w else w - (c - 8) - K) (if d = true then h - (c - 8) - K else h) (bz d) ((s' + 1 : Nat) : Int) g), rst le t v (c, x, y, w, h, d)) := by
          unfold mw_do
          rw [if_pos hd16, e2]
          unfold mw_cut
          rw [eo]
          unfold mw_two
          rw [if_pos (by rw [ert]; exact hz), ert, ← hv1 k g]
          cases d <;> rfl
        have a0 := ps_at (k := k + 1) (x := x) (y := y) (w := if d = true then w else c - 8) (h := if d = true then c - 8 else h) (d := bz (!d)) (s := (s' : Int)) (g := ps (k : Int) (if d = true then x else x + (c - 8) + K) (if d = true then y + (c - 8) + K else y) (if d = true then w else w - (c - 8) - K) (if d = true then h - (c - 8) - K else h) (bz d) ((s' + 1 : Nat) : Int) g)
        obtain ⟨g1, b1, b2⟩ := hT1 (k + 1) _ (rst le t v (c, x, y, w, h, d)) a0
        have a1 := ps_at (k := k) (x := if d = true then x else x + (c - 8) + K) (y := if d = true then y + (c - 8) + K else y) (w := if d = true then w else w - (c - 8) - K) (h := if d = true then h - (c - 8) - K else h) (d := bz d) (s := ((s' + 1 : Nat) : Int)) (g := g)
        have b3 : ∀ i : Nat, i < 6 * (k + 1) → g1 i = ps (k : Int) (if d = true then x else x + (c - 8) + K) (if d = true then y + (c - 8) + K else y) (if d = true then w else w - (c - 8) - K) (if d = true then h - (c - 8) - K else h) (bz d) ((s' + 1 : Nat) : Int) g i := fun i hi => (b1 i hi).trans (ps_lt hi)
        have a2 : top g1 k (if d = true then x else x + (c - 8) + K) (if d = true then y + (c - 8) + K else y) (if d = true then w else w - (c - 8) - K) (if d = true then h - (c - 8) - K else h) d (s' + 1) := by
          unfold top
          rw [b3 _ (by omega), b3 _ (by omega), b3 _ (by omega), b3 _ (by omega), b3 _ (by omega), b3 _ (by omega)]
          exact a1
        obtain ⟨g2, c1, c2⟩ := hT2 k g1 (List.foldl (rst le t) (rst le t v (c, x, y, w, h, d)) l1) a2
        refine ⟨g2, fun i hi => ?_, fun f => ?_⟩
        · rw [c1 i hi, b3 i (by omega), ps_lt hi]
        · have el : ((c, x, y, w, h, d) :: (l1 ++ l2)).length + f = (l1.length + (l2.length + f)) + 1 := by
            rw [List.length_cons, List.length_append]
            omega
          rw [el, step, ec]
          have := b2 (l2.length + f)
          rw [show k + 2 = k + 1 + 1 from rfl, this, c2 f, List.foldl_cons, List.foldl_append]
      · rw [if_neg hz, List.append_nil]
        generalize hl1 : rl x y (if d = true then w else c - 8) (if d = true then c - 8 else h) = l1 at *
        have ec : mw_do K le t (dec c) x y w h (bz d) ((s' + 1 : Nat) : Int) k (k + 1, g, v) = (k + 1, ps (k : Int) x y (if d = true then w else c - 8) (if d = true then c - 8 else h) (bz (!d)) (s' : Int) g, rst le t v (c, x, y, w, h, d)) := by
          unfold mw_do
          rw [if_pos hd16, e2]
          unfold mw_cut
          rw [eo]
          unfold mw_two
          rw [if_neg (by rw [ert]; exact hz), ← hv1 k g]
          rfl
        have a0 := ps_at (k := k) (x := x) (y := y) (w := if d = true then w else c - 8) (h := if d = true then c - 8 else h) (d := bz (!d)) (s := (s' : Int)) (g := g)
        obtain ⟨g1, b1, b2⟩ := hT1 k _ (rst le t v (c, x, y, w, h, d)) a0
        refine ⟨g1, fun i hi => ?_, fun f => ?_⟩
        · rw [b1 i hi, ps_lt (by omega)]
        · have el : ((c, x, y, w, h, d) :: l1).length + f = (l1.length + f) + 1 := by
            rw [List.length_cons]
            omega
          rw [el, step, ec, b2 f, List.foldl_cons]
theorem nod_top {ch : Nat → Int} {C : Nat → Bool → Int → Int → Int} {K le t : Int} (hK : 0 ≤ K) (hV : CVc C) (hc : ∀ (s : Nat) (d : Bool) (w h : Int), rg s w h → ch (mp s (bz d) w h).toNat = dec (C s d w h)) : ∀ (s : Nat) (d : Bool) (x y w h : Int), rg s w h → TOP ch K le t s d x y w h (nod C K s d x y w h)
  | 0, d, x, y, w, h, hr => ns_top hK hV hr.1 (fun w h hr => hc 0 d w h hr) (fun s' e => by omega) 16 x y w h hr (by have := hr.2.1; have := hr.2.2; cases d <;> (simp; omega))
  | s + 1, d, x, y, w, h, hr => ns_top hK hV hr.1 (fun w h hr => hc (s + 1) d w h hr) (fun s' e x y w h hq => by
      have e2 : s' = s := by omega
      rw [e2] at hq ⊢
      exact nod_top hK hV hc s (!d) x y w h hq) 16 x y w h hr (by have := hr.2.1; have := hr.2.2; cases d <;> (simp; omega))
