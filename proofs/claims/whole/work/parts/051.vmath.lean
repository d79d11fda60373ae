/-! Math.max, Math.min of ints -/
def lk_max (own : String) (idx : Nat) : Prop := Cond.methodLink own idx Lib.Math.max.name ∈ tb_l ∧ Cond.static Lib.Math.max.name ∈ tb_l ∧ Cond.initialized "java/lang/Math" ∈ tb_l ∧ Cond.code Lib.Math.max.name Lib.Math.max.code 2 (some .int) ∈ tb_l
def lk_min (own : String) (idx : Nat) : Prop := Cond.methodLink own idx Lib.Math.min.name ∈ tb_l ∧ Cond.static Lib.Math.min.name ∈ tb_l ∧ Cond.initialized "java/lang/Math" ∈ tb_l ∧ Cond.code Lib.Math.min.name Lib.Math.min.code 2 (some .int) ∈ tb_l
section VM
variable {X : cx_T} {M : ms_T} {Q : State → Prop} {k n : Nat} {tys : List (ClassId × FieldType)} {ws pl : va_W} {lv : List (Option Value)} {st : List Value} {pc idx : Nat}
theorem vv_mmax {a b : Int} (hd : decode M.1 pc = .ok (.invokestatic idx, 3)) (hL : lk_max M.2.2.1 idx) (h : (-2147483648 ≤ a ∧ a < 2147483648) ∧ -2147483648 ≤ b ∧ b < 2147483648) (hR : 1 ≤ M.2.2.2.frames ∧ (st.map fun v => v.category).sum + 13 ≤ M.2.2.2.locals ∧ k ≤ M.2.2.2.cells ∧ n ≤ M.2.2.2.slots) (kk : VV X M Q k n tys ws pl lv (.int (iI (max a b)) :: st) (pc + 3)) : VV X M Q k n tys ws pl lv (.int (iI b) :: .int (iI a) :: st) pc := fun C H locs ls hK hP hD hS hl => by
  have hts : ∀ w ∈ tb_l, w.before (cx_a X) (cx_s X) = true := fun w hw => C.2.2.2.2.1 w hw _
  refine va_mmax C.1 C.2.1 (by rw [C.2.2.1, hl.1]) C.2.2.2.1 (hts _ hL.1) (hts _ hL.2.1) (hts _ hL.2.2.1) (hts _ hL.2.2.2) hR.1 hR.2.1 hR.2.2.1 hR.2.2.2 hd ?_
  have e1 : (if iI a < iI b then iI b else iI a) = iI (max a b) := by
    by_cases hab : a < b
    · rw [if_pos ((iI_lt h.1.1 h.1.2 h.2.1 h.2.2).mpr hab), Int.max_eq_right (by omega)]
    · rw [if_neg (fun q => hab ((iI_lt h.1.1 h.1.2 h.2.1 h.2.2).mp q)), Int.max_eq_left (by omega)]
  rw [e1]
  exact kk C H locs ls hK hP hD hS hl
theorem vv_mmin {a b : Int} (hd : decode M.1 pc = .ok (.invokestatic idx, 3)) (hL : lk_min M.2.2.1 idx) (h : (-2147483648 ≤ a ∧ a < 2147483648) ∧ -2147483648 ≤ b ∧ b < 2147483648) (hR : 1 ≤ M.2.2.2.frames ∧ (st.map fun v => v.category).sum + 13 ≤ M.2.2.2.locals ∧ k ≤ M.2.2.2.cells ∧ n ≤ M.2.2.2.slots) (kk : VV X M Q k n tys ws pl lv (.int (iI (min a b)) :: st) (pc + 3)) : VV X M Q k n tys ws pl lv (.int (iI b) :: .int (iI a) :: st) pc := fun C H locs ls hK hP hD hS hl => by
  have hts : ∀ w ∈ tb_l, w.before (cx_a X) (cx_s X) = true := fun w hw => C.2.2.2.2.1 w hw _
  refine va_mmin C.1 C.2.1 (by rw [C.2.2.1, hl.1]) C.2.2.2.1 (hts _ hL.1) (hts _ hL.2.1) (hts _ hL.2.2.1) (hts _ hL.2.2.2) hR.1 hR.2.1 hR.2.2.1 hR.2.2.2 hd ?_
  have e1 : (if iI b < iI a then iI b else iI a) = iI (min a b) := by
    by_cases hab : b < a
    · rw [if_pos ((iI_lt h.2.1 h.2.2 h.1.1 h.1.2).mpr hab), Int.min_eq_right (by omega)]
    · rw [if_neg (fun q => hab ((iI_lt h.2.1 h.2.2 h.1.1 h.1.2).mp q)), Int.min_eq_left (by omega)]
  rw [e1]
  exact kk C H locs ls hK hP hD hS hl
/-- another name of the same picture -/
theorem vv_cast {ws' pl' : va_W} {lv' : List (Option Value)} {st' : List Value} (h1 : ws = ws') (h2 : pl = pl') (h3 : lv = lv') (h4 : st = st') (kk : VV X M Q k n tys ws' pl' lv' st' pc) : VV X M Q k n tys ws pl lv st pc := by
  subst h1; subst h2; subst h3; subst h4
  exact kk
/-- pooled objects -/
theorem vv_getP {L : List Nat} {f : Nat → va_E} {ci a j : Nat} {fs : List Value} {v : Value} (hd : decode M.1 pc = .ok (.getfield idx, 3)) (hm : a ∈ L) (he : f a = .inr (ci, fs)) (hf : fl_ok M.2.2.1 idx ci j) (hv : fs[j]? = some v) (kk : VV X M Q k n tys ws (va_pl L f) lv (v :: st) (pc + 3)) : VV X M Q k n tys ws (va_pl L f) lv (.ref a :: st) pc := fun C H locs ls hK hP hD hS hl => by
  obtain ⟨Cn, T, N, h1, h2, h3, h4, h5⟩ := hf
  have hts : ∀ w ∈ tb_l, w.before (cx_a X) (cx_s X) = true := fun w hw => C.2.2.2.2.1 w hw _
  obtain ⟨q0, hq⟩ := va_pl_get (X := ws) (f := f) hm
  rw [he] at hq
  rcases h4 with h4 | ⟨host, h4⟩
  · exact va_get C.1 C.2.1 hts h3 C.2.2.2.1 hK hP q0 hq h1 j h2 (hts _ h4) (fun x hx => by rw [h5] at hx; exact hx) hv hd (kk C H locs ls hK hP hD hS hl)
  · exact va_getN C.1 C.2.1 hts h3 C.2.2.2.1 hK hP q0 hq h1 j h2 (hts _ h4) (fun x hx => by rw [h5] at hx; exact hx) hv hd (kk C H locs ls hK hP hD hS hl)
theorem vv_putP (hw : cx_w X) {L : List Nat} {f : Nat → va_E} {ci a j : Nat} {fs : List Value} {v : Value} {ty : FieldType} (hd : decode M.1 pc = .ok (.putfield idx, 3)) (hm : a ∈ L) (he : f a = .inr (ci, fs)) (hf : fp_ok M.2.2.1 idx ci j ty) (hn : narrow ty v = v) (hfit : fits ty v = true) (hj : j < fs.length) (kk : VV X M Q k n tys ws (va_pl L (va_up f a (.inr (ci, fs.set j v)))) lv st (pc + 3)) : VV X M Q k n tys ws (va_pl L f) lv (v :: .ref a :: st) pc := fun C H locs ls hK hP hD hS hl => by
  obtain ⟨Cn, T, N, t, h1, h2, h3, h4, h5, h6, h7, h8, h9⟩ := hf
  have hts : ∀ w ∈ tb_l, w.before (cx_a X) (cx_s X) = true := fun w hw => C.2.2.2.2.1 w hw _
  obtain ⟨q0, hq⟩ := va_pl_get (X := ws) (f := f) hm
  have hset := va_pl_set (e := .inr (ci, fs.set j v)) hD hm hq
  have hD2 := hD.set (e := .inr (ci, fs.set j v)) hq
  rw [hset] at hD2
  rw [he] at hq
  rcases h4 with h4 | ⟨host, h4⟩
  · exact va_put C.1 C.2.1 hts h3 t h7 h8 C.2.2.2.1 hK hP (hD.weaken (fun _ _ _ h => hw _ h)) hS q0 hq h1 j h2 (hts _ h4) (fun x hx => by rw [h5] at hx; exact hx) h6 (by rw [h7 j h2, h9]) hn hfit hj hd (fun H1 locs1 hP1 hD1 hS1 => kk C H1 locs1 ls hK (by rw [← hset]; exact hP1) hD2 hS1 hl)
  · exact va_putN C.1 C.2.1 hts h3 t h7 h8 C.2.2.2.1 hK hP (hD.weaken (fun _ _ _ h => hw _ h)) hS q0 hq h1 j h2 (hts _ h4) (fun x hx => by rw [h5] at hx; exact hx) h6 (by rw [h7 j h2, h9]) hn hfit hj hd (fun H1 locs1 hP1 hD1 hS1 => kk C H1 locs1 ls hK (by rw [← hset]; exact hP1) hD2 hS1 hl)
end VM
set_option maxRecDepth 100000 in
theorem lm_ST_238 : lk_min "SheetTrees" 238 := ⟨tb_at 78 rfl rfl, tb_at 79 rfl rfl, tb_at 46 rfl rfl, tb_at 80 rfl rfl⟩
set_option maxRecDepth 100000 in
theorem lm_ST_232 : lk_max "SheetTrees" 232 := ⟨tb_at 81 rfl rfl, tb_at 82 rfl rfl, tb_at 46 rfl rfl, tb_at 83 rfl rfl⟩
set_option maxRecDepth 100000 in
theorem lm_TB_79 : lk_max "SheetTrees$Tables" 79 := ⟨tb_at 355 rfl rfl, tb_at 82 rfl rfl, tb_at 46 rfl rfl, tb_at 83 rfl rfl⟩
set_option maxRecDepth 100000 in
theorem lm_LY_80 : lk_min "SheetTrees$Layout" 80 := ⟨tb_at 388 rfl rfl, tb_at 79 rfl rfl, tb_at 46 rfl rfl, tb_at 80 rfl rfl⟩
