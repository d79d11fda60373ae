/-! calls whose callee makes cells -/
section VXC
variable {X : cx_T} {M : ms_T} {Q : State → Prop} {k n : Nat} {tys tc : List (ClassId × FieldType)} {ws pl wc plc wr : va_W} {lv : List (Option Value)} {st : List Value} {pc idx nL a : Nat} {rm : Room} {y : MethodName} {b : ByteArray} {rt : Option FieldType} {pst : Option Value → Prop} {post : Option Value → va_W → va_W → List (ClassId × FieldType) → Prop}
theorem mb_xo {H : Heap} {locs : List Loc} {ls : Array Slot} {rest : List Value} {av : List Value} {is ir : List Nat} (C : cx_ok X M) (hw : cx_w X) (hsp : is.map (fun i => ws[i]?) = wc.map some ∧ va_nd is = true) (hrs : ir.map (fun i => ws[i]?) = wr.map some ∧ va_nd ir = true ∧ ∀ i ∈ ir, i ∉ is) (hK : va_K (cx_D X) classes tys (cx_s X)) (hP : va_P (cx_D X) classes (ws ++ pl) H) (hD : va_D (cx_B X) (ws ++ pl)) (hS : va_S (cx_A X) (cx_s X).heap H locs) (hl : lo_has ls M.2.1 lv)
    (hr : va_Run (cx_p X) (cx_l X) (cx_e X) M.2.2.2 (cx_s X) (cx_m X) (cx_a X) (cx_b X) (cx_M X) (cx_c X) H locs k n rm.cells rm.slots (F0 (cx_m X) pc ls st) rest (cm_Q (cx_D X) (wc ++ []) H.size post av.toArray) (va_A (wc ++ []) H.size))
    (kk : ∀ v w1 p1 t1, post v w1 p1 t1 → VV X M Q (k + rm.cells) (n + rm.slots) tys (wr ++ (w1 ++ p1)) pl lv (v.toList ++ rest) (pc + 3)) : W (cx_p X) (cx_l X) (cx_e X) M.2.2.2 (cx_s X) (cx_m X) (cx_a X) (cx_b X) (cx_M X) (cx_c X) H locs k n Q (F0 (cx_m X) pc ls st) := by
  rw [List.append_nil] at hr
  have hF : ∀ q, va_A wc H.size q → cx_B X q := fun q h => by
    rcases h with ⟨k2, e2, h⟩ | h
    · obtain ⟨i, h1, h2⟩ := va_in_of is hsp.1 h
      exact hD.2 i (q, e2) (vv_at h2)
    · exact (C.2.2.2.2.2.1 q (Nat.le_trans hS.1 h)).2
  refine bh_any (B := cm_B (cx_D X) wc H.size post) (A0 := cx_A X) (A1 := va_A wc H.size) hr hS (fun q h1 h2 => hw _ (hF q h2)) (fun q h => hw _ (hF q h)) (fun v t H1 locs1 ht hvm hb hz1 hk1 hS1 => ?_)
  obtain ⟨w1, p1, t1, g1, g2, g3, g4⟩ := hb
  rw [ht] at g2
  obtain ⟨j1, j2⟩ := va_joinQ hP hD is ir hsp.1 hrs.1 hrs.2.1 hrs.2.2 hk1 hF g2 g3
  exact kk v w1 p1 t1 g1 C H1 locs1 ls hK j1 j2 hS1 hl

theorem vv_xI (hw : cx_w X) {As : List Value} (rest : List Value) (hM : CM (cx_l X) y b nL none rm (.ref a :: As) (cx_D X) tc (wc ++ []) post) (hL : lk_I M.2.2.1 idx y b nL As.length) (hd : decode M.1 pc = .ok (.invokespecial idx, 3)) (hst : As.reverse ++ .ref a :: rest = st) (is ir : List Nat) (hsp : is.map (fun i => ws[i]?) = wc.map some ∧ va_nd is = true) (hrs : ir.map (fun i => ws[i]?) = wr.map some ∧ va_nd ir = true ∧ ∀ i ∈ ir, i ∉ is) (it : List Nat) (hit : it.filterMap (fun i => tys[i]?) = tc) (hR : rm_ok M.2.2.2 rm nL k n rest) (kk : ∀ v w1 p1 t1, post v w1 p1 t1 → VV X M Q (k + rm.cells) (n + rm.slots) tys (wr ++ (w1 ++ p1)) pl lv (v.toList ++ rest) (pc + 3)) : VV X M Q k n tys ws pl lv st pc := fun C H locs ls hK hP hD hS hl => by
  subst hst
  exact mb_xo C hw hsp hrs hK hP hD hS hl (rn_I C hL (hM H.size) cm_blind (cl_pre C (is := is) (plc := []) ⟨hsp.1, hsp.2, Or.inl rfl⟩ hit hK hP hD) hl.1 hR hd) kk
end VXC
