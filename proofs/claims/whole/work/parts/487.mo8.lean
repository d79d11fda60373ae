/-! SheetTreesModel.walk -/
def mw_0 (T : mt_T) (S t w h : Int) (wa : Nat → Int) (u : mw_T) : mw_T := (1, ps 0 0 0 w h (wy T S w h) S u.wt, va_up u.cc t.toNat 0, va_up u.mi t.toNat 0, va_up u.tc t.toNat 0, va_up u.ta t.toNat 0, va_up u.rc t.toNat 0, va_up u.nc t.toNat 0, u.no, u.tk, u.rs, cp u.st wa 8)
def mw_all (T : mt_T) (K le S t w h : Int) (wa : Nat → Int) (u : mw_T) : mw_T := mw_go T.2.2 K le t 512 (mw_0 T S t w h wa u)
theorem MWI_0 {T : mt_T} {S t w h : Int} {wa : Nat → Int} {u : mw_T} (hS : 0 ≤ S ∧ S ≤ 3) (hw : 1 ≤ w ∧ w ≤ 16) (hh : 1 ≤ h ∧ h ≤ 16) (hwa : ∀ i : Nat, i < 8 → 0 ≤ wa i ∧ wa i ≤ 50) : MWI t (mw_0 T S t w h wa u) ∧ 2 * SA (mw_0 T S t w h wa u).wt (mw_0 T S t w h wa u).n - (mw_0 T S t w h wa u).n ≤ 511 := by
  have hy : wy T S w h = 0 ∨ wy T S w h = 1 := by unfold wy; split <;> simp
  have h1 := wh1 hw hh
  have e1 : SA (ps ((0 : Nat) : Int) 0 0 w h (wy T S w h) S u.wt) 1 = SA u.wt 0 + w * h := ps_SA (k := 0)
  have e2 : SA (mw_0 T S t w h wa u).wt (mw_0 T S t w h wa u).n = w * h := by
    show SA (ps ((0 : Nat) : Int) 0 0 w h (wy T S w h) S u.wt) 1 = w * h
    rw [e1]
    show 0 + w * h = w * h
    omega
  have z0 : ∀ g : Nat → Int, va_up g t.toNat 0 t.toNat = 0 := fun g => va_up_self _ _ _
  refine ⟨⟨fun i hi => ?_, ?_, ?_, ?_, ?_⟩, ?_⟩
  · have hi2 : i < 1 := hi
    have e : i = 0 := by omega
    subst e
    exact ps_pe (k := 0) (by unfold okp; omega) hy hS
  · rw [e2]
    show 0 ≤ va_up u.nc t.toNat 0 t.toNat ∧ va_up u.nc t.toNat 0 t.toNat + 2 * (w * h) - ((1 : Nat) : Int) ≤ 511
    rw [z0]
    omega
  · rw [e2]
    show 0 ≤ va_up u.tc t.toNat 0 t.toNat ∧ 0 ≤ va_up u.rc t.toNat 0 t.toNat ∧ va_up u.tc t.toNat 0 t.toNat + va_up u.rc t.toNat 0 t.toNat + w * h ≤ 256
    rw [z0, z0]
    omega
  · rw [e2]
    show 0 ≤ va_up u.ta t.toNat 0 t.toNat ∧ va_up u.ta t.toNat 0 t.toNat + w * h ≤ 256
    rw [z0]
    omega
  · intro p hp
    show 0 ≤ cp u.st wa 8 p ∧ cp u.st wa 8 p ≤ 50
    rw [cp_at 8 p, if_pos hp]
    exact hwa p hp
  · rw [e2]
    show 2 * (w * h) - ((1 : Nat) : Int) ≤ 511
    omega
set_option maxHeartbeats 4000000 in
set_option maxRecDepth 100000 in
theorem c_MO_walk (l : Launch) (D : va_G) (m : Nat) (q : Nat → Nat) (K S le cd nS nP rn dn : Int) (cI : ClassId) (of fw wa sw sh : Nat → Int) (T : mt_T) (u0 : mw_T) (j t : Int) (hj : 0 ≤ j ∧ j < 4) (ht : 0 ≤ t ∧ t < 20) (hS : 0 ≤ S ∧ S ≤ 3) (hK : 0 ≤ K ∧ K ≤ 3) (hle : 1 ≤ le ∧ le ≤ 16) (hT : MI T) (hC : MCH T.2.2) (h1 : 1 ≤ sw j.toNat ∧ sw j.toNat ≤ 16) (h2 : 1 ≤ sh j.toNat ∧ sh j.toNat ≤ 16) (hwa : ∀ i : Nat, i < 8 → 0 ≤ wa i ∧ wa i ≤ 50) : CM l y_MO_walk b_MO_walk 13 none rm_2 [.ref m, .int (iI j), .int (iI t)] D [(cI, .int)] ([ob_MO m q K S le cd nS nP rn dn, ar_I (q 23) cI 20 of, ar_I (q 24) cI 20 fw, ar_I (q 25) cI 20 u0.cc, ar_I (q 26) cI 20 u0.mi, ar_I (q 27) cI 20 u0.tc, ar_I (q 28) cI 20 u0.ta, ar_I (q 29) cI 20 u0.rc, ar_I (q 30) cI 20 u0.nc, ar_I (q 31) cI 12000 u0.no, ar_I (q 32) cI 25600 u0.tk, ar_I (q 33) cI 20480 u0.rs, ar_I (q 20) cI 3600 u0.wt, ar_I (q 16) cI 8 u0.st, ar_I (q 14) cI 8 wa, ar_I (q 5) cI 4 sw, ar_I (q 6) cI 4 sh, ar_I (q 17) cI 2312 T.1, ar_I (q 18) cI 2312 T.2.1, ar_I (q 19) cI 2312 T.2.2] ++ []) (fun r w1 p1 _ => r = none ∧ w1 = [ob_MO m q K S le cd nS nP rn dn, ar_I (q 23) cI 20 (va_up of t.toNat j), ar_I (q 24) cI 20 (va_up fw t.toNat (wy T S (sw j.toNat) (sh j.toNat))), ar_I (q 25) cI 20 (mw_all T K le S t (sw j.toNat) (sh j.toNat) wa u0).cc, ar_I (q 26) cI 20 (mw_all T K le S t (sw j.toNat) (sh j.toNat) wa u0).mi, ar_I (q 27) cI 20 (mw_all T K le S t (sw j.toNat) (sh j.toNat) wa u0).tc, ar_I (q 28) cI 20 (mw_all T K le S t (sw j.toNat) (sh j.toNat) wa u0).ta, ar_I (q 29) cI 20 (mw_all T K le S t (sw j.toNat) (sh j.toNat) wa u0).rc, ar_I (q 30) cI 20 (mw_all T K le S t (sw j.toNat) (sh j.toNat) wa u0).nc, ar_I (q 31) cI 12000 (mw_all T K le S t (sw j.toNat) (sh j.toNat) wa u0).no, ar_I (q 32) cI 25600 (mw_all T K le S t (sw j.toNat) (sh j.toNat) wa u0).tk, ar_I (q 33) cI 20480 (mw_all T K le S t (sw j.toNat) (sh j.toNat) wa u0).rs, ar_I (q 20) cI 3600 (mw_all T K le S t (sw j.toNat) (sh j.toNat) wa u0).wt, ar_I (q 16) cI 8 (mw_all T K le S t (sw j.toNat) (sh j.toNat) wa u0).st, ar_I (q 14) cI 8 wa, ar_I (q 5) cI 4 sw, ar_I (q 6) cI 4 sh, ar_I (q 17) cI 2312 T.1, ar_I (q 18) cI 2312 T.2.1, ar_I (q 19) cI 2312 T.2.2] ∧ p1 = []) := by
  refine cm_of (by decide) (Nat.le_of_ble_eq_true rfl) ?_
  intro X sz hl hr hnm hD hA hw
  subst hD
  have loop : ∀ (f : Nat) (u : mw_T) (v4 v5 v6 v7 v8 v9 v10 v11 v12 : Option Value), 2 * SA u.wt u.n - u.n ≤ f → MWI t u → mw_go T.2.2 K le t f u = (mw_all T K le S t (sw j.toNat) (sh j.toNat) wa u0) → VV X (b_MO_walk, 13, "SheetTreesModel", rm_2) (cq X ([ob_MO m q K S le cd nS nP rn dn, ar_I (q 23) cI 20 of, ar_I (q 24) cI 20 fw, ar_I (q 25) cI 20 u0.cc, ar_I (q 26) cI 20 u0.mi, ar_I (q 27) cI 20 u0.tc, ar_I (q 28) cI 20 u0.ta, ar_I (q 29) cI 20 u0.rc, ar_I (q 30) cI 20 u0.nc, ar_I (q 31) cI 12000 u0.no, ar_I (q 32) cI 25600 u0.tk, ar_I (q 33) cI 20480 u0.rs, ar_I (q 20) cI 3600 u0.wt, ar_I (q 16) cI 8 u0.st, ar_I (q 14) cI 8 wa, ar_I (q 5) cI 4 sw, ar_I (q 6) cI 4 sh, ar_I (q 17) cI 2312 T.1, ar_I (q 18) cI 2312 T.2.1, ar_I (q 19) cI 2312 T.2.2] ++ []) sz (fun r w1 p1 _ => r = none ∧ w1 = [ob_MO m q K S le cd nS nP rn dn, ar_I (q 23) cI 20 (va_up of t.toNat j), ar_I (q 24) cI 20 (va_up fw t.toNat (wy T S (sw j.toNat) (sh j.toNat))), ar_I (q 25) cI 20 (mw_all T K le S t (sw j.toNat) (sh j.toNat) wa u0).cc, ar_I (q 26) cI 20 (mw_all T K le S t (sw j.toNat) (sh j.toNat) wa u0).mi, ar_I (q 27) cI 20 (mw_all T K le S t (sw j.toNat) (sh j.toNat) wa u0).tc, ar_I (q 28) cI 20 (mw_all T K le S t (sw j.toNat) (sh j.toNat) wa u0).ta, ar_I (q 29) cI 20 (mw_all T K le S t (sw j.toNat) (sh j.toNat) wa u0).rc, ar_I (q 30) cI 20 (mw_all T K le S t (sw j.toNat) (sh j.toNat) wa u0).nc, ar_I (q 31) cI 12000 (mw_all T K le S t (sw j.toNat) (sh j.toNat) wa u0).no, ar_I (q 32) cI 25600 (mw_all T K le S t (sw j.toNat) (sh j.toNat) wa u0).tk, ar_I (q 33) cI 20480 (mw_all T K le S t (sw j.toNat) (sh j.toNat) wa u0).rs, ar_I (q 20) cI 3600 (mw_all T K le S t (sw j.toNat) (sh j.toNat) wa u0).wt, ar_I (q 16) cI 8 (mw_all T K le S t (sw j.toNat) (sh j.toNat) wa u0).st, ar_I (q 14) cI 8 wa, ar_I (q 5) cI 4 sw, ar_I (q 6) cI 4 sh, ar_I (q 17) cI 2312 T.1, ar_I (q 18) cI 2312 T.2.1, ar_I (q 19) cI 2312 T.2.2] ∧ p1 = []) rm_2) 0 0 [(cI, .int)] [ob_MO m q K S le cd nS nP rn dn, ar_I (q 23) cI 20 (va_up of t.toNat j), ar_I (q 24) cI 20 (va_up fw t.toNat (wy T S (sw j.toNat) (sh j.toNat))), ar_I (q 25) cI 20 u.cc, ar_I (q 26) cI 20 u.mi, ar_I (q 27) cI 20 u.tc, ar_I (q 28) cI 20 u.ta, ar_I (q 29) cI 20 u.rc, ar_I (q 30) cI 20 u.nc, ar_I (q 31) cI 12000 u.no, ar_I (q 32) cI 25600 u.tk, ar_I (q 33) cI 20480 u.rs, ar_I (q 20) cI 3600 u.wt, ar_I (q 16) cI 8 u.st, ar_I (q 14) cI 8 wa, ar_I (q 5) cI 4 sw, ar_I (q 6) cI 4 sh, ar_I (q 17) cI 2312 T.1, ar_I (q 18) cI 2312 T.2.1, ar_I (q 19) cI 2312 T.2.2] [] [some (.ref m), some (.int (iI j)), some (.int (iI t)), some (.int (iI (u.n : Int))), v4, v5, v6, v7, v8, v9, v10, v11, v12] [] 117 := by
    intro f
    induction f with
    | zero =>
      intro u v4 v5 v6 v7 v8 v9 v10 v11 v12 hf hu hgo
      have hge := SA_ge u.n hu.1
      have hn0 : u.n = 0 := by omega
      have hgo : u = (mw_all T K le S t (sw j.toNat) (sh j.toNat) wa u0) := hgo
      refine vv_iload_n d_MO_walk_117 rfl ?_
      refine vv_if_le (tgt := 482) d_MO_walk_118 (by decide) (by omega) (fun c118 => ?_) (fun c118 => ?_)
      · skip
        exact vv_vret hA hw hr d_MO_walk_482 (by decide) (by decide) ⟨rfl, by rw [← hgo], rfl⟩
      · exfalso; omega
    | succ f ih =>
      intro u v4 v5 v6 v7 v8 v9 v10 v11 v12 hf hu hgo
      cases hn : u.n with
      | zero =>
        have hgo : u = (mw_all T K le S t (sw j.toNat) (sh j.toNat) wa u0) := by
          rw [← hgo]
          unfold mw_go
          rw [hn]
        refine vv_iload_n d_MO_walk_117 rfl ?_
        refine vv_if_le (tgt := 482) d_MO_walk_118 (by decide) (by omega) (fun c118 => ?_) (fun c118 => ?_)
        · skip
          exact vv_vret hA hw hr d_MO_walk_482 (by decide) (by decide) ⟨rfl, by rw [← hgo], rfl⟩
        · exfalso; omega
      | succ k =>
        have hge := SA_ge u.n hu.1
        obtain ⟨hmw, hms⟩ := MWI_step (le := le) hC hK.1 hn hu
        have hgo : mw_go T.2.2 K le t f (mw_step T.2.2 K le t k u) = (mw_all T K le S t (sw j.toNat) (sh j.toNat) wa u0) := by
          rw [← hgo]
          conv => rhs; unfold mw_go
          rw [hn]
        obtain ⟨p1, p2, p3⟩ := hu.1 k (by omega)
        have hcnt := hu.2
        have hk256 : (k : Int) + 1 ≤ 256 := by have := hcnt.2.1; omega
        have ek : iI (((k + 1 : Nat) : Int) + -1) = iI (k : Int) := by congr 1; omega
        have e0 : (6 * (k : Int)).toNat = 6 * k := by omega
        have e1 : (6 * (k : Int) + 1).toNat = 6 * k + 1 := by omega
        have e2 : (6 * (k : Int) + 2).toNat = 6 * k + 2 := by omega
        have e3 : (6 * (k : Int) + 3).toNat = 6 * k + 3 := by omega
        have e4 : (6 * (k : Int) + 4).toNat = 6 * k + 4 := by omega
        have e5 : (6 * (k : Int) + 5).toNat = 6 * k + 5 := by omega
        unfold mw_step at hmw hms hgo
        unfold okp at p1
        generalize hx0 : u.wt (6 * k) = x at p1 hmw hms hgo
        generalize hx1 : u.wt (6 * k + 1) = y at p1 hmw hms hgo
        generalize hx2 : u.wt (6 * k + 2) = w at p1 hmw hms hgo
        generalize hx3 : u.wt (6 * k + 3) = h at p1 hmw hms hgo
        generalize hx4 : u.wt (6 * k + 4) = d at p2 hmw hms hgo
        generalize hx5 : u.wt (6 * k + 5) = s at p3 hmw hms hgo
        have hmp := mp_bd (s := s) (d := d) (w := w) (h := h) p3 (by omega) (by omega) (by omega)
        have hc := hC s d w h p3.1 p3.2 (by omega) (by omega) (by omega) (by omega) (by omega) (by omega)
        generalize hch : T.2.2 (mp s d w h).toNat = c at hc hmw hms hgo
        obtain ⟨q1, q2, q3, q4⟩ := hcnt
        have hst8 : ∀ z : Int, 0 ≤ z → z < 8 → 0 ≤ u.st z.toNat ∧ u.st z.toNat ≤ 50 := fun z z0 z1 => q4 z.toNat (by omega)
        rcases p2 with rfl | rfl
        · refine vv_iload_n d_MO_walk_117 rfl ?_
          refine vv_if_le (tgt := 482) d_MO_walk_118 (by decide) (by omega) (fun c118 => ?_) (fun c118 => ?_)
          · exfalso; omega
          · skip
            refine vv_iinc d_MO_walk_121 rfl rfl (by decide) ?_
            dsimp only [List.set]
            rw [ek]
            refine vv_aload_n d_MO_walk_124 rfl ?_
            refine vv_get d_MO_walk_125 0 rfl fl_MO_53 rfl ?_
            refine vv_bipush d_MO_walk_128 (by decide +kernel) ?_
            refine vv_iload_n d_MO_walk_130 rfl ?_
            refine vv_imul d_MO_walk_131 ?_
            refine vv_iald d_MO_walk_132 12 0 rfl rfl (by omega) ?_
            rw [e0, hx0]
            refine vv_istore d_MO_walk_133 rfl (by decide) ?_
            dsimp only [List.set]
            refine vv_aload_n d_MO_walk_135 rfl ?_
            refine vv_get d_MO_walk_136 0 rfl fl_MO_53 rfl ?_
            refine vv_bipush d_MO_walk_139 (by decide +kernel) ?_
            refine vv_iload_n d_MO_walk_141 rfl ?_
            refine vv_imul d_MO_walk_142 ?_
            refine vv_iconst d_MO_walk_143 ?_
            refine vv_iadd d_MO_walk_144 ?_
            refine vv_iald d_MO_walk_145 12 0 rfl rfl (by omega) ?_
            rw [e1, hx1]
            refine vv_istore d_MO_walk_146 rfl (by decide) ?_
            dsimp only [List.set]
            refine vv_aload_n d_MO_walk_148 rfl ?_
            refine vv_get d_MO_walk_149 0 rfl fl_MO_53 rfl ?_
            refine vv_bipush d_MO_walk_152 (by decide +kernel) ?_
            refine vv_iload_n d_MO_walk_154 rfl ?_
            refine vv_imul d_MO_walk_155 ?_
            refine vv_iconst d_MO_walk_156 ?_
            refine vv_iadd d_MO_walk_157 ?_
            refine vv_iald d_MO_walk_158 12 0 rfl rfl (by omega) ?_
            rw [e2, hx2]
            refine vv_istore d_MO_walk_159 rfl (by decide) ?_
            dsimp only [List.set]
            refine vv_aload_n d_MO_walk_161 rfl ?_
            refine vv_get d_MO_walk_162 0 rfl fl_MO_53 rfl ?_
            refine vv_bipush d_MO_walk_165 (by decide +kernel) ?_
            refine vv_iload_n d_MO_walk_167 rfl ?_
            refine vv_imul d_MO_walk_168 ?_
            refine vv_iconst d_MO_walk_169 ?_
            refine vv_iadd d_MO_walk_170 ?_
            refine vv_iald d_MO_walk_171 12 0 rfl rfl (by omega) ?_
            rw [e3, hx3]
            refine vv_istore d_MO_walk_172 rfl (by decide) ?_
            dsimp only [List.set]
            refine vv_aload_n d_MO_walk_174 rfl ?_
            refine vv_get d_MO_walk_175 0 rfl fl_MO_53 rfl ?_
            refine vv_bipush d_MO_walk_178 (by decide +kernel) ?_
            refine vv_iload_n d_MO_walk_180 rfl ?_
            refine vv_imul d_MO_walk_181 ?_
            refine vv_iconst d_MO_walk_182 ?_
            refine vv_iadd d_MO_walk_183 ?_
            refine vv_iald d_MO_walk_184 12 0 rfl rfl (by omega) ?_
            rw [e4, hx4]
            refine vv_istore d_MO_walk_185 rfl (by decide) ?_
            dsimp only [List.set]
            refine vv_aload_n d_MO_walk_187 rfl ?_
            refine vv_get d_MO_walk_188 0 rfl fl_MO_53 rfl ?_
            refine vv_bipush d_MO_walk_191 (by decide +kernel) ?_
            refine vv_iload_n d_MO_walk_193 rfl ?_
            refine vv_imul d_MO_walk_194 ?_
            refine vv_iconst d_MO_walk_195 ?_
            refine vv_iadd d_MO_walk_196 ?_
            refine vv_iald d_MO_walk_197 12 0 rfl rfl (by omega) ?_
            rw [e5, hx5]
            refine vv_istore d_MO_walk_198 rfl (by decide) ?_
            dsimp only [List.set]
            refine vv_aload_n d_MO_walk_200 rfl ?_
            refine vv_get d_MO_walk_201 0 rfl fl_MO_50 rfl ?_
            refine vv_iload d_MO_walk_204 rfl ?_
            refine vv_iload d_MO_walk_206 rfl ?_
            refine vv_iload d_MO_walk_208 rfl ?_
            refine vv_iload d_MO_walk_210 rfl ?_
            refine vv_pS (wc := []) (plc := []) [.ref (q 19)] (c_MO_place (cx_l X) (cx_D X) s 0 w h) lk_MO_116 d_MO_walk_212 rfl [] ⟨rfl, rfl, Or.inl rfl⟩ [] rfl ⟨⟨by decide, by decide⟩, ⟨by decide, by decide⟩, Nat.le_of_ble_eq_true rfl⟩ ⟨rfl, rfl⟩ ?_
            intro v hv
            subst hv
            dsimp only [Option.toList, List.cons_append, List.nil_append, List.append_nil]
            refine vv_iald d_MO_walk_215 19 0 rfl rfl (by omega) ?_
            rw [hch]
            refine vv_istore d_MO_walk_216 rfl (by decide) ?_
            dsimp only [List.set]
            refine vv_aload_n d_MO_walk_218 rfl ?_
            refine vv_get d_MO_walk_219 0 rfl fl_MO_80 rfl ?_
            refine vv_sipush d_MO_walk_222 (by decide +kernel) ?_
            refine vv_iload_n d_MO_walk_225 rfl ?_
            refine vv_imul d_MO_walk_226 ?_
            refine vv_aload_n d_MO_walk_227 rfl ?_
            refine vv_get d_MO_walk_228 0 rfl fl_MO_77 rfl ?_
            refine vv_iload_n d_MO_walk_231 rfl ?_
            refine vv_iald d_MO_walk_232 8 0 rfl rfl (by omega) ?_
            refine vv_iadd d_MO_walk_233 ?_
            refine vv_iload d_MO_walk_234 rfl ?_
            refine vv_iast hw d_MO_walk_236 9 0 rfl rfl (by omega) ?_
            dsimp only [List.set]
            refine vv_aload_n d_MO_walk_237 rfl ?_
            refine vv_get d_MO_walk_238 0 rfl fl_MO_77 rfl ?_
            refine vv_iload_n d_MO_walk_241 rfl ?_
            refine vv_dup2 d_MO_walk_242 rfl rfl ?_
            refine vv_iald d_MO_walk_243 8 0 rfl rfl (by omega) ?_
            refine vv_iconst d_MO_walk_244 ?_
            refine vv_iadd d_MO_walk_245 ?_
            refine vv_iast hw d_MO_walk_246 8 0 rfl rfl (by omega) ?_
            dsimp only [List.set]
            refine vv_iload d_MO_walk_247 rfl ?_
            refine vv_bipush d_MO_walk_249 (by decide +kernel) ?_
            refine vv_icmp_le (tgt := 442) d_MO_walk_251 (by decide) ⟨by omega, by omega⟩ (fun c251 => ?_) (fun c251 => ?_)
            · skip
              refine vv_iload d_MO_walk_442 rfl ?_
              refine vv_iconst d_MO_walk_444 ?_
              refine vv_icmp_ne (tgt := 464) d_MO_walk_445 (by decide) ⟨by omega, by omega⟩ (fun c445 => ?_) (fun c445 => ?_)
              · skip
                refine vv_aload_n d_MO_walk_464 rfl ?_
                refine vv_iload_n d_MO_walk_465 rfl ?_
                refine vv_iload d_MO_walk_466 rfl ?_
                refine vv_iload d_MO_walk_468 rfl ?_
                refine vv_iload d_MO_walk_470 rfl ?_
                refine vv_iload d_MO_walk_472 rfl ?_
                refine vv_iload d_MO_walk_474 rfl ?_
                by_cases hpos : 0 < u.st c.toNat
                · refine vv_nV hw (wc := [ob_MO m q K S le cd nS nP rn dn, ar_I (q 16) cI 8 u.st, ar_I (q 27) cI 20 u.tc, ar_I (q 28) cI 20 u.ta, ar_I (q 32) cI 25600 u.tk]) (wr := [ar_I (q 23) cI 20 (va_up of t.toNat j), ar_I (q 24) cI 20 (va_up fw t.toNat (wy T S (sw j.toNat) (sh j.toNat))), ar_I (q 25) cI 20 u.cc, ar_I (q 26) cI 20 u.mi, ar_I (q 29) cI 20 u.rc, ar_I (q 30) cI 20 (va_up u.nc t.toNat (u.nc t.toNat + 1)), ar_I (q 31) cI 12000 (va_up u.no (600 * t + u.nc t.toNat).toNat c), ar_I (q 33) cI 20480 u.rs, ar_I (q 20) cI 3600 u.wt, ar_I (q 14) cI 8 wa, ar_I (q 5) cI 4 sw, ar_I (q 6) cI 4 sh, ar_I (q 17) cI 2312 T.1, ar_I (q 18) cI 2312 T.2.1, ar_I (q 19) cI 2312 T.2.2]) [] (c_MO_take_y (cx_l X) (cx_D X) m q K S le cd nS nP rn dn cI t c x y w h u.st u.tc u.ta u.tk (by omega) ht (by have h8 := hst8 c (by omega) (by omega); omega) hpos (by omega)) lk_MO_148 d_MO_walk_476 rfl (rc_at 0 rfl rfl rfl) [0, 13, 5, 6, 10] [1, 2, 3, 4, 7, 8, 9, 11, 12, 14, 15, 16, 17, 18, 19] ⟨rfl, rfl⟩ ⟨rfl, rfl, by decide⟩ [0] rfl ⟨⟨by decide, by decide⟩, ⟨by decide, by decide⟩, Nat.le_of_ble_eq_true rfl⟩ ⟨rfl, rfl⟩ ?_
                  rintro v w1 p1 t1 ⟨rfl, rfl, rfl⟩
                  dsimp only [Option.toList, List.cons_append, List.nil_append, List.append_nil]
                  refine vv_sub (ws' := [ob_MO m q K S le cd nS nP rn dn, ar_I (q 23) cI 20 (va_up of t.toNat j), ar_I (q 24) cI 20 (va_up fw t.toNat (wy T S (sw j.toNat) (sh j.toNat))), ar_I (q 25) cI 20 u.cc, ar_I (q 26) cI 20 u.mi, ar_I (q 27) cI 20 (va_up u.tc t.toNat (u.tc t.toNat + 1)), ar_I (q 28) cI 20 (va_up u.ta t.toNat (u.ta t.toNat + w * h)), ar_I (q 29) cI 20 u.rc, ar_I (q 30) cI 20 (va_up u.nc t.toNat (u.nc t.toNat + 1)), ar_I (q 31) cI 12000 (va_up u.no (600 * t + u.nc t.toNat).toNat c), ar_I (q 32) cI 25600 (tkg u.tc t c x y w h u.tk), ar_I (q 33) cI 20480 u.rs, ar_I (q 20) cI 3600 u.wt, ar_I (q 16) cI 8 (va_up u.st c.toNat (u.st c.toNat - 1)), ar_I (q 14) cI 8 wa, ar_I (q 5) cI 4 sw, ar_I (q 6) cI 4 sh, ar_I (q 17) cI 2312 T.1, ar_I (q 18) cI 2312 T.2.1, ar_I (q 19) cI 2312 T.2.2]) [15, 0, 1, 2, 3, 17, 18, 4, 5, 6, 19, 7, 8, 16, 9, 10, 11, 12, 13, 14] rfl rfl ?_
                  refine vv_goto (tgt := 117) d_MO_walk_479 (by decide) ?_
                  have e9 : mw_do K le t c x y w h 0 s k u = (k, u.wt, u.cc, u.mi, va_up u.tc t.toNat (u.tc t.toNat + 1), va_up u.ta t.toNat (u.ta t.toNat + w * h), u.rc, (va_up u.nc t.toNat (u.nc t.toNat + 1)), (va_up u.no (600 * t + u.nc t.toNat).toNat c), tkg u.tc t c x y w h u.tk, u.rs, va_up u.st c.toNat (u.st c.toNat - 1)) := by unfold mw_do mw_take; rw [if_neg (by omega), if_neg c445, if_pos (show 0 < (mw_nd t c k u).st c.toNat from hpos)]; rfl
                  rw [e9] at hmw hms hgo
                  exact ih _ _ _ _ _ _ _ _ _ _ (by have h8 := hms; omega) hmw hgo
                · refine vv_nV hw (wc := [ob_MO m q K S le cd nS nP rn dn, ar_I (q 16) cI 8 u.st, ar_I (q 27) cI 20 u.tc, ar_I (q 28) cI 20 u.ta, ar_I (q 32) cI 25600 u.tk]) (wr := [ar_I (q 23) cI 20 (va_up of t.toNat j), ar_I (q 24) cI 20 (va_up fw t.toNat (wy T S (sw j.toNat) (sh j.toNat))), ar_I (q 25) cI 20 u.cc, ar_I (q 26) cI 20 u.mi, ar_I (q 29) cI 20 u.rc, ar_I (q 30) cI 20 (va_up u.nc t.toNat (u.nc t.toNat + 1)), ar_I (q 31) cI 12000 (va_up u.no (600 * t + u.nc t.toNat).toNat c), ar_I (q 33) cI 20480 u.rs, ar_I (q 20) cI 3600 u.wt, ar_I (q 14) cI 8 wa, ar_I (q 5) cI 4 sw, ar_I (q 6) cI 4 sh, ar_I (q 17) cI 2312 T.1, ar_I (q 18) cI 2312 T.2.1, ar_I (q 19) cI 2312 T.2.2]) [] (c_MO_take_n (cx_l X) (cx_D X) m q K S le cd nS nP rn dn cI t c x y w h u.st u.tc u.ta u.tk (by omega) ht (by have h8 := hst8 c (by omega) (by omega); omega) (by have h8 := hst8 c (by omega) (by omega); omega)) lk_MO_148 d_MO_walk_476 rfl (rc_at 0 rfl rfl rfl) [0, 13, 5, 6, 10] [1, 2, 3, 4, 7, 8, 9, 11, 12, 14, 15, 16, 17, 18, 19] ⟨rfl, rfl⟩ ⟨rfl, rfl, by decide⟩ [0] rfl ⟨⟨by decide, by decide⟩, ⟨by decide, by decide⟩, Nat.le_of_ble_eq_true rfl⟩ ⟨rfl, rfl⟩ ?_
                  rintro v w1 p1 t1 ⟨rfl, rfl, rfl⟩
                  dsimp only [Option.toList, List.cons_append, List.nil_append, List.append_nil]
                  refine vv_sub (ws' := [ob_MO m q K S le cd nS nP rn dn, ar_I (q 23) cI 20 (va_up of t.toNat j), ar_I (q 24) cI 20 (va_up fw t.toNat (wy T S (sw j.toNat) (sh j.toNat))), ar_I (q 25) cI 20 u.cc, ar_I (q 26) cI 20 u.mi, ar_I (q 27) cI 20 u.tc, ar_I (q 28) cI 20 u.ta, ar_I (q 29) cI 20 u.rc, ar_I (q 30) cI 20 (va_up u.nc t.toNat (u.nc t.toNat + 1)), ar_I (q 31) cI 12000 (va_up u.no (600 * t + u.nc t.toNat).toNat c), ar_I (q 32) cI 25600 u.tk, ar_I (q 33) cI 20480 u.rs, ar_I (q 20) cI 3600 u.wt, ar_I (q 16) cI 8 u.st, ar_I (q 14) cI 8 wa, ar_I (q 5) cI 4 sw, ar_I (q 6) cI 4 sh, ar_I (q 17) cI 2312 T.1, ar_I (q 18) cI 2312 T.2.1, ar_I (q 19) cI 2312 T.2.2]) [15, 0, 1, 2, 3, 17, 18, 4, 5, 6, 19, 7, 8, 16, 9, 10, 11, 12, 13, 14] rfl rfl ?_
                  refine vv_goto (tgt := 117) d_MO_walk_479 (by decide) ?_
                  have e9 : mw_do K le t c x y w h 0 s k u = (k, u.wt, u.cc, u.mi, u.tc, u.ta, u.rc, (va_up u.nc t.toNat (u.nc t.toNat + 1)), (va_up u.no (600 * t + u.nc t.toNat).toNat c), u.tk, u.rs, u.st) := by unfold mw_do mw_take; rw [if_neg (by omega), if_neg c445, if_neg (show ¬ 0 < (mw_nd t c k u).st c.toNat from hpos)]; rfl
                  rw [e9] at hmw hms hgo
                  exact ih _ _ _ _ _ _ _ _ _ _ (by have h8 := hms; omega) hmw hgo
              · skip
                refine vv_aload_n d_MO_walk_448 rfl ?_
                refine vv_iload_n d_MO_walk_449 rfl ?_
                refine vv_iload d_MO_walk_450 rfl ?_
                refine vv_iload d_MO_walk_452 rfl ?_
                refine vv_iload d_MO_walk_454 rfl ?_
                refine vv_iload d_MO_walk_456 rfl ?_
                by_cases hle2 : le ≤ w ∧ le ≤ h
                · refine vv_nV hw (wc := [ob_MO m q K S le cd nS nP rn dn, ar_I (q 29) cI 20 u.rc, ar_I (q 33) cI 20480 u.rs]) (wr := [ar_I (q 23) cI 20 (va_up of t.toNat j), ar_I (q 24) cI 20 (va_up fw t.toNat (wy T S (sw j.toNat) (sh j.toNat))), ar_I (q 25) cI 20 u.cc, ar_I (q 26) cI 20 u.mi, ar_I (q 27) cI 20 u.tc, ar_I (q 28) cI 20 u.ta, ar_I (q 30) cI 20 (va_up u.nc t.toNat (u.nc t.toNat + 1)), ar_I (q 31) cI 12000 (va_up u.no (600 * t + u.nc t.toNat).toNat c), ar_I (q 32) cI 25600 u.tk, ar_I (q 20) cI 3600 u.wt, ar_I (q 16) cI 8 u.st, ar_I (q 14) cI 8 wa, ar_I (q 5) cI 4 sw, ar_I (q 6) cI 4 sh, ar_I (q 17) cI 2312 T.1, ar_I (q 18) cI 2312 T.2.1, ar_I (q 19) cI 2312 T.2.2]) [] (c_MO_keepRest_y (cx_l X) (cx_D X) m q K S le cd nS nP rn dn cI t x y w h u.rc u.rs hle (by omega) (by omega) hle2 ht (by omega)) lk_MO_144 d_MO_walk_458 rfl (rc_at 0 rfl rfl rfl) [0, 7, 11] [1, 2, 3, 4, 5, 6, 8, 9, 10, 12, 13, 14, 15, 16, 17, 18, 19] ⟨rfl, rfl⟩ ⟨rfl, rfl, by decide⟩ [0] rfl ⟨⟨by decide, by decide⟩, ⟨by decide, by decide⟩, Nat.le_of_ble_eq_true rfl⟩ ⟨rfl, rfl⟩ ?_
                  rintro v w1 p1 t1 ⟨rfl, rfl, rfl⟩
                  dsimp only [Option.toList, List.cons_append, List.nil_append, List.append_nil]
                  refine vv_sub (ws' := [ob_MO m q K S le cd nS nP rn dn, ar_I (q 23) cI 20 (va_up of t.toNat j), ar_I (q 24) cI 20 (va_up fw t.toNat (wy T S (sw j.toNat) (sh j.toNat))), ar_I (q 25) cI 20 u.cc, ar_I (q 26) cI 20 u.mi, ar_I (q 27) cI 20 u.tc, ar_I (q 28) cI 20 u.ta, ar_I (q 29) cI 20 (va_up u.rc t.toNat (u.rc t.toNat + 1)), ar_I (q 30) cI 20 (va_up u.nc t.toNat (u.nc t.toNat + 1)), ar_I (q 31) cI 12000 (va_up u.no (600 * t + u.nc t.toNat).toNat c), ar_I (q 32) cI 25600 u.tk, ar_I (q 33) cI 20480 (kr u.rc t x y w h u.rs), ar_I (q 20) cI 3600 u.wt, ar_I (q 16) cI 8 u.st, ar_I (q 14) cI 8 wa, ar_I (q 5) cI 4 sw, ar_I (q 6) cI 4 sh, ar_I (q 17) cI 2312 T.1, ar_I (q 18) cI 2312 T.2.1, ar_I (q 19) cI 2312 T.2.2]) [17, 0, 1, 2, 3, 4, 5, 18, 6, 7, 8, 19, 9, 10, 11, 12, 13, 14, 15, 16] rfl rfl ?_
                  refine vv_goto (tgt := 479) d_MO_walk_461 (by decide) ?_
                  refine vv_goto (tgt := 117) d_MO_walk_479 (by decide) ?_
                  have e9 : mw_do K le t c x y w h 0 s k u = (k, u.wt, u.cc, u.mi, u.tc, u.ta, va_up u.rc t.toNat (u.rc t.toNat + 1), (va_up u.nc t.toNat (u.nc t.toNat + 1)), (va_up u.no (600 * t + u.nc t.toNat).toNat c), u.tk, kr u.rc t x y w h u.rs, u.st) := by unfold mw_do mw_rest; rw [if_neg (by omega), if_pos c445, if_pos hle2]; rfl
                  rw [e9] at hmw hms hgo
                  exact ih _ _ _ _ _ _ _ _ _ _ (by have h8 := hms; omega) hmw hgo
                · refine vv_nV hw (wc := [ob_MO m q K S le cd nS nP rn dn, ar_I (q 29) cI 20 u.rc, ar_I (q 33) cI 20480 u.rs]) (wr := [ar_I (q 23) cI 20 (va_up of t.toNat j), ar_I (q 24) cI 20 (va_up fw t.toNat (wy T S (sw j.toNat) (sh j.toNat))), ar_I (q 25) cI 20 u.cc, ar_I (q 26) cI 20 u.mi, ar_I (q 27) cI 20 u.tc, ar_I (q 28) cI 20 u.ta, ar_I (q 30) cI 20 (va_up u.nc t.toNat (u.nc t.toNat + 1)), ar_I (q 31) cI 12000 (va_up u.no (600 * t + u.nc t.toNat).toNat c), ar_I (q 32) cI 25600 u.tk, ar_I (q 20) cI 3600 u.wt, ar_I (q 16) cI 8 u.st, ar_I (q 14) cI 8 wa, ar_I (q 5) cI 4 sw, ar_I (q 6) cI 4 sh, ar_I (q 17) cI 2312 T.1, ar_I (q 18) cI 2312 T.2.1, ar_I (q 19) cI 2312 T.2.2]) [] (c_MO_keepRest_n (cx_l X) (cx_D X) m q K S le cd nS nP rn dn cI t x y w h u.rc u.rs hle (by omega) (by omega) (by omega)) lk_MO_144 d_MO_walk_458 rfl (rc_at 0 rfl rfl rfl) [0, 7, 11] [1, 2, 3, 4, 5, 6, 8, 9, 10, 12, 13, 14, 15, 16, 17, 18, 19] ⟨rfl, rfl⟩ ⟨rfl, rfl, by decide⟩ [0] rfl ⟨⟨by decide, by decide⟩, ⟨by decide, by decide⟩, Nat.le_of_ble_eq_true rfl⟩ ⟨rfl, rfl⟩ ?_
                  rintro v w1 p1 t1 ⟨rfl, rfl, rfl⟩
                  dsimp only [Option.toList, List.cons_append, List.nil_append, List.append_nil]
                  refine vv_sub (ws' := [ob_MO m q K S le cd nS nP rn dn, ar_I (q 23) cI 20 (va_up of t.toNat j), ar_I (q 24) cI 20 (va_up fw t.toNat (wy T S (sw j.toNat) (sh j.toNat))), ar_I (q 25) cI 20 u.cc, ar_I (q 26) cI 20 u.mi, ar_I (q 27) cI 20 u.tc, ar_I (q 28) cI 20 u.ta, ar_I (q 29) cI 20 u.rc, ar_I (q 30) cI 20 (va_up u.nc t.toNat (u.nc t.toNat + 1)), ar_I (q 31) cI 12000 (va_up u.no (600 * t + u.nc t.toNat).toNat c), ar_I (q 32) cI 25600 u.tk, ar_I (q 33) cI 20480 u.rs, ar_I (q 20) cI 3600 u.wt, ar_I (q 16) cI 8 u.st, ar_I (q 14) cI 8 wa, ar_I (q 5) cI 4 sw, ar_I (q 6) cI 4 sh, ar_I (q 17) cI 2312 T.1, ar_I (q 18) cI 2312 T.2.1, ar_I (q 19) cI 2312 T.2.2]) [17, 0, 1, 2, 3, 4, 5, 18, 6, 7, 8, 19, 9, 10, 11, 12, 13, 14, 15, 16] rfl rfl ?_
                  refine vv_goto (tgt := 479) d_MO_walk_461 (by decide) ?_
                  refine vv_goto (tgt := 117) d_MO_walk_479 (by decide) ?_
                  have e9 : mw_do K le t c x y w h 0 s k u = (k, u.wt, u.cc, u.mi, u.tc, u.ta, u.rc, (va_up u.nc t.toNat (u.nc t.toNat + 1)), (va_up u.no (600 * t + u.nc t.toNat).toNat c), u.tk, u.rs, u.st) := by unfold mw_do mw_rest; rw [if_neg (by omega), if_pos c445, if_neg hle2]; rfl
                  rw [e9] at hmw hms hgo
                  exact ih _ _ _ _ _ _ _ _ _ _ (by have h8 := hms; omega) hmw hgo
            · skip
              refine vv_iload d_MO_walk_254 rfl ?_
              refine vv_bipush d_MO_walk_256 (by decide +kernel) ?_
              refine vv_isub d_MO_walk_258 ?_
              refine vv_istore d_MO_walk_259 rfl (by decide) ?_
              dsimp only [List.set]
              refine vv_iload d_MO_walk_261 rfl ?_
              refine vv_if_ne (tgt := 271) d_MO_walk_263 (by decide) (by omega) (fun c263 => ?_) (fun c263 => ?_)
              · exfalso; omega
              · skip
                refine vv_iload d_MO_walk_266 rfl ?_
                refine vv_goto (tgt := 273) d_MO_walk_268 (by decide) ?_
                refine vv_iload d_MO_walk_273 rfl ?_
                refine vv_isub d_MO_walk_275 ?_
                refine vv_aload_n d_MO_walk_276 rfl ?_
                refine vv_get d_MO_walk_277 0 rfl fl_MO_89 rfl ?_
                refine vv_isub d_MO_walk_280 ?_
                refine vv_istore d_MO_walk_281 rfl (by decide) ?_
                dsimp only [List.set]
                refine vv_aload_n d_MO_walk_283 rfl ?_
                refine vv_get d_MO_walk_284 0 rfl fl_MO_62 rfl ?_
                refine vv_iload_n d_MO_walk_287 rfl ?_
                refine vv_dup2 d_MO_walk_288 rfl rfl ?_
                refine vv_iald d_MO_walk_289 3 0 rfl rfl (by omega) ?_
                refine vv_iconst d_MO_walk_290 ?_
                refine vv_iadd d_MO_walk_291 ?_
                refine vv_iast hw d_MO_walk_292 3 0 rfl rfl (by omega) ?_
                dsimp only [List.set]
                refine vv_aload_n d_MO_walk_293 rfl ?_
                refine vv_get d_MO_walk_294 0 rfl fl_MO_65 rfl ?_
                refine vv_iload_n d_MO_walk_297 rfl ?_
                refine vv_dup2 d_MO_walk_298 rfl rfl ?_
                refine vv_iald d_MO_walk_299 4 0 rfl rfl (by omega) ?_
                refine vv_iload d_MO_walk_300 rfl ?_
                refine vv_if_ne (tgt := 310) d_MO_walk_302 (by decide) (by omega) (fun c302 => ?_) (fun c302 => ?_)
                · exfalso; omega
                · skip
                  refine vv_iload d_MO_walk_305 rfl ?_
                  refine vv_goto (tgt := 312) d_MO_walk_307 (by decide) ?_
                  refine vv_iadd d_MO_walk_312 ?_
                  refine vv_iast hw d_MO_walk_313 4 0 rfl rfl (by omega) ?_
                  dsimp only [List.set]
                  refine vv_iload d_MO_walk_314 rfl ?_
                  refine vv_if_le (tgt := 395) d_MO_walk_316 (by decide) (by omega) (fun c316 => ?_) (fun c316 => ?_)
                  · skip
                    refine vv_aload_n d_MO_walk_395 rfl ?_
                    refine vv_iload_n d_MO_walk_396 rfl ?_
                    refine vv_iload d_MO_walk_397 rfl ?_
                    refine vv_iload d_MO_walk_399 rfl ?_
                    refine vv_iload d_MO_walk_401 rfl ?_
                    refine vv_if_ne (tgt := 411) d_MO_walk_403 (by decide) (by omega) (fun c403 => ?_) (fun c403 => ?_)
                    · exfalso; omega
                    · skip
                      refine vv_iload d_MO_walk_406 rfl ?_
                      refine vv_goto (tgt := 413) d_MO_walk_408 (by decide) ?_
                      refine vv_iload d_MO_walk_413 rfl ?_
                      refine vv_if_ne (tgt := 423) d_MO_walk_415 (by decide) (by omega) (fun c415 => ?_) (fun c415 => ?_)
                      · exfalso; omega
                      · skip
                        refine vv_iload d_MO_walk_418 rfl ?_
                        refine vv_goto (tgt := 425) d_MO_walk_420 (by decide) ?_
                        refine vv_iconst d_MO_walk_425 ?_
                        refine vv_iload d_MO_walk_426 rfl ?_
                        refine vv_isub d_MO_walk_428 ?_
                        refine vv_iload d_MO_walk_429 rfl ?_
                        refine vv_iconst d_MO_walk_431 ?_
                        refine vv_isub d_MO_walk_432 ?_
                        refine vv_nV hw (wc := [ob_MO m q K S le cd nS nP rn dn, ar_I (q 20) cI 3600 u.wt]) (wr := [ar_I (q 23) cI 20 (va_up of t.toNat j), ar_I (q 24) cI 20 (va_up fw t.toNat (wy T S (sw j.toNat) (sh j.toNat))), ar_I (q 25) cI 20 (va_up u.cc t.toNat (u.cc t.toNat + 1)), ar_I (q 26) cI 20 (va_up u.mi t.toNat (u.mi t.toNat + h)), ar_I (q 27) cI 20 u.tc, ar_I (q 28) cI 20 u.ta, ar_I (q 29) cI 20 u.rc, ar_I (q 30) cI 20 (va_up u.nc t.toNat (u.nc t.toNat + 1)), ar_I (q 31) cI 12000 (va_up u.no (600 * t + u.nc t.toNat).toNat c), ar_I (q 32) cI 25600 u.tk, ar_I (q 33) cI 20480 u.rs, ar_I (q 16) cI 8 u.st, ar_I (q 14) cI 8 wa, ar_I (q 5) cI 4 sw, ar_I (q 6) cI 4 sh, ar_I (q 17) cI 2312 T.1, ar_I (q 18) cI 2312 T.2.1, ar_I (q 19) cI 2312 T.2.2]) [] (c_MO_push (cx_l X) (cx_D X) m q K S le cd nS nP rn dn cI (k : Int) x y (c - 16) h (1 - 0) (s - 1) u.wt (by omega)) lk_MO_140 d_MO_walk_433 rfl (rc_at 0 rfl rfl rfl) [0, 12] [1, 2, 3, 4, 5, 6, 7, 8, 9, 10, 11, 13, 14, 15, 16, 17, 18, 19] ⟨rfl, rfl⟩ ⟨rfl, rfl, by decide⟩ [0] rfl ⟨⟨by decide, by decide⟩, ⟨by decide, by decide⟩, Nat.le_of_ble_eq_true rfl⟩ ⟨rfl, rfl⟩ ?_
                        rintro v w1 p1 t1 ⟨rfl, rfl, rfl⟩
                        dsimp only [Option.toList, List.cons_append, List.nil_append, List.append_nil]
                        refine vv_sub (ws' := [ob_MO m q K S le cd nS nP rn dn, ar_I (q 23) cI 20 (va_up of t.toNat j), ar_I (q 24) cI 20 (va_up fw t.toNat (wy T S (sw j.toNat) (sh j.toNat))), ar_I (q 25) cI 20 (va_up u.cc t.toNat (u.cc t.toNat + 1)), ar_I (q 26) cI 20 (va_up u.mi t.toNat (u.mi t.toNat + h)), ar_I (q 27) cI 20 u.tc, ar_I (q 28) cI 20 u.ta, ar_I (q 29) cI 20 u.rc, ar_I (q 30) cI 20 (va_up u.nc t.toNat (u.nc t.toNat + 1)), ar_I (q 31) cI 12000 (va_up u.no (600 * t + u.nc t.toNat).toNat c), ar_I (q 32) cI 25600 u.tk, ar_I (q 33) cI 20480 u.rs, ar_I (q 20) cI 3600 (ps (k : Int) x y (c - 16) h (1 - 0) (s - 1) u.wt), ar_I (q 16) cI 8 u.st, ar_I (q 14) cI 8 wa, ar_I (q 5) cI 4 sw, ar_I (q 6) cI 4 sh, ar_I (q 17) cI 2312 T.1, ar_I (q 18) cI 2312 T.2.1, ar_I (q 19) cI 2312 T.2.2]) [18, 0, 1, 2, 3, 4, 5, 6, 7, 8, 9, 10, 19, 11, 12, 13, 14, 15, 16, 17] rfl rfl ?_
                        refine vv_iinc d_MO_walk_436 rfl rfl (by decide) ?_
                        dsimp only [List.set]
                        refine vv_goto (tgt := 479) d_MO_walk_439 (by decide) ?_
                        refine vv_goto (tgt := 117) d_MO_walk_479 (by decide) ?_
                        have e9 : mw_do K le t c x y w h 0 s k u = (k + 1, (ps (k : Int) x y (c - 16) h (1 - 0) (s - 1) u.wt), (va_up u.cc t.toNat (u.cc t.toNat + 1)), (va_up u.mi t.toNat (u.mi t.toNat + h)), u.tc, u.ta, u.rc, (va_up u.nc t.toNat (u.nc t.toNat + 1)), (va_up u.no (600 * t + u.nc t.toNat).toNat c), u.tk, u.rs, u.st) := by unfold mw_do; rw [if_pos (by omega)]; unfold mw_cut mw_two; rw [if_neg (show ¬ 0 < mw_r K (c - 16) w h 0 by show ¬ 0 < (w - (c - 16) - K); omega)]; rfl
                        rw [e9] at hmw hms hgo
                        exact ih _ _ _ _ _ _ _ _ _ _ (by have h8 := hms; omega) hmw hgo
                  · skip
                    refine vv_aload_n d_MO_walk_319 rfl ?_
                    refine vv_iload_n d_MO_walk_320 rfl ?_
                    refine vv_iload d_MO_walk_321 rfl ?_
                    refine vv_if_ne (tgt := 339) d_MO_walk_323 (by decide) (by omega) (fun c323 => ?_) (fun c323 => ?_)
                    · exfalso; omega
                    · skip
                      refine vv_iload d_MO_walk_326 rfl ?_
                      refine vv_iload d_MO_walk_328 rfl ?_
                      refine vv_iadd d_MO_walk_330 ?_
                      refine vv_aload_n d_MO_walk_331 rfl ?_
                      refine vv_get d_MO_walk_332 0 rfl fl_MO_89 rfl ?_
                      refine vv_iadd d_MO_walk_335 ?_
                      refine vv_goto (tgt := 341) d_MO_walk_336 (by decide) ?_
                      refine vv_iload d_MO_walk_341 rfl ?_
                      refine vv_if_ne (tgt := 351) d_MO_walk_343 (by decide) (by omega) (fun c343 => ?_) (fun c343 => ?_)
                      · exfalso; omega
                      · skip
                        refine vv_iload d_MO_walk_346 rfl ?_
                        refine vv_goto (tgt := 361) d_MO_walk_348 (by decide) ?_
                        refine vv_iload d_MO_walk_361 rfl ?_
                        refine vv_if_ne (tgt := 371) d_MO_walk_363 (by decide) (by omega) (fun c363 => ?_) (fun c363 => ?_)
                        · exfalso; omega
                        · skip
                          refine vv_iload d_MO_walk_366 rfl ?_
                          refine vv_goto (tgt := 373) d_MO_walk_368 (by decide) ?_
                          refine vv_iload d_MO_walk_373 rfl ?_
                          refine vv_if_ne (tgt := 383) d_MO_walk_375 (by decide) (by omega) (fun c375 => ?_) (fun c375 => ?_)
                          · exfalso; omega
                          · skip
                            refine vv_iload d_MO_walk_378 rfl ?_
                            refine vv_goto (tgt := 385) d_MO_walk_380 (by decide) ?_
                            refine vv_iload d_MO_walk_385 rfl ?_
                            refine vv_iload d_MO_walk_387 rfl ?_
                            refine vv_nV hw (wc := [ob_MO m q K S le cd nS nP rn dn, ar_I (q 20) cI 3600 u.wt]) (wr := [ar_I (q 23) cI 20 (va_up of t.toNat j), ar_I (q 24) cI 20 (va_up fw t.toNat (wy T S (sw j.toNat) (sh j.toNat))), ar_I (q 25) cI 20 (va_up u.cc t.toNat (u.cc t.toNat + 1)), ar_I (q 26) cI 20 (va_up u.mi t.toNat (u.mi t.toNat + h)), ar_I (q 27) cI 20 u.tc, ar_I (q 28) cI 20 u.ta, ar_I (q 29) cI 20 u.rc, ar_I (q 30) cI 20 (va_up u.nc t.toNat (u.nc t.toNat + 1)), ar_I (q 31) cI 12000 (va_up u.no (600 * t + u.nc t.toNat).toNat c), ar_I (q 32) cI 25600 u.tk, ar_I (q 33) cI 20480 u.rs, ar_I (q 16) cI 8 u.st, ar_I (q 14) cI 8 wa, ar_I (q 5) cI 4 sw, ar_I (q 6) cI 4 sh, ar_I (q 17) cI 2312 T.1, ar_I (q 18) cI 2312 T.2.1, ar_I (q 19) cI 2312 T.2.2]) [] (c_MO_push (cx_l X) (cx_D X) m q K S le cd nS nP rn dn cI (k : Int) (x + (c - 16) + K) y (w - (c - 16) - K) h 0 s u.wt (by omega)) lk_MO_140 d_MO_walk_389 rfl (rc_at 0 rfl rfl rfl) [0, 12] [1, 2, 3, 4, 5, 6, 7, 8, 9, 10, 11, 13, 14, 15, 16, 17, 18, 19] ⟨rfl, rfl⟩ ⟨rfl, rfl, by decide⟩ [0] rfl ⟨⟨by decide, by decide⟩, ⟨by decide, by decide⟩, Nat.le_of_ble_eq_true rfl⟩ ⟨rfl, rfl⟩ ?_
                            rintro v w1 p1 t1 ⟨rfl, rfl, rfl⟩
                            dsimp only [Option.toList, List.cons_append, List.nil_append, List.append_nil]
                            refine vv_sub (ws' := [ob_MO m q K S le cd nS nP rn dn, ar_I (q 23) cI 20 (va_up of t.toNat j), ar_I (q 24) cI 20 (va_up fw t.toNat (wy T S (sw j.toNat) (sh j.toNat))), ar_I (q 25) cI 20 (va_up u.cc t.toNat (u.cc t.toNat + 1)), ar_I (q 26) cI 20 (va_up u.mi t.toNat (u.mi t.toNat + h)), ar_I (q 27) cI 20 u.tc, ar_I (q 28) cI 20 u.ta, ar_I (q 29) cI 20 u.rc, ar_I (q 30) cI 20 (va_up u.nc t.toNat (u.nc t.toNat + 1)), ar_I (q 31) cI 12000 (va_up u.no (600 * t + u.nc t.toNat).toNat c), ar_I (q 32) cI 25600 u.tk, ar_I (q 33) cI 20480 u.rs, ar_I (q 20) cI 3600 (ps (k : Int) (x + (c - 16) + K) y (w - (c - 16) - K) h 0 s u.wt), ar_I (q 16) cI 8 u.st, ar_I (q 14) cI 8 wa, ar_I (q 5) cI 4 sw, ar_I (q 6) cI 4 sh, ar_I (q 17) cI 2312 T.1, ar_I (q 18) cI 2312 T.2.1, ar_I (q 19) cI 2312 T.2.2]) [18, 0, 1, 2, 3, 4, 5, 6, 7, 8, 9, 10, 19, 11, 12, 13, 14, 15, 16, 17] rfl rfl ?_
                            refine vv_iinc d_MO_walk_392 rfl rfl (by decide) ?_
                            dsimp only [List.set]
                            refine vv_aload_n d_MO_walk_395 rfl ?_
                            refine vv_iload_n d_MO_walk_396 rfl ?_
                            refine vv_iload d_MO_walk_397 rfl ?_
                            refine vv_iload d_MO_walk_399 rfl ?_
                            refine vv_iload d_MO_walk_401 rfl ?_
                            refine vv_if_ne (tgt := 411) d_MO_walk_403 (by decide) (by omega) (fun c403 => ?_) (fun c403 => ?_)
                            · exfalso; omega
                            · skip
                              refine vv_iload d_MO_walk_406 rfl ?_
                              refine vv_goto (tgt := 413) d_MO_walk_408 (by decide) ?_
                              refine vv_iload d_MO_walk_413 rfl ?_
                              refine vv_if_ne (tgt := 423) d_MO_walk_415 (by decide) (by omega) (fun c415 => ?_) (fun c415 => ?_)
                              · exfalso; omega
                              · skip
                                refine vv_iload d_MO_walk_418 rfl ?_
                                refine vv_goto (tgt := 425) d_MO_walk_420 (by decide) ?_
                                refine vv_iconst d_MO_walk_425 ?_
                                refine vv_iload d_MO_walk_426 rfl ?_
                                refine vv_isub d_MO_walk_428 ?_
                                refine vv_iload d_MO_walk_429 rfl ?_
                                refine vv_iconst d_MO_walk_431 ?_
                                refine vv_isub d_MO_walk_432 ?_
                                refine vv_nV hw (wc := [ob_MO m q K S le cd nS nP rn dn, ar_I (q 20) cI 3600 (ps (k : Int) (x + (c - 16) + K) y (w - (c - 16) - K) h 0 s u.wt)]) (wr := [ar_I (q 23) cI 20 (va_up of t.toNat j), ar_I (q 24) cI 20 (va_up fw t.toNat (wy T S (sw j.toNat) (sh j.toNat))), ar_I (q 25) cI 20 (va_up u.cc t.toNat (u.cc t.toNat + 1)), ar_I (q 26) cI 20 (va_up u.mi t.toNat (u.mi t.toNat + h)), ar_I (q 27) cI 20 u.tc, ar_I (q 28) cI 20 u.ta, ar_I (q 29) cI 20 u.rc, ar_I (q 30) cI 20 (va_up u.nc t.toNat (u.nc t.toNat + 1)), ar_I (q 31) cI 12000 (va_up u.no (600 * t + u.nc t.toNat).toNat c), ar_I (q 32) cI 25600 u.tk, ar_I (q 33) cI 20480 u.rs, ar_I (q 16) cI 8 u.st, ar_I (q 14) cI 8 wa, ar_I (q 5) cI 4 sw, ar_I (q 6) cI 4 sh, ar_I (q 17) cI 2312 T.1, ar_I (q 18) cI 2312 T.2.1, ar_I (q 19) cI 2312 T.2.2]) [] (c_MO_push (cx_l X) (cx_D X) m q K S le cd nS nP rn dn cI ((k : Int) + 1) x y (c - 16) h (1 - 0) (s - 1) (ps (k : Int) (x + (c - 16) + K) y (w - (c - 16) - K) h 0 s u.wt) (by omega)) lk_MO_140 d_MO_walk_433 rfl (rc_at 0 rfl rfl rfl) [0, 12] [1, 2, 3, 4, 5, 6, 7, 8, 9, 10, 11, 13, 14, 15, 16, 17, 18, 19] ⟨rfl, rfl⟩ ⟨rfl, rfl, by decide⟩ [0] rfl ⟨⟨by decide, by decide⟩, ⟨by decide, by decide⟩, Nat.le_of_ble_eq_true rfl⟩ ⟨rfl, rfl⟩ ?_
                                rintro v w1 p1 t1 ⟨rfl, rfl, rfl⟩
                                dsimp only [Option.toList, List.cons_append, List.nil_append, List.append_nil]
                                refine vv_sub (ws' := [ob_MO m q K S le cd nS nP rn dn, ar_I (q 23) cI 20 (va_up of t.toNat j), ar_I (q 24) cI 20 (va_up fw t.toNat (wy T S (sw j.toNat) (sh j.toNat))), ar_I (q 25) cI 20 (va_up u.cc t.toNat (u.cc t.toNat + 1)), ar_I (q 26) cI 20 (va_up u.mi t.toNat (u.mi t.toNat + h)), ar_I (q 27) cI 20 u.tc, ar_I (q 28) cI 20 u.ta, ar_I (q 29) cI 20 u.rc, ar_I (q 30) cI 20 (va_up u.nc t.toNat (u.nc t.toNat + 1)), ar_I (q 31) cI 12000 (va_up u.no (600 * t + u.nc t.toNat).toNat c), ar_I (q 32) cI 25600 u.tk, ar_I (q 33) cI 20480 u.rs, ar_I (q 20) cI 3600 (ps ((k : Int) + 1) x y (c - 16) h (1 - 0) (s - 1) (ps (k : Int) (x + (c - 16) + K) y (w - (c - 16) - K) h 0 s u.wt)), ar_I (q 16) cI 8 u.st, ar_I (q 14) cI 8 wa, ar_I (q 5) cI 4 sw, ar_I (q 6) cI 4 sh, ar_I (q 17) cI 2312 T.1, ar_I (q 18) cI 2312 T.2.1, ar_I (q 19) cI 2312 T.2.2]) [18, 0, 1, 2, 3, 4, 5, 6, 7, 8, 9, 10, 19, 11, 12, 13, 14, 15, 16, 17] rfl rfl ?_
                                refine vv_iinc d_MO_walk_436 rfl rfl (by decide) ?_
                                dsimp only [List.set]
                                refine vv_goto (tgt := 479) d_MO_walk_439 (by decide) ?_
                                refine vv_goto (tgt := 117) d_MO_walk_479 (by decide) ?_
                                have e9 : mw_do K le t c x y w h 0 s k u = (k + 1 + 1, (ps ((k : Int) + 1) x y (c - 16) h (1 - 0) (s - 1) (ps (k : Int) (x + (c - 16) + K) y (w - (c - 16) - K) h 0 s u.wt)), (va_up u.cc t.toNat (u.cc t.toNat + 1)), (va_up u.mi t.toNat (u.mi t.toNat + h)), u.tc, u.ta, u.rc, (va_up u.nc t.toNat (u.nc t.toNat + 1)), (va_up u.no (600 * t + u.nc t.toNat).toNat c), u.tk, u.rs, u.st) := by unfold mw_do; rw [if_pos (by omega)]; unfold mw_cut mw_two; rw [if_pos (show 0 < mw_r K (c - 16) w h 0 by show 0 < (w - (c - 16) - K); omega)]; rfl
                                rw [e9] at hmw hms hgo
                                exact ih _ _ _ _ _ _ _ _ _ _ (by have h8 := hms; omega) hmw hgo
        · refine vv_iload_n d_MO_walk_117 rfl ?_
          refine vv_if_le (tgt := 482) d_MO_walk_118 (by decide) (by omega) (fun c118 => ?_) (fun c118 => ?_)
          · exfalso; omega
          · skip
            refine vv_iinc d_MO_walk_121 rfl rfl (by decide) ?_
            dsimp only [List.set]
            rw [ek]
            refine vv_aload_n d_MO_walk_124 rfl ?_
            refine vv_get d_MO_walk_125 0 rfl fl_MO_53 rfl ?_
            refine vv_bipush d_MO_walk_128 (by decide +kernel) ?_
            refine vv_iload_n d_MO_walk_130 rfl ?_
            refine vv_imul d_MO_walk_131 ?_
            refine vv_iald d_MO_walk_132 12 0 rfl rfl (by omega) ?_
            rw [e0, hx0]
            refine vv_istore d_MO_walk_133 rfl (by decide) ?_
            dsimp only [List.set]
            refine vv_aload_n d_MO_walk_135 rfl ?_
            refine vv_get d_MO_walk_136 0 rfl fl_MO_53 rfl ?_
            refine vv_bipush d_MO_walk_139 (by decide +kernel) ?_
            refine vv_iload_n d_MO_walk_141 rfl ?_
            refine vv_imul d_MO_walk_142 ?_
            refine vv_iconst d_MO_walk_143 ?_
            refine vv_iadd d_MO_walk_144 ?_
            refine vv_iald d_MO_walk_145 12 0 rfl rfl (by omega) ?_
            rw [e1, hx1]
            refine vv_istore d_MO_walk_146 rfl (by decide) ?_
            dsimp only [List.set]
            refine vv_aload_n d_MO_walk_148 rfl ?_
            refine vv_get d_MO_walk_149 0 rfl fl_MO_53 rfl ?_
            refine vv_bipush d_MO_walk_152 (by decide +kernel) ?_
            refine vv_iload_n d_MO_walk_154 rfl ?_
            refine vv_imul d_MO_walk_155 ?_
            refine vv_iconst d_MO_walk_156 ?_
            refine vv_iadd d_MO_walk_157 ?_
            refine vv_iald d_MO_walk_158 12 0 rfl rfl (by omega) ?_
            rw [e2, hx2]
            refine vv_istore d_MO_walk_159 rfl (by decide) ?_
            dsimp only [List.set]
            refine vv_aload_n d_MO_walk_161 rfl ?_
            refine vv_get d_MO_walk_162 0 rfl fl_MO_53 rfl ?_
            refine vv_bipush d_MO_walk_165 (by decide +kernel) ?_
            refine vv_iload_n d_MO_walk_167 rfl ?_
            refine vv_imul d_MO_walk_168 ?_
            refine vv_iconst d_MO_walk_169 ?_
            refine vv_iadd d_MO_walk_170 ?_
            refine vv_iald d_MO_walk_171 12 0 rfl rfl (by omega) ?_
            rw [e3, hx3]
            refine vv_istore d_MO_walk_172 rfl (by decide) ?_
            dsimp only [List.set]
            refine vv_aload_n d_MO_walk_174 rfl ?_
            refine vv_get d_MO_walk_175 0 rfl fl_MO_53 rfl ?_
            refine vv_bipush d_MO_walk_178 (by decide +kernel) ?_
            refine vv_iload_n d_MO_walk_180 rfl ?_
            refine vv_imul d_MO_walk_181 ?_
            refine vv_iconst d_MO_walk_182 ?_
            refine vv_iadd d_MO_walk_183 ?_
            refine vv_iald d_MO_walk_184 12 0 rfl rfl (by omega) ?_
            rw [e4, hx4]
            refine vv_istore d_MO_walk_185 rfl (by decide) ?_
            dsimp only [List.set]
            refine vv_aload_n d_MO_walk_187 rfl ?_
            refine vv_get d_MO_walk_188 0 rfl fl_MO_53 rfl ?_
            refine vv_bipush d_MO_walk_191 (by decide +kernel) ?_
            refine vv_iload_n d_MO_walk_193 rfl ?_
            refine vv_imul d_MO_walk_194 ?_
            refine vv_iconst d_MO_walk_195 ?_
            refine vv_iadd d_MO_walk_196 ?_
            refine vv_iald d_MO_walk_197 12 0 rfl rfl (by omega) ?_
            rw [e5, hx5]
            refine vv_istore d_MO_walk_198 rfl (by decide) ?_
            dsimp only [List.set]
            refine vv_aload_n d_MO_walk_200 rfl ?_
            refine vv_get d_MO_walk_201 0 rfl fl_MO_50 rfl ?_
            refine vv_iload d_MO_walk_204 rfl ?_
            refine vv_iload d_MO_walk_206 rfl ?_
            refine vv_iload d_MO_walk_208 rfl ?_
            refine vv_iload d_MO_walk_210 rfl ?_
            refine vv_pS (wc := []) (plc := []) [.ref (q 19)] (c_MO_place (cx_l X) (cx_D X) s 1 w h) lk_MO_116 d_MO_walk_212 rfl [] ⟨rfl, rfl, Or.inl rfl⟩ [] rfl ⟨⟨by decide, by decide⟩, ⟨by decide, by decide⟩, Nat.le_of_ble_eq_true rfl⟩ ⟨rfl, rfl⟩ ?_
            intro v hv
            subst hv
            dsimp only [Option.toList, List.cons_append, List.nil_append, List.append_nil]
            refine vv_iald d_MO_walk_215 19 0 rfl rfl (by omega) ?_
            rw [hch]
            refine vv_istore d_MO_walk_216 rfl (by decide) ?_
            dsimp only [List.set]
            refine vv_aload_n d_MO_walk_218 rfl ?_
            refine vv_get d_MO_walk_219 0 rfl fl_MO_80 rfl ?_
            refine vv_sipush d_MO_walk_222 (by decide +kernel) ?_
            refine vv_iload_n d_MO_walk_225 rfl ?_
            refine vv_imul d_MO_walk_226 ?_
            refine vv_aload_n d_MO_walk_227 rfl ?_
            refine vv_get d_MO_walk_228 0 rfl fl_MO_77 rfl ?_
            refine vv_iload_n d_MO_walk_231 rfl ?_
            refine vv_iald d_MO_walk_232 8 0 rfl rfl (by omega) ?_
            refine vv_iadd d_MO_walk_233 ?_
            refine vv_iload d_MO_walk_234 rfl ?_
            refine vv_iast hw d_MO_walk_236 9 0 rfl rfl (by omega) ?_
            dsimp only [List.set]
            refine vv_aload_n d_MO_walk_237 rfl ?_
            refine vv_get d_MO_walk_238 0 rfl fl_MO_77 rfl ?_
            refine vv_iload_n d_MO_walk_241 rfl ?_
            refine vv_dup2 d_MO_walk_242 rfl rfl ?_
            refine vv_iald d_MO_walk_243 8 0 rfl rfl (by omega) ?_
            refine vv_iconst d_MO_walk_244 ?_
            refine vv_iadd d_MO_walk_245 ?_
            refine vv_iast hw d_MO_walk_246 8 0 rfl rfl (by omega) ?_
            dsimp only [List.set]
            refine vv_iload d_MO_walk_247 rfl ?_
            refine vv_bipush d_MO_walk_249 (by decide +kernel) ?_
            refine vv_icmp_le (tgt := 442) d_MO_walk_251 (by decide) ⟨by omega, by omega⟩ (fun c251 => ?_) (fun c251 => ?_)
            · skip
              refine vv_iload d_MO_walk_442 rfl ?_
              refine vv_iconst d_MO_walk_444 ?_
              refine vv_icmp_ne (tgt := 464) d_MO_walk_445 (by decide) ⟨by omega, by omega⟩ (fun c445 => ?_) (fun c445 => ?_)
              · skip
                refine vv_aload_n d_MO_walk_464 rfl ?_
                refine vv_iload_n d_MO_walk_465 rfl ?_
                refine vv_iload d_MO_walk_466 rfl ?_
                refine vv_iload d_MO_walk_468 rfl ?_
                refine vv_iload d_MO_walk_470 rfl ?_
                refine vv_iload d_MO_walk_472 rfl ?_
                refine vv_iload d_MO_walk_474 rfl ?_
                by_cases hpos : 0 < u.st c.toNat
                · refine vv_nV hw (wc := [ob_MO m q K S le cd nS nP rn dn, ar_I (q 16) cI 8 u.st, ar_I (q 27) cI 20 u.tc, ar_I (q 28) cI 20 u.ta, ar_I (q 32) cI 25600 u.tk]) (wr := [ar_I (q 23) cI 20 (va_up of t.toNat j), ar_I (q 24) cI 20 (va_up fw t.toNat (wy T S (sw j.toNat) (sh j.toNat))), ar_I (q 25) cI 20 u.cc, ar_I (q 26) cI 20 u.mi, ar_I (q 29) cI 20 u.rc, ar_I (q 30) cI 20 (va_up u.nc t.toNat (u.nc t.toNat + 1)), ar_I (q 31) cI 12000 (va_up u.no (600 * t + u.nc t.toNat).toNat c), ar_I (q 33) cI 20480 u.rs, ar_I (q 20) cI 3600 u.wt, ar_I (q 14) cI 8 wa, ar_I (q 5) cI 4 sw, ar_I (q 6) cI 4 sh, ar_I (q 17) cI 2312 T.1, ar_I (q 18) cI 2312 T.2.1, ar_I (q 19) cI 2312 T.2.2]) [] (c_MO_take_y (cx_l X) (cx_D X) m q K S le cd nS nP rn dn cI t c x y w h u.st u.tc u.ta u.tk (by omega) ht (by have h8 := hst8 c (by omega) (by omega); omega) hpos (by omega)) lk_MO_148 d_MO_walk_476 rfl (rc_at 0 rfl rfl rfl) [0, 13, 5, 6, 10] [1, 2, 3, 4, 7, 8, 9, 11, 12, 14, 15, 16, 17, 18, 19] ⟨rfl, rfl⟩ ⟨rfl, rfl, by decide⟩ [0] rfl ⟨⟨by decide, by decide⟩, ⟨by decide, by decide⟩, Nat.le_of_ble_eq_true rfl⟩ ⟨rfl, rfl⟩ ?_
                  rintro v w1 p1 t1 ⟨rfl, rfl, rfl⟩
                  dsimp only [Option.toList, List.cons_append, List.nil_append, List.append_nil]
                  refine vv_sub (ws' := [ob_MO m q K S le cd nS nP rn dn, ar_I (q 23) cI 20 (va_up of t.toNat j), ar_I (q 24) cI 20 (va_up fw t.toNat (wy T S (sw j.toNat) (sh j.toNat))), ar_I (q 25) cI 20 u.cc, ar_I (q 26) cI 20 u.mi, ar_I (q 27) cI 20 (va_up u.tc t.toNat (u.tc t.toNat + 1)), ar_I (q 28) cI 20 (va_up u.ta t.toNat (u.ta t.toNat + w * h)), ar_I (q 29) cI 20 u.rc, ar_I (q 30) cI 20 (va_up u.nc t.toNat (u.nc t.toNat + 1)), ar_I (q 31) cI 12000 (va_up u.no (600 * t + u.nc t.toNat).toNat c), ar_I (q 32) cI 25600 (tkg u.tc t c x y w h u.tk), ar_I (q 33) cI 20480 u.rs, ar_I (q 20) cI 3600 u.wt, ar_I (q 16) cI 8 (va_up u.st c.toNat (u.st c.toNat - 1)), ar_I (q 14) cI 8 wa, ar_I (q 5) cI 4 sw, ar_I (q 6) cI 4 sh, ar_I (q 17) cI 2312 T.1, ar_I (q 18) cI 2312 T.2.1, ar_I (q 19) cI 2312 T.2.2]) [15, 0, 1, 2, 3, 17, 18, 4, 5, 6, 19, 7, 8, 16, 9, 10, 11, 12, 13, 14] rfl rfl ?_
                  refine vv_goto (tgt := 117) d_MO_walk_479 (by decide) ?_
                  have e9 : mw_do K le t c x y w h 1 s k u = (k, u.wt, u.cc, u.mi, va_up u.tc t.toNat (u.tc t.toNat + 1), va_up u.ta t.toNat (u.ta t.toNat + w * h), u.rc, (va_up u.nc t.toNat (u.nc t.toNat + 1)), (va_up u.no (600 * t + u.nc t.toNat).toNat c), tkg u.tc t c x y w h u.tk, u.rs, va_up u.st c.toNat (u.st c.toNat - 1)) := by unfold mw_do mw_take; rw [if_neg (by omega), if_neg c445, if_pos (show 0 < (mw_nd t c k u).st c.toNat from hpos)]; rfl
                  rw [e9] at hmw hms hgo
                  exact ih _ _ _ _ _ _ _ _ _ _ (by have h8 := hms; omega) hmw hgo
                · refine vv_nV hw (wc := [ob_MO m q K S le cd nS nP rn dn, ar_I (q 16) cI 8 u.st, ar_I (q 27) cI 20 u.tc, ar_I (q 28) cI 20 u.ta, ar_I (q 32) cI 25600 u.tk]) (wr := [ar_I (q 23) cI 20 (va_up of t.toNat j), ar_I (q 24) cI 20 (va_up fw t.toNat (wy T S (sw j.toNat) (sh j.toNat))), ar_I (q 25) cI 20 u.cc, ar_I (q 26) cI 20 u.mi, ar_I (q 29) cI 20 u.rc, ar_I (q 30) cI 20 (va_up u.nc t.toNat (u.nc t.toNat + 1)), ar_I (q 31) cI 12000 (va_up u.no (600 * t + u.nc t.toNat).toNat c), ar_I (q 33) cI 20480 u.rs, ar_I (q 20) cI 3600 u.wt, ar_I (q 14) cI 8 wa, ar_I (q 5) cI 4 sw, ar_I (q 6) cI 4 sh, ar_I (q 17) cI 2312 T.1, ar_I (q 18) cI 2312 T.2.1, ar_I (q 19) cI 2312 T.2.2]) [] (c_MO_take_n (cx_l X) (cx_D X) m q K S le cd nS nP rn dn cI t c x y w h u.st u.tc u.ta u.tk (by omega) ht (by have h8 := hst8 c (by omega) (by omega); omega) (by have h8 := hst8 c (by omega) (by omega); omega)) lk_MO_148 d_MO_walk_476 rfl (rc_at 0 rfl rfl rfl) [0, 13, 5, 6, 10] [1, 2, 3, 4, 7, 8, 9, 11, 12, 14, 15, 16, 17, 18, 19] ⟨rfl, rfl⟩ ⟨rfl, rfl, by decide⟩ [0] rfl ⟨⟨by decide, by decide⟩, ⟨by decide, by decide⟩, Nat.le_of_ble_eq_true rfl⟩ ⟨rfl, rfl⟩ ?_
                  rintro v w1 p1 t1 ⟨rfl, rfl, rfl⟩
                  dsimp only [Option.toList, List.cons_append, List.nil_append, List.append_nil]
                  refine vv_sub (ws' := [ob_MO m q K S le cd nS nP rn dn, ar_I (q 23) cI 20 (va_up of t.toNat j), ar_I (q 24) cI 20 (va_up fw t.toNat (wy T S (sw j.toNat) (sh j.toNat))), ar_I (q 25) cI 20 u.cc, ar_I (q 26) cI 20 u.mi, ar_I (q 27) cI 20 u.tc, ar_I (q 28) cI 20 u.ta, ar_I (q 29) cI 20 u.rc, ar_I (q 30) cI 20 (va_up u.nc t.toNat (u.nc t.toNat + 1)), ar_I (q 31) cI 12000 (va_up u.no (600 * t + u.nc t.toNat).toNat c), ar_I (q 32) cI 25600 u.tk, ar_I (q 33) cI 20480 u.rs, ar_I (q 20) cI 3600 u.wt, ar_I (q 16) cI 8 u.st, ar_I (q 14) cI 8 wa, ar_I (q 5) cI 4 sw, ar_I (q 6) cI 4 sh, ar_I (q 17) cI 2312 T.1, ar_I (q 18) cI 2312 T.2.1, ar_I (q 19) cI 2312 T.2.2]) [15, 0, 1, 2, 3, 17, 18, 4, 5, 6, 19, 7, 8, 16, 9, 10, 11, 12, 13, 14] rfl rfl ?_
                  refine vv_goto (tgt := 117) d_MO_walk_479 (by decide) ?_
                  have e9 : mw_do K le t c x y w h 1 s k u = (k, u.wt, u.cc, u.mi, u.tc, u.ta, u.rc, (va_up u.nc t.toNat (u.nc t.toNat + 1)), (va_up u.no (600 * t + u.nc t.toNat).toNat c), u.tk, u.rs, u.st) := by unfold mw_do mw_take; rw [if_neg (by omega), if_neg c445, if_neg (show ¬ 0 < (mw_nd t c k u).st c.toNat from hpos)]; rfl
                  rw [e9] at hmw hms hgo
                  exact ih _ _ _ _ _ _ _ _ _ _ (by have h8 := hms; omega) hmw hgo
              · skip
                refine vv_aload_n d_MO_walk_448 rfl ?_
                refine vv_iload_n d_MO_walk_449 rfl ?_
                refine vv_iload d_MO_walk_450 rfl ?_
                refine vv_iload d_MO_walk_452 rfl ?_
                refine vv_iload d_MO_walk_454 rfl ?_
                refine vv_iload d_MO_walk_456 rfl ?_
                by_cases hle2 : le ≤ w ∧ le ≤ h
                · refine vv_nV hw (wc := [ob_MO m q K S le cd nS nP rn dn, ar_I (q 29) cI 20 u.rc, ar_I (q 33) cI 20480 u.rs]) (wr := [ar_I (q 23) cI 20 (va_up of t.toNat j), ar_I (q 24) cI 20 (va_up fw t.toNat (wy T S (sw j.toNat) (sh j.toNat))), ar_I (q 25) cI 20 u.cc, ar_I (q 26) cI 20 u.mi, ar_I (q 27) cI 20 u.tc, ar_I (q 28) cI 20 u.ta, ar_I (q 30) cI 20 (va_up u.nc t.toNat (u.nc t.toNat + 1)), ar_I (q 31) cI 12000 (va_up u.no (600 * t + u.nc t.toNat).toNat c), ar_I (q 32) cI 25600 u.tk, ar_I (q 20) cI 3600 u.wt, ar_I (q 16) cI 8 u.st, ar_I (q 14) cI 8 wa, ar_I (q 5) cI 4 sw, ar_I (q 6) cI 4 sh, ar_I (q 17) cI 2312 T.1, ar_I (q 18) cI 2312 T.2.1, ar_I (q 19) cI 2312 T.2.2]) [] (c_MO_keepRest_y (cx_l X) (cx_D X) m q K S le cd nS nP rn dn cI t x y w h u.rc u.rs hle (by omega) (by omega) hle2 ht (by omega)) lk_MO_144 d_MO_walk_458 rfl (rc_at 0 rfl rfl rfl) [0, 7, 11] [1, 2, 3, 4, 5, 6, 8, 9, 10, 12, 13, 14, 15, 16, 17, 18, 19] ⟨rfl, rfl⟩ ⟨rfl, rfl, by decide⟩ [0] rfl ⟨⟨by decide, by decide⟩, ⟨by decide, by decide⟩, Nat.le_of_ble_eq_true rfl⟩ ⟨rfl, rfl⟩ ?_
                  rintro v w1 p1 t1 ⟨rfl, rfl, rfl⟩
                  dsimp only [Option.toList, List.cons_append, List.nil_append, List.append_nil]
                  refine vv_sub (ws' := [ob_MO m q K S le cd nS nP rn dn, ar_I (q 23) cI 20 (va_up of t.toNat j), ar_I (q 24) cI 20 (va_up fw t.toNat (wy T S (sw j.toNat) (sh j.toNat))), ar_I (q 25) cI 20 u.cc, ar_I (q 26) cI 20 u.mi, ar_I (q 27) cI 20 u.tc, ar_I (q 28) cI 20 u.ta, ar_I (q 29) cI 20 (va_up u.rc t.toNat (u.rc t.toNat + 1)), ar_I (q 30) cI 20 (va_up u.nc t.toNat (u.nc t.toNat + 1)), ar_I (q 31) cI 12000 (va_up u.no (600 * t + u.nc t.toNat).toNat c), ar_I (q 32) cI 25600 u.tk, ar_I (q 33) cI 20480 (kr u.rc t x y w h u.rs), ar_I (q 20) cI 3600 u.wt, ar_I (q 16) cI 8 u.st, ar_I (q 14) cI 8 wa, ar_I (q 5) cI 4 sw, ar_I (q 6) cI 4 sh, ar_I (q 17) cI 2312 T.1, ar_I (q 18) cI 2312 T.2.1, ar_I (q 19) cI 2312 T.2.2]) [17, 0, 1, 2, 3, 4, 5, 18, 6, 7, 8, 19, 9, 10, 11, 12, 13, 14, 15, 16] rfl rfl ?_
                  refine vv_goto (tgt := 479) d_MO_walk_461 (by decide) ?_
                  refine vv_goto (tgt := 117) d_MO_walk_479 (by decide) ?_
                  have e9 : mw_do K le t c x y w h 1 s k u = (k, u.wt, u.cc, u.mi, u.tc, u.ta, va_up u.rc t.toNat (u.rc t.toNat + 1), (va_up u.nc t.toNat (u.nc t.toNat + 1)), (va_up u.no (600 * t + u.nc t.toNat).toNat c), u.tk, kr u.rc t x y w h u.rs, u.st) := by unfold mw_do mw_rest; rw [if_neg (by omega), if_pos c445, if_pos hle2]; rfl
                  rw [e9] at hmw hms hgo
                  exact ih _ _ _ _ _ _ _ _ _ _ (by have h8 := hms; omega) hmw hgo
                · refine vv_nV hw (wc := [ob_MO m q K S le cd nS nP rn dn, ar_I (q 29) cI 20 u.rc, ar_I (q 33) cI 20480 u.rs]) (wr := [ar_I (q 23) cI 20 (va_up of t.toNat j), ar_I (q 24) cI 20 (va_up fw t.toNat (wy T S (sw j.toNat) (sh j.toNat))), ar_I (q 25) cI 20 u.cc, ar_I (q 26) cI 20 u.mi, ar_I (q 27) cI 20 u.tc, ar_I (q 28) cI 20 u.ta, ar_I (q 30) cI 20 (va_up u.nc t.toNat (u.nc t.toNat + 1)), ar_I (q 31) cI 12000 (va_up u.no (600 * t + u.nc t.toNat).toNat c), ar_I (q 32) cI 25600 u.tk, ar_I (q 20) cI 3600 u.wt, ar_I (q 16) cI 8 u.st, ar_I (q 14) cI 8 wa, ar_I (q 5) cI 4 sw, ar_I (q 6) cI 4 sh, ar_I (q 17) cI 2312 T.1, ar_I (q 18) cI 2312 T.2.1, ar_I (q 19) cI 2312 T.2.2]) [] (c_MO_keepRest_n (cx_l X) (cx_D X) m q K S le cd nS nP rn dn cI t x y w h u.rc u.rs hle (by omega) (by omega) (by omega)) lk_MO_144 d_MO_walk_458 rfl (rc_at 0 rfl rfl rfl) [0, 7, 11] [1, 2, 3, 4, 5, 6, 8, 9, 10, 12, 13, 14, 15, 16, 17, 18, 19] ⟨rfl, rfl⟩ ⟨rfl, rfl, by decide⟩ [0] rfl ⟨⟨by decide, by decide⟩, ⟨by decide, by decide⟩, Nat.le_of_ble_eq_true rfl⟩ ⟨rfl, rfl⟩ ?_
                  rintro v w1 p1 t1 ⟨rfl, rfl, rfl⟩
                  dsimp only [Option.toList, List.cons_append, List.nil_append, List.append_nil]
                  refine vv_sub (ws' := [ob_MO m q K S le cd nS nP rn dn, ar_I (q 23) cI 20 (va_up of t.toNat j), ar_I (q 24) cI 20 (va_up fw t.toNat (wy T S (sw j.toNat) (sh j.toNat))), ar_I (q 25) cI 20 u.cc, ar_I (q 26) cI 20 u.mi, ar_I (q 27) cI 20 u.tc, ar_I (q 28) cI 20 u.ta, ar_I (q 29) cI 20 u.rc, ar_I (q 30) cI 20 (va_up u.nc t.toNat (u.nc t.toNat + 1)), ar_I (q 31) cI 12000 (va_up u.no (600 * t + u.nc t.toNat).toNat c), ar_I (q 32) cI 25600 u.tk, ar_I (q 33) cI 20480 u.rs, ar_I (q 20) cI 3600 u.wt, ar_I (q 16) cI 8 u.st, ar_I (q 14) cI 8 wa, ar_I (q 5) cI 4 sw, ar_I (q 6) cI 4 sh, ar_I (q 17) cI 2312 T.1, ar_I (q 18) cI 2312 T.2.1, ar_I (q 19) cI 2312 T.2.2]) [17, 0, 1, 2, 3, 4, 5, 18, 6, 7, 8, 19, 9, 10, 11, 12, 13, 14, 15, 16] rfl rfl ?_
                  refine vv_goto (tgt := 479) d_MO_walk_461 (by decide) ?_
                  refine vv_goto (tgt := 117) d_MO_walk_479 (by decide) ?_
                  have e9 : mw_do K le t c x y w h 1 s k u = (k, u.wt, u.cc, u.mi, u.tc, u.ta, u.rc, (va_up u.nc t.toNat (u.nc t.toNat + 1)), (va_up u.no (600 * t + u.nc t.toNat).toNat c), u.tk, u.rs, u.st) := by unfold mw_do mw_rest; rw [if_neg (by omega), if_pos c445, if_neg hle2]; rfl
                  rw [e9] at hmw hms hgo
                  exact ih _ _ _ _ _ _ _ _ _ _ (by have h8 := hms; omega) hmw hgo
            · skip
              refine vv_iload d_MO_walk_254 rfl ?_
              refine vv_bipush d_MO_walk_256 (by decide +kernel) ?_
              refine vv_isub d_MO_walk_258 ?_
              refine vv_istore d_MO_walk_259 rfl (by decide) ?_
              dsimp only [List.set]
              refine vv_iload d_MO_walk_261 rfl ?_
              refine vv_if_ne (tgt := 271) d_MO_walk_263 (by decide) (by omega) (fun c263 => ?_) (fun c263 => ?_)
              · skip
                refine vv_iload d_MO_walk_271 rfl ?_
                refine vv_iload d_MO_walk_273 rfl ?_
                refine vv_isub d_MO_walk_275 ?_
                refine vv_aload_n d_MO_walk_276 rfl ?_
                refine vv_get d_MO_walk_277 0 rfl fl_MO_89 rfl ?_
                refine vv_isub d_MO_walk_280 ?_
                refine vv_istore d_MO_walk_281 rfl (by decide) ?_
                dsimp only [List.set]
                refine vv_aload_n d_MO_walk_283 rfl ?_
                refine vv_get d_MO_walk_284 0 rfl fl_MO_62 rfl ?_
                refine vv_iload_n d_MO_walk_287 rfl ?_
                refine vv_dup2 d_MO_walk_288 rfl rfl ?_
                refine vv_iald d_MO_walk_289 3 0 rfl rfl (by omega) ?_
                refine vv_iconst d_MO_walk_290 ?_
                refine vv_iadd d_MO_walk_291 ?_
                refine vv_iast hw d_MO_walk_292 3 0 rfl rfl (by omega) ?_
                dsimp only [List.set]
                refine vv_aload_n d_MO_walk_293 rfl ?_
                refine vv_get d_MO_walk_294 0 rfl fl_MO_65 rfl ?_
                refine vv_iload_n d_MO_walk_297 rfl ?_
                refine vv_dup2 d_MO_walk_298 rfl rfl ?_
                refine vv_iald d_MO_walk_299 4 0 rfl rfl (by omega) ?_
                refine vv_iload d_MO_walk_300 rfl ?_
                refine vv_if_ne (tgt := 310) d_MO_walk_302 (by decide) (by omega) (fun c302 => ?_) (fun c302 => ?_)
                · skip
                  refine vv_iload d_MO_walk_310 rfl ?_
                  refine vv_iadd d_MO_walk_312 ?_
                  refine vv_iast hw d_MO_walk_313 4 0 rfl rfl (by omega) ?_
                  dsimp only [List.set]
                  refine vv_iload d_MO_walk_314 rfl ?_
                  refine vv_if_le (tgt := 395) d_MO_walk_316 (by decide) (by omega) (fun c316 => ?_) (fun c316 => ?_)
                  · skip
                    refine vv_aload_n d_MO_walk_395 rfl ?_
                    refine vv_iload_n d_MO_walk_396 rfl ?_
                    refine vv_iload d_MO_walk_397 rfl ?_
                    refine vv_iload d_MO_walk_399 rfl ?_
                    refine vv_iload d_MO_walk_401 rfl ?_
                    refine vv_if_ne (tgt := 411) d_MO_walk_403 (by decide) (by omega) (fun c403 => ?_) (fun c403 => ?_)
                    · skip
                      refine vv_iload d_MO_walk_411 rfl ?_
                      refine vv_iload d_MO_walk_413 rfl ?_
                      refine vv_if_ne (tgt := 423) d_MO_walk_415 (by decide) (by omega) (fun c415 => ?_) (fun c415 => ?_)
                      · skip
                        refine vv_iload d_MO_walk_423 rfl ?_
                        refine vv_iconst d_MO_walk_425 ?_
                        refine vv_iload d_MO_walk_426 rfl ?_
                        refine vv_isub d_MO_walk_428 ?_
                        refine vv_iload d_MO_walk_429 rfl ?_
                        refine vv_iconst d_MO_walk_431 ?_
                        refine vv_isub d_MO_walk_432 ?_
                        refine vv_nV hw (wc := [ob_MO m q K S le cd nS nP rn dn, ar_I (q 20) cI 3600 u.wt]) (wr := [ar_I (q 23) cI 20 (va_up of t.toNat j), ar_I (q 24) cI 20 (va_up fw t.toNat (wy T S (sw j.toNat) (sh j.toNat))), ar_I (q 25) cI 20 (va_up u.cc t.toNat (u.cc t.toNat + 1)), ar_I (q 26) cI 20 (va_up u.mi t.toNat (u.mi t.toNat + w)), ar_I (q 27) cI 20 u.tc, ar_I (q 28) cI 20 u.ta, ar_I (q 29) cI 20 u.rc, ar_I (q 30) cI 20 (va_up u.nc t.toNat (u.nc t.toNat + 1)), ar_I (q 31) cI 12000 (va_up u.no (600 * t + u.nc t.toNat).toNat c), ar_I (q 32) cI 25600 u.tk, ar_I (q 33) cI 20480 u.rs, ar_I (q 16) cI 8 u.st, ar_I (q 14) cI 8 wa, ar_I (q 5) cI 4 sw, ar_I (q 6) cI 4 sh, ar_I (q 17) cI 2312 T.1, ar_I (q 18) cI 2312 T.2.1, ar_I (q 19) cI 2312 T.2.2]) [] (c_MO_push (cx_l X) (cx_D X) m q K S le cd nS nP rn dn cI (k : Int) x y w (c - 16) (1 - 1) (s - 1) u.wt (by omega)) lk_MO_140 d_MO_walk_433 rfl (rc_at 0 rfl rfl rfl) [0, 12] [1, 2, 3, 4, 5, 6, 7, 8, 9, 10, 11, 13, 14, 15, 16, 17, 18, 19] ⟨rfl, rfl⟩ ⟨rfl, rfl, by decide⟩ [0] rfl ⟨⟨by decide, by decide⟩, ⟨by decide, by decide⟩, Nat.le_of_ble_eq_true rfl⟩ ⟨rfl, rfl⟩ ?_
                        rintro v w1 p1 t1 ⟨rfl, rfl, rfl⟩
                        dsimp only [Option.toList, List.cons_append, List.nil_append, List.append_nil]
                        refine vv_sub (ws' := [ob_MO m q K S le cd nS nP rn dn, ar_I (q 23) cI 20 (va_up of t.toNat j), ar_I (q 24) cI 20 (va_up fw t.toNat (wy T S (sw j.toNat) (sh j.toNat))), ar_I (q 25) cI 20 (va_up u.cc t.toNat (u.cc t.toNat + 1)), ar_I (q 26) cI 20 (va_up u.mi t.toNat (u.mi t.toNat + w)), ar_I (q 27) cI 20 u.tc, ar_I (q 28) cI 20 u.ta, ar_I (q 29) cI 20 u.rc, ar_I (q 30) cI 20 (va_up u.nc t.toNat (u.nc t.toNat + 1)), ar_I (q 31) cI 12000 (va_up u.no (600 * t + u.nc t.toNat).toNat c), ar_I (q 32) cI 25600 u.tk, ar_I (q 33) cI 20480 u.rs, ar_I (q 20) cI 3600 (ps (k : Int) x y w (c - 16) (1 - 1) (s - 1) u.wt), ar_I (q 16) cI 8 u.st, ar_I (q 14) cI 8 wa, ar_I (q 5) cI 4 sw, ar_I (q 6) cI 4 sh, ar_I (q 17) cI 2312 T.1, ar_I (q 18) cI 2312 T.2.1, ar_I (q 19) cI 2312 T.2.2]) [18, 0, 1, 2, 3, 4, 5, 6, 7, 8, 9, 10, 19, 11, 12, 13, 14, 15, 16, 17] rfl rfl ?_
                        refine vv_iinc d_MO_walk_436 rfl rfl (by decide) ?_
                        dsimp only [List.set]
                        refine vv_goto (tgt := 479) d_MO_walk_439 (by decide) ?_
                        refine vv_goto (tgt := 117) d_MO_walk_479 (by decide) ?_
                        have e9 : mw_do K le t c x y w h 1 s k u = (k + 1, (ps (k : Int) x y w (c - 16) (1 - 1) (s - 1) u.wt), (va_up u.cc t.toNat (u.cc t.toNat + 1)), (va_up u.mi t.toNat (u.mi t.toNat + w)), u.tc, u.ta, u.rc, (va_up u.nc t.toNat (u.nc t.toNat + 1)), (va_up u.no (600 * t + u.nc t.toNat).toNat c), u.tk, u.rs, u.st) := by unfold mw_do; rw [if_pos (by omega)]; unfold mw_cut mw_two; rw [if_neg (show ¬ 0 < mw_r K (c - 16) w h 1 by show ¬ 0 < (h - (c - 16) - K); omega)]; rfl
                        rw [e9] at hmw hms hgo
                        exact ih _ _ _ _ _ _ _ _ _ _ (by have h8 := hms; omega) hmw hgo
                      · exfalso; omega
                    · exfalso; omega
                  · skip
                    refine vv_aload_n d_MO_walk_319 rfl ?_
                    refine vv_iload_n d_MO_walk_320 rfl ?_
                    refine vv_iload d_MO_walk_321 rfl ?_
                    refine vv_if_ne (tgt := 339) d_MO_walk_323 (by decide) (by omega) (fun c323 => ?_) (fun c323 => ?_)
                    · skip
                      refine vv_iload d_MO_walk_339 rfl ?_
                      refine vv_iload d_MO_walk_341 rfl ?_
                      refine vv_if_ne (tgt := 351) d_MO_walk_343 (by decide) (by omega) (fun c343 => ?_) (fun c343 => ?_)
                      · skip
                        refine vv_iload d_MO_walk_351 rfl ?_
                        refine vv_iload d_MO_walk_353 rfl ?_
                        refine vv_iadd d_MO_walk_355 ?_
                        refine vv_aload_n d_MO_walk_356 rfl ?_
                        refine vv_get d_MO_walk_357 0 rfl fl_MO_89 rfl ?_
                        refine vv_iadd d_MO_walk_360 ?_
                        refine vv_iload d_MO_walk_361 rfl ?_
                        refine vv_if_ne (tgt := 371) d_MO_walk_363 (by decide) (by omega) (fun c363 => ?_) (fun c363 => ?_)
                        · skip
                          refine vv_iload d_MO_walk_371 rfl ?_
                          refine vv_iload d_MO_walk_373 rfl ?_
                          refine vv_if_ne (tgt := 383) d_MO_walk_375 (by decide) (by omega) (fun c375 => ?_) (fun c375 => ?_)
                          · skip
                            refine vv_iload d_MO_walk_383 rfl ?_
                            refine vv_iload d_MO_walk_385 rfl ?_
                            refine vv_iload d_MO_walk_387 rfl ?_
                            refine vv_nV hw (wc := [ob_MO m q K S le cd nS nP rn dn, ar_I (q 20) cI 3600 u.wt]) (wr := [ar_I (q 23) cI 20 (va_up of t.toNat j), ar_I (q 24) cI 20 (va_up fw t.toNat (wy T S (sw j.toNat) (sh j.toNat))), ar_I (q 25) cI 20 (va_up u.cc t.toNat (u.cc t.toNat + 1)), ar_I (q 26) cI 20 (va_up u.mi t.toNat (u.mi t.toNat + w)), ar_I (q 27) cI 20 u.tc, ar_I (q 28) cI 20 u.ta, ar_I (q 29) cI 20 u.rc, ar_I (q 30) cI 20 (va_up u.nc t.toNat (u.nc t.toNat + 1)), ar_I (q 31) cI 12000 (va_up u.no (600 * t + u.nc t.toNat).toNat c), ar_I (q 32) cI 25600 u.tk, ar_I (q 33) cI 20480 u.rs, ar_I (q 16) cI 8 u.st, ar_I (q 14) cI 8 wa, ar_I (q 5) cI 4 sw, ar_I (q 6) cI 4 sh, ar_I (q 17) cI 2312 T.1, ar_I (q 18) cI 2312 T.2.1, ar_I (q 19) cI 2312 T.2.2]) [] (c_MO_push (cx_l X) (cx_D X) m q K S le cd nS nP rn dn cI (k : Int) x (y + (c - 16) + K) w (h - (c - 16) - K) 1 s u.wt (by omega)) lk_MO_140 d_MO_walk_389 rfl (rc_at 0 rfl rfl rfl) [0, 12] [1, 2, 3, 4, 5, 6, 7, 8, 9, 10, 11, 13, 14, 15, 16, 17, 18, 19] ⟨rfl, rfl⟩ ⟨rfl, rfl, by decide⟩ [0] rfl ⟨⟨by decide, by decide⟩, ⟨by decide, by decide⟩, Nat.le_of_ble_eq_true rfl⟩ ⟨rfl, rfl⟩ ?_
                            rintro v w1 p1 t1 ⟨rfl, rfl, rfl⟩
                            dsimp only [Option.toList, List.cons_append, List.nil_append, List.append_nil]
                            refine vv_sub (ws' := [ob_MO m q K S le cd nS nP rn dn, ar_I (q 23) cI 20 (va_up of t.toNat j), ar_I (q 24) cI 20 (va_up fw t.toNat (wy T S (sw j.toNat) (sh j.toNat))), ar_I (q 25) cI 20 (va_up u.cc t.toNat (u.cc t.toNat + 1)), ar_I (q 26) cI 20 (va_up u.mi t.toNat (u.mi t.toNat + w)), ar_I (q 27) cI 20 u.tc, ar_I (q 28) cI 20 u.ta, ar_I (q 29) cI 20 u.rc, ar_I (q 30) cI 20 (va_up u.nc t.toNat (u.nc t.toNat + 1)), ar_I (q 31) cI 12000 (va_up u.no (600 * t + u.nc t.toNat).toNat c), ar_I (q 32) cI 25600 u.tk, ar_I (q 33) cI 20480 u.rs, ar_I (q 20) cI 3600 (ps (k : Int) x (y + (c - 16) + K) w (h - (c - 16) - K) 1 s u.wt), ar_I (q 16) cI 8 u.st, ar_I (q 14) cI 8 wa, ar_I (q 5) cI 4 sw, ar_I (q 6) cI 4 sh, ar_I (q 17) cI 2312 T.1, ar_I (q 18) cI 2312 T.2.1, ar_I (q 19) cI 2312 T.2.2]) [18, 0, 1, 2, 3, 4, 5, 6, 7, 8, 9, 10, 19, 11, 12, 13, 14, 15, 16, 17] rfl rfl ?_
                            refine vv_iinc d_MO_walk_392 rfl rfl (by decide) ?_
                            dsimp only [List.set]
                            refine vv_aload_n d_MO_walk_395 rfl ?_
                            refine vv_iload_n d_MO_walk_396 rfl ?_
                            refine vv_iload d_MO_walk_397 rfl ?_
                            refine vv_iload d_MO_walk_399 rfl ?_
                            refine vv_iload d_MO_walk_401 rfl ?_
                            refine vv_if_ne (tgt := 411) d_MO_walk_403 (by decide) (by omega) (fun c403 => ?_) (fun c403 => ?_)
                            · skip
                              refine vv_iload d_MO_walk_411 rfl ?_
                              refine vv_iload d_MO_walk_413 rfl ?_
                              refine vv_if_ne (tgt := 423) d_MO_walk_415 (by decide) (by omega) (fun c415 => ?_) (fun c415 => ?_)
                              · skip
                                refine vv_iload d_MO_walk_423 rfl ?_
                                refine vv_iconst d_MO_walk_425 ?_
                                refine vv_iload d_MO_walk_426 rfl ?_
                                refine vv_isub d_MO_walk_428 ?_
                                refine vv_iload d_MO_walk_429 rfl ?_
                                refine vv_iconst d_MO_walk_431 ?_
                                refine vv_isub d_MO_walk_432 ?_
                                refine vv_nV hw (wc := [ob_MO m q K S le cd nS nP rn dn, ar_I (q 20) cI 3600 (ps (k : Int) x (y + (c - 16) + K) w (h - (c - 16) - K) 1 s u.wt)]) (wr := [ar_I (q 23) cI 20 (va_up of t.toNat j), ar_I (q 24) cI 20 (va_up fw t.toNat (wy T S (sw j.toNat) (sh j.toNat))), ar_I (q 25) cI 20 (va_up u.cc t.toNat (u.cc t.toNat + 1)), ar_I (q 26) cI 20 (va_up u.mi t.toNat (u.mi t.toNat + w)), ar_I (q 27) cI 20 u.tc, ar_I (q 28) cI 20 u.ta, ar_I (q 29) cI 20 u.rc, ar_I (q 30) cI 20 (va_up u.nc t.toNat (u.nc t.toNat + 1)), ar_I (q 31) cI 12000 (va_up u.no (600 * t + u.nc t.toNat).toNat c), ar_I (q 32) cI 25600 u.tk, ar_I (q 33) cI 20480 u.rs, ar_I (q 16) cI 8 u.st, ar_I (q 14) cI 8 wa, ar_I (q 5) cI 4 sw, ar_I (q 6) cI 4 sh, ar_I (q 17) cI 2312 T.1, ar_I (q 18) cI 2312 T.2.1, ar_I (q 19) cI 2312 T.2.2]) [] (c_MO_push (cx_l X) (cx_D X) m q K S le cd nS nP rn dn cI ((k : Int) + 1) x y w (c - 16) (1 - 1) (s - 1) (ps (k : Int) x (y + (c - 16) + K) w (h - (c - 16) - K) 1 s u.wt) (by omega)) lk_MO_140 d_MO_walk_433 rfl (rc_at 0 rfl rfl rfl) [0, 12] [1, 2, 3, 4, 5, 6, 7, 8, 9, 10, 11, 13, 14, 15, 16, 17, 18, 19] ⟨rfl, rfl⟩ ⟨rfl, rfl, by decide⟩ [0] rfl ⟨⟨by decide, by decide⟩, ⟨by decide, by decide⟩, Nat.le_of_ble_eq_true rfl⟩ ⟨rfl, rfl⟩ ?_
                                rintro v w1 p1 t1 ⟨rfl, rfl, rfl⟩
                                dsimp only [Option.toList, List.cons_append, List.nil_append, List.append_nil]
                                refine vv_sub (ws' := [ob_MO m q K S le cd nS nP rn dn, ar_I (q 23) cI 20 (va_up of t.toNat j), ar_I (q 24) cI 20 (va_up fw t.toNat (wy T S (sw j.toNat) (sh j.toNat))), ar_I (q 25) cI 20 (va_up u.cc t.toNat (u.cc t.toNat + 1)), ar_I (q 26) cI 20 (va_up u.mi t.toNat (u.mi t.toNat + w)), ar_I (q 27) cI 20 u.tc, ar_I (q 28) cI 20 u.ta, ar_I (q 29) cI 20 u.rc, ar_I (q 30) cI 20 (va_up u.nc t.toNat (u.nc t.toNat + 1)), ar_I (q 31) cI 12000 (va_up u.no (600 * t + u.nc t.toNat).toNat c), ar_I (q 32) cI 25600 u.tk, ar_I (q 33) cI 20480 u.rs, ar_I (q 20) cI 3600 (ps ((k : Int) + 1) x y w (c - 16) (1 - 1) (s - 1) (ps (k : Int) x (y + (c - 16) + K) w (h - (c - 16) - K) 1 s u.wt)), ar_I (q 16) cI 8 u.st, ar_I (q 14) cI 8 wa, ar_I (q 5) cI 4 sw, ar_I (q 6) cI 4 sh, ar_I (q 17) cI 2312 T.1, ar_I (q 18) cI 2312 T.2.1, ar_I (q 19) cI 2312 T.2.2]) [18, 0, 1, 2, 3, 4, 5, 6, 7, 8, 9, 10, 19, 11, 12, 13, 14, 15, 16, 17] rfl rfl ?_
                                refine vv_iinc d_MO_walk_436 rfl rfl (by decide) ?_
                                dsimp only [List.set]
                                refine vv_goto (tgt := 479) d_MO_walk_439 (by decide) ?_
                                refine vv_goto (tgt := 117) d_MO_walk_479 (by decide) ?_
                                have e9 : mw_do K le t c x y w h 1 s k u = (k + 1 + 1, (ps ((k : Int) + 1) x y w (c - 16) (1 - 1) (s - 1) (ps (k : Int) x (y + (c - 16) + K) w (h - (c - 16) - K) 1 s u.wt)), (va_up u.cc t.toNat (u.cc t.toNat + 1)), (va_up u.mi t.toNat (u.mi t.toNat + w)), u.tc, u.ta, u.rc, (va_up u.nc t.toNat (u.nc t.toNat + 1)), (va_up u.no (600 * t + u.nc t.toNat).toNat c), u.tk, u.rs, u.st) := by unfold mw_do; rw [if_pos (by omega)]; unfold mw_cut mw_two; rw [if_pos (show 0 < mw_r K (c - 16) w h 1 by show 0 < (h - (c - 16) - K); omega)]; rfl
                                rw [e9] at hmw hms hgo
                                exact ih _ _ _ _ _ _ _ _ _ _ (by have h8 := hms; omega) hmw hgo
                              · exfalso; omega
                            · exfalso; omega
                          · exfalso; omega
                        · exfalso; omega
                      · exfalso; omega
                    · exfalso; omega
                · exfalso; omega
              · exfalso; omega
  have loop0 : ∀ n i : Nat, i + n = 8 → ∀ g : Nat → Int, cp u0.st wa i = g → VV X (b_MO_walk, 13, "SheetTreesModel", rm_2) (cq X ([ob_MO m q K S le cd nS nP rn dn, ar_I (q 23) cI 20 of, ar_I (q 24) cI 20 fw, ar_I (q 25) cI 20 u0.cc, ar_I (q 26) cI 20 u0.mi, ar_I (q 27) cI 20 u0.tc, ar_I (q 28) cI 20 u0.ta, ar_I (q 29) cI 20 u0.rc, ar_I (q 30) cI 20 u0.nc, ar_I (q 31) cI 12000 u0.no, ar_I (q 32) cI 25600 u0.tk, ar_I (q 33) cI 20480 u0.rs, ar_I (q 20) cI 3600 u0.wt, ar_I (q 16) cI 8 u0.st, ar_I (q 14) cI 8 wa, ar_I (q 5) cI 4 sw, ar_I (q 6) cI 4 sh, ar_I (q 17) cI 2312 T.1, ar_I (q 18) cI 2312 T.2.1, ar_I (q 19) cI 2312 T.2.2] ++ []) sz (fun r w1 p1 _ => r = none ∧ w1 = [ob_MO m q K S le cd nS nP rn dn, ar_I (q 23) cI 20 (va_up of t.toNat j), ar_I (q 24) cI 20 (va_up fw t.toNat (wy T S (sw j.toNat) (sh j.toNat))), ar_I (q 25) cI 20 (mw_all T K le S t (sw j.toNat) (sh j.toNat) wa u0).cc, ar_I (q 26) cI 20 (mw_all T K le S t (sw j.toNat) (sh j.toNat) wa u0).mi, ar_I (q 27) cI 20 (mw_all T K le S t (sw j.toNat) (sh j.toNat) wa u0).tc, ar_I (q 28) cI 20 (mw_all T K le S t (sw j.toNat) (sh j.toNat) wa u0).ta, ar_I (q 29) cI 20 (mw_all T K le S t (sw j.toNat) (sh j.toNat) wa u0).rc, ar_I (q 30) cI 20 (mw_all T K le S t (sw j.toNat) (sh j.toNat) wa u0).nc, ar_I (q 31) cI 12000 (mw_all T K le S t (sw j.toNat) (sh j.toNat) wa u0).no, ar_I (q 32) cI 25600 (mw_all T K le S t (sw j.toNat) (sh j.toNat) wa u0).tk, ar_I (q 33) cI 20480 (mw_all T K le S t (sw j.toNat) (sh j.toNat) wa u0).rs, ar_I (q 20) cI 3600 (mw_all T K le S t (sw j.toNat) (sh j.toNat) wa u0).wt, ar_I (q 16) cI 8 (mw_all T K le S t (sw j.toNat) (sh j.toNat) wa u0).st, ar_I (q 14) cI 8 wa, ar_I (q 5) cI 4 sw, ar_I (q 6) cI 4 sh, ar_I (q 17) cI 2312 T.1, ar_I (q 18) cI 2312 T.2.1, ar_I (q 19) cI 2312 T.2.2] ∧ p1 = []) rm_2) 0 0 [(cI, .int)] [ob_MO m q K S le cd nS nP rn dn, ar_I (q 23) cI 20 of, ar_I (q 24) cI 20 fw, ar_I (q 25) cI 20 u0.cc, ar_I (q 26) cI 20 u0.mi, ar_I (q 27) cI 20 u0.tc, ar_I (q 28) cI 20 u0.ta, ar_I (q 29) cI 20 u0.rc, ar_I (q 30) cI 20 u0.nc, ar_I (q 31) cI 12000 u0.no, ar_I (q 32) cI 25600 u0.tk, ar_I (q 33) cI 20480 u0.rs, ar_I (q 20) cI 3600 u0.wt, ar_I (q 16) cI 8 g, ar_I (q 14) cI 8 wa, ar_I (q 5) cI 4 sw, ar_I (q 6) cI 4 sh, ar_I (q 17) cI 2312 T.1, ar_I (q 18) cI 2312 T.2.1, ar_I (q 19) cI 2312 T.2.2] [] [some (.ref m), some (.int (iI j)), some (.int (iI t)), some (.int (iI (i : Int))), none, none, none, none, none, none, none, none, none] [] 2 := by
    intro n
    induction n with
    | zero =>
      intro i hi g hg
      have e : i = 8 := by omega
      subst e
      subst hg
      have hm0 := MWI_0 (T := T) (t := t) (u := u0) hS h1 h2 hwa
      refine vv_iload_n d_MO_walk_2 rfl ?_
      refine vv_bipush d_MO_walk_3 (by decide +kernel) ?_
      refine vv_icmp_ge (tgt := 26) d_MO_walk_5 (by decide) ⟨by omega, by omega⟩ (fun c5 => ?_) (fun c5 => ?_)
      · skip
        refine vv_aload_n d_MO_walk_26 rfl ?_
        refine vv_get d_MO_walk_27 0 rfl fl_MO_56 rfl ?_
        refine vv_iload_n d_MO_walk_30 rfl ?_
        refine vv_iload_n d_MO_walk_31 rfl ?_
        refine vv_iast hw d_MO_walk_32 1 0 rfl rfl (by omega) ?_
        dsimp only [List.set]
        refine vv_aload_n d_MO_walk_33 rfl ?_
        refine vv_get d_MO_walk_34 0 rfl fl_MO_59 rfl ?_
        refine vv_iload_n d_MO_walk_37 rfl ?_
        refine vv_aload_n d_MO_walk_38 rfl ?_
        refine vv_iload_n d_MO_walk_39 rfl ?_
        refine vv_pV (wc := [ob_MO m q K S le cd nS nP rn dn, ar_I (q 5) cI 4 sw, ar_I (q 6) cI 4 sh, ar_I (q 17) cI 2312 T.1, ar_I (q 18) cI 2312 T.2.1]) (plc := []) [.int (iI t), .ref (q 24)] (c_MO_wayOf (cx_l X) (cx_D X) m q K S le cd nS nP rn dn cI sw sh T j hj hS hT h1 h2) lk_MO_136 d_MO_walk_40 rfl (rc_at 0 rfl rfl rfl) [0, 15, 16, 17, 18] ⟨rfl, rfl, Or.inl rfl⟩ [0] rfl ⟨⟨by decide, by decide⟩, ⟨by decide, by decide⟩, Nat.le_of_ble_eq_true rfl⟩ ⟨rfl, rfl⟩ ?_
        intro v hv
        subst hv
        dsimp only [Option.toList, List.cons_append, List.nil_append, List.append_nil]
        refine vv_iast hw d_MO_walk_43 2 0 rfl rfl (by omega) ?_
        dsimp only [List.set]
        refine vv_aload_n d_MO_walk_44 rfl ?_
        refine vv_get d_MO_walk_45 0 rfl fl_MO_62 rfl ?_
        refine vv_iload_n d_MO_walk_48 rfl ?_
        refine vv_iconst d_MO_walk_49 ?_
        refine vv_iast hw d_MO_walk_50 3 0 rfl rfl (by omega) ?_
        dsimp only [List.set]
        refine vv_aload_n d_MO_walk_51 rfl ?_
        refine vv_get d_MO_walk_52 0 rfl fl_MO_65 rfl ?_
        refine vv_iload_n d_MO_walk_55 rfl ?_
        refine vv_iconst d_MO_walk_56 ?_
        refine vv_iast hw d_MO_walk_57 4 0 rfl rfl (by omega) ?_
        dsimp only [List.set]
        refine vv_aload_n d_MO_walk_58 rfl ?_
        refine vv_get d_MO_walk_59 0 rfl fl_MO_68 rfl ?_
        refine vv_iload_n d_MO_walk_62 rfl ?_
        refine vv_iconst d_MO_walk_63 ?_
        refine vv_iast hw d_MO_walk_64 5 0 rfl rfl (by omega) ?_
        dsimp only [List.set]
        refine vv_aload_n d_MO_walk_65 rfl ?_
        refine vv_get d_MO_walk_66 0 rfl fl_MO_71 rfl ?_
        refine vv_iload_n d_MO_walk_69 rfl ?_
        refine vv_iconst d_MO_walk_70 ?_
        refine vv_iast hw d_MO_walk_71 6 0 rfl rfl (by omega) ?_
        dsimp only [List.set]
        refine vv_aload_n d_MO_walk_72 rfl ?_
        refine vv_get d_MO_walk_73 0 rfl fl_MO_74 rfl ?_
        refine vv_iload_n d_MO_walk_76 rfl ?_
        refine vv_iconst d_MO_walk_77 ?_
        refine vv_iast hw d_MO_walk_78 7 0 rfl rfl (by omega) ?_
        dsimp only [List.set]
        refine vv_aload_n d_MO_walk_79 rfl ?_
        refine vv_get d_MO_walk_80 0 rfl fl_MO_77 rfl ?_
        refine vv_iload_n d_MO_walk_83 rfl ?_
        refine vv_iconst d_MO_walk_84 ?_
        refine vv_iast hw d_MO_walk_85 8 0 rfl rfl (by omega) ?_
        dsimp only [List.set]
        refine vv_aload_n d_MO_walk_86 rfl ?_
        refine vv_iconst d_MO_walk_87 ?_
        refine vv_iconst d_MO_walk_88 ?_
        refine vv_iconst d_MO_walk_89 ?_
        refine vv_aload_n d_MO_walk_90 rfl ?_
        refine vv_get d_MO_walk_91 0 rfl fl_MO_7 rfl ?_
        refine vv_iload_n d_MO_walk_94 rfl ?_
        refine vv_iald d_MO_walk_95 15 0 rfl rfl (by omega) ?_
        refine vv_aload_n d_MO_walk_96 rfl ?_
        refine vv_get d_MO_walk_97 0 rfl fl_MO_13 rfl ?_
        refine vv_iload_n d_MO_walk_100 rfl ?_
        refine vv_iald d_MO_walk_101 16 0 rfl rfl (by omega) ?_
        refine vv_aload_n d_MO_walk_102 rfl ?_
        refine vv_get d_MO_walk_103 0 rfl fl_MO_59 rfl ?_
        refine vv_iload_n d_MO_walk_106 rfl ?_
        refine vv_iald d_MO_walk_107 2 0 rfl rfl (by omega) ?_
        rw [va_up_self]
        refine vv_aload_n d_MO_walk_108 rfl ?_
        refine vv_get d_MO_walk_109 0 rfl fl_MO_93 rfl ?_
        refine vv_nV hw (wc := [ob_MO m q K S le cd nS nP rn dn, ar_I (q 20) cI 3600 u0.wt]) (wr := [ar_I (q 23) cI 20 (va_up of t.toNat j), ar_I (q 24) cI 20 (va_up fw t.toNat (wy T S (sw j.toNat) (sh j.toNat))), ar_I (q 25) cI 20 (va_up u0.cc t.toNat 0), ar_I (q 26) cI 20 (va_up u0.mi t.toNat 0), ar_I (q 27) cI 20 (va_up u0.tc t.toNat 0), ar_I (q 28) cI 20 (va_up u0.ta t.toNat 0), ar_I (q 29) cI 20 (va_up u0.rc t.toNat 0), ar_I (q 30) cI 20 (va_up u0.nc t.toNat 0), ar_I (q 31) cI 12000 u0.no, ar_I (q 32) cI 25600 u0.tk, ar_I (q 33) cI 20480 u0.rs, ar_I (q 16) cI 8 (cp u0.st wa 8), ar_I (q 14) cI 8 wa, ar_I (q 5) cI 4 sw, ar_I (q 6) cI 4 sh, ar_I (q 17) cI 2312 T.1, ar_I (q 18) cI 2312 T.2.1, ar_I (q 19) cI 2312 T.2.2]) [] (c_MO_push (cx_l X) (cx_D X) m q K S le cd nS nP rn dn cI 0 0 0 (sw j.toNat) (sh j.toNat) (wy T S (sw j.toNat) (sh j.toNat)) S u0.wt (by omega)) lk_MO_140 d_MO_walk_112 rfl (rc_at 0 rfl rfl rfl) [0, 12] [1, 2, 3, 4, 5, 6, 7, 8, 9, 10, 11, 13, 14, 15, 16, 17, 18, 19] ⟨rfl, rfl⟩ ⟨rfl, rfl, by decide⟩ [0] rfl ⟨⟨by decide, by decide⟩, ⟨by decide, by decide⟩, Nat.le_of_ble_eq_true rfl⟩ ⟨rfl, rfl⟩ ?_
        rintro v w1 p1 t1 ⟨rfl, rfl, rfl⟩
        dsimp only [Option.toList, List.cons_append, List.nil_append, List.append_nil]
        refine vv_sub (ws' := [ob_MO m q K S le cd nS nP rn dn, ar_I (q 23) cI 20 (va_up of t.toNat j), ar_I (q 24) cI 20 (va_up fw t.toNat (wy T S (sw j.toNat) (sh j.toNat))), ar_I (q 25) cI 20 (va_up u0.cc t.toNat 0), ar_I (q 26) cI 20 (va_up u0.mi t.toNat 0), ar_I (q 27) cI 20 (va_up u0.tc t.toNat 0), ar_I (q 28) cI 20 (va_up u0.ta t.toNat 0), ar_I (q 29) cI 20 (va_up u0.rc t.toNat 0), ar_I (q 30) cI 20 (va_up u0.nc t.toNat 0), ar_I (q 31) cI 12000 u0.no, ar_I (q 32) cI 25600 u0.tk, ar_I (q 33) cI 20480 u0.rs, ar_I (q 20) cI 3600 (ps 0 0 0 (sw j.toNat) (sh j.toNat) (wy T S (sw j.toNat) (sh j.toNat)) S u0.wt), ar_I (q 16) cI 8 (cp u0.st wa 8), ar_I (q 14) cI 8 wa, ar_I (q 5) cI 4 sw, ar_I (q 6) cI 4 sh, ar_I (q 17) cI 2312 T.1, ar_I (q 18) cI 2312 T.2.1, ar_I (q 19) cI 2312 T.2.2]) [18, 0, 1, 2, 3, 4, 5, 6, 7, 8, 9, 10, 19, 11, 12, 13, 14, 15, 16, 17] rfl rfl ?_
        refine vv_iconst d_MO_walk_115 ?_
        refine vv_istore_n d_MO_walk_116 rfl (by decide) ?_
        dsimp only [List.set]
        exact loop 512 (mw_0 T S t (sw j.toNat) (sh j.toNat) wa u0) _ _ _ _ _ _ _ _ _ (by have h8 := hm0.2; omega) hm0.1 rfl
      · exfalso; omega
    | succ n ih =>
      intro i hi g hg
      have h9 := ih (i + 1) (by omega) (va_up g i (wa i)) (by rw [← hg]; rfl)
      refine vv_iload_n d_MO_walk_2 rfl ?_
      refine vv_bipush d_MO_walk_3 (by decide +kernel) ?_
      refine vv_icmp_ge (tgt := 26) d_MO_walk_5 (by decide) ⟨by omega, by omega⟩ (fun c5 => ?_) (fun c5 => ?_)
      · exfalso; omega
      · skip
        refine vv_aload_n d_MO_walk_8 rfl ?_
        refine vv_get d_MO_walk_9 0 rfl fl_MO_41 rfl ?_
        refine vv_iload_n d_MO_walk_12 rfl ?_
        refine vv_aload_n d_MO_walk_13 rfl ?_
        refine vv_get d_MO_walk_14 0 rfl fl_MO_35 rfl ?_
        refine vv_iload_n d_MO_walk_17 rfl ?_
        refine vv_iald d_MO_walk_18 14 0 rfl rfl (by omega) ?_
        refine vv_iast hw d_MO_walk_19 13 0 rfl rfl (by omega) ?_
        dsimp only [List.set]
        refine vv_iinc d_MO_walk_20 rfl rfl (by decide) ?_
        dsimp only [List.set]
        refine vv_goto (tgt := 2) d_MO_walk_23 (by decide) ?_
        simp only [Int.toNat_natCast]
        exact h9
  show VV X (b_MO_walk, 13, "SheetTreesModel", rm_2) _ 0 0 [(cI, .int)] [ob_MO m q K S le cd nS nP rn dn, ar_I (q 23) cI 20 of, ar_I (q 24) cI 20 fw, ar_I (q 25) cI 20 u0.cc, ar_I (q 26) cI 20 u0.mi, ar_I (q 27) cI 20 u0.tc, ar_I (q 28) cI 20 u0.ta, ar_I (q 29) cI 20 u0.rc, ar_I (q 30) cI 20 u0.nc, ar_I (q 31) cI 12000 u0.no, ar_I (q 32) cI 25600 u0.tk, ar_I (q 33) cI 20480 u0.rs, ar_I (q 20) cI 3600 u0.wt, ar_I (q 16) cI 8 u0.st, ar_I (q 14) cI 8 wa, ar_I (q 5) cI 4 sw, ar_I (q 6) cI 4 sh, ar_I (q 17) cI 2312 T.1, ar_I (q 18) cI 2312 T.2.1, ar_I (q 19) cI 2312 T.2.2] [] [some (.ref m), some (.int (iI j)), some (.int (iI t)), none, none, none, none, none, none, none, none, none, none] [] 0
  refine vv_iconst d_MO_walk_0 ?_
  refine vv_istore_n d_MO_walk_1 rfl (by decide) ?_
  dsimp only [List.set]
  exact loop0 8 0 (by omega) u0.st rfl
