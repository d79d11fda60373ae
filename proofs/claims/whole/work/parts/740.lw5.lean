/-! the law: its beginning -/
theorem df_ST : ∀ j, j < 15 → defaultValue (t_ST j) = vp_V [.int (iI 0), .int (iI 0), .null, .null, .null, .null, .null, .null, .null, .int (iI 0), .int (iI 0), .int (iI 0), .int (iI 0), .int (iI 0), .int (iI 0)] j := by
  rw [iI_0]
  intro j hj
  match j, hj with
  | 0, _ => rfl
  | 1, _ => rfl
  | 2, _ => rfl
  | 3, _ => rfl
  | 4, _ => rfl
  | 5, _ => rfl
  | 6, _ => rfl
  | 7, _ => rfl
  | 8, _ => rfl
  | 9, _ => rfl
  | 10, _ => rfl
  | 11, _ => rfl
  | 12, _ => rfl
  | 13, _ => rfl
  | 14, _ => rfl
  | z + 15, h => exact absurd h (by omega)
theorem df_MO : ∀ j, j < 34 → defaultValue (t_MO j) = vp_V [.int (iI 0), .int (iI 0), .int (iI 0), .int (iI 0), .int (iI 0), .null, .null, .null, .null, .int (iI 0), .null, .null, .null, .null, .null, .null, .null, .null, .null, .null, .null, .int (iI 0), .int (iI 0), .null, .null, .null, .null, .null, .null, .null, .null, .null, .null, .null] j := by
  rw [iI_0]
  intro j hj
  match j, hj with
  | 0, _ => rfl
  | 1, _ => rfl
  | 2, _ => rfl
  | 3, _ => rfl
  | 4, _ => rfl
  | 5, _ => rfl
  | 6, _ => rfl
  | 7, _ => rfl
  | 8, _ => rfl
  | 9, _ => rfl
  | 10, _ => rfl
  | 11, _ => rfl
  | 12, _ => rfl
  | 13, _ => rfl
  | 14, _ => rfl
  | 15, _ => rfl
  | 16, _ => rfl
  | 17, _ => rfl
  | 18, _ => rfl
  | 19, _ => rfl
  | 20, _ => rfl
  | 21, _ => rfl
  | 22, _ => rfl
  | 23, _ => rfl
  | 24, _ => rfl
  | 25, _ => rfl
  | 26, _ => rfl
  | 27, _ => rfl
  | 28, _ => rfl
  | 29, _ => rfl
  | 30, _ => rfl
  | 31, _ => rfl
  | 32, _ => rfl
  | 33, _ => rfl
  | z + 34, h => exact absurd h (by omega)
theorem cel_bd {g : Nat → Int} {N : Nat} {k : Int} (hg : ∀ j : Nat, -2147483648 ≤ g j ∧ g j < 2147483648) : -2147483648 ≤ cel g N k ∧ cel g N k < 2147483648 := by
  unfold cel
  split
  · exact hg _
  · omega
set_option maxHeartbeats 4000000 in
set_option maxRecDepth 100000 in
theorem law_go {X : cx_T} {Q : State → Prop} {RL : Room} {b N : Nat} {g : Nat → Int} {cI : ClassId} (hw : cx_w X) (hAB : ∀ q, cx_A X q → cx_B X q) (hfl : (cx_l X).flags = flags0) (hx : lx X b N g) (hF : 12 ≤ RL.frames ∧ 700 ≤ RL.locals) (hc : 73 + N ≤ RL.cells) (hs : 84026 + 6 * (N + 1) ≤ RL.slots) (hN : N < 2147483648) (hg : ∀ j : Nat, -2147483648 ≤ g j ∧ g j < 2147483648) (fin : ∀ (k n : Nat) (tys : List (ClassId × FieldType)) (ws pl : va_W) (lv : List (Option Value)), k ≤ RL.cells → n ≤ RL.slots → VV X (code, 8, "SheetTreesLaw", RL) Q k n tys ws pl lv [.int (iI 1)] 860) : VV X (code, 8, "SheetTreesLaw", RL) Q 0 0 [(cI, .int)] [] [] [some (.ref b), none, none, none, none, none, none, none] [] 0 := by
  have b0 := cel_bd (N := N) (k := 0) hg
  have b1 := cel_bd (N := N) (k := 1) hg
  have b2 := cel_bd (N := N) (k := 2) hg
  refine vv_newo hw hAB (ci := 5) (fs := [.int (iI 0), .int (iI 0), .null, .null, .null, .null, .null, .null, .null, .int (iI 0), .int (iI 0), .int (iI 0), .int (iI 0), .int (iI 0), .int (iI 0)]) d_LW_law_0 i_ST t_ST t_ST_ok (tb_at 61 rfl rfl) (tb_at 62 rfl rfl) (tb_at 45 rfl rfl) rfl df_ST ⟨by show 0 + 1 ≤ RL.cells; omega, by show 0 + 15 ≤ RL.slots; omega⟩ (fun x => ?_)
  refine vv_toW ?_
  dsimp only [List.cons_append, List.nil_append]
  refine vv_dup d_LW_law_3 rfl ?_
  refine vv_aload_n d_LW_law_4 rfl ?_
  refine vv_iconst d_LW_law_5 ?_
  refine vv_cell hx [.ref x, .ref x] (by omega) hN lk_LW_48 d_LW_law_6 rfl ⟨⟨by show _ ≤ RL.frames; exact Nat.le_trans (by decide) hF.1, by show _ ≤ RL.locals; exact Nat.le_trans (by decide) hF.2⟩, ⟨by show 1 + 0 ≤ RL.cells; omega, by show 15 + 0 ≤ RL.slots; omega⟩, Nat.le_of_ble_eq_true rfl⟩ ?_
  refine vv_aload_n d_LW_law_9 rfl ?_
  refine vv_iconst d_LW_law_10 ?_
  refine vv_cell hx [.int (iI (cel g N 0)), .ref x, .ref x] (by omega) hN lk_LW_48 d_LW_law_11 rfl ⟨⟨by show _ ≤ RL.frames; exact Nat.le_trans (by decide) hF.1, by show _ ≤ RL.locals; exact Nat.le_trans (by decide) hF.2⟩, ⟨by show 1 + 0 ≤ RL.cells; omega, by show 15 + 0 ≤ RL.slots; omega⟩, Nat.le_of_ble_eq_true rfl⟩ ?_
  refine vv_aload_n d_LW_law_14 rfl ?_
  refine vv_iconst d_LW_law_15 ?_
  refine vv_cell hx [.int (iI (cel g N 1)), .int (iI (cel g N 0)), .ref x, .ref x] (by omega) hN lk_LW_48 d_LW_law_16 rfl ⟨⟨by show _ ≤ RL.frames; exact Nat.le_trans (by decide) hF.1, by show _ ≤ RL.locals; exact Nat.le_trans (by decide) hF.2⟩, ⟨by show 1 + 0 ≤ RL.cells; omega, by show 15 + 0 ≤ RL.slots; omega⟩, Nat.le_of_ble_eq_true rfl⟩ ?_
  refine vv_xT hw (wc := [(x, .inr (5, [.int (iI 0), .int (iI 0), .null, .null, .null, .null, .null, .null, .null, .int (iI 0), .int (iI 0), .int (iI 0), .int (iI 0), .int (iI 0), .int (iI 0)]))]) (wr := []) [.ref x] (c_ST_init (cx_l X) (cx_D X) cI x (cel g N 0) (cel g N 1) (cel g N 2) b0 b1 b2) lk_LW_54 d_LW_law_19 rfl [0] [] ⟨rfl, rfl⟩ ⟨rfl, rfl, by decide⟩ [0] rfl ⟨⟨by show _ ≤ RL.frames; exact Nat.le_trans (by decide) hF.1, by show _ ≤ RL.locals; exact Nat.le_trans (by decide) hF.2⟩, ⟨by show 1 + 43 ≤ RL.cells; omega, by show 15 + 15132 ≤ RL.slots; omega⟩, Nat.le_of_ble_eq_true rfl⟩ ?_
  rintro v w1 p1 t1 ⟨rfl, qsh, qpa, qcu, qtk, qrs, qt, ql, qp, qo, qs, qc, cS, cP, cC, fS, fP, fC, L, f, aS, aP, aC, rfl, rfl, rfl, hPL, hAD, hfS, hfP, hfC⟩
  refine vv_split (ws := []) ?_
  dsimp only [Option.toList, List.cons_append, List.nil_append]
  refine vv_widen (k' := 44) (n' := 15147) (Nat.le_of_ble_eq_true rfl) (Nat.le_of_ble_eq_true rfl) ?_
  refine vv_astore_n d_LW_law_22 rfl (Nat.le_of_ble_eq_true rfl) ?_
  dsimp only [List.set]
  refine vv_newo hw hAB (ci := 6) (fs := [.int (iI 0), .int (iI 0), .int (iI 0), .int (iI 0), .int (iI 0), .null, .null, .null, .null, .int (iI 0), .null, .null, .null, .null, .null, .null, .null, .null, .null, .null, .null, .int (iI 0), .int (iI 0), .null, .null, .null, .null, .null, .null, .null, .null, .null, .null, .null]) d_LW_law_23 i_MO t_MO t_MO_ok (tb_at 651 rfl rfl) (tb_at 652 rfl rfl) (tb_at 52 rfl rfl) rfl df_MO ⟨by show 44 + 1 ≤ RL.cells; omega, by show 15147 + 34 ≤ RL.slots; omega⟩ (fun m => ?_)
  refine vv_rot ?_
  dsimp only [ow, List.cons_append, List.nil_append]
  refine vv_widen (k' := 45) (n' := 15181) (Nat.le_of_ble_eq_true rfl) (Nat.le_of_ble_eq_true rfl) ?_
  refine vv_dup d_LW_law_26 rfl ?_
  refine vv_aload_n d_LW_law_27 rfl ?_
  refine vv_iconst d_LW_law_28 ?_
  refine vv_cell hx [.ref m, .ref m] (by omega) hN lk_LW_48 d_LW_law_29 rfl ⟨⟨by show _ ≤ RL.frames; exact Nat.le_trans (by decide) hF.1, by show _ ≤ RL.locals; exact Nat.le_trans (by decide) hF.2⟩, ⟨by show 45 + 0 ≤ RL.cells; omega, by show 15181 + 0 ≤ RL.slots; omega⟩, Nat.le_of_ble_eq_true rfl⟩ ?_
  refine vv_aload_n d_LW_law_32 rfl ?_
  refine vv_iconst d_LW_law_33 ?_
  refine vv_cell hx [.int (iI (cel g N 0)), .ref m, .ref m] (by omega) hN lk_LW_48 d_LW_law_34 rfl ⟨⟨by show _ ≤ RL.frames; exact Nat.le_trans (by decide) hF.1, by show _ ≤ RL.locals; exact Nat.le_trans (by decide) hF.2⟩, ⟨by show 45 + 0 ≤ RL.cells; omega, by show 15181 + 0 ≤ RL.slots; omega⟩, Nat.le_of_ble_eq_true rfl⟩ ?_
  refine vv_aload_n d_LW_law_37 rfl ?_
  refine vv_iconst d_LW_law_38 ?_
  refine vv_cell hx [.int (iI (cel g N 1)), .int (iI (cel g N 0)), .ref m, .ref m] (by omega) hN lk_LW_48 d_LW_law_39 rfl ⟨⟨by show _ ≤ RL.frames; exact Nat.le_trans (by decide) hF.1, by show _ ≤ RL.locals; exact Nat.le_trans (by decide) hF.2⟩, ⟨by show 45 + 0 ≤ RL.cells; omega, by show 15181 + 0 ≤ RL.slots; omega⟩, Nat.le_of_ble_eq_true rfl⟩ ?_
  refine vv_xT hw (wc := [(m, .inr (6, [.int (iI 0), .int (iI 0), .int (iI 0), .int (iI 0), .int (iI 0), .null, .null, .null, .null, .int (iI 0), .null, .null, .null, .null, .null, .null, .null, .null, .null, .null, .null, .int (iI 0), .int (iI 0), .null, .null, .null, .null, .null, .null, .null, .null, .null, .null, .null]))]) (wr := ow x qsh qpa qcu qtk qrs qt ql qp qo qs qc cI cS cP cC fS fP fC (max 0 (min 3 (cel g N 0))) (max 1 (min 3 (cel g N 1))) (max 1 (min 16 (cel g N 2)))) [.ref m] (c_MO_init (cx_l X) (cx_D X) cI m (cel g N 0) (cel g N 1) (cel g N 2) b0 b1 b2) lk_LW_59 d_LW_law_42 rfl [12] [0, 1, 2, 3, 4, 5, 6, 7, 8, 9, 10, 11] ⟨rfl, rfl⟩ ⟨rfl, rfl, by decide⟩ [0] rfl ⟨⟨by show _ ≤ RL.frames; exact Nat.le_trans (by decide) hF.1, by show _ ≤ RL.locals; exact Nat.le_trans (by decide) hF.2⟩, ⟨by show 45 + 26 ≤ RL.cells; omega, by show 15181 + 68844 ≤ RL.slots; omega⟩, Nat.le_of_ble_eq_true rfl⟩ ?_
  rintro v w1 p1 t1 ⟨rfl, ⟨q, cZ, rfl, rfl⟩, rfl⟩
  dsimp only [ow, Option.toList, List.cons_append, List.nil_append, List.append_nil]
  refine vv_widen (k' := 71) (n' := 84025) (Nat.le_of_ble_eq_true rfl) (Nat.le_of_ble_eq_true rfl) ?_
  refine vv_astore_n d_LW_law_45 rfl (Nat.le_of_ble_eq_true rfl) ?_
  dsimp only [List.set]
  refine vv_iconst d_LW_law_46 ?_
  refine vv_newa (N := 1) (ty := .long) (a0 := (1, .inr (.inl (fun _ => 0)))) hw hAB d_LW_law_47 (tb_at 863 rfl rfl) rfl (fun cA => rfl) ⟨rfl, by decide⟩ (by decide) ⟨by show 71 + 1 ≤ RL.cells; omega, by show 84025 + 1 ≤ RL.slots; omega⟩ (fun qj cJ => ?_)
  refine vv_rot ?_
  dsimp only [List.cons_append, List.nil_append]
  refine vv_widen (k' := 72) (n' := 84026) (Nat.le_of_ble_eq_true rfl) (Nat.le_of_ble_eq_true rfl) ?_
  refine vv_astore_n d_LW_law_49 rfl (Nat.le_of_ble_eq_true rfl) ?_
  dsimp only [List.set]
  refine vv_iconst d_LW_law_50 ?_
  refine vv_istore d_LW_law_51 rfl (Nat.le_of_ble_eq_true rfl) ?_
  dsimp only [List.set]
  obtain ⟨S, eS⟩ : ∃ S : Nat, (max 1 (min 3 (cel g N 1))) = (S : Int) := ⟨(max 1 (min 3 (cel g N 1))).toNat, by omega⟩
  have eS2 : clp (cel g N 1) 1 3 = (S : Int) := eS
  rw [eS, eS2]
  refine vv_tys [0, 2, 3, 4, 6, 7] rfl ?_
  exact law_loop (a := (fun j => match j with | 0 => x | 1 => qsh | 2 => qpa | 3 => qcu | 4 => qtk | 5 => qrs | 6 => qt | 7 => ql | 8 => qp | 9 => qo | 10 => qs | 11 => qc | 12 => b | 13 => qj | _ => m)) (q := q) (c := (fun j => match j with | 0 => cI | 1 => cS | 2 => cP | 3 => cC | 4 => cZ | _ => cJ)) (fS := fS) (fP := fP) (fC := fC) (K := (max 0 (min 3 (cel g N 0)))) (S := S) (le := (max 1 (min 16 (cel g N 2)))) (L := L) (aS := aS) (aP := aP) (aC := aC) hw hfl hx hF ⟨by omega, by omega⟩ ⟨by omega, by omega⟩ ⟨by omega, by omega⟩ hAD hfS hfP hfC hN hg (k0 := 72) (n0 := 84026) (by omega) (by omega) fin ((N - 3) / 5) 0 3 (by omega) rfl 0 0 0 0 u_0 z1 z1 z1 z1 z1 z1 z1 z1 m_0 0 (fun _ => 0) f none none none LR_0 hPL
theorem vk_of {own tx : String} {k : Nat} {A : Array Value} {s : State} (h : (Cond.stringRef own k tx).before A s = true) : ∃ r : Nat, vk_R own k tx r s := by
  have h2 := h
  simp only [Cond.before, Cond.holds, Cond.value] at h2
  cases hf : s.vm.findClass own with
  | none => simp [hf] at h2
  | some c =>
    cases hr : s.resolvedAt? own k with
    | none => simp [hf, hr] at h2
    | some x =>
      cases x with
      | string a =>
        refine ⟨a, h, ?_⟩
        simp only [State.resolvedAt?, Option.bind_eq_bind, hf, Option.bind_some] at hr
        simp only [Term.eval, Option.bind_eq_bind, hf, Option.bind_some]
        cases hk : s.vm.classes[c]? with
        | none =>
          rw [hk] at hr
          cases hr
        | some kk =>
          rw [hk] at hr
          simp only [Option.bind_some] at hr ⊢
          rw [hr]
          rfl
      | _ => simp [hf, hr] at h2
theorem nc_of {A B : String} {a : Array Value} {s : State} (h : (Cond.not (Cond.castable A B)).before a s = true) : ∀ cA cB : ClassId, s.vm.findClass A = some cA → s.vm.findClass B = some cB → s.vm.assignable cA cB = false := fun cA cB h1 h2 => by
  cases q : s.vm.assignable cA cB with
  | false => rfl
  | true => simp [Cond.before, Cond.holds, Cond.value, h1, h2, q] at h
theorem tb_start {s : State} {A : Array Value} (h : ∀ w ∈ lw_tbl, w.before A s = true) : tb_ok s := fun w hw a => by
  have hk := (List.mem_filter.mp hw).2
  have h0 := h w (List.mem_filter.mp hw).1
  cases w with
  | fieldLinkNest x1 x2 x3 x4 x5 x6 => exact va_Nw.use rfl (va_Nw.of rfl h0)
  | methodLinkNest x1 x2 x3 x4 => exact va_Nw.use rfl (va_Nw.of rfl h0)
  | castable x1 x2 => exact va_Nw.use rfl (va_Nw.of rfl h0)
  | declares x1 => exact va_Nw.use rfl (va_Nw.of rfl h0)
  | arrayOver ty =>
    cases ty with
    | object C => exact va_AO.use (va_AO.of h0)
    | _ => exact Bool.noConfusion (show false = true from hk)
  | _ => exact word_at (State.WarmedH.refl s) (good_of_word hk) h0
set_option maxHeartbeats 4000000 in
set_option maxRecDepth 100000 in
theorem tx_start {s : State} {b : Nat} (hts : ∀ w ∈ lw_tbl, w.before #[Value.ref b] s = true) (hgv : (Jvm.Cond.and given_1 narrow_1).before #[Value.ref b] s = true) : TX s := by
  have hq := flat_of_before _ hgv
  refine ⟨ZS.of (hts _ (List.mem_of_getElem? (i := 483) rfl)) (hq _ (by decide +kernel)), ZS.of (hts _ (List.mem_of_getElem? (i := 485) rfl)) (hq _ (by decide +kernel)), ?_, ?_⟩
  · refine List.forall_mem_cons.mpr ⟨vk_of (hts _ (List.mem_of_getElem? (i := 497) rfl)), ?_⟩
    refine List.forall_mem_cons.mpr ⟨vk_of (hts _ (List.mem_of_getElem? (i := 524) rfl)), ?_⟩
    refine List.forall_mem_cons.mpr ⟨vk_of (hts _ (List.mem_of_getElem? (i := 525) rfl)), ?_⟩
    refine List.forall_mem_cons.mpr ⟨vk_of (hts _ (List.mem_of_getElem? (i := 535) rfl)), ?_⟩
    refine List.forall_mem_cons.mpr ⟨vk_of (hts _ (List.mem_of_getElem? (i := 549) rfl)), ?_⟩
    refine List.forall_mem_cons.mpr ⟨vk_of (hts _ (List.mem_of_getElem? (i := 550) rfl)), ?_⟩
    refine List.forall_mem_cons.mpr ⟨vk_of (hts _ (List.mem_of_getElem? (i := 572) rfl)), ?_⟩
    refine List.forall_mem_cons.mpr ⟨vk_of (hts _ (List.mem_of_getElem? (i := 586) rfl)), ?_⟩
    refine List.forall_mem_cons.mpr ⟨vk_of (hts _ (List.mem_of_getElem? (i := 587) rfl)), ?_⟩
    refine List.forall_mem_cons.mpr ⟨vk_of (hts _ (List.mem_of_getElem? (i := 612) rfl)), ?_⟩
    refine List.forall_mem_cons.mpr ⟨vk_of (hts _ (List.mem_of_getElem? (i := 613) rfl)), ?_⟩
    refine List.forall_mem_cons.mpr ⟨vk_of (hts _ (List.mem_of_getElem? (i := 614) rfl)), ?_⟩
    refine List.forall_mem_cons.mpr ⟨vk_of (hts _ (List.mem_of_getElem? (i := 622) rfl)), ?_⟩
    refine List.forall_mem_cons.mpr ⟨vk_of (hts _ (List.mem_of_getElem? (i := 623) rfl)), ?_⟩
    refine List.forall_mem_cons.mpr ⟨vk_of (hts _ (List.mem_of_getElem? (i := 634) rfl)), ?_⟩
    refine List.forall_mem_cons.mpr ⟨vk_of (hts _ (List.mem_of_getElem? (i := 635) rfl)), ?_⟩
    refine List.forall_mem_cons.mpr ⟨vk_of (hts _ (List.mem_of_getElem? (i := 650) rfl)), ?_⟩
    exact fun _ h => by cases h
  · refine List.forall_mem_cons.mpr ⟨nc_of (hq _ (by decide +kernel)), ?_⟩
    refine List.forall_mem_cons.mpr ⟨nc_of (hq _ (by decide +kernel)), ?_⟩
    refine List.forall_mem_cons.mpr ⟨nc_of (hq _ (by decide +kernel)), ?_⟩
    exact fun _ h => by cases h
