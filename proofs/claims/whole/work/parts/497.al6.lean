/-! SheetTrees: its constructor -/
abbrev ra_ST : Room := { frames := 3, cells := 43, slots := 15132, locals := 192 }
theorem df_SH : ∀ j, j < 5 → defaultValue (t_SH j) = vp_V [.int (iI 0), .int (iI 0), .int (iI 0), .int (iI 0), .int (iI 0)] j := by
  rw [iI_0]
  intro j hj
  match j, hj with
  | 0, _ => rfl
  | 1, _ => rfl
  | 2, _ => rfl
  | 3, _ => rfl
  | 4, _ => rfl
theorem df_PA : ∀ j, j < 5 → defaultValue (t_PA j) = vp_V [.int (iI 0), .int (iI 0), .int (iI 0), .int (iI 0), .int (iI 0)] j := by
  rw [iI_0]
  intro j hj
  match j, hj with
  | 0, _ => rfl
  | 1, _ => rfl
  | 2, _ => rfl
  | 3, _ => rfl
  | 4, _ => rfl
theorem df_CS : ∀ j, j < 13 → defaultValue (t_CS j) = vp_V [.int (iI 0), .int (iI 0), .int (iI 0), .int (iI 0), .int (iI 0), .int (iI 0), .int (iI 0), .int (iI 0), .int (iI 0), .int (iI 0), .int (iI 0), .int (iI 0), .int (iI 0)] j := by
  rw [iI_0]
  intro j hj
  match j, hj with
  | 0, _ => rfl
  | 1, _ => rfl
  | 2, _ => rfl
  | 3, _ => rfl
  | 4, _ => rfl
  | 5, _ => rfl
  | 6, _ => rfl
  | 7, _ => rfl
  | 8, _ => rfl
  | 9, _ => rfl
  | 10, _ => rfl
  | 11, _ => rfl
  | 12, _ => rfl
theorem df_TB : ∀ j, j < 5 → defaultValue (t_TB j) = vp_V [.int (iI 0), .null, .null, .int (iI 0), .int (iI 0)] j := by
  rw [iI_0]
  intro j hj
  match j, hj with
  | 0, _ => rfl
  | 1, _ => rfl
  | 2, _ => rfl
  | 3, _ => rfl
  | 4, _ => rfl
theorem df_LY : ∀ j, j < 7 → defaultValue (t_LY j) = vp_V [.null, .null, .null, .int (iI 0), .int (iI 0), .int (iI 0), .int (iI 0)] j := by
  rw [iI_0]
  intro j hj
  match j, hj with
  | 0, _ => rfl
  | 1, _ => rfl
  | 2, _ => rfl
  | 3, _ => rfl
  | 4, _ => rfl
  | 5, _ => rfl
  | 6, _ => rfl
/-- the cells of a new SheetTrees, but for the pool -/
abbrev ow (x qsh qpa qcu qtk qrs qt ql qp qo qs qc : Nat) (cI cS cP cC : ClassId) (fS fP fC : Nat → Option Nat) (K S le : Int) : va_W := [ob_ST x qsh qpa qcu qtk qrs qt ql S le 0 0 0 0 0 0, ar_Q qsh cS 4 fS, ar_Q qpa cP 8 fP, ar_Q qcu cC 20 fC, ar_I qtk cI 400 (fun _ => 0), ar_I qrs cI 5120 (fun _ => 0), ob_TB qt qs qc K (-1) 0, ar_I qs cI 2312 (fun _ => 0), ar_I qc cI 2312 (fun _ => 0), ob_LY ql qt qp qo 0 (0, 0, 0, (fun _ => 0), (fun _ => 0)), ar_I qp cI 256 (fun _ => 0), ar_I qo cI 8 (fun _ => 0)]
abbrev oT (cI cS cP cC : ClassId) : List (ClassId × FieldType) := [(cI, .int), (cS, .object "SheetTrees$Sheet"), (cP, .object "SheetTrees$Part"), (cC, .object "SheetTrees$CutSheet")]
set_option maxHeartbeats 4000000 in
set_option maxRecDepth 100000 in
theorem c_ST_init (l : Launch) (D : va_G) (cI : ClassId) (x : Nat) (k s e : Int) (hk : -2147483648 ≤ k ∧ k < 2147483648) (hs : -2147483648 ≤ s ∧ s < 2147483648) (he : -2147483648 ≤ e ∧ e < 2147483648) : CM l y_ST_init b_ST_init 5 none ra_ST [.ref x, .int (iI k), .int (iI s), .int (iI e)] D [(cI, .int)] ([(x, .inr (5, [.int (iI 0), .int (iI 0), .null, .null, .null, .null, .null, .null, .null, .int (iI 0), .int (iI 0), .int (iI 0), .int (iI 0), .int (iI 0), .int (iI 0)]))] ++ []) (fun v w1 p1 t1 => v = none ∧ ∃ (qsh qpa qcu qtk qrs qt ql qp qo qs qc : Nat) (cS cP cC : ClassId) (fS fP fC : Nat → Option Nat) (L : List Nat) (f : Nat → va_E) (aS aP aC : Nat → Nat), w1 = (ow x qsh qpa qcu qtk qrs qt ql qp qo qs qc cI cS cP cC fS fP fC (max 0 (min 3 k)) (max 1 (min 3 s)) (max 1 (min 16 e))) ∧ p1 = va_pl L f ∧ t1 = oT cI cS cP cC ∧ PL L f aS aP aC (fun _ => (0, 0, 0, 0, 0)) (fun _ => (0, 0, 0, 0, 0)) (fun _ _ => 0) ∧ AD aS aP aC ∧ (∀ i : Nat, i < 4 → fS i = some (aS i)) ∧ (∀ i : Nat, i < 8 → fP i = some (aP i)) ∧ (∀ i : Nat, i < 20 → fC i = some (aC i))) := by
  refine cn_of (by decide) (Nat.le_of_ble_eq_true rfl) ?_
  intro X sz hl hr hnm hD hA hw hAB
  subst hD
  have loopC : ∀ (qsh qpa qcu qtk qrs qt ql qp qo qs qc : Nat) (cS cP cC : ClassId) (fS : Nat → Option Nat) (aS : Nat → Nat) (fP : Nat → Option Nat) (aP : Nat → Nat), ∀ m i : Nat, i + m = 20 → ∀ (L : List Nat) (f : Nat → va_E) (fC : Nat → Option Nat) (aC : Nat → Nat), KIN 4 L f aS fS (ob_SH ((0, 0, 0, 0, 0) : pa_T)) → KIN 8 L f aP fP (ob_PA ((0, 0, 0, 0, 0) : pa_T)) → KIN i L f aC fC (ob_CS (fun _ => 0)) → VV X (b_ST_init, 5, "SheetTrees", ra_ST) (cq X ([(x, .inr (5, [.int (iI 0), .int (iI 0), .null, .null, .null, .null, .null, .null, .null, .int (iI 0), .int (iI 0), .int (iI 0), .int (iI 0), .int (iI 0), .int (iI 0)]))] ++ []) sz (fun v w1 p1 t1 => v = none ∧ ∃ (qsh qpa qcu qtk qrs qt ql qp qo qs qc : Nat) (cS cP cC : ClassId) (fS fP fC : Nat → Option Nat) (L : List Nat) (f : Nat → va_E) (aS aP aC : Nat → Nat), w1 = (ow x qsh qpa qcu qtk qrs qt ql qp qo qs qc cI cS cP cC fS fP fC (max 0 (min 3 k)) (max 1 (min 3 s)) (max 1 (min 16 e))) ∧ p1 = va_pl L f ∧ t1 = oT cI cS cP cC ∧ PL L f aS aP aC (fun _ => (0, 0, 0, 0, 0)) (fun _ => (0, 0, 0, 0, 0)) (fun _ _ => 0) ∧ AD aS aP aC ∧ (∀ i : Nat, i < 4 → fS i = some (aS i)) ∧ (∀ i : Nat, i < 8 → fP i = some (aP i)) ∧ (∀ i : Nat, i < 20 → fC i = some (aC i))) ra_ST) (23 + i) (14872 + 13 * i) (oT cI cS cP cC) (ow x qsh qpa qcu qtk qrs qt ql qp qo qs qc cI cS cP cC fS fP fC (max 0 (min 3 k)) (max 1 (min 3 s)) (max 1 (min 16 e))) (va_pl L f) [some (.ref x), some (.int (iI k)), some (.int (iI s)), some (.int (iI e)), some (.int (iI (i : Int)))] [] 200 := by
    intro qsh qpa qcu qtk qrs qt ql qp qo qs qc cS cP cC fS aS fP aP m
    induction m with
    | zero =>
      intro i hi L f fC aC hS hP hC
      have hi2 : i = 20 := by omega
      subst hi2
      refine vv_iload d_ST_init_200 rfl ?_
      refine vv_aload_n d_ST_init_202 rfl ?_
      refine vv_get d_ST_init_203 0 rfl fl_ST_23 rfl ?_
      refine vv_alen d_ST_init_206 3 3 rfl rfl (v := 20) rfl ?_
      refine vv_icmp_ge (tgt := 230) d_ST_init_207 (by decide) ⟨by omega, by omega⟩ (fun c207 => ?_) (fun c207 => ?_)
      · skip
        obtain ⟨z1, z2, z3, z4, z5⟩ := KIN_PL hS hP hC
        exact vv_vret hA hw hr d_ST_init_230 (by decide) (by decide) ⟨rfl, qsh, qpa, qcu, qtk, qrs, qt, ql, qp, qo, qs, qc, cS, cP, cC, fS, fP, fC, L, f, aS, aP, aC, rfl, rfl, rfl, z1, z2, z3, z4, z5⟩
      · exfalso; omega
    | succ m ih =>
      intro i hi L f fC aC hS hP hC
      refine vv_iload d_ST_init_200 rfl ?_
      refine vv_aload_n d_ST_init_202 rfl ?_
      refine vv_get d_ST_init_203 0 rfl fl_ST_23 rfl ?_
      refine vv_alen d_ST_init_206 3 3 rfl rfl (v := 20) rfl ?_
      refine vv_icmp_ge (tgt := 230) d_ST_init_207 (by decide) ⟨by omega, by omega⟩ (fun c207 => ?_) (fun c207 => ?_)
      · exfalso; omega
      · skip
        refine vv_aload_n d_ST_init_210 rfl ?_
        refine vv_get d_ST_init_211 0 rfl fl_ST_23 rfl ?_
        refine vv_iload d_ST_init_214 rfl ?_
        refine vv_newP hw hAB (ci := 0) (fs := [.int (iI 0), .int (iI 0), .int (iI 0), .int (iI 0), .int (iI 0), .int (iI 0), .int (iI 0), .int (iI 0), .int (iI 0), .int (iI 0), .int (iI 0), .int (iI 0), .int (iI 0)]) d_ST_init_216 i_CS t_CS t_CS_ok (tb_at 73 rfl rfl) (tb_at 201 rfl rfl) (tb_at 51 rfl rfl) rfl df_CS ⟨by show 23 + i + 1 ≤ 43; omega, by show 14872 + 13 * i + 13 ≤ 15132; omega⟩ (fun q hq => ?_)
        refine vv_dup d_ST_init_219 rfl ?_
        refine vv_mI (wc := []) (wr := (ow x qsh qpa qcu qtk qrs qt ql qp qo qs qc cI cS cP cC fS fP fC (max 0 (min 3 k)) (max 1 (min 3 s)) (max 1 (min 16 e)))) hw [.ref q, .int (iI (i : Int)), .ref qcu] (c_CS_init (cx_l X) (cx_D X) (L ++ [q]) (va_up f q (.inr (0, [.int (iI 0), .int (iI 0), .int (iI 0), .int (iI 0), .int (iI 0), .int (iI 0), .int (iI 0), .int (iI 0), .int (iI 0), .int (iI 0), .int (iI 0), .int (iI 0), .int (iI 0)]))) q (fun _ => 0) (List.mem_append_right _ List.mem_cons_self) (va_up_self _ _ _)) lk_ST_84 d_ST_init_220 rfl [] [0, 1, 2, 3, 4, 5, 6, 7, 8, 9, 10, 11] ⟨rfl, rfl⟩ ⟨rfl, rfl, by decide⟩ [] rfl ⟨⟨by decide, by decide⟩, ⟨by show 23 + i + 1 + 0 ≤ 43; omega, by show 14872 + 13 * i + 13 + 0 ≤ 15132; omega⟩, Nat.le_of_ble_eq_true rfl⟩ ⟨rfl, rfl⟩ ?_
        rintro v w1 p1 t1 ⟨rfl, rfl, rfl⟩
        dsimp only [Option.toList, List.cons_append, List.nil_append, List.append_nil]
        refine vv_aastP hw (ci := 0) (vs := [.int (iI 0), .int (iI 0), .int (iI 0), .int (iI 0), .int (iI 0), .int (iI 0), .int (iI 0), .int (iI 0), .int (iI 0), .int (iI 0), .int (iI 0), .int (iI 0), .int (iI 0)]) d_ST_init_223 3 3 rfl rfl (List.mem_append_right _ List.mem_cons_self) (va_up_self _ _ _) rfl ⟨by omega, by omega, by decide⟩ ?_
        dsimp only [List.set]
        refine vv_iinc d_ST_init_224 rfl rfl (by decide) ?_
        dsimp only [List.set]
        refine vv_goto (tgt := 200) d_ST_init_227 (by decide) ?_
        exact vv_widen (k' := 23 + (i + 1)) (n' := 14872 + 13 * (i + 1)) (by omega) (by omega) (ih (i + 1) (by omega) (L ++ [q]) _ _ (va_up aC i q) (KIN_keep hS hq) (KIN_keep hP hq) (by have z := KIN_new (e0 := .inr (0, [.int (iI 0), .int (iI 0), .int (iI 0), .int (iI 0), .int (iI 0), .int (iI 0), .int (iI 0), .int (iI 0), .int (iI 0), .int (iI 0), .int (iI 0), .int (iI 0), .int (iI 0)])) hC hq; rw [show ((i : Int)).toNat = i from Int.toNat_natCast i]; exact z))
  have loopP : ∀ (qsh qpa qcu qtk qrs qt ql qp qo qs qc : Nat) (cS cP cC : ClassId) (fS : Nat → Option Nat) (aS : Nat → Nat), ∀ m i : Nat, i + m = 8 → ∀ (L : List Nat) (f : Nat → va_E) (fP : Nat → Option Nat) (aP : Nat → Nat), KIN 4 L f aS fS (ob_SH ((0, 0, 0, 0, 0) : pa_T)) → KIN i L f aP fP (ob_PA ((0, 0, 0, 0, 0) : pa_T)) → VV X (b_ST_init, 5, "SheetTrees", ra_ST) (cq X ([(x, .inr (5, [.int (iI 0), .int (iI 0), .null, .null, .null, .null, .null, .null, .null, .int (iI 0), .int (iI 0), .int (iI 0), .int (iI 0), .int (iI 0), .int (iI 0)]))] ++ []) sz (fun v w1 p1 t1 => v = none ∧ ∃ (qsh qpa qcu qtk qrs qt ql qp qo qs qc : Nat) (cS cP cC : ClassId) (fS fP fC : Nat → Option Nat) (L : List Nat) (f : Nat → va_E) (aS aP aC : Nat → Nat), w1 = (ow x qsh qpa qcu qtk qrs qt ql qp qo qs qc cI cS cP cC fS fP fC (max 0 (min 3 k)) (max 1 (min 3 s)) (max 1 (min 16 e))) ∧ p1 = va_pl L f ∧ t1 = oT cI cS cP cC ∧ PL L f aS aP aC (fun _ => (0, 0, 0, 0, 0)) (fun _ => (0, 0, 0, 0, 0)) (fun _ _ => 0) ∧ AD aS aP aC ∧ (∀ i : Nat, i < 4 → fS i = some (aS i)) ∧ (∀ i : Nat, i < 8 → fP i = some (aP i)) ∧ (∀ i : Nat, i < 20 → fC i = some (aC i))) ra_ST) (15 + i) (14832 + 5 * i) (oT cI cS cP cC) (ow x qsh qpa qcu qtk qrs qt ql qp qo qs qc cI cS cP cC fS fP (fun _ => none) (max 0 (min 3 k)) (max 1 (min 3 s)) (max 1 (min 16 e))) (va_pl L f) [some (.ref x), some (.int (iI k)), some (.int (iI s)), some (.int (iI e)), some (.int (iI (i : Int)))] [] 167 := by
    intro qsh qpa qcu qtk qrs qt ql qp qo qs qc cS cP cC fS aS m
    induction m with
    | zero =>
      intro i hi L f fP aP hS hP
      have hi2 : i = 8 := by omega
      subst hi2
      refine vv_iload d_ST_init_167 rfl ?_
      refine vv_aload_n d_ST_init_169 rfl ?_
      refine vv_get d_ST_init_170 0 rfl fl_ST_17 rfl ?_
      refine vv_alen d_ST_init_173 2 2 rfl rfl (v := 8) rfl ?_
      refine vv_icmp_ge (tgt := 197) d_ST_init_174 (by decide) ⟨by omega, by omega⟩ (fun c174 => ?_) (fun c174 => ?_)
      · skip
        refine vv_iconst d_ST_init_197 ?_
        refine vv_istore d_ST_init_198 rfl (by decide) ?_
        dsimp only [List.set]
        exact loopC qsh qpa qcu qtk qrs qt ql qp qo qs qc cS cP cC fS aS fP aP 20 0 rfl L f (fun _ => none) (fun _ => 0) hS hP KIN_0
      · exfalso; omega
    | succ m ih =>
      intro i hi L f fP aP hS hP
      refine vv_iload d_ST_init_167 rfl ?_
      refine vv_aload_n d_ST_init_169 rfl ?_
      refine vv_get d_ST_init_170 0 rfl fl_ST_17 rfl ?_
      refine vv_alen d_ST_init_173 2 2 rfl rfl (v := 8) rfl ?_
      refine vv_icmp_ge (tgt := 197) d_ST_init_174 (by decide) ⟨by omega, by omega⟩ (fun c174 => ?_) (fun c174 => ?_)
      · exfalso; omega
      · skip
        refine vv_aload_n d_ST_init_177 rfl ?_
        refine vv_get d_ST_init_178 0 rfl fl_ST_17 rfl ?_
        refine vv_iload d_ST_init_181 rfl ?_
        refine vv_newP hw hAB (ci := 2) (fs := [.int (iI 0), .int (iI 0), .int (iI 0), .int (iI 0), .int (iI 0)]) d_ST_init_183 i_PA t_PA t_PA_ok (tb_at 71 rfl rfl) (tb_at 171 rfl rfl) (tb_at 50 rfl rfl) rfl df_PA ⟨by show 15 + i + 1 ≤ 43; omega, by show 14832 + 5 * i + 5 ≤ 15132; omega⟩ (fun q hq => ?_)
        refine vv_dup d_ST_init_186 rfl ?_
        refine vv_mI (wc := []) (wr := (ow x qsh qpa qcu qtk qrs qt ql qp qo qs qc cI cS cP cC fS fP (fun _ => none) (max 0 (min 3 k)) (max 1 (min 3 s)) (max 1 (min 16 e)))) hw [.ref q, .int (iI (i : Int)), .ref qpa] (c_PA_init (cx_l X) (cx_D X) (L ++ [q]) (va_up f q (.inr (2, [.int (iI 0), .int (iI 0), .int (iI 0), .int (iI 0), .int (iI 0)]))) q ((0, 0, 0, 0, 0) : pa_T) (List.mem_append_right _ List.mem_cons_self) (va_up_self _ _ _)) lk_ST_83 d_ST_init_187 rfl [] [0, 1, 2, 3, 4, 5, 6, 7, 8, 9, 10, 11] ⟨rfl, rfl⟩ ⟨rfl, rfl, by decide⟩ [] rfl ⟨⟨by decide, by decide⟩, ⟨by show 15 + i + 1 + 0 ≤ 43; omega, by show 14832 + 5 * i + 5 + 0 ≤ 15132; omega⟩, Nat.le_of_ble_eq_true rfl⟩ ⟨rfl, rfl⟩ ?_
        rintro v w1 p1 t1 ⟨rfl, rfl, rfl⟩
        dsimp only [Option.toList, List.cons_append, List.nil_append, List.append_nil]
        refine vv_aastP hw (ci := 2) (vs := [.int (iI 0), .int (iI 0), .int (iI 0), .int (iI 0), .int (iI 0)]) d_ST_init_190 2 2 rfl rfl (List.mem_append_right _ List.mem_cons_self) (va_up_self _ _ _) rfl ⟨by omega, by omega, by decide⟩ ?_
        dsimp only [List.set]
        refine vv_iinc d_ST_init_191 rfl rfl (by decide) ?_
        dsimp only [List.set]
        refine vv_goto (tgt := 167) d_ST_init_194 (by decide) ?_
        exact vv_widen (k' := 15 + (i + 1)) (n' := 14832 + 5 * (i + 1)) (by omega) (by omega) (ih (i + 1) (by omega) (L ++ [q]) _ _ (va_up aP i q) (KIN_keep hS hq) (by have z := KIN_new (e0 := .inr (2, [.int (iI 0), .int (iI 0), .int (iI 0), .int (iI 0), .int (iI 0)])) hP hq; rw [show ((i : Int)).toNat = i from Int.toNat_natCast i]; exact z))
  have loopS : ∀ (qsh qpa qcu qtk qrs qt ql qp qo qs qc : Nat) (cS cP cC : ClassId) , ∀ m i : Nat, i + m = 4 → ∀ (L : List Nat) (f : Nat → va_E) (fS : Nat → Option Nat) (aS : Nat → Nat), KIN i L f aS fS (ob_SH ((0, 0, 0, 0, 0) : pa_T)) → VV X (b_ST_init, 5, "SheetTrees", ra_ST) (cq X ([(x, .inr (5, [.int (iI 0), .int (iI 0), .null, .null, .null, .null, .null, .null, .null, .int (iI 0), .int (iI 0), .int (iI 0), .int (iI 0), .int (iI 0), .int (iI 0)]))] ++ []) sz (fun v w1 p1 t1 => v = none ∧ ∃ (qsh qpa qcu qtk qrs qt ql qp qo qs qc : Nat) (cS cP cC : ClassId) (fS fP fC : Nat → Option Nat) (L : List Nat) (f : Nat → va_E) (aS aP aC : Nat → Nat), w1 = (ow x qsh qpa qcu qtk qrs qt ql qp qo qs qc cI cS cP cC fS fP fC (max 0 (min 3 k)) (max 1 (min 3 s)) (max 1 (min 16 e))) ∧ p1 = va_pl L f ∧ t1 = oT cI cS cP cC ∧ PL L f aS aP aC (fun _ => (0, 0, 0, 0, 0)) (fun _ => (0, 0, 0, 0, 0)) (fun _ _ => 0) ∧ AD aS aP aC ∧ (∀ i : Nat, i < 4 → fS i = some (aS i)) ∧ (∀ i : Nat, i < 8 → fP i = some (aP i)) ∧ (∀ i : Nat, i < 20 → fC i = some (aC i))) ra_ST) (11 + i) (14812 + 5 * i) (oT cI cS cP cC) (ow x qsh qpa qcu qtk qrs qt ql qp qo qs qc cI cS cP cC fS (fun _ => none) (fun _ => none) (max 0 (min 3 k)) (max 1 (min 3 s)) (max 1 (min 16 e))) (va_pl L f) [some (.ref x), some (.int (iI k)), some (.int (iI s)), some (.int (iI e)), some (.int (iI (i : Int)))] [] 134 := by
    intro qsh qpa qcu qtk qrs qt ql qp qo qs qc cS cP cC  m
    induction m with
    | zero =>
      intro i hi L f fS aS hS
      have hi2 : i = 4 := by omega
      subst hi2
      refine vv_iload d_ST_init_134 rfl ?_
      refine vv_aload_n d_ST_init_136 rfl ?_
      refine vv_get d_ST_init_137 0 rfl fl_ST_11 rfl ?_
      refine vv_alen d_ST_init_140 1 1 rfl rfl (v := 4) rfl ?_
      refine vv_icmp_ge (tgt := 164) d_ST_init_141 (by decide) ⟨by omega, by omega⟩ (fun c141 => ?_) (fun c141 => ?_)
      · skip
        refine vv_iconst d_ST_init_164 ?_
        refine vv_istore d_ST_init_165 rfl (by decide) ?_
        dsimp only [List.set]
        exact loopP qsh qpa qcu qtk qrs qt ql qp qo qs qc cS cP cC fS aS 8 0 rfl L f (fun _ => none) (fun _ => 0) hS KIN_0
      · exfalso; omega
    | succ m ih =>
      intro i hi L f fS aS hS
      refine vv_iload d_ST_init_134 rfl ?_
      refine vv_aload_n d_ST_init_136 rfl ?_
      refine vv_get d_ST_init_137 0 rfl fl_ST_11 rfl ?_
      refine vv_alen d_ST_init_140 1 1 rfl rfl (v := 4) rfl ?_
      refine vv_icmp_ge (tgt := 164) d_ST_init_141 (by decide) ⟨by omega, by omega⟩ (fun c141 => ?_) (fun c141 => ?_)
      · exfalso; omega
      · skip
        refine vv_aload_n d_ST_init_144 rfl ?_
        refine vv_get d_ST_init_145 0 rfl fl_ST_11 rfl ?_
        refine vv_iload d_ST_init_148 rfl ?_
        refine vv_newP hw hAB (ci := 3) (fs := [.int (iI 0), .int (iI 0), .int (iI 0), .int (iI 0), .int (iI 0)]) d_ST_init_150 i_SH t_SH t_SH_ok (tb_at 69 rfl rfl) (tb_at 142 rfl rfl) (tb_at 49 rfl rfl) rfl df_SH ⟨by show 11 + i + 1 ≤ 43; omega, by show 14812 + 5 * i + 5 ≤ 15132; omega⟩ (fun q hq => ?_)
        refine vv_dup d_ST_init_153 rfl ?_
        refine vv_mI (wc := []) (wr := (ow x qsh qpa qcu qtk qrs qt ql qp qo qs qc cI cS cP cC fS (fun _ => none) (fun _ => none) (max 0 (min 3 k)) (max 1 (min 3 s)) (max 1 (min 16 e)))) hw [.ref q, .int (iI (i : Int)), .ref qsh] (c_SH_init (cx_l X) (cx_D X) (L ++ [q]) (va_up f q (.inr (3, [.int (iI 0), .int (iI 0), .int (iI 0), .int (iI 0), .int (iI 0)]))) q ((0, 0, 0, 0, 0) : pa_T) (List.mem_append_right _ List.mem_cons_self) (va_up_self _ _ _)) lk_ST_82 d_ST_init_154 rfl [] [0, 1, 2, 3, 4, 5, 6, 7, 8, 9, 10, 11] ⟨rfl, rfl⟩ ⟨rfl, rfl, by decide⟩ [] rfl ⟨⟨by decide, by decide⟩, ⟨by show 11 + i + 1 + 0 ≤ 43; omega, by show 14812 + 5 * i + 5 + 0 ≤ 15132; omega⟩, Nat.le_of_ble_eq_true rfl⟩ ⟨rfl, rfl⟩ ?_
        rintro v w1 p1 t1 ⟨rfl, rfl, rfl⟩
        dsimp only [Option.toList, List.cons_append, List.nil_append, List.append_nil]
        refine vv_aastP hw (ci := 3) (vs := [.int (iI 0), .int (iI 0), .int (iI 0), .int (iI 0), .int (iI 0)]) d_ST_init_157 1 1 rfl rfl (List.mem_append_right _ List.mem_cons_self) (va_up_self _ _ _) rfl ⟨by omega, by omega, by decide⟩ ?_
        dsimp only [List.set]
        refine vv_iinc d_ST_init_158 rfl rfl (by decide) ?_
        dsimp only [List.set]
        refine vv_goto (tgt := 134) d_ST_init_161 (by decide) ?_
        exact vv_widen (k' := 11 + (i + 1)) (n' := 14812 + 5 * (i + 1)) (by omega) (by omega) (ih (i + 1) (by omega) (L ++ [q]) _ _ (va_up aS i q)  (by have z := KIN_new (e0 := .inr (3, [.int (iI 0), .int (iI 0), .int (iI 0), .int (iI 0), .int (iI 0)])) hS hq; rw [show ((i : Int)).toNat = i from Int.toNat_natCast i]; exact z))
  show VV X (b_ST_init, 5, "SheetTrees", ra_ST) _ 0 0 [(cI, .int)] [(x, .inr (5, [.int (iI 0), .int (iI 0), .null, .null, .null, .null, .null, .null, .null, .int (iI 0), .int (iI 0), .int (iI 0), .int (iI 0), .int (iI 0), .int (iI 0)]))] [] [some (.ref x), some (.int (iI k)), some (.int (iI s)), some (.int (iI e)), none] [] 0
  refine vv_aload_n d_ST_init_0 rfl ?_
  refine vv_oinit d_ST_init_1 (tb_at 66 rfl rfl) ⟨by decide, by decide⟩ (by decide) ?_
  refine vv_aload_n d_ST_init_4 rfl ?_
  refine vv_iconst d_ST_init_5 ?_
  refine vv_newq hw hAB (N := 4) d_ST_init_6 (tb_at 69 rfl rfl) (tb_at 70 rfl rfl) ⟨rfl, by decide⟩ (by decide) ⟨by decide, by decide⟩ (fun qsh cS => ?_)
  refine vv_toW ?_
  dsimp only [List.cons_append, List.nil_append]
  refine vv_putF hw hnm d_ST_init_9 0 rfl fF_ST_11 rfl rfl (Nat.le_of_ble_eq_true rfl) ?_
  dsimp only [List.set]
  refine vv_aload_n d_ST_init_12 rfl ?_
  refine vv_bipush d_ST_init_13 (by decide +kernel) ?_
  refine vv_newq hw hAB (N := 8) d_ST_init_15 (tb_at 71 rfl rfl) (tb_at 72 rfl rfl) ⟨rfl, by decide⟩ (by decide) ⟨by decide, by decide⟩ (fun qpa cP => ?_)
  refine vv_toW ?_
  dsimp only [List.cons_append, List.nil_append]
  refine vv_putF hw hnm d_ST_init_18 0 rfl fF_ST_17 rfl rfl (Nat.le_of_ble_eq_true rfl) ?_
  dsimp only [List.set]
  refine vv_aload_n d_ST_init_21 rfl ?_
  refine vv_bipush d_ST_init_22 (by decide +kernel) ?_
  refine vv_newq hw hAB (N := 20) d_ST_init_24 (tb_at 73 rfl rfl) (tb_at 74 rfl rfl) ⟨rfl, by decide⟩ (by decide) ⟨by decide, by decide⟩ (fun qcu cC => ?_)
  refine vv_toW ?_
  dsimp only [List.cons_append, List.nil_append]
  refine vv_putF hw hnm d_ST_init_27 0 rfl fF_ST_23 rfl rfl (Nat.le_of_ble_eq_true rfl) ?_
  dsimp only [List.set]
  refine vv_aload_n d_ST_init_30 rfl ?_
  refine vv_sipush d_ST_init_31 (by decide +kernel) ?_
  refine vv_newI hw hAB (N := 400) 0 rfl d_ST_init_34 ⟨rfl, by decide⟩ (by decide) ⟨by decide, by decide⟩ (fun qtk => ?_)
  refine vv_toW ?_
  dsimp only [List.cons_append, List.nil_append]
  refine vv_putF hw hnm d_ST_init_36 0 rfl fF_ST_27 rfl rfl (Nat.le_of_ble_eq_true rfl) ?_
  dsimp only [List.set]
  refine vv_aload_n d_ST_init_39 rfl ?_
  refine vv_sipush d_ST_init_40 (by decide +kernel) ?_
  refine vv_newI hw hAB (N := 5120) 0 rfl d_ST_init_43 ⟨rfl, by decide⟩ (by decide) ⟨by decide, by decide⟩ (fun qrs => ?_)
  refine vv_toW ?_
  dsimp only [List.cons_append, List.nil_append]
  refine vv_putF hw hnm d_ST_init_45 0 rfl fF_ST_31 rfl rfl (Nat.le_of_ble_eq_true rfl) ?_
  dsimp only [List.set]
  refine vv_aload_n d_ST_init_48 rfl ?_
  refine vv_iconst d_ST_init_49 ?_
  refine vv_put hw d_ST_init_50 0 rfl fp_ST_34 rfl rfl (Nat.le_of_ble_eq_true rfl) ?_
  dsimp only [List.set]
  refine vv_aload_n d_ST_init_53 rfl ?_
  refine vv_iconst d_ST_init_54 ?_
  refine vv_put hw d_ST_init_55 0 rfl fp_ST_38 rfl rfl (Nat.le_of_ble_eq_true rfl) ?_
  dsimp only [List.set]
  refine vv_aload_n d_ST_init_58 rfl ?_
  refine vv_iconst d_ST_init_59 ?_
  refine vv_put hw d_ST_init_60 0 rfl fp_ST_41 rfl rfl (Nat.le_of_ble_eq_true rfl) ?_
  dsimp only [List.set]
  refine vv_aload_n d_ST_init_63 rfl ?_
  refine vv_iconst d_ST_init_64 ?_
  refine vv_put hw d_ST_init_65 0 rfl fp_ST_44 rfl rfl (Nat.le_of_ble_eq_true rfl) ?_
  dsimp only [List.set]
  refine vv_aload_n d_ST_init_68 rfl ?_
  refine vv_iconst d_ST_init_69 ?_
  refine vv_put hw d_ST_init_70 0 rfl fp_ST_47 rfl rfl (Nat.le_of_ble_eq_true rfl) ?_
  dsimp only [List.set]
  refine vv_aload_n d_ST_init_73 rfl ?_
  refine vv_iconst d_ST_init_74 ?_
  refine vv_put hw d_ST_init_75 0 rfl fp_ST_50 rfl rfl (Nat.le_of_ble_eq_true rfl) ?_
  dsimp only [List.set]
  refine vv_aload_n d_ST_init_78 rfl ?_
  refine vv_iload_n d_ST_init_79 rfl ?_
  refine vv_iconst d_ST_init_80 ?_
  refine vv_iconst d_ST_init_81 ?_
  refine vv_pS (wc := []) (plc := []) [.ref x] (c_ST_nearest (cx_l X) (cx_D X) s 1 3 hs ⟨by decide, by decide⟩ ⟨by decide, by decide⟩) lk_ST_54 d_ST_init_82 rfl [] ⟨rfl, rfl, Or.inl rfl⟩ [] rfl ⟨⟨by decide, by decide⟩, ⟨by decide, by decide⟩, Nat.le_of_ble_eq_true rfl⟩ ⟨rfl, rfl⟩ ?_
  intro v hv
  subst hv
  dsimp only [Option.toList, List.cons_append, List.nil_append, List.append_nil]
  refine vv_putF hw hnm d_ST_init_85 0 rfl fF_ST_58 rfl rfl (Nat.le_of_ble_eq_true rfl) ?_
  dsimp only [List.set]
  refine vv_aload_n d_ST_init_88 rfl ?_
  refine vv_iload_n d_ST_init_89 rfl ?_
  refine vv_iconst d_ST_init_90 ?_
  refine vv_bipush d_ST_init_91 (by decide +kernel) ?_
  refine vv_pS (wc := []) (plc := []) [.ref x] (c_ST_nearest (cx_l X) (cx_D X) e 1 16 he ⟨by decide, by decide⟩ ⟨by decide, by decide⟩) lk_ST_54 d_ST_init_93 rfl [] ⟨rfl, rfl, Or.inl rfl⟩ [] rfl ⟨⟨by decide, by decide⟩, ⟨by decide, by decide⟩, Nat.le_of_ble_eq_true rfl⟩ ⟨rfl, rfl⟩ ?_
  intro v hv
  subst hv
  dsimp only [Option.toList, List.cons_append, List.nil_append, List.append_nil]
  refine vv_putF hw hnm d_ST_init_96 0 rfl fF_ST_61 rfl rfl (Nat.le_of_ble_eq_true rfl) ?_
  dsimp only [List.set]
  refine vv_aload_n d_ST_init_99 rfl ?_
  refine vv_newo hw hAB (ci := 4) (fs := [.int (iI 0), .null, .null, .int (iI 0), .int (iI 0)]) d_ST_init_100 i_TB t_TB t_TB_ok (tb_at 84 rfl rfl) (tb_at 85 rfl rfl) (tb_at 47 rfl rfl) rfl df_TB ⟨by decide, by decide⟩ (fun qt => ?_)
  refine vv_toW ?_
  dsimp only [List.cons_append, List.nil_append]
  refine vv_dup d_ST_init_103 rfl ?_
  refine vv_iload_n d_ST_init_104 rfl ?_
  refine vv_iconst d_ST_init_105 ?_
  refine vv_iconst d_ST_init_106 ?_
  refine vv_pS (wc := []) (plc := []) [.ref qt, .ref qt, .ref x] (c_ST_nearest (cx_l X) (cx_D X) k 0 3 hk ⟨by decide, by decide⟩ ⟨by decide, by decide⟩) lk_ST_54 d_ST_init_107 rfl [] ⟨rfl, rfl, Or.inl rfl⟩ [] rfl ⟨⟨by decide, by decide⟩, ⟨by decide, by decide⟩, Nat.le_of_ble_eq_true rfl⟩ ⟨rfl, rfl⟩ ?_
  intro v hv
  subst hv
  dsimp only [Option.toList, List.cons_append, List.nil_append, List.append_nil]
  refine vv_xI hw (wr := [(x, .inr (5, [.int (iI (max 1 (min 3 s))), .int (iI (max 1 (min 16 e))), .ref qsh, .ref qpa, .ref qcu, .ref qtk, .ref qrs, .null, .null, .int (iI 0), .int (iI 0), .int (iI 0), .int (iI 0), .int (iI 0), .int (iI 0)])), ar_Q qsh cS 4 (fun _ => none), ar_Q qpa cP 8 (fun _ => none), ar_Q qcu cC 20 (fun _ => none), ar_I qtk cI 400 (fun _ => 0), ar_I qrs cI 5120 (fun _ => 0)]) (wc := [(qt, .inr (4, [.int (iI 0), .null, .null, .int (iI 0), .int (iI 0)]))]) [.ref qt, .ref x] (c_TB_init (cx_l X) (cx_D X) cI qt (max 0 (min 3 k))) lk_ST_66 d_ST_init_110 rfl [6] [0, 1, 2, 3, 4, 5] ⟨rfl, rfl⟩ ⟨rfl, rfl, by decide⟩ [0] rfl ⟨⟨by decide, by decide⟩, ⟨by decide, by decide⟩, Nat.le_of_ble_eq_true rfl⟩ ?_
  rintro v w1 p1 t1 ⟨rfl, ⟨qs, qc, rfl⟩, rfl, rfl⟩
  dsimp only [Option.toList, List.cons_append, List.nil_append, List.append_nil]
  refine vv_putF hw hnm d_ST_init_113 0 rfl fF_ST_69 rfl rfl (Nat.le_of_ble_eq_true rfl) ?_
  dsimp only [List.set]
  refine vv_aload_n d_ST_init_116 rfl ?_
  refine vv_newo hw hAB (ci := 1) (fs := [.null, .null, .null, .int (iI 0), .int (iI 0), .int (iI 0), .int (iI 0)]) d_ST_init_117 i_LY t_LY t_LY_ok (tb_at 109 rfl rfl) (tb_at 110 rfl rfl) (tb_at 48 rfl rfl) rfl df_LY ⟨by decide, by decide⟩ (fun ql => ?_)
  refine vv_toW ?_
  dsimp only [List.cons_append, List.nil_append]
  refine vv_dup d_ST_init_120 rfl ?_
  refine vv_aload_n d_ST_init_121 rfl ?_
  refine vv_get d_ST_init_122 0 rfl fl_ST_69 rfl ?_
  refine vv_xI hw (wr := [(x, .inr (5, [.int (iI (max 1 (min 3 s))), .int (iI (max 1 (min 16 e))), .ref qsh, .ref qpa, .ref qcu, .ref qtk, .ref qrs, .ref qt, .null, .int (iI 0), .int (iI 0), .int (iI 0), .int (iI 0), .int (iI 0), .int (iI 0)])), ar_Q qsh cS 4 (fun _ => none), ar_Q qpa cP 8 (fun _ => none), ar_Q qcu cC 20 (fun _ => none), ar_I qtk cI 400 (fun _ => 0), ar_I qrs cI 5120 (fun _ => 0), ob_TB qt qs qc (max 0 (min 3 k)) (-1) 0, ar_I qs cI 2312 (fun _ => 0), ar_I qc cI 2312 (fun _ => 0)]) (wc := [(ql, .inr (1, [.null, .null, .null, .int (iI 0), .int (iI 0), .int (iI 0), .int (iI 0)]))]) [.ref ql, .ref x] (c_LY_init (cx_l X) (cx_D X) cI ql qt) lk_ST_75 d_ST_init_125 rfl [9] [0, 1, 2, 3, 4, 5, 6, 7, 8] ⟨rfl, rfl⟩ ⟨rfl, rfl, by decide⟩ [0] rfl ⟨⟨by decide, by decide⟩, ⟨by decide, by decide⟩, Nat.le_of_ble_eq_true rfl⟩ ?_
  rintro v w1 p1 t1 ⟨rfl, ⟨qp, qo, rfl⟩, rfl, rfl⟩
  dsimp only [Option.toList, List.cons_append, List.nil_append, List.append_nil]
  refine vv_putF hw hnm d_ST_init_128 0 rfl fF_ST_78 rfl rfl (Nat.le_of_ble_eq_true rfl) ?_
  dsimp only [List.set]
  refine vv_iconst d_ST_init_131 ?_
  refine vv_istore d_ST_init_132 rfl (by decide) ?_
  dsimp only [List.set]
  exact loopS qsh qpa qcu qtk qrs qt ql qp qo qs qc cS cP cC 4 0 rfl [] (fun _ => .inr (0, [])) (fun _ => none) (fun _ => 0) KIN_0
