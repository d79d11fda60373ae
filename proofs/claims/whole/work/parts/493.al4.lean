/-! the reference's constructor -/
abbrev ra_26 : Room := { frames := 1, cells := 26, slots := 68844, locals := 64 }
def clp (v lo hi : Int) : Int := max lo (min hi v)
set_option maxHeartbeats 4000000 in
set_option maxRecDepth 100000 in
theorem c_MO_init (l : Launch) (D : va_G) (cI : ClassId) (a : Nat) (k s e : Int) (hk : -2147483648 ≤ k ∧ k < 2147483648) (hs : -2147483648 ≤ s ∧ s < 2147483648) (he : -2147483648 ≤ e ∧ e < 2147483648) : CM l y_MO_init b_MO_init 4 none ra_26 [.ref a, .int (iI k), .int (iI s), .int (iI e)] D [(cI, .int)] ([(a, .inr (6, [.int (iI 0), .int (iI 0), .int (iI 0), .int (iI 0), .int (iI 0), .null, .null, .null, .null, .int (iI 0), .null, .null, .null, .null, .null, .null, .null, .null, .null, .null, .null, .int (iI 0), .int (iI 0), .null, .null, .null, .null, .null, .null, .null, .null, .null, .null, .null]))] ++ []) (fun v w1 p1 t1 => v = none ∧ (∃ (q : Nat → Nat) (cZ : ClassId), w1 = [ob_MO a q (clp k 0 3) (clp s 1 3) (clp e 1 16) 0 0 0 0 0, ar_I (q 5) cI 4 (fun _ => 0), ar_I (q 6) cI 4 (fun _ => 0), ar_I (q 7) cI 4 (fun _ => 0), ar_I (q 8) cI 4 (fun _ => 0), ar_I (q 10) cI 8 (fun _ => 0), ar_I (q 11) cI 8 (fun _ => 0), ar_I (q 12) cI 8 (fun _ => 0), ar_I (q 13) cZ 8 (fun _ => 0), ar_I (q 14) cI 8 (fun _ => 0), ar_I (q 15) cI 4 (fun _ => 0), ar_I (q 16) cI 8 (fun _ => 0), ar_I (q 17) cI 2312 (fun _ => 0), ar_I (q 18) cI 2312 (fun _ => 0), ar_I (q 19) cI 2312 (fun _ => 0), ar_I (q 20) cI 3600 (fun _ => 0), ar_I (q 23) cI 20 (fun _ => 0), ar_I (q 24) cI 20 (fun _ => 0), ar_I (q 25) cI 20 (fun _ => 0), ar_I (q 26) cI 20 (fun _ => 0), ar_I (q 27) cI 20 (fun _ => 0), ar_I (q 28) cI 20 (fun _ => 0), ar_I (q 29) cI 20 (fun _ => 0), ar_I (q 30) cI 20 (fun _ => 0), ar_I (q 31) cI 12000 (fun _ => 0), ar_I (q 32) cI 25600 (fun _ => 0), ar_I (q 33) cI 20480 (fun _ => 0)] ∧ t1 = [(cI, .int), (cZ, .boolean)]) ∧ p1 = []) := by
  refine cn_of (by decide) (Nat.le_of_ble_eq_true rfl) ?_
  intro X sz hl hr hnm hD hA hw hAB
  subst hD
  show VV X (b_MO_init, 4, "SheetTreesModel", ra_26) _ 0 0 [(cI, .int)] [(a, .inr (6, [.int (iI 0), .int (iI 0), .int (iI 0), .int (iI 0), .int (iI 0), .null, .null, .null, .null, .int (iI 0), .null, .null, .null, .null, .null, .null, .null, .null, .null, .null, .null, .int (iI 0), .int (iI 0), .null, .null, .null, .null, .null, .null, .null, .null, .null, .null, .null]))] [] [some (.ref a), some (.int (iI k)), some (.int (iI s)), some (.int (iI e))] [] 0
  refine vv_aload_n d_MO_init_0 rfl ?_
  refine vv_oinit d_MO_init_1 (tb_at 656 rfl rfl) ⟨by decide, by decide⟩ (by decide) ?_
  refine vv_aload_n d_MO_init_4 rfl ?_
  refine vv_iconst d_MO_init_5 ?_
  refine vv_newI hw hAB (N := 4) 0 rfl d_MO_init_6 ⟨rfl, by decide⟩ (by decide) ⟨by decide, by decide⟩ (fun q5 => ?_)
  refine vv_toW ?_
  dsimp only [List.cons_append, List.nil_append]
  refine vv_putF hw hnm d_MO_init_8 0 rfl fF_MO_7 rfl rfl (Nat.le_of_ble_eq_true rfl) ?_
  dsimp only [List.set]
  refine vv_aload_n d_MO_init_11 rfl ?_
  refine vv_iconst d_MO_init_12 ?_
  refine vv_newI hw hAB (N := 4) 0 rfl d_MO_init_13 ⟨rfl, by decide⟩ (by decide) ⟨by decide, by decide⟩ (fun q6 => ?_)
  refine vv_toW ?_
  dsimp only [List.cons_append, List.nil_append]
  refine vv_putF hw hnm d_MO_init_15 0 rfl fF_MO_13 rfl rfl (Nat.le_of_ble_eq_true rfl) ?_
  dsimp only [List.set]
  refine vv_aload_n d_MO_init_18 rfl ?_
  refine vv_iconst d_MO_init_19 ?_
  refine vv_newI hw hAB (N := 4) 0 rfl d_MO_init_20 ⟨rfl, by decide⟩ (by decide) ⟨by decide, by decide⟩ (fun q7 => ?_)
  refine vv_toW ?_
  dsimp only [List.cons_append, List.nil_append]
  refine vv_putF hw hnm d_MO_init_22 0 rfl fF_MO_16 rfl rfl (Nat.le_of_ble_eq_true rfl) ?_
  dsimp only [List.set]
  refine vv_aload_n d_MO_init_25 rfl ?_
  refine vv_iconst d_MO_init_26 ?_
  refine vv_newI hw hAB (N := 4) 0 rfl d_MO_init_27 ⟨rfl, by decide⟩ (by decide) ⟨by decide, by decide⟩ (fun q8 => ?_)
  refine vv_toW ?_
  dsimp only [List.cons_append, List.nil_append]
  refine vv_putF hw hnm d_MO_init_29 0 rfl fF_MO_19 rfl rfl (Nat.le_of_ble_eq_true rfl) ?_
  dsimp only [List.set]
  refine vv_aload_n d_MO_init_32 rfl ?_
  refine vv_bipush d_MO_init_33 (by decide +kernel) ?_
  refine vv_newI hw hAB (N := 8) 0 rfl d_MO_init_35 ⟨rfl, by decide⟩ (by decide) ⟨by decide, by decide⟩ (fun q10 => ?_)
  refine vv_toW ?_
  dsimp only [List.cons_append, List.nil_append]
  refine vv_putF hw hnm d_MO_init_37 0 rfl fF_MO_22 rfl rfl (Nat.le_of_ble_eq_true rfl) ?_
  dsimp only [List.set]
  refine vv_aload_n d_MO_init_40 rfl ?_
  refine vv_bipush d_MO_init_41 (by decide +kernel) ?_
  refine vv_newI hw hAB (N := 8) 0 rfl d_MO_init_43 ⟨rfl, by decide⟩ (by decide) ⟨by decide, by decide⟩ (fun q11 => ?_)
  refine vv_toW ?_
  dsimp only [List.cons_append, List.nil_append]
  refine vv_putF hw hnm d_MO_init_45 0 rfl fF_MO_25 rfl rfl (Nat.le_of_ble_eq_true rfl) ?_
  dsimp only [List.set]
  refine vv_aload_n d_MO_init_48 rfl ?_
  refine vv_bipush d_MO_init_49 (by decide +kernel) ?_
  refine vv_newI hw hAB (N := 8) 0 rfl d_MO_init_51 ⟨rfl, by decide⟩ (by decide) ⟨by decide, by decide⟩ (fun q12 => ?_)
  refine vv_toW ?_
  dsimp only [List.cons_append, List.nil_append]
  refine vv_putF hw hnm d_MO_init_53 0 rfl fF_MO_28 rfl rfl (Nat.le_of_ble_eq_true rfl) ?_
  dsimp only [List.set]
  refine vv_aload_n d_MO_init_56 rfl ?_
  refine vv_bipush d_MO_init_57 (by decide +kernel) ?_
  refine vv_newa (N := 8) (ty := .boolean) (a0 := (8, .inl (fun _ => iI 0))) hw hAB d_MO_init_59 (tb_at 760 rfl rfl) rfl (fun cA => by show arrV cA 8 (fun _ => .int (iI 0)) = arrV cA 8 (fun _ => .int 0); rw [iI_0]) ⟨rfl, by decide⟩ (by decide) ⟨by decide, by decide⟩ (fun q13 cZ => ?_)
  refine vv_toW ?_
  dsimp only [List.cons_append, List.nil_append]
  refine vv_putF hw hnm d_MO_init_61 0 rfl fF_MO_31 rfl rfl (Nat.le_of_ble_eq_true rfl) ?_
  dsimp only [List.set]
  refine vv_aload_n d_MO_init_64 rfl ?_
  refine vv_bipush d_MO_init_65 (by decide +kernel) ?_
  refine vv_newI hw hAB (N := 8) 0 rfl d_MO_init_67 ⟨rfl, by decide⟩ (by decide) ⟨by decide, by decide⟩ (fun q14 => ?_)
  refine vv_toW ?_
  dsimp only [List.cons_append, List.nil_append]
  refine vv_putF hw hnm d_MO_init_69 0 rfl fF_MO_35 rfl rfl (Nat.le_of_ble_eq_true rfl) ?_
  dsimp only [List.set]
  refine vv_aload_n d_MO_init_72 rfl ?_
  refine vv_iconst d_MO_init_73 ?_
  refine vv_newI hw hAB (N := 4) 0 rfl d_MO_init_74 ⟨rfl, by decide⟩ (by decide) ⟨by decide, by decide⟩ (fun q15 => ?_)
  refine vv_toW ?_
  dsimp only [List.cons_append, List.nil_append]
  refine vv_putF hw hnm d_MO_init_76 0 rfl fF_MO_38 rfl rfl (Nat.le_of_ble_eq_true rfl) ?_
  dsimp only [List.set]
  refine vv_aload_n d_MO_init_79 rfl ?_
  refine vv_bipush d_MO_init_80 (by decide +kernel) ?_
  refine vv_newI hw hAB (N := 8) 0 rfl d_MO_init_82 ⟨rfl, by decide⟩ (by decide) ⟨by decide, by decide⟩ (fun q16 => ?_)
  refine vv_toW ?_
  dsimp only [List.cons_append, List.nil_append]
  refine vv_putF hw hnm d_MO_init_84 0 rfl fF_MO_41 rfl rfl (Nat.le_of_ble_eq_true rfl) ?_
  dsimp only [List.set]
  refine vv_aload_n d_MO_init_87 rfl ?_
  refine vv_sipush d_MO_init_88 (by decide +kernel) ?_
  refine vv_newI hw hAB (N := 2312) 0 rfl d_MO_init_91 ⟨rfl, by decide⟩ (by decide) ⟨by decide, by decide⟩ (fun q17 => ?_)
  refine vv_toW ?_
  dsimp only [List.cons_append, List.nil_append]
  refine vv_putF hw hnm d_MO_init_93 0 rfl fF_MO_44 rfl rfl (Nat.le_of_ble_eq_true rfl) ?_
  dsimp only [List.set]
  refine vv_aload_n d_MO_init_96 rfl ?_
  refine vv_sipush d_MO_init_97 (by decide +kernel) ?_
  refine vv_newI hw hAB (N := 2312) 0 rfl d_MO_init_100 ⟨rfl, by decide⟩ (by decide) ⟨by decide, by decide⟩ (fun q18 => ?_)
  refine vv_toW ?_
  dsimp only [List.cons_append, List.nil_append]
  refine vv_putF hw hnm d_MO_init_102 0 rfl fF_MO_47 rfl rfl (Nat.le_of_ble_eq_true rfl) ?_
  dsimp only [List.set]
  refine vv_aload_n d_MO_init_105 rfl ?_
  refine vv_sipush d_MO_init_106 (by decide +kernel) ?_
  refine vv_newI hw hAB (N := 2312) 0 rfl d_MO_init_109 ⟨rfl, by decide⟩ (by decide) ⟨by decide, by decide⟩ (fun q19 => ?_)
  refine vv_toW ?_
  dsimp only [List.cons_append, List.nil_append]
  refine vv_putF hw hnm d_MO_init_111 0 rfl fF_MO_50 rfl rfl (Nat.le_of_ble_eq_true rfl) ?_
  dsimp only [List.set]
  refine vv_aload_n d_MO_init_114 rfl ?_
  refine vv_sipush d_MO_init_115 (by decide +kernel) ?_
  refine vv_newI hw hAB (N := 3600) 0 rfl d_MO_init_118 ⟨rfl, by decide⟩ (by decide) ⟨by decide, by decide⟩ (fun q20 => ?_)
  refine vv_toW ?_
  dsimp only [List.cons_append, List.nil_append]
  refine vv_putF hw hnm d_MO_init_120 0 rfl fF_MO_53 rfl rfl (Nat.le_of_ble_eq_true rfl) ?_
  dsimp only [List.set]
  refine vv_aload_n d_MO_init_123 rfl ?_
  refine vv_bipush d_MO_init_124 (by decide +kernel) ?_
  refine vv_newI hw hAB (N := 20) 0 rfl d_MO_init_126 ⟨rfl, by decide⟩ (by decide) ⟨by decide, by decide⟩ (fun q23 => ?_)
  refine vv_toW ?_
  dsimp only [List.cons_append, List.nil_append]
  refine vv_putF hw hnm d_MO_init_128 0 rfl fF_MO_56 rfl rfl (Nat.le_of_ble_eq_true rfl) ?_
  dsimp only [List.set]
  refine vv_aload_n d_MO_init_131 rfl ?_
  refine vv_bipush d_MO_init_132 (by decide +kernel) ?_
  refine vv_newI hw hAB (N := 20) 0 rfl d_MO_init_134 ⟨rfl, by decide⟩ (by decide) ⟨by decide, by decide⟩ (fun q24 => ?_)
  refine vv_toW ?_
  dsimp only [List.cons_append, List.nil_append]
  refine vv_putF hw hnm d_MO_init_136 0 rfl fF_MO_59 rfl rfl (Nat.le_of_ble_eq_true rfl) ?_
  dsimp only [List.set]
  refine vv_aload_n d_MO_init_139 rfl ?_
  refine vv_bipush d_MO_init_140 (by decide +kernel) ?_
  refine vv_newI hw hAB (N := 20) 0 rfl d_MO_init_142 ⟨rfl, by decide⟩ (by decide) ⟨by decide, by decide⟩ (fun q25 => ?_)
  refine vv_toW ?_
  dsimp only [List.cons_append, List.nil_append]
  refine vv_putF hw hnm d_MO_init_144 0 rfl fF_MO_62 rfl rfl (Nat.le_of_ble_eq_true rfl) ?_
  dsimp only [List.set]
  refine vv_aload_n d_MO_init_147 rfl ?_
  refine vv_bipush d_MO_init_148 (by decide +kernel) ?_
  refine vv_newI hw hAB (N := 20) 0 rfl d_MO_init_150 ⟨rfl, by decide⟩ (by decide) ⟨by decide, by decide⟩ (fun q26 => ?_)
  refine vv_toW ?_
  dsimp only [List.cons_append, List.nil_append]
  refine vv_putF hw hnm d_MO_init_152 0 rfl fF_MO_65 rfl rfl (Nat.le_of_ble_eq_true rfl) ?_
  dsimp only [List.set]
  refine vv_aload_n d_MO_init_155 rfl ?_
  refine vv_bipush d_MO_init_156 (by decide +kernel) ?_
  refine vv_newI hw hAB (N := 20) 0 rfl d_MO_init_158 ⟨rfl, by decide⟩ (by decide) ⟨by decide, by decide⟩ (fun q27 => ?_)
  refine vv_toW ?_
  dsimp only [List.cons_append, List.nil_append]
  refine vv_putF hw hnm d_MO_init_160 0 rfl fF_MO_68 rfl rfl (Nat.le_of_ble_eq_true rfl) ?_
  dsimp only [List.set]
  refine vv_aload_n d_MO_init_163 rfl ?_
  refine vv_bipush d_MO_init_164 (by decide +kernel) ?_
  refine vv_newI hw hAB (N := 20) 0 rfl d_MO_init_166 ⟨rfl, by decide⟩ (by decide) ⟨by decide, by decide⟩ (fun q28 => ?_)
  refine vv_toW ?_
  dsimp only [List.cons_append, List.nil_append]
  refine vv_putF hw hnm d_MO_init_168 0 rfl fF_MO_71 rfl rfl (Nat.le_of_ble_eq_true rfl) ?_
  dsimp only [List.set]
  refine vv_aload_n d_MO_init_171 rfl ?_
  refine vv_bipush d_MO_init_172 (by decide +kernel) ?_
  refine vv_newI hw hAB (N := 20) 0 rfl d_MO_init_174 ⟨rfl, by decide⟩ (by decide) ⟨by decide, by decide⟩ (fun q29 => ?_)
  refine vv_toW ?_
  dsimp only [List.cons_append, List.nil_append]
  refine vv_putF hw hnm d_MO_init_176 0 rfl fF_MO_74 rfl rfl (Nat.le_of_ble_eq_true rfl) ?_
  dsimp only [List.set]
  refine vv_aload_n d_MO_init_179 rfl ?_
  refine vv_bipush d_MO_init_180 (by decide +kernel) ?_
  refine vv_newI hw hAB (N := 20) 0 rfl d_MO_init_182 ⟨rfl, by decide⟩ (by decide) ⟨by decide, by decide⟩ (fun q30 => ?_)
  refine vv_toW ?_
  dsimp only [List.cons_append, List.nil_append]
  refine vv_putF hw hnm d_MO_init_184 0 rfl fF_MO_77 rfl rfl (Nat.le_of_ble_eq_true rfl) ?_
  dsimp only [List.set]
  refine vv_aload_n d_MO_init_187 rfl ?_
  refine vv_sipush d_MO_init_188 (by decide +kernel) ?_
  refine vv_newI hw hAB (N := 12000) 0 rfl d_MO_init_191 ⟨rfl, by decide⟩ (by decide) ⟨by decide, by decide⟩ (fun q31 => ?_)
  refine vv_toW ?_
  dsimp only [List.cons_append, List.nil_append]
  refine vv_putF hw hnm d_MO_init_193 0 rfl fF_MO_80 rfl rfl (Nat.le_of_ble_eq_true rfl) ?_
  dsimp only [List.set]
  refine vv_aload_n d_MO_init_196 rfl ?_
  refine vv_sipush d_MO_init_197 (by decide +kernel) ?_
  refine vv_newI hw hAB (N := 25600) 0 rfl d_MO_init_200 ⟨rfl, by decide⟩ (by decide) ⟨by decide, by decide⟩ (fun q32 => ?_)
  refine vv_toW ?_
  dsimp only [List.cons_append, List.nil_append]
  refine vv_putF hw hnm d_MO_init_202 0 rfl fF_MO_83 rfl rfl (Nat.le_of_ble_eq_true rfl) ?_
  dsimp only [List.set]
  refine vv_aload_n d_MO_init_205 rfl ?_
  refine vv_sipush d_MO_init_206 (by decide +kernel) ?_
  refine vv_newI hw hAB (N := 20480) 0 rfl d_MO_init_209 ⟨rfl, by decide⟩ (by decide) ⟨by decide, by decide⟩ (fun q33 => ?_)
  refine vv_toW ?_
  dsimp only [List.cons_append, List.nil_append]
  refine vv_putF hw hnm d_MO_init_211 0 rfl fF_MO_86 rfl rfl (Nat.le_of_ble_eq_true rfl) ?_
  dsimp only [List.set]
  refine vv_aload_n d_MO_init_214 rfl ?_
  refine vv_iload_n d_MO_init_215 rfl ?_
  refine vv_if_ge (tgt := 223) d_MO_init_216 (by decide) (by omega) (fun c216 => ?_) (fun c216 => ?_)
  · skip
    refine vv_iload_n d_MO_init_223 rfl ?_
    refine vv_iconst d_MO_init_224 ?_
    refine vv_icmp_le (tgt := 232) d_MO_init_225 (by decide) ⟨by omega, by omega⟩ (fun c225 => ?_) (fun c225 => ?_)
    · skip
      refine vv_iload_n d_MO_init_232 rfl ?_
      refine vv_putF hw hnm d_MO_init_233 0 rfl fF_MO_89 rfl rfl (Nat.le_of_ble_eq_true rfl) ?_
      dsimp only [List.set]
      refine vv_aload_n d_MO_init_236 rfl ?_
      refine vv_iload_n d_MO_init_237 rfl ?_
      refine vv_iconst d_MO_init_238 ?_
      refine vv_icmp_ge (tgt := 246) d_MO_init_239 (by decide) ⟨by omega, by omega⟩ (fun c239 => ?_) (fun c239 => ?_)
      · skip
        refine vv_iload_n d_MO_init_246 rfl ?_
        refine vv_iconst d_MO_init_247 ?_
        refine vv_icmp_le (tgt := 255) d_MO_init_248 (by decide) ⟨by omega, by omega⟩ (fun c248 => ?_) (fun c248 => ?_)
        · skip
          refine vv_iload_n d_MO_init_255 rfl ?_
          refine vv_putF hw hnm d_MO_init_256 0 rfl fF_MO_93 rfl rfl (Nat.le_of_ble_eq_true rfl) ?_
          dsimp only [List.set]
          refine vv_aload_n d_MO_init_259 rfl ?_
          refine vv_iload_n d_MO_init_260 rfl ?_
          refine vv_iconst d_MO_init_261 ?_
          refine vv_icmp_ge (tgt := 269) d_MO_init_262 (by decide) ⟨by omega, by omega⟩ (fun c262 => ?_) (fun c262 => ?_)
          · skip
            refine vv_iload_n d_MO_init_269 rfl ?_
            refine vv_bipush d_MO_init_270 (by decide +kernel) ?_
            refine vv_icmp_le (tgt := 280) d_MO_init_272 (by decide) ⟨by omega, by omega⟩ (fun c272 => ?_) (fun c272 => ?_)
            · skip
              refine vv_iload_n d_MO_init_280 rfl ?_
              refine vv_putF hw hnm d_MO_init_281 0 rfl fF_MO_96 rfl rfl (Nat.le_of_ble_eq_true rfl) ?_
              dsimp only [List.set]
              have x1 : clp k 0 3 = k := by unfold clp; omega
              have x2 : clp s 1 3 = s := by unfold clp; omega
              have x3 : clp e 1 16 = e := by unfold clp; omega
              exact vv_vret hA hw hr d_MO_init_284 (by decide) (by decide) ⟨rfl, ⟨(fun j => match j with | 5 => q5 | 6 => q6 | 7 => q7 | 8 => q8 | 10 => q10 | 11 => q11 | 12 => q12 | 13 => q13 | 14 => q14 | 15 => q15 | 16 => q16 | 17 => q17 | 18 => q18 | 19 => q19 | 20 => q20 | 23 => q23 | 24 => q24 | 25 => q25 | 26 => q26 | 27 => q27 | 28 => q28 | 29 => q29 | 30 => q30 | 31 => q31 | 32 => q32 | 33 => q33 | _ => 0), cZ, by rw [x1, x2, x3]; rfl, rfl⟩, rfl⟩
            · skip
              refine vv_bipush d_MO_init_275 (by decide +kernel) ?_
              refine vv_goto (tgt := 281) d_MO_init_277 (by decide) ?_
              refine vv_putF hw hnm d_MO_init_281 0 rfl fF_MO_96 rfl rfl (Nat.le_of_ble_eq_true rfl) ?_
              dsimp only [List.set]
              have x1 : clp k 0 3 = k := by unfold clp; omega
              have x2 : clp s 1 3 = s := by unfold clp; omega
              have x3 : clp e 1 16 = 16 := by unfold clp; omega
              exact vv_vret hA hw hr d_MO_init_284 (by decide) (by decide) ⟨rfl, ⟨(fun j => match j with | 5 => q5 | 6 => q6 | 7 => q7 | 8 => q8 | 10 => q10 | 11 => q11 | 12 => q12 | 13 => q13 | 14 => q14 | 15 => q15 | 16 => q16 | 17 => q17 | 18 => q18 | 19 => q19 | 20 => q20 | 23 => q23 | 24 => q24 | 25 => q25 | 26 => q26 | 27 => q27 | 28 => q28 | 29 => q29 | 30 => q30 | 31 => q31 | 32 => q32 | 33 => q33 | _ => 0), cZ, by rw [x1, x2, x3]; rfl, rfl⟩, rfl⟩
          · skip
            refine vv_iconst d_MO_init_265 ?_
            refine vv_goto (tgt := 281) d_MO_init_266 (by decide) ?_
            refine vv_putF hw hnm d_MO_init_281 0 rfl fF_MO_96 rfl rfl (Nat.le_of_ble_eq_true rfl) ?_
            dsimp only [List.set]
            have x1 : clp k 0 3 = k := by unfold clp; omega
            have x2 : clp s 1 3 = s := by unfold clp; omega
            have x3 : clp e 1 16 = 1 := by unfold clp; omega
            exact vv_vret hA hw hr d_MO_init_284 (by decide) (by decide) ⟨rfl, ⟨(fun j => match j with | 5 => q5 | 6 => q6 | 7 => q7 | 8 => q8 | 10 => q10 | 11 => q11 | 12 => q12 | 13 => q13 | 14 => q14 | 15 => q15 | 16 => q16 | 17 => q17 | 18 => q18 | 19 => q19 | 20 => q20 | 23 => q23 | 24 => q24 | 25 => q25 | 26 => q26 | 27 => q27 | 28 => q28 | 29 => q29 | 30 => q30 | 31 => q31 | 32 => q32 | 33 => q33 | _ => 0), cZ, by rw [x1, x2, x3]; rfl, rfl⟩, rfl⟩
        · skip
          refine vv_iconst d_MO_init_251 ?_
          refine vv_goto (tgt := 256) d_MO_init_252 (by decide) ?_
          refine vv_putF hw hnm d_MO_init_256 0 rfl fF_MO_93 rfl rfl (Nat.le_of_ble_eq_true rfl) ?_
          dsimp only [List.set]
          refine vv_aload_n d_MO_init_259 rfl ?_
          refine vv_iload_n d_MO_init_260 rfl ?_
          refine vv_iconst d_MO_init_261 ?_
          refine vv_icmp_ge (tgt := 269) d_MO_init_262 (by decide) ⟨by omega, by omega⟩ (fun c262 => ?_) (fun c262 => ?_)
          · skip
            refine vv_iload_n d_MO_init_269 rfl ?_
            refine vv_bipush d_MO_init_270 (by decide +kernel) ?_
            refine vv_icmp_le (tgt := 280) d_MO_init_272 (by decide) ⟨by omega, by omega⟩ (fun c272 => ?_) (fun c272 => ?_)
            · skip
              refine vv_iload_n d_MO_init_280 rfl ?_
              refine vv_putF hw hnm d_MO_init_281 0 rfl fF_MO_96 rfl rfl (Nat.le_of_ble_eq_true rfl) ?_
              dsimp only [List.set]
              have x1 : clp k 0 3 = k := by unfold clp; omega
              have x2 : clp s 1 3 = 3 := by unfold clp; omega
              have x3 : clp e 1 16 = e := by unfold clp; omega
              exact vv_vret hA hw hr d_MO_init_284 (by decide) (by decide) ⟨rfl, ⟨(fun j => match j with | 5 => q5 | 6 => q6 | 7 => q7 | 8 => q8 | 10 => q10 | 11 => q11 | 12 => q12 | 13 => q13 | 14 => q14 | 15 => q15 | 16 => q16 | 17 => q17 | 18 => q18 | 19 => q19 | 20 => q20 | 23 => q23 | 24 => q24 | 25 => q25 | 26 => q26 | 27 => q27 | 28 => q28 | 29 => q29 | 30 => q30 | 31 => q31 | 32 => q32 | 33 => q33 | _ => 0), cZ, by rw [x1, x2, x3]; rfl, rfl⟩, rfl⟩
            · skip
              refine vv_bipush d_MO_init_275 (by decide +kernel) ?_
              refine vv_goto (tgt := 281) d_MO_init_277 (by decide) ?_
              refine vv_putF hw hnm d_MO_init_281 0 rfl fF_MO_96 rfl rfl (Nat.le_of_ble_eq_true rfl) ?_
              dsimp only [List.set]
              have x1 : clp k 0 3 = k := by unfold clp; omega
              have x2 : clp s 1 3 = 3 := by unfold clp; omega
              have x3 : clp e 1 16 = 16 := by unfold clp; omega
              exact vv_vret hA hw hr d_MO_init_284 (by decide) (by decide) ⟨rfl, ⟨(fun j => match j with | 5 => q5 | 6 => q6 | 7 => q7 | 8 => q8 | 10 => q10 | 11 => q11 | 12 => q12 | 13 => q13 | 14 => q14 | 15 => q15 | 16 => q16 | 17 => q17 | 18 => q18 | 19 => q19 | 20 => q20 | 23 => q23 | 24 => q24 | 25 => q25 | 26 => q26 | 27 => q27 | 28 => q28 | 29 => q29 | 30 => q30 | 31 => q31 | 32 => q32 | 33 => q33 | _ => 0), cZ, by rw [x1, x2, x3]; rfl, rfl⟩, rfl⟩
          · skip
            refine vv_iconst d_MO_init_265 ?_
            refine vv_goto (tgt := 281) d_MO_init_266 (by decide) ?_
            refine vv_putF hw hnm d_MO_init_281 0 rfl fF_MO_96 rfl rfl (Nat.le_of_ble_eq_true rfl) ?_
            dsimp only [List.set]
            have x1 : clp k 0 3 = k := by unfold clp; omega
            have x2 : clp s 1 3 = 3 := by unfold clp; omega
            have x3 : clp e 1 16 = 1 := by unfold clp; omega
            exact vv_vret hA hw hr d_MO_init_284 (by decide) (by decide) ⟨rfl, ⟨(fun j => match j with | 5 => q5 | 6 => q6 | 7 => q7 | 8 => q8 | 10 => q10 | 11 => q11 | 12 => q12 | 13 => q13 | 14 => q14 | 15 => q15 | 16 => q16 | 17 => q17 | 18 => q18 | 19 => q19 | 20 => q20 | 23 => q23 | 24 => q24 | 25 => q25 | 26 => q26 | 27 => q27 | 28 => q28 | 29 => q29 | 30 => q30 | 31 => q31 | 32 => q32 | 33 => q33 | _ => 0), cZ, by rw [x1, x2, x3]; rfl, rfl⟩, rfl⟩
      · skip
        refine vv_iconst d_MO_init_242 ?_
        refine vv_goto (tgt := 256) d_MO_init_243 (by decide) ?_
        refine vv_putF hw hnm d_MO_init_256 0 rfl fF_MO_93 rfl rfl (Nat.le_of_ble_eq_true rfl) ?_
        dsimp only [List.set]
        refine vv_aload_n d_MO_init_259 rfl ?_
        refine vv_iload_n d_MO_init_260 rfl ?_
        refine vv_iconst d_MO_init_261 ?_
        refine vv_icmp_ge (tgt := 269) d_MO_init_262 (by decide) ⟨by omega, by omega⟩ (fun c262 => ?_) (fun c262 => ?_)
        · skip
          refine vv_iload_n d_MO_init_269 rfl ?_
          refine vv_bipush d_MO_init_270 (by decide +kernel) ?_
          refine vv_icmp_le (tgt := 280) d_MO_init_272 (by decide) ⟨by omega, by omega⟩ (fun c272 => ?_) (fun c272 => ?_)
          · skip
            refine vv_iload_n d_MO_init_280 rfl ?_
            refine vv_putF hw hnm d_MO_init_281 0 rfl fF_MO_96 rfl rfl (Nat.le_of_ble_eq_true rfl) ?_
            dsimp only [List.set]
            have x1 : clp k 0 3 = k := by unfold clp; omega
            have x2 : clp s 1 3 = 1 := by unfold clp; omega
            have x3 : clp e 1 16 = e := by unfold clp; omega
            exact vv_vret hA hw hr d_MO_init_284 (by decide) (by decide) ⟨rfl, ⟨(fun j => match j with | 5 => q5 | 6 => q6 | 7 => q7 | 8 => q8 | 10 => q10 | 11 => q11 | 12 => q12 | 13 => q13 | 14 => q14 | 15 => q15 | 16 => q16 | 17 => q17 | 18 => q18 | 19 => q19 | 20 => q20 | 23 => q23 | 24 => q24 | 25 => q25 | 26 => q26 | 27 => q27 | 28 => q28 | 29 => q29 | 30 => q30 | 31 => q31 | 32 => q32 | 33 => q33 | _ => 0), cZ, by rw [x1, x2, x3]; rfl, rfl⟩, rfl⟩
          · skip
            refine vv_bipush d_MO_init_275 (by decide +kernel) ?_
            refine vv_goto (tgt := 281) d_MO_init_277 (by decide) ?_
            refine vv_putF hw hnm d_MO_init_281 0 rfl fF_MO_96 rfl rfl (Nat.le_of_ble_eq_true rfl) ?_
            dsimp only [List.set]
            have x1 : clp k 0 3 = k := by unfold clp; omega
            have x2 : clp s 1 3 = 1 := by unfold clp; omega
            have x3 : clp e 1 16 = 16 := by unfold clp; omega
            exact vv_vret hA hw hr d_MO_init_284 (by decide) (by decide) ⟨rfl, ⟨(fun j => match j with | 5 => q5 | 6 => q6 | 7 => q7 | 8 => q8 | 10 => q10 | 11 => q11 | 12 => q12 | 13 => q13 | 14 => q14 | 15 => q15 | 16 => q16 | 17 => q17 | 18 => q18 | 19 => q19 | 20 => q20 | 23 => q23 | 24 => q24 | 25 => q25 | 26 => q26 | 27 => q27 | 28 => q28 | 29 => q29 | 30 => q30 | 31 => q31 | 32 => q32 | 33 => q33 | _ => 0), cZ, by rw [x1, x2, x3]; rfl, rfl⟩, rfl⟩
        · skip
          refine vv_iconst d_MO_init_265 ?_
          refine vv_goto (tgt := 281) d_MO_init_266 (by decide) ?_
          refine vv_putF hw hnm d_MO_init_281 0 rfl fF_MO_96 rfl rfl (Nat.le_of_ble_eq_true rfl) ?_
          dsimp only [List.set]
          have x1 : clp k 0 3 = k := by unfold clp; omega
          have x2 : clp s 1 3 = 1 := by unfold clp; omega
          have x3 : clp e 1 16 = 1 := by unfold clp; omega
          exact vv_vret hA hw hr d_MO_init_284 (by decide) (by decide) ⟨rfl, ⟨(fun j => match j with | 5 => q5 | 6 => q6 | 7 => q7 | 8 => q8 | 10 => q10 | 11 => q11 | 12 => q12 | 13 => q13 | 14 => q14 | 15 => q15 | 16 => q16 | 17 => q17 | 18 => q18 | 19 => q19 | 20 => q20 | 23 => q23 | 24 => q24 | 25 => q25 | 26 => q26 | 27 => q27 | 28 => q28 | 29 => q29 | 30 => q30 | 31 => q31 | 32 => q32 | 33 => q33 | _ => 0), cZ, by rw [x1, x2, x3]; rfl, rfl⟩, rfl⟩
    · skip
      refine vv_iconst d_MO_init_228 ?_
      refine vv_goto (tgt := 233) d_MO_init_229 (by decide) ?_
      refine vv_putF hw hnm d_MO_init_233 0 rfl fF_MO_89 rfl rfl (Nat.le_of_ble_eq_true rfl) ?_
      dsimp only [List.set]
      refine vv_aload_n d_MO_init_236 rfl ?_
      refine vv_iload_n d_MO_init_237 rfl ?_
      refine vv_iconst d_MO_init_238 ?_
      refine vv_icmp_ge (tgt := 246) d_MO_init_239 (by decide) ⟨by omega, by omega⟩ (fun c239 => ?_) (fun c239 => ?_)
      · skip
        refine vv_iload_n d_MO_init_246 rfl ?_
        refine vv_iconst d_MO_init_247 ?_
        refine vv_icmp_le (tgt := 255) d_MO_init_248 (by decide) ⟨by omega, by omega⟩ (fun c248 => ?_) (fun c248 => ?_)
        · skip
          refine vv_iload_n d_MO_init_255 rfl ?_
          refine vv_putF hw hnm d_MO_init_256 0 rfl fF_MO_93 rfl rfl (Nat.le_of_ble_eq_true rfl) ?_
          dsimp only [List.set]
          refine vv_aload_n d_MO_init_259 rfl ?_
          refine vv_iload_n d_MO_init_260 rfl ?_
          refine vv_iconst d_MO_init_261 ?_
          refine vv_icmp_ge (tgt := 269) d_MO_init_262 (by decide) ⟨by omega, by omega⟩ (fun c262 => ?_) (fun c262 => ?_)
          · skip
            refine vv_iload_n d_MO_init_269 rfl ?_
            refine vv_bipush d_MO_init_270 (by decide +kernel) ?_
            refine vv_icmp_le (tgt := 280) d_MO_init_272 (by decide) ⟨by omega, by omega⟩ (fun c272 => ?_) (fun c272 => ?_)
            · skip
              refine vv_iload_n d_MO_init_280 rfl ?_
              refine vv_putF hw hnm d_MO_init_281 0 rfl fF_MO_96 rfl rfl (Nat.le_of_ble_eq_true rfl) ?_
              dsimp only [List.set]
              have x1 : clp k 0 3 = 3 := by unfold clp; omega
              have x2 : clp s 1 3 = s := by unfold clp; omega
              have x3 : clp e 1 16 = e := by unfold clp; omega
              exact vv_vret hA hw hr d_MO_init_284 (by decide) (by decide) ⟨rfl, ⟨(fun j => match j with | 5 => q5 | 6 => q6 | 7 => q7 | 8 => q8 | 10 => q10 | 11 => q11 | 12 => q12 | 13 => q13 | 14 => q14 | 15 => q15 | 16 => q16 | 17 => q17 | 18 => q18 | 19 => q19 | 20 => q20 | 23 => q23 | 24 => q24 | 25 => q25 | 26 => q26 | 27 => q27 | 28 => q28 | 29 => q29 | 30 => q30 | 31 => q31 | 32 => q32 | 33 => q33 | _ => 0), cZ, by rw [x1, x2, x3]; rfl, rfl⟩, rfl⟩
            · skip
              refine vv_bipush d_MO_init_275 (by decide +kernel) ?_
              refine vv_goto (tgt := 281) d_MO_init_277 (by decide) ?_
              refine vv_putF hw hnm d_MO_init_281 0 rfl fF_MO_96 rfl rfl (Nat.le_of_ble_eq_true rfl) ?_
              dsimp only [List.set]
              have x1 : clp k 0 3 = 3 := by unfold clp; omega
              have x2 : clp s 1 3 = s := by unfold clp; omega
              have x3 : clp e 1 16 = 16 := by unfold clp; omega
              exact vv_vret hA hw hr d_MO_init_284 (by decide) (by decide) ⟨rfl, ⟨(fun j => match j with | 5 => q5 | 6 => q6 | 7 => q7 | 8 => q8 | 10 => q10 | 11 => q11 | 12 => q12 | 13 => q13 | 14 => q14 | 15 => q15 | 16 => q16 | 17 => q17 | 18 => q18 | 19 => q19 | 20 => q20 | 23 => q23 | 24 => q24 | 25 => q25 | 26 => q26 | 27 => q27 | 28 => q28 | 29 => q29 | 30 => q30 | 31 => q31 | 32 => q32 | 33 => q33 | _ => 0), cZ, by rw [x1, x2, x3]; rfl, rfl⟩, rfl⟩
          · skip
            refine vv_iconst d_MO_init_265 ?_
            refine vv_goto (tgt := 281) d_MO_init_266 (by decide) ?_
            refine vv_putF hw hnm d_MO_init_281 0 rfl fF_MO_96 rfl rfl (Nat.le_of_ble_eq_true rfl) ?_
            dsimp only [List.set]
            have x1 : clp k 0 3 = 3 := by unfold clp; omega
            have x2 : clp s 1 3 = s := by unfold clp; omega
            have x3 : clp e 1 16 = 1 := by unfold clp; omega
            exact vv_vret hA hw hr d_MO_init_284 (by decide) (by decide) ⟨rfl, ⟨(fun j => match j with | 5 => q5 | 6 => q6 | 7 => q7 | 8 => q8 | 10 => q10 | 11 => q11 | 12 => q12 | 13 => q13 | 14 => q14 | 15 => q15 | 16 => q16 | 17 => q17 | 18 => q18 | 19 => q19 | 20 => q20 | 23 => q23 | 24 => q24 | 25 => q25 | 26 => q26 | 27 => q27 | 28 => q28 | 29 => q29 | 30 => q30 | 31 => q31 | 32 => q32 | 33 => q33 | _ => 0), cZ, by rw [x1, x2, x3]; rfl, rfl⟩, rfl⟩
        · skip
          refine vv_iconst d_MO_init_251 ?_
          refine vv_goto (tgt := 256) d_MO_init_252 (by decide) ?_
          refine vv_putF hw hnm d_MO_init_256 0 rfl fF_MO_93 rfl rfl (Nat.le_of_ble_eq_true rfl) ?_
          dsimp only [List.set]
          refine vv_aload_n d_MO_init_259 rfl ?_
          refine vv_iload_n d_MO_init_260 rfl ?_
          refine vv_iconst d_MO_init_261 ?_
          refine vv_icmp_ge (tgt := 269) d_MO_init_262 (by decide) ⟨by omega, by omega⟩ (fun c262 => ?_) (fun c262 => ?_)
          · skip
            refine vv_iload_n d_MO_init_269 rfl ?_
            refine vv_bipush d_MO_init_270 (by decide +kernel) ?_
            refine vv_icmp_le (tgt := 280) d_MO_init_272 (by decide) ⟨by omega, by omega⟩ (fun c272 => ?_) (fun c272 => ?_)
            · skip
              refine vv_iload_n d_MO_init_280 rfl ?_
              refine vv_putF hw hnm d_MO_init_281 0 rfl fF_MO_96 rfl rfl (Nat.le_of_ble_eq_true rfl) ?_
              dsimp only [List.set]
              have x1 : clp k 0 3 = 3 := by unfold clp; omega
              have x2 : clp s 1 3 = 3 := by unfold clp; omega
              have x3 : clp e 1 16 = e := by unfold clp; omega
              exact vv_vret hA hw hr d_MO_init_284 (by decide) (by decide) ⟨rfl, ⟨(fun j => match j with | 5 => q5 | 6 => q6 | 7 => q7 | 8 => q8 | 10 => q10 | 11 => q11 | 12 => q12 | 13 => q13 | 14 => q14 | 15 => q15 | 16 => q16 | 17 => q17 | 18 => q18 | 19 => q19 | 20 => q20 | 23 => q23 | 24 => q24 | 25 => q25 | 26 => q26 | 27 => q27 | 28 => q28 | 29 => q29 | 30 => q30 | 31 => q31 | 32 => q32 | 33 => q33 | _ => 0), cZ, by rw [x1, x2, x3]; rfl, rfl⟩, rfl⟩
            · skip
              refine vv_bipush d_MO_init_275 (by decide +kernel) ?_
              refine vv_goto (tgt := 281) d_MO_init_277 (by decide) ?_
              refine vv_putF hw hnm d_MO_init_281 0 rfl fF_MO_96 rfl rfl (Nat.le_of_ble_eq_true rfl) ?_
              dsimp only [List.set]
              have x1 : clp k 0 3 = 3 := by unfold clp; omega
              have x2 : clp s 1 3 = 3 := by unfold clp; omega
              have x3 : clp e 1 16 = 16 := by unfold clp; omega
              exact vv_vret hA hw hr d_MO_init_284 (by decide) (by decide) ⟨rfl, ⟨(fun j => match j with | 5 => q5 | 6 => q6 | 7 => q7 | 8 => q8 | 10 => q10 | 11 => q11 | 12 => q12 | 13 => q13 | 14 => q14 | 15 => q15 | 16 => q16 | 17 => q17 | 18 => q18 | 19 => q19 | 20 => q20 | 23 => q23 | 24 => q24 | 25 => q25 | 26 => q26 | 27 => q27 | 28 => q28 | 29 => q29 | 30 => q30 | 31 => q31 | 32 => q32 | 33 => q33 | _ => 0), cZ, by rw [x1, x2, x3]; rfl, rfl⟩, rfl⟩
          · skip
            refine vv_iconst d_MO_init_265 ?_
            refine vv_goto (tgt := 281) d_MO_init_266 (by decide) ?_
            refine vv_putF hw hnm d_MO_init_281 0 rfl fF_MO_96 rfl rfl (Nat.le_of_ble_eq_true rfl) ?_
            dsimp only [List.set]
            have x1 : clp k 0 3 = 3 := by unfold clp; omega
            have x2 : clp s 1 3 = 3 := by unfold clp; omega
            have x3 : clp e 1 16 = 1 := by unfold clp; omega
            exact vv_vret hA hw hr d_MO_init_284 (by decide) (by decide) ⟨rfl, ⟨(fun j => match j with | 5 => q5 | 6 => q6 | 7 => q7 | 8 => q8 | 10 => q10 | 11 => q11 | 12 => q12 | 13 => q13 | 14 => q14 | 15 => q15 | 16 => q16 | 17 => q17 | 18 => q18 | 19 => q19 | 20 => q20 | 23 => q23 | 24 => q24 | 25 => q25 | 26 => q26 | 27 => q27 | 28 => q28 | 29 => q29 | 30 => q30 | 31 => q31 | 32 => q32 | 33 => q33 | _ => 0), cZ, by rw [x1, x2, x3]; rfl, rfl⟩, rfl⟩
      · skip
        refine vv_iconst d_MO_init_242 ?_
        refine vv_goto (tgt := 256) d_MO_init_243 (by decide) ?_
        refine vv_putF hw hnm d_MO_init_256 0 rfl fF_MO_93 rfl rfl (Nat.le_of_ble_eq_true rfl) ?_
        dsimp only [List.set]
        refine vv_aload_n d_MO_init_259 rfl ?_
        refine vv_iload_n d_MO_init_260 rfl ?_
        refine vv_iconst d_MO_init_261 ?_
        refine vv_icmp_ge (tgt := 269) d_MO_init_262 (by decide) ⟨by omega, by omega⟩ (fun c262 => ?_) (fun c262 => ?_)
        · skip
          refine vv_iload_n d_MO_init_269 rfl ?_
          refine vv_bipush d_MO_init_270 (by decide +kernel) ?_
          refine vv_icmp_le (tgt := 280) d_MO_init_272 (by decide) ⟨by omega, by omega⟩ (fun c272 => ?_) (fun c272 => ?_)
          · skip
            refine vv_iload_n d_MO_init_280 rfl ?_
            refine vv_putF hw hnm d_MO_init_281 0 rfl fF_MO_96 rfl rfl (Nat.le_of_ble_eq_true rfl) ?_
            dsimp only [List.set]
            have x1 : clp k 0 3 = 3 := by unfold clp; omega
            have x2 : clp s 1 3 = 1 := by unfold clp; omega
            have x3 : clp e 1 16 = e := by unfold clp; omega
            exact vv_vret hA hw hr d_MO_init_284 (by decide) (by decide) ⟨rfl, ⟨(fun j => match j with | 5 => q5 | 6 => q6 | 7 => q7 | 8 => q8 | 10 => q10 | 11 => q11 | 12 => q12 | 13 => q13 | 14 => q14 | 15 => q15 | 16 => q16 | 17 => q17 | 18 => q18 | 19 => q19 | 20 => q20 | 23 => q23 | 24 => q24 | 25 => q25 | 26 => q26 | 27 => q27 | 28 => q28 | 29 => q29 | 30 => q30 | 31 => q31 | 32 => q32 | 33 => q33 | _ => 0), cZ, by rw [x1, x2, x3]; rfl, rfl⟩, rfl⟩
          · skip
            refine vv_bipush d_MO_init_275 (by decide +kernel) ?_
            refine vv_goto (tgt := 281) d_MO_init_277 (by decide) ?_
            refine vv_putF hw hnm d_MO_init_281 0 rfl fF_MO_96 rfl rfl (Nat.le_of_ble_eq_true rfl) ?_
            dsimp only [List.set]
            have x1 : clp k 0 3 = 3 := by unfold clp; omega
            have x2 : clp s 1 3 = 1 := by unfold clp; omega
            have x3 : clp e 1 16 = 16 := by unfold clp; omega
            exact vv_vret hA hw hr d_MO_init_284 (by decide) (by decide) ⟨rfl, ⟨(fun j => match j with | 5 => q5 | 6 => q6 | 7 => q7 | 8 => q8 | 10 => q10 | 11 => q11 | 12 => q12 | 13 => q13 | 14 => q14 | 15 => q15 | 16 => q16 | 17 => q17 | 18 => q18 | 19 => q19 | 20 => q20 | 23 => q23 | 24 => q24 | 25 => q25 | 26 => q26 | 27 => q27 | 28 => q28 | 29 => q29 | 30 => q30 | 31 => q31 | 32 => q32 | 33 => q33 | _ => 0), cZ, by rw [x1, x2, x3]; rfl, rfl⟩, rfl⟩
        · skip
          refine vv_iconst d_MO_init_265 ?_
          refine vv_goto (tgt := 281) d_MO_init_266 (by decide) ?_
          refine vv_putF hw hnm d_MO_init_281 0 rfl fF_MO_96 rfl rfl (Nat.le_of_ble_eq_true rfl) ?_
          dsimp only [List.set]
          have x1 : clp k 0 3 = 3 := by unfold clp; omega
          have x2 : clp s 1 3 = 1 := by unfold clp; omega
          have x3 : clp e 1 16 = 1 := by unfold clp; omega
          exact vv_vret hA hw hr d_MO_init_284 (by decide) (by decide) ⟨rfl, ⟨(fun j => match j with | 5 => q5 | 6 => q6 | 7 => q7 | 8 => q8 | 10 => q10 | 11 => q11 | 12 => q12 | 13 => q13 | 14 => q14 | 15 => q15 | 16 => q16 | 17 => q17 | 18 => q18 | 19 => q19 | 20 => q20 | 23 => q23 | 24 => q24 | 25 => q25 | 26 => q26 | 27 => q27 | 28 => q28 | 29 => q29 | 30 => q30 | 31 => q31 | 32 => q32 | 33 => q33 | _ => 0), cZ, by rw [x1, x2, x3]; rfl, rfl⟩, rfl⟩
  · skip
    refine vv_iconst d_MO_init_219 ?_
    refine vv_goto (tgt := 233) d_MO_init_220 (by decide) ?_
    refine vv_putF hw hnm d_MO_init_233 0 rfl fF_MO_89 rfl rfl (Nat.le_of_ble_eq_true rfl) ?_
    dsimp only [List.set]
    refine vv_aload_n d_MO_init_236 rfl ?_
    refine vv_iload_n d_MO_init_237 rfl ?_
    refine vv_iconst d_MO_init_238 ?_
    refine vv_icmp_ge (tgt := 246) d_MO_init_239 (by decide) ⟨by omega, by omega⟩ (fun c239 => ?_) (fun c239 => ?_)
    · skip
      refine vv_iload_n d_MO_init_246 rfl ?_
      refine vv_iconst d_MO_init_247 ?_
      refine vv_icmp_le (tgt := 255) d_MO_init_248 (by decide) ⟨by omega, by omega⟩ (fun c248 => ?_) (fun c248 => ?_)
      · skip
        refine vv_iload_n d_MO_init_255 rfl ?_
        refine vv_putF hw hnm d_MO_init_256 0 rfl fF_MO_93 rfl rfl (Nat.le_of_ble_eq_true rfl) ?_
        dsimp only [List.set]
        refine vv_aload_n d_MO_init_259 rfl ?_
        refine vv_iload_n d_MO_init_260 rfl ?_
        refine vv_iconst d_MO_init_261 ?_
        refine vv_icmp_ge (tgt := 269) d_MO_init_262 (by decide) ⟨by omega, by omega⟩ (fun c262 => ?_) (fun c262 => ?_)
        · skip
          refine vv_iload_n d_MO_init_269 rfl ?_
          refine vv_bipush d_MO_init_270 (by decide +kernel) ?_
          refine vv_icmp_le (tgt := 280) d_MO_init_272 (by decide) ⟨by omega, by omega⟩ (fun c272 => ?_) (fun c272 => ?_)
          · skip
            refine vv_iload_n d_MO_init_280 rfl ?_
            refine vv_putF hw hnm d_MO_init_281 0 rfl fF_MO_96 rfl rfl (Nat.le_of_ble_eq_true rfl) ?_
            dsimp only [List.set]
            have x1 : clp k 0 3 = 0 := by unfold clp; omega
            have x2 : clp s 1 3 = s := by unfold clp; omega
            have x3 : clp e 1 16 = e := by unfold clp; omega
            exact vv_vret hA hw hr d_MO_init_284 (by decide) (by decide) ⟨rfl, ⟨(fun j => match j with | 5 => q5 | 6 => q6 | 7 => q7 | 8 => q8 | 10 => q10 | 11 => q11 | 12 => q12 | 13 => q13 | 14 => q14 | 15 => q15 | 16 => q16 | 17 => q17 | 18 => q18 | 19 => q19 | 20 => q20 | 23 => q23 | 24 => q24 | 25 => q25 | 26 => q26 | 27 => q27 | 28 => q28 | 29 => q29 | 30 => q30 | 31 => q31 | 32 => q32 | 33 => q33 | _ => 0), cZ, by rw [x1, x2, x3]; rfl, rfl⟩, rfl⟩
          · skip
            refine vv_bipush d_MO_init_275 (by decide +kernel) ?_
            refine vv_goto (tgt := 281) d_MO_init_277 (by decide) ?_
            refine vv_putF hw hnm d_MO_init_281 0 rfl fF_MO_96 rfl rfl (Nat.le_of_ble_eq_true rfl) ?_
            dsimp only [List.set]
            have x1 : clp k 0 3 = 0 := by unfold clp; omega
            have x2 : clp s 1 3 = s := by unfold clp; omega
            have x3 : clp e 1 16 = 16 := by unfold clp; omega
            exact vv_vret hA hw hr d_MO_init_284 (by decide) (by decide) ⟨rfl, ⟨(fun j => match j with | 5 => q5 | 6 => q6 | 7 => q7 | 8 => q8 | 10 => q10 | 11 => q11 | 12 => q12 | 13 => q13 | 14 => q14 | 15 => q15 | 16 => q16 | 17 => q17 | 18 => q18 | 19 => q19 | 20 => q20 | 23 => q23 | 24 => q24 | 25 => q25 | 26 => q26 | 27 => q27 | 28 => q28 | 29 => q29 | 30 => q30 | 31 => q31 | 32 => q32 | 33 => q33 | _ => 0), cZ, by rw [x1, x2, x3]; rfl, rfl⟩, rfl⟩
        · skip
          refine vv_iconst d_MO_init_265 ?_
          refine vv_goto (tgt := 281) d_MO_init_266 (by decide) ?_
          refine vv_putF hw hnm d_MO_init_281 0 rfl fF_MO_96 rfl rfl (Nat.le_of_ble_eq_true rfl) ?_
          dsimp only [List.set]
          have x1 : clp k 0 3 = 0 := by unfold clp; omega
          have x2 : clp s 1 3 = s := by unfold clp; omega
          have x3 : clp e 1 16 = 1 := by unfold clp; omega
          exact vv_vret hA hw hr d_MO_init_284 (by decide) (by decide) ⟨rfl, ⟨(fun j => match j with | 5 => q5 | 6 => q6 | 7 => q7 | 8 => q8 | 10 => q10 | 11 => q11 | 12 => q12 | 13 => q13 | 14 => q14 | 15 => q15 | 16 => q16 | 17 => q17 | 18 => q18 | 19 => q19 | 20 => q20 | 23 => q23 | 24 => q24 | 25 => q25 | 26 => q26 | 27 => q27 | 28 => q28 | 29 => q29 | 30 => q30 | 31 => q31 | 32 => q32 | 33 => q33 | _ => 0), cZ, by rw [x1, x2, x3]; rfl, rfl⟩, rfl⟩
      · skip
        refine vv_iconst d_MO_init_251 ?_
        refine vv_goto (tgt := 256) d_MO_init_252 (by decide) ?_
        refine vv_putF hw hnm d_MO_init_256 0 rfl fF_MO_93 rfl rfl (Nat.le_of_ble_eq_true rfl) ?_
        dsimp only [List.set]
        refine vv_aload_n d_MO_init_259 rfl ?_
        refine vv_iload_n d_MO_init_260 rfl ?_
        refine vv_iconst d_MO_init_261 ?_
        refine vv_icmp_ge (tgt := 269) d_MO_init_262 (by decide) ⟨by omega, by omega⟩ (fun c262 => ?_) (fun c262 => ?_)
        · skip
          refine vv_iload_n d_MO_init_269 rfl ?_
          refine vv_bipush d_MO_init_270 (by decide +kernel) ?_
          refine vv_icmp_le (tgt := 280) d_MO_init_272 (by decide) ⟨by omega, by omega⟩ (fun c272 => ?_) (fun c272 => ?_)
          · skip
            refine vv_iload_n d_MO_init_280 rfl ?_
            refine vv_putF hw hnm d_MO_init_281 0 rfl fF_MO_96 rfl rfl (Nat.le_of_ble_eq_true rfl) ?_
            dsimp only [List.set]
            have x1 : clp k 0 3 = 0 := by unfold clp; omega
            have x2 : clp s 1 3 = 3 := by unfold clp; omega
            have x3 : clp e 1 16 = e := by unfold clp; omega
            exact vv_vret hA hw hr d_MO_init_284 (by decide) (by decide) ⟨rfl, ⟨(fun j => match j with | 5 => q5 | 6 => q6 | 7 => q7 | 8 => q8 | 10 => q10 | 11 => q11 | 12 => q12 | 13 => q13 | 14 => q14 | 15 => q15 | 16 => q16 | 17 => q17 | 18 => q18 | 19 => q19 | 20 => q20 | 23 => q23 | 24 => q24 | 25 => q25 | 26 => q26 | 27 => q27 | 28 => q28 | 29 => q29 | 30 => q30 | 31 => q31 | 32 => q32 | 33 => q33 | _ => 0), cZ, by rw [x1, x2, x3]; rfl, rfl⟩, rfl⟩
          · skip
            refine vv_bipush d_MO_init_275 (by decide +kernel) ?_
            refine vv_goto (tgt := 281) d_MO_init_277 (by decide) ?_
            refine vv_putF hw hnm d_MO_init_281 0 rfl fF_MO_96 rfl rfl (Nat.le_of_ble_eq_true rfl) ?_
            dsimp only [List.set]
            have x1 : clp k 0 3 = 0 := by unfold clp; omega
            have x2 : clp s 1 3 = 3 := by unfold clp; omega
            have x3 : clp e 1 16 = 16 := by unfold clp; omega
            exact vv_vret hA hw hr d_MO_init_284 (by decide) (by decide) ⟨rfl, ⟨(fun j => match j with | 5 => q5 | 6 => q6 | 7 => q7 | 8 => q8 | 10 => q10 | 11 => q11 | 12 => q12 | 13 => q13 | 14 => q14 | 15 => q15 | 16 => q16 | 17 => q17 | 18 => q18 | 19 => q19 | 20 => q20 | 23 => q23 | 24 => q24 | 25 => q25 | 26 => q26 | 27 => q27 | 28 => q28 | 29 => q29 | 30 => q30 | 31 => q31 | 32 => q32 | 33 => q33 | _ => 0), cZ, by rw [x1, x2, x3]; rfl, rfl⟩, rfl⟩
        · skip
          refine vv_iconst d_MO_init_265 ?_
          refine vv_goto (tgt := 281) d_MO_init_266 (by decide) ?_
          refine vv_putF hw hnm d_MO_init_281 0 rfl fF_MO_96 rfl rfl (Nat.le_of_ble_eq_true rfl) ?_
          dsimp only [List.set]
          have x1 : clp k 0 3 = 0 := by unfold clp; omega
          have x2 : clp s 1 3 = 3 := by unfold clp; omega
          have x3 : clp e 1 16 = 1 := by unfold clp; omega
          exact vv_vret hA hw hr d_MO_init_284 (by decide) (by decide) ⟨rfl, ⟨(fun j => match j with | 5 => q5 | 6 => q6 | 7 => q7 | 8 => q8 | 10 => q10 | 11 => q11 | 12 => q12 | 13 => q13 | 14 => q14 | 15 => q15 | 16 => q16 | 17 => q17 | 18 => q18 | 19 => q19 | 20 => q20 | 23 => q23 | 24 => q24 | 25 => q25 | 26 => q26 | 27 => q27 | 28 => q28 | 29 => q29 | 30 => q30 | 31 => q31 | 32 => q32 | 33 => q33 | _ => 0), cZ, by rw [x1, x2, x3]; rfl, rfl⟩, rfl⟩
    · skip
      refine vv_iconst d_MO_init_242 ?_
      refine vv_goto (tgt := 256) d_MO_init_243 (by decide) ?_
      refine vv_putF hw hnm d_MO_init_256 0 rfl fF_MO_93 rfl rfl (Nat.le_of_ble_eq_true rfl) ?_
      dsimp only [List.set]
      refine vv_aload_n d_MO_init_259 rfl ?_
      refine vv_iload_n d_MO_init_260 rfl ?_
      refine vv_iconst d_MO_init_261 ?_
      refine vv_icmp_ge (tgt := 269) d_MO_init_262 (by decide) ⟨by omega, by omega⟩ (fun c262 => ?_) (fun c262 => ?_)
      · skip
        refine vv_iload_n d_MO_init_269 rfl ?_
        refine vv_bipush d_MO_init_270 (by decide +kernel) ?_
        refine vv_icmp_le (tgt := 280) d_MO_init_272 (by decide) ⟨by omega, by omega⟩ (fun c272 => ?_) (fun c272 => ?_)
        · skip
          refine vv_iload_n d_MO_init_280 rfl ?_
          refine vv_putF hw hnm d_MO_init_281 0 rfl fF_MO_96 rfl rfl (Nat.le_of_ble_eq_true rfl) ?_
          dsimp only [List.set]
          have x1 : clp k 0 3 = 0 := by unfold clp; omega
          have x2 : clp s 1 3 = 1 := by unfold clp; omega
          have x3 : clp e 1 16 = e := by unfold clp; omega
          exact vv_vret hA hw hr d_MO_init_284 (by decide) (by decide) ⟨rfl, ⟨(fun j => match j with | 5 => q5 | 6 => q6 | 7 => q7 | 8 => q8 | 10 => q10 | 11 => q11 | 12 => q12 | 13 => q13 | 14 => q14 | 15 => q15 | 16 => q16 | 17 => q17 | 18 => q18 | 19 => q19 | 20 => q20 | 23 => q23 | 24 => q24 | 25 => q25 | 26 => q26 | 27 => q27 | 28 => q28 | 29 => q29 | 30 => q30 | 31 => q31 | 32 => q32 | 33 => q33 | _ => 0), cZ, by rw [x1, x2, x3]; rfl, rfl⟩, rfl⟩
        · skip
          refine vv_bipush d_MO_init_275 (by decide +kernel) ?_
          refine vv_goto (tgt := 281) d_MO_init_277 (by decide) ?_
          refine vv_putF hw hnm d_MO_init_281 0 rfl fF_MO_96 rfl rfl (Nat.le_of_ble_eq_true rfl) ?_
          dsimp only [List.set]
          have x1 : clp k 0 3 = 0 := by unfold clp; omega
          have x2 : clp s 1 3 = 1 := by unfold clp; omega
          have x3 : clp e 1 16 = 16 := by unfold clp; omega
          exact vv_vret hA hw hr d_MO_init_284 (by decide) (by decide) ⟨rfl, ⟨(fun j => match j with | 5 => q5 | 6 => q6 | 7 => q7 | 8 => q8 | 10 => q10 | 11 => q11 | 12 => q12 | 13 => q13 | 14 => q14 | 15 => q15 | 16 => q16 | 17 => q17 | 18 => q18 | 19 => q19 | 20 => q20 | 23 => q23 | 24 => q24 | 25 => q25 | 26 => q26 | 27 => q27 | 28 => q28 | 29 => q29 | 30 => q30 | 31 => q31 | 32 => q32 | 33 => q33 | _ => 0), cZ, by rw [x1, x2, x3]; rfl, rfl⟩, rfl⟩
      · skip
        refine vv_iconst d_MO_init_265 ?_
        refine vv_goto (tgt := 281) d_MO_init_266 (by decide) ?_
        refine vv_putF hw hnm d_MO_init_281 0 rfl fF_MO_96 rfl rfl (Nat.le_of_ble_eq_true rfl) ?_
        dsimp only [List.set]
        have x1 : clp k 0 3 = 0 := by unfold clp; omega
        have x2 : clp s 1 3 = 1 := by unfold clp; omega
        have x3 : clp e 1 16 = 1 := by unfold clp; omega
        exact vv_vret hA hw hr d_MO_init_284 (by decide) (by decide) ⟨rfl, ⟨(fun j => match j with | 5 => q5 | 6 => q6 | 7 => q7 | 8 => q8 | 10 => q10 | 11 => q11 | 12 => q12 | 13 => q13 | 14 => q14 | 15 => q15 | 16 => q16 | 17 => q17 | 18 => q18 | 19 => q19 | 20 => q20 | 23 => q23 | 24 => q24 | 25 => q25 | 26 => q26 | 27 => q27 | 28 => q28 | 29 => q29 | 30 => q30 | 31 => q31 | 32 => q32 | 33 => q33 | _ => 0), cZ, by rw [x1, x2, x3]; rfl, rfl⟩, rfl⟩
