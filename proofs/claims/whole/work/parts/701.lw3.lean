/-! the law: its picture -/
abbrev LWS (a q : Nat → Nat) (c : Nat → ClassId) (fS fP fC : Nat → Option Nat) (K : Int) (S : Nat) (le : Int) (nS nP nC : Nat) (rn : Int) (u : RS) (sw sh ce sk pw ph co tu : Nat → Int) (mS mP mC : Nat) (mr : Int) (r : mr_T) (cd : Int) (gj : Nat → Int64) : va_W := [ob_ST (a 0) (a 1) (a 2) (a 3) (a 4) (a 5) (a 6) (a 7) (S : Int) le ((nS : Nat) : Int) ((nP : Nat) : Int) ((nC : Nat) : Int) (RS.nT u) (RS.nR u) rn, ar_Q (a 1) (c 1) 4 fS, ar_Q (a 2) (c 2) 8 fP, ar_Q (a 3) (c 3) 20 fC, ar_I (a 4) (c 0) 400 (RS.tk u), ar_I (a 5) (c 0) 5120 (RS.rs u), ob_TB (a 6) (a 10) (a 11) K (RS.W u) (RS.F u), ar_I (a 10) (c 0) 2312 (RS.T u).1, ar_I (a 11) (c 0) 2312 (RS.T u).2, ob_LY (a 7) (a 6) (a 8) (a 9) (RS.way u) (RS.st u), ar_I (a 8) (c 0) 256 (RS.st u).2.2.2.1, ar_I (a 9) (c 0) 8 (RS.st u).2.2.2.2, ob_MO (a 14) q K (S : Int) le cd ((mS : Nat) : Int) ((mP : Nat) : Int) mr ((mC : Nat) : Int), ar_I (q 5) (c 0) 4 (sw), ar_I (q 6) (c 0) 4 (sh), ar_I (q 7) (c 0) 4 (ce), ar_I (q 8) (c 0) 4 (sk), ar_I (q 10) (c 0) 8 (pw), ar_I (q 11) (c 0) 8 (ph), ar_I (q 12) (c 0) 8 (co), ar_I (q 13) (c 4) 8 (tu), ar_I (q 14) (c 0) 8 (r.1), ar_I (q 15) (c 0) 4 (r.2.1), ar_I (q 16) (c 0) 8 (mw_T.st r.2.2.2.2.1), ar_I (q 17) (c 0) 2312 (r.2.2.2.2.2.1), ar_I (q 18) (c 0) 2312 (r.2.2.2.2.2.2.1), ar_I (q 19) (c 0) 2312 (r.2.2.2.2.2.2.2), ar_I (q 20) (c 0) 3600 (mw_T.wt r.2.2.2.2.1), ar_I (q 23) (c 0) 20 (r.2.2.1), ar_I (q 24) (c 0) 20 (r.2.2.2.1), ar_I (q 25) (c 0) 20 (mw_T.cc r.2.2.2.2.1), ar_I (q 26) (c 0) 20 (mw_T.mi r.2.2.2.2.1), ar_I (q 27) (c 0) 20 (mw_T.tc r.2.2.2.2.1), ar_I (q 28) (c 0) 20 (mw_T.ta r.2.2.2.2.1), ar_I (q 29) (c 0) 20 (mw_T.rc r.2.2.2.2.1), ar_I (q 30) (c 0) 20 (mw_T.nc r.2.2.2.2.1), ar_I (q 31) (c 0) 12000 (mw_T.no r.2.2.2.2.1), ar_I (q 32) (c 0) 25600 (mw_T.tk r.2.2.2.2.1), ar_I (q 33) (c 0) 20480 (mw_T.rs r.2.2.2.2.1), ar_J (a 13) (c 5) 1 (gj)]
abbrev LTY (c : Nat → ClassId) : List (ClassId × FieldType) := [(c 0, .int), (c 1, .object "SheetTrees$Sheet"), (c 2, .object "SheetTrees$Part"), (c 3, .object "SheetTrees$CutSheet"), (c 4, .boolean), (c 5, .long)]
theorem rm_l {RL rm : Room} {nL k n : Nat} {rest : List Value} (hF : 12 ≤ RL.frames ∧ 700 ≤ RL.locals) (hc : k + 1 ≤ RL.cells ∧ n + 6 ≤ RL.slots) (h1 : rm.frames + 1 ≤ 12 ∧ 8 + (nL + 11) + rm.locals ≤ 700 ∧ rm.cells ≤ 1 ∧ rm.slots ≤ 6) (h2 : (rest.map fun v => v.category).sum ≤ 8) : rm_ok RL rm nL k n rest := ⟨⟨by omega, by omega⟩, ⟨by omega, by omega⟩, h2⟩
theorem rm_z {RL rm : Room} {nL k n : Nat} {rest : List Value} (hF : 12 ≤ RL.frames ∧ 700 ≤ RL.locals) (hc : k ≤ RL.cells ∧ n ≤ RL.slots) (h1 : rm.frames + 1 ≤ 12 ∧ 8 + (nL + 11) + rm.locals ≤ 700 ∧ rm.cells = 0 ∧ rm.slots = 0) (h2 : (rest.map fun v => v.category).sum ≤ 8) : rm_ok RL rm nL k n rest := ⟨⟨by omega, by omega⟩, ⟨by omega, by omega⟩, h2⟩
theorem LR_hb {K : Int} {S nS nP nC : Nat} {rn : Int} {u : RS} {sw sh ce sk pw ph co tu : Nat → Int} {r : mr_T} (hL : LR K S nS nP nC rn u sw sh ce sk pw ph co tu r) : (∀ i : Nat, i < 8 → (0 ≤ pw i ∧ pw i ≤ 16) ∧ (0 ≤ ph i ∧ ph i ≤ 16) ∧ 0 ≤ tu i ∧ tu i ≤ 1) ∧ ∀ i : Nat, i < 8 → 0 ≤ co i ∧ co i ≤ 50 := by
  obtain ⟨l1, l2, l3, l4, l5, _⟩ := hL
  refine ⟨fun i hi => ?_, fun i hi => ?_⟩
  · obtain ⟨a1, a2, a3, a4, a5⟩ := l4 i hi
    have h1 := l5.1 i hi
    unfold PO at a1
    rw [← a2, ← a3, ← a4]
    omega
  · obtain ⟨a1, a2, a3, a4, a5⟩ := l4 i hi
    unfold PO at a1
    rw [← a5]
    exact a1.2.2.1
set_option maxRecDepth 100000 in
theorem lk_LW_60 : lk_SW "SheetTreesLaw" 60 y_LW_sheet b_LW_sheet 7 (some .int) hh_sheet 6 := ⟨tb_at 441 rfl rfl, tb_at 442 rfl rfl, tb_at 44 rfl rfl, tb_at 443 rfl rfl, ⟨by decide, by decide⟩, by decide +kernel⟩
set_option maxRecDepth 100000 in
theorem lk_LW_68 : lk_SW "SheetTreesLaw" 68 y_LW_part b_LW_part 7 (some .int) hh_part 6 := ⟨tb_at 542 rfl rfl, tb_at 543 rfl rfl, tb_at 44 rfl rfl, tb_at 544 rfl rfl, ⟨by decide, by decide⟩, by decide +kernel⟩
set_option maxRecDepth 100000 in
theorem lk_LW_72 : lk_SW "SheetTreesLaw" 72 y_LW_count b_LW_count 5 (some .int) hh_count 4 := ⟨tb_at 551 rfl rfl, tb_at 552 rfl rfl, tb_at 44 rfl rfl, tb_at 553 rfl rfl, ⟨by decide, by decide⟩, by decide +kernel⟩
set_option maxRecDepth 100000 in
theorem lk_LW_76 : lk_SW "SheetTreesLaw" 76 y_LW_worth b_LW_worth 7 (some .int) hh_worth 6 := ⟨tb_at 579 rfl rfl, tb_at 580 rfl rfl, tb_at 44 rfl rfl, tb_at 581 rfl rfl, ⟨by decide, by decide⟩, by decide +kernel⟩
set_option maxRecDepth 100000 in
theorem lk_LW_83 : lk_SW "SheetTreesLaw" 83 y_LW_cut b_LW_cut 5 (some .int) hh_cut 4 := ⟨tb_at 597 rfl rfl, tb_at 598 rfl rfl, tb_at 44 rfl rfl, tb_at 599 rfl rfl, ⟨by decide, by decide⟩, by decide +kernel⟩
set_option maxRecDepth 100000 in
theorem lk_LW_86 : lk_SW "SheetTreesLaw" 86 y_LW_taken b_LW_taken 6 (some .int) hh_taken 5 := ⟨tb_at 615 rfl rfl, tb_at 616 rfl rfl, tb_at 44 rfl rfl, tb_at 617 rfl rfl, ⟨by decide, by decide⟩, by decide +kernel⟩
set_option maxRecDepth 100000 in
theorem lk_LW_90 : lk_SW "SheetTreesLaw" 90 y_LW_rest b_LW_rest 6 (some .int) hh_rest 5 := ⟨tb_at 627 rfl rfl, tb_at 628 rfl rfl, tb_at 44 rfl rfl, tb_at 629 rfl rfl, ⟨by decide, by decide⟩, by decide +kernel⟩
set_option maxRecDepth 100000 in
theorem lk_LW_93 : lk_SW "SheetTreesLaw" 93 y_LW_left b_LW_left 4 (some .int) hh_left 3 := ⟨tb_at 636 rfl rfl, tb_at 637 rfl rfl, tb_at 44 rfl rfl, tb_at 638 rfl rfl, ⟨by decide, by decide⟩, by decide +kernel⟩
set_option maxRecDepth 100000 in
theorem lk_LW_97 : lk_SW "SheetTreesLaw" 97 y_LW_all b_LW_all 4 (some .int) hh_all 3 := ⟨tb_at 643 rfl rfl, tb_at 644 rfl rfl, tb_at 44 rfl rfl, tb_at 645 rfl rfl, ⟨by decide, by decide⟩, by decide +kernel⟩
