/-! the law: its loop -/
set_option maxHeartbeats 4000000 in
set_option maxRecDepth 100000 in
theorem law_loop {X : cx_T} {Q : State → Prop} {RL : Room} {a q : Nat → Nat} {c : Nat → ClassId} {fS fP fC : Nat → Option Nat} {N : Nat} {g : Nat → Int} {K : Int} {S : Nat} {le : Int} {L : List Nat} {aS aP aC : Nat → Nat} (hw : cx_w X) (hfl : (cx_l X).flags = flags0) (hx : lx X (a 12) N g) (hF : 12 ≤ RL.frames ∧ 700 ≤ RL.locals) (hK : 0 ≤ K ∧ K ≤ 3) (hS : 1 ≤ S ∧ S ≤ 3) (hle : 1 ≤ le ∧ le ≤ 16) (hAD : AD aS aP aC) (hfS : ∀ i : Nat, i < 4 → fS i = some (aS i)) (hfP : ∀ i : Nat, i < 8 → fP i = some (aP i)) (hfC : ∀ i : Nat, i < 20 → fC i = some (aC i)) (hN : N < 2147483648) (hg : ∀ j : Nat, -2147483648 ≤ g j ∧ g j < 2147483648) {k0 n0 : Nat} (hk : k0 + N + 1 ≤ RL.cells) (hn : n0 + 6 * (N + 1) ≤ RL.slots) (fin : ∀ (k n : Nat) (tys : List (ClassId × FieldType)) (ws pl : va_W) (lv : List (Option Value)), k ≤ RL.cells → n ≤ RL.slots → VV X (code, 8, "SheetTreesLaw", RL) Q k n tys ws pl lv [.int (iI 1)] 860) : ∀ (m j : Nat) (i : Int), j + m = (N - 3) / 5 → i = 3 + 5 * (j : Int) → ∀ (nS nP nC : Nat) (rn : Int) (u : RS) (sw sh ce sk pw ph co tu : Nat → Int) (r : mr_T) (cd : Int) (gj : Nat → Int64) (f : Nat → va_E) (v5 v6 v7 : Option Value), LR K S nS nP nC rn u sw sh ce sk pw ph co tu r → PL L f aS aP aC u.Sh u.R u.Cs → VV X (code, 8, "SheetTreesLaw", RL) Q (k0 + j) (n0 + 6 * j) (LTY c) (LWS a q c fS fP fC K S le nS nP nC rn u sw sh ce sk pw ph co tu nS nP nC rn r cd gj) (va_pl L f) [some (.ref (a 12)), some (.ref (a 0)), some (.ref (a 14)), some (.ref (a 13)), some (.int (iI i)), v5, v6, v7] [] 53 := by
  intro m
  induction m with
  | zero =>
    intro j i hj hi nS nP nC rn u sw sh ce sk pw ph co tu r cd gj f v5 v6 v7 hL hPL
    refine vv_iload d_LW_law_53 rfl ?_
    refine vv_aload_n d_LW_law_55 rfl ?_
    refine vv_slen ⟨hx.2.2.1, hx.2.2.2, hx.2.1⟩ d_LW_law_56 ?_
    refine vv_iconst d_LW_law_57 ?_
    refine vv_isub d_LW_law_58 ?_
    refine vv_icmp_gt (tgt := 859) d_LW_law_59 (by decide) ⟨by omega, by omega⟩ (fun c59 => ?_) (fun c59 => ?_)
    · skip
      refine vv_iconst d_LW_law_859 ?_
      exact fin _ _ _ _ _ _ (by omega) (by omega)
    · exfalso; omega
  | succ m ih =>
    intro j i hj hi nS nP nC rn u sw sh ce sk pw ph co tu r cd gj f v5 v6 v7 hL hPL
    have nx : ∀ (nS nP nC : Nat) (rn : Int) (u : RS) (sw sh ce sk pw ph co tu : Nat → Int) (r : mr_T) (cd : Int) (gj : Nat → Int64) (f : Nat → va_E) (v5 v6 v7 : Option Value), LR K S nS nP nC rn u sw sh ce sk pw ph co tu r → PL L f aS aP aC u.Sh u.R u.Cs → VV X (code, 8, "SheetTreesLaw", RL) Q (k0 + j + 1) (n0 + 6 * j + 6) (LTY c) (LWS a q c fS fP fC K S le nS nP nC rn u sw sh ce sk pw ph co tu nS nP nC rn r cd gj) (va_pl L f) [some (.ref (a 12)), some (.ref (a 0)), some (.ref (a 14)), some (.ref (a 13)), some (.int (iI i)), v5, v6, v7] [] 853 := by
      intro nS nP nC rn u sw sh ce sk pw ph co tu r cd gj f v5 v6 v7 hL hPL
      refine vv_iinc d_LW_law_853 rfl rfl (Nat.le_of_ble_eq_true rfl) ?_
      dsimp only [List.set]
      refine vv_goto (tgt := 53) d_LW_law_856 (by decide) ?_
      exact vv_widen (k' := k0 + (j + 1)) (n' := n0 + 6 * (j + 1)) (by omega) (by omega) (ih (j + 1) (i + 5) (by omega) (by omega) nS nP nC rn u sw sh ce sk pw ph co tu r cd gj f v5 v6 v7 hL hPL)
    refine vv_iload d_LW_law_53 rfl ?_
    refine vv_aload_n d_LW_law_55 rfl ?_
    refine vv_slen ⟨hx.2.2.1, hx.2.2.2, hx.2.1⟩ d_LW_law_56 ?_
    refine vv_iconst d_LW_law_57 ?_
    refine vv_isub d_LW_law_58 ?_
    refine vv_icmp_gt (tgt := 859) d_LW_law_59 (by decide) ⟨by omega, by omega⟩ (fun c59 => ?_) (fun c59 => ?_)
    · exfalso; omega
    · skip
      refine vv_aload_n d_LW_law_62 rfl ?_
      refine vv_iload d_LW_law_63 rfl ?_
      refine vv_sld ⟨hx.2.2.1, hx.2.2.2, hx.2.1⟩ d_LW_law_65 ⟨by omega, by omega, hN⟩ ?_
      refine vv_bipush d_LW_law_66 (by decide +kernel) ?_
      refine vv_iand d_LW_law_68 rfl ?_
      generalize hv : iI (g i.toNat) &&& iI 15 = v
      by_cases e0 : v.toInt = 0
      · exact vv_tabIn (tgt := 128) (off := 59) d_LW_law_69 (by omega) (by omega) (by rw [e0]; rfl) (by decide) (law_sheet hw hfl hx hF ⟨by omega, by omega⟩ hK hS hle hAD hfS hfP hfC hN hg ⟨by omega, by omega⟩ hL hPL nx)
      by_cases e1 : v.toInt = 1
      · exact vv_tabIn (tgt := 220) (off := 151) d_LW_law_69 (by omega) (by omega) (by rw [e1]; rfl) (by decide) (law_part hw hfl hx hF ⟨by omega, by omega⟩ hK hS hle hAD hfS hfP hfC hN hg ⟨by omega, by omega⟩ hL hPL nx)
      by_cases e2 : v.toInt = 2
      · exact vv_tabIn (tgt := 328) (off := 259) d_LW_law_69 (by omega) (by omega) (by rw [e2]; rfl) (by decide) (law_count hw hfl hx hF ⟨by omega, by omega⟩ hK hS hle hAD hfS hfP hfC hN hg ⟨by omega, by omega⟩ hL hPL nx)
      by_cases e3 : v.toInt = 3
      · exact vv_tabIn (tgt := 396) (off := 327) d_LW_law_69 (by omega) (by omega) (by rw [e3]; rfl) (by decide) (law_worth hw hfl hx hF ⟨by omega, by omega⟩ hK hS hle hAD hfS hfP hfC hN hg ⟨by omega, by omega⟩ hL hPL nx)
      by_cases e4 : v.toInt = 4
      · exact vv_tabIn (tgt := 488) (off := 419) d_LW_law_69 (by omega) (by omega) (by rw [e4]; rfl) (by decide) (law_run hw hfl hx hF ⟨by omega, by omega⟩ hK hS hle hAD hfS hfP hfC hN hg ⟨by omega, by omega⟩ hL hPL nx)
      by_cases e5 : v.toInt = 5
      · exact vv_tabIn (tgt := 501) (off := 432) d_LW_law_69 (by omega) (by omega) (by rw [e5]; rfl) (by decide) (law_cut hw hfl hx hF ⟨by omega, by omega⟩ hK hS hle hAD hfS hfP hfC hN hg ⟨by omega, by omega⟩ hL hPL nx)
      by_cases e6 : v.toInt = 6
      · exact vv_tabIn (tgt := 569) (off := 500) d_LW_law_69 (by omega) (by omega) (by rw [e6]; rfl) (by decide) (law_taken hw hfl hx hF ⟨by omega, by omega⟩ hK hS hle hAD hfS hfP hfC hN hg ⟨by omega, by omega⟩ hL hPL nx)
      by_cases e7 : v.toInt = 7
      · exact vv_tabIn (tgt := 649) (off := 580) d_LW_law_69 (by omega) (by omega) (by rw [e7]; rfl) (by decide) (law_rest hw hfl hx hF ⟨by omega, by omega⟩ hK hS hle hAD hfS hfP hfC hN hg ⟨by omega, by omega⟩ hL hPL nx)
      by_cases e8 : v.toInt = 8
      · exact vv_tabIn (tgt := 729) (off := 660) d_LW_law_69 (by omega) (by omega) (by rw [e8]; rfl) (by decide) (law_left hw hfl hx hF ⟨by omega, by omega⟩ hK hS hle hAD hfS hfP hfC hN hg ⟨by omega, by omega⟩ hL hPL nx)
      by_cases e9 : v.toInt = 9
      · exact vv_tabIn (tgt := 785) (off := 716) d_LW_law_69 (by omega) (by omega) (by rw [e9]; rfl) (by decide) (law_all hw hfl hx hF ⟨by omega, by omega⟩ hK hS hle hAD hfS hfP hfC hN hg ⟨by omega, by omega⟩ hL hPL nx)
      by_cases e10 : v.toInt = 10
      · exact vv_tabIn (tgt := 840) (off := 771) d_LW_law_69 (by omega) (by omega) (by rw [e10]; rfl) (by decide) (law_bound hw hfl hx hF ⟨by omega, by omega⟩ hK hS hle hAD hfS hfP hfC hN hg ⟨by omega, by omega⟩ hL hPL nx)
      exact vv_tabOut (tgt := 853) d_LW_law_69 (by omega) (by decide) (vv_widen (by omega) (by omega) (nx nS nP nC rn u sw sh ce sk pw ph co tu r cd gj f v5 v6 v7 hL hPL))
