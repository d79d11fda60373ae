/-! aastore of a pool object -/
section AAS
variable {X : cx_T} {M : ms_T} {Q : State → Prop} {k n : Nat} {tys : List (ClassId × FieldType)} {ws : va_W} {lv : List (Option Value)} {st : List Value} {pc : Nat}
theorem vv_aastP (hw : cx_w X) {L : List Nat} {f : Nat → va_E} {a N q ci : Nat} {cA : ClassId} {r : vw_C} {vs : List Value} {g : Nat → Option Nat} {z : Int} (hd : decode M.1 pc = .ok (.aastore, 1)) (q0 t0 : Nat) (ha : ws[q0]? = some (a, .inl (cA, N, .inr (.inr (.inr (.inr g)))))) (ht : tys[t0]? = some (cA, .object r.1)) (hm : q ∈ L) (hat : f q = .inr (ci, vs)) (hc : classes[ci]? = some r) (hz : 0 ≤ z ∧ z < (N : Int) ∧ N < 2147483648)
    (kk : VV X M Q k n tys (ws.set q0 (a, .inl (cA, N, .inr (.inr (.inr (.inr (va_up g z.toNat (some q)))))))) (va_pl L f) lv st (pc + 1)) : VV X M Q k n tys ws (va_pl L f) lv (.ref q :: .int (iI z) :: .ref a :: st) pc := fun C H locs ls hK hP hD hS hl => by
  obtain ⟨qk, hqk⟩ := va_pl_get (X := ws) (f := f) hm
  rw [hat] at hqk
  refine va_astq C.1 C.2.1 hK hP (hD.weaken (fun _ _ _ h => hw _ h)) hS q0 t0 qk ci (vv_at ha) ht hqk hc (iI_in hz.1 hz.2.1 hz.2.2) hd (fun H1 locs1 g1 g2 g3 => ?_)
  rw [iI_cl hz.1 (by omega), vv_sets ha] at g1
  exact kk C H1 locs1 ls hK g1 (by rw [← vv_sets ha]; exact hD.set (vv_at ha)) g3 hl
end AAS
