/-! switches -/
section SW
variable {X : cx_T} {M : ms_T} {Q : State → Prop} {k n : Nat} {tys : List (ClassId × FieldType)} {ws pl : va_W} {lv : List (Option Value)} {st : List Value} {pc : Nat}
theorem vv_tabIn {dflt lo hi : Int} {offs : Array Int} {len : Nat} {x : Int32} {off : Int} {tgt : Nat} (hd : decode M.1 pc = .ok (.tableswitch dflt lo hi offs, len)) (h1 : ¬ x.toInt < lo) (h2 : ¬ hi < x.toInt) (ho : offs[(x.toInt - lo).toNat]? = some off) (ht : (pc : Int) + off = (tgt : Int)) (kk : VV X M Q k n tys ws pl lv st tgt) : VV X M Q k n tys ws pl lv (.int x :: st) pc := fun C H locs ls hK hP hD hS hl => lv_tableIn C.1 C.2.1 hd h1 h2 ho ht (kk C H locs ls hK hP hD hS hl)
theorem vv_tabOut {dflt lo hi : Int} {offs : Array Int} {len : Nat} {x : Int32} {tgt : Nat} (hd : decode M.1 pc = .ok (.tableswitch dflt lo hi offs, len)) (h : x.toInt < lo ∨ hi < x.toInt) (ht : (pc : Int) + dflt = (tgt : Int)) (kk : VV X M Q k n tys ws pl lv st tgt) : VV X M Q k n tys ws pl lv (.int x :: st) pc := fun C H locs ls hK hP hD hS hl => lv_tableOut C.1 C.2.1 hd h ht (kk C H locs ls hK hP hD hS hl)
end SW
