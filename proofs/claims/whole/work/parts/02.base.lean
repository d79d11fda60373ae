/-! Ints by their values: iI z is the Java int of value z (mod 2^32). -/
def iI (z : Int) : Int32 := Int32.ofInt z
theorem iI_add (a b : Int) : iI a + iI b = iI (a + b) := (Int32.ofInt_add a b).symm
theorem iI_sub (a b : Int) : iI a - iI b = iI (a - b) := (Int32.ofInt_sub a b).symm
theorem iI_mul (a b : Int) : iI a * iI b = iI (a * b) := (Int32.ofInt_mul a b).symm
theorem iI_neg (a : Int) : -iI a = iI (-a) := (Int32.ofInt_neg a).symm
theorem iI_self (x : Int32) : iI x.toInt = x := Int32.ofInt_toInt x
theorem iI_toInt {z : Int} (h1 : -2147483648 ≤ z) (h2 : z < 2147483648) : (iI z).toInt = z := Int32.toInt_ofInt_of_le (by omega) (by omega)
theorem iI_lo (x : Int32) : -2147483648 ≤ x.toInt := by have := Int32.le_toInt x; omega
theorem iI_hi (x : Int32) : x.toInt < 2147483648 := by have := Int32.toInt_lt x; omega
theorem iI_lt {a b : Int} (a1 : -2147483648 ≤ a) (a2 : a < 2147483648) (b1 : -2147483648 ≤ b) (b2 : b < 2147483648) : iI a < iI b ↔ a < b := by
  rw [Int32.lt_iff_toInt_lt, iI_toInt a1 a2, iI_toInt b1 b2]
theorem iI_le {a b : Int} (a1 : -2147483648 ≤ a) (a2 : a < 2147483648) (b1 : -2147483648 ≤ b) (b2 : b < 2147483648) : iI a ≤ iI b ↔ a ≤ b := by
  rw [Int32.le_iff_toInt_le, iI_toInt a1 a2, iI_toInt b1 b2]
theorem iI_eq {a b : Int} (a1 : -2147483648 ≤ a) (a2 : a < 2147483648) (b1 : -2147483648 ≤ b) (b2 : b < 2147483648) : iI a = iI b ↔ a = b := by
  rw [← Int32.toInt_inj, iI_toInt a1 a2, iI_toInt b1 b2]
theorem iI_0 : iI 0 = 0 := by decide +kernel
theorem iI_nat (n : Nat) : iI (n : Int) = nI n := Int32.ofInt_eq_ofNat
theorem iI_cl {z : Int} (h0 : 0 ≤ z) (h2 : z < 2147483648) : (iI z).toNatClampNeg = z.toNat := by
  obtain ⟨n, rfl⟩ := Int.eq_ofNat_of_zero_le h0
  rw [iI_nat, nI_clamp (by omega)]
  rfl
theorem iI_in {z : Int} {N : Nat} (h0 : 0 ≤ z) (h : z < N) (hN : N < 2147483648) : vp_in (iI z) N := by
  obtain ⟨n, rfl⟩ := Int.eq_ofNat_of_zero_le h0
  rw [iI_nat]
  exact vp_in_nI (by omega) (by omega)
theorem iI_tdiv {a b : Int} (a1 : -2147483648 ≤ a) (a2 : a < 2147483648) (b1 : 0 < b) (b2 : b < 2147483648) : iI a / iI b = iI (a.tdiv b) :=
  (Int32.ofInt_tdiv (by rw [show Int32.minValue.toInt = -2147483648 from by decide +kernel]; omega) (by rw [show Int32.maxValue.toInt = 2147483647 from by decide +kernel]; omega) (by rw [show Int32.minValue.toInt = -2147483648 from by decide +kernel]; omega) (by rw [show Int32.maxValue.toInt = 2147483647 from by decide +kernel]; omega)).symm
theorem iI_ne0 {b : Int} (b1 : 0 < b) (b2 : b < 2147483648) : ¬ iI b = 0 := by
  rw [← iI_0, iI_eq (by omega) b2 (by omega) (by omega)]
  omega
