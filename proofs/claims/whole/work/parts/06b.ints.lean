/-! plain facts of ints and longs -/
theorem il_lt (a b : Int32) : a < b ↔ a.toInt < b.toInt := Int32.lt_iff_toInt_lt
theorem il_le (a b : Int32) : a ≤ b ↔ a.toInt ≤ b.toInt := Int32.le_iff_toInt_le
theorem il_hi (a : Int32) : a.toInt < 2147483648 := Int32.toInt_lt a
theorem il_lo (a : Int32) : -2147483648 ≤ a.toInt := Int32.le_toInt a
theorem kk_nle {x y : Int32} {k : Int} (hk : y.toInt = k) (h : ¬ y ≤ x) : x.toInt < k := by
  rw [il_le] at h; omega
theorem kk_le {x y : Int32} {k : Int} (hk : y.toInt = k) (h : y ≤ x) : k ≤ x.toInt := by
  rw [il_le] at h; omega
theorem kk_nle2 {x y : Int32} {k : Int} (hk : y.toInt = k) (h : ¬ x ≤ y) : k < x.toInt := by
  rw [il_le] at h; omega
theorem kk_le2 {x y : Int32} {k : Int} (hk : y.toInt = k) (h : x ≤ y) : x.toInt ≤ k := by
  rw [il_le] at h; omega
theorem kk_lt {x y : Int32} {k : Int} (hk : y.toInt = k) (h : x < y) : x.toInt < k := by
  rw [il_lt] at h; omega
theorem kk_nlt {x y : Int32} {k : Int} (hk : y.toInt = k) (h : ¬ x < y) : k ≤ x.toInt := by
  rw [il_lt] at h; omega
theorem kk_gt {x y : Int32} {k : Int} (hk : y.toInt = k) (h : y < x) : k < x.toInt := by
  rw [il_lt] at h; omega
theorem kk_ngt {x y : Int32} {k : Int} (hk : y.toInt = k) (h : ¬ y < x) : x.toInt ≤ k := by
  rw [il_lt] at h; omega
theorem kk_bm {n : Int} (h1 : -2147483648 ≤ n) (h2 : n < 2147483648) : (Int32.ofInt n).toInt = n := by
  exact Int32.toInt_ofInt_of_le (by omega) (by omega)
theorem kk_addi {x y : Int32} (h1 : -2147483648 ≤ x.toInt + y.toInt) (h2 : x.toInt + y.toInt < 2147483648) : (x + y).toInt = x.toInt + y.toInt := by
  rw [Int32.toInt_add]; exact Int.bmod_eq_of_le (by omega) (by omega)
theorem kk_subi {x y : Int32} (h1 : -2147483648 ≤ x.toInt - y.toInt) (h2 : x.toInt - y.toInt < 2147483648) : (x - y).toInt = x.toInt - y.toInt := by
  rw [Int32.toInt_sub]; exact Int.bmod_eq_of_le (by omega) (by omega)
theorem kk_inc {x : Int32} (h : x.toInt < 2147483647) : (x + 1).toInt = x.toInt + 1 := by
  have h1 := il_lo x
  have h2 : (1 : Int32).toInt = 1 := rfl
  rw [kk_addi (by omega) (by omega), h2]
theorem kk_dec {x : Int32} (h : -2147483648 < x.toInt) : (x - 1).toInt = x.toInt - 1 := by
  have h1 := il_hi x
  have h2 : (1 : Int32).toInt = 1 := rfl
  rw [kk_subi (by omega) (by omega), h2]
theorem kk_cl {x : Int32} (h : 0 ≤ x.toInt) : x = nI x.toNatClampNeg := by
  apply Int32.toInt_inj.mp
  have h1 := il_hi x
  have h2 : x.toNatClampNeg = x.toInt.toNat := rfl
  rw [nI_toInt (by omega), h2]
  omega
theorem kk_clt {x : Int32} {n : Nat} (h0 : 0 ≤ x.toInt) (h : x.toInt < n) : x.toNatClampNeg < n := by
  have h2 : x.toNatClampNeg = x.toInt.toNat := rfl
  omega
theorem kk_clN {x : Int32} (h : 0 ≤ x.toInt) : (x.toNatClampNeg : Int) = x.toInt := by
  have h2 : x.toNatClampNeg = x.toInt.toNat := rfl
  omega
theorem jl_lt (a b : Int64) : a < b ↔ a.toInt < b.toInt := Int64.lt_iff_toInt_lt
theorem jl_le (a b : Int64) : a ≤ b ↔ a.toInt ≤ b.toInt := Int64.le_iff_toInt_le
theorem jl_hi (a : Int64) : a.toInt < 9223372036854775808 := Int64.toInt_lt a
theorem jl_lo (a : Int64) : -9223372036854775808 ≤ a.toInt := Int64.le_toInt a
theorem jl_addi {x y : Int64} (h1 : -9223372036854775808 ≤ x.toInt + y.toInt) (h2 : x.toInt + y.toInt < 9223372036854775808) : (x + y).toInt = x.toInt + y.toInt := by
  rw [Int64.toInt_add]; exact Int.bmod_eq_of_le (by omega) (by omega)
theorem jl_subi {x y : Int64} (h1 : -9223372036854775808 ≤ x.toInt - y.toInt) (h2 : x.toInt - y.toInt < 9223372036854775808) : (x - y).toInt = x.toInt - y.toInt := by
  rw [Int64.toInt_sub]; exact Int.bmod_eq_of_le (by omega) (by omega)
theorem jl_muli {x y : Int64} (h1 : -9223372036854775808 ≤ x.toInt * y.toInt) (h2 : x.toInt * y.toInt < 9223372036854775808) : (x * y).toInt = x.toInt * y.toInt := by
  rw [Int64.toInt_mul]; exact Int.bmod_eq_of_le (by omega) (by omega)
theorem jl_inc {x : Int64} (h : x.toInt < 9223372036854775807) : (x + 1).toInt = x.toInt + 1 := by
  have h1 := jl_lo x
  have h2 : (1 : Int64).toInt = 1 := rfl
  rw [jl_addi (by omega) (by omega), h2]
theorem jl_nlt {x y : Int64} {k : Int} (hk : y.toInt = k) (h : ¬ x < y) : k ≤ x.toInt := by
  rw [jl_lt] at h; omega
theorem jl_ltk {x y : Int64} {k : Int} (hk : y.toInt = k) (h : x < y) : x.toInt < k := by
  rw [jl_lt] at h; omega
