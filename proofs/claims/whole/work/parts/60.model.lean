/-! long numbers -/
theorem lN_dv {a d : Nat} (ha : a < 2 ^ 31) (hd : d < 2 ^ 31) : lN a / lN d = lN (a / d) := by
  apply Int64.toInt_inj.mp
  have h := Nat.lt_of_le_of_lt (Nat.div_le_self a d) ha
  rw [Int64.toInt_div, lN_toInt ha, lN_toInt hd, lN_toInt h, show ((a : Int).tdiv (d : Int)) = ((a / d : Nat) : Int) from (Int.ofNat_tdiv a d).symm]
  generalize a / d = k at h ⊢
  exact Int.bmod_eq_of_le (by omega) (by omega)
theorem lN_rm {a d : Nat} (ha : a < 2 ^ 31) (hd : d < 2 ^ 31) : lN a - lN a / lN d * lN d = lN (a % d) := by
  rw [lN_dv ha hd, lN_mul, lN_sub (Nat.div_mul_le_self a d)]
  exact congrArg lN (by have := Nat.div_add_mod' a d; omega)
theorem lN_0 {a : Nat} (h : a < 2 ^ 31) : lN a = 0 ↔ a = 0 := lN_eq (b := 0) h (by decide)
