theorem cmp_0 {a : Nat} (h : a < 2 ^ 31) : lg_cmp (lN a) 0 = 0 ↔ a = 0 := by
  rw [← lN_0 h]
  have h0 : ¬ lN a < 0 := fun z => by
    have := (lN_lt (b := 0) h (by decide)).mp z
    omega
  unfold lg_cmp
  by_cases e : lN a = 0
  · simp [e]
  · simp [e, h0]
    split <;> decide
