/-! numbers: everything small is nI of a Nat -/
def b2 (b : Bool) : Int32 := if b then nI 1 else nI 0
theorem b2_t {b : Bool} (h : b = true) : b2 b = nI 1 := by rw [h]; rfl
theorem b2_f {b : Bool} (h : b = false) : b2 b = nI 0 := by rw [h]; rfl
theorem b2_0 {b : Bool} : b2 b = 0 ↔ b = false := by cases b <;> decide
theorem b2_n0 {b : Bool} : ¬ b2 b = 0 ↔ b = true := by cases b <;> decide
theorem b2_bit (b : Bool) : b2 b &&& 1 = b2 b := by cases b <;> decide
theorem b2_eq {a b : Bool} : b2 a = b2 b ↔ a = b := by cases a <;> cases b <;> decide
theorem nI_z : nI 0 = 0 := rfl
theorem nI_o : nI 1 = 1 := rfl
theorem n_lt {x : Int32} {n : Nat} (hn : n < 2 ^ 31) (h : ¬ x < 0) (h2 : ¬ nI n ≤ x) : ∃ k : Nat, k < n ∧ x = nI k := by
  obtain ⟨j, hj, rfl⟩ := nI_of h
  refine ⟨j, ?_, rfl⟩
  rcases Nat.lt_or_ge j n with q | q
  · exact q
  · exact absurd (nI_le q hj) h2
theorem n_le {x : Int32} {n : Nat} (hn : n < 2 ^ 31) (h : ¬ x < 0) (h2 : ¬ nI n < x) : ∃ k : Nat, k ≤ n ∧ x = nI k := by
  obtain ⟨j, hj, rfl⟩ := nI_of h
  refine ⟨j, ?_, rfl⟩
  rcases Nat.lt_or_ge n j with q | q
  · exact absurd (nI_lt q hj) h2
  · exact q
theorem n_neg {k : Nat} (h : k < 2 ^ 31) : ¬ nI k < 0 := nI_pos h
/-- switches: none of the first values -/
theorem ksw_out {x : Int32} (n : Nat) (hn : n < 2 ^ 30) (h : ∀ k, k ≤ n → ¬ x = nI k) : x.toInt < 0 ∨ (n : Int) < x.toInt := by
  rcases Int.lt_or_le x.toInt 0 with a | a
  · exact Or.inl a
  · refine Or.inr (Int.not_le.mp fun b => ?_)
    have h0 : ¬ x < 0 := fun z => by
      have := Int32.lt_iff_toInt_lt.mp z
      simp at this
      omega
    obtain ⟨j, hj, rfl⟩ := nI_of h0
    rw [nI_toInt hj] at b
    exact h j (by omega) rfl
theorem ksw_3 {x : Int32} (h0 : ¬ x = nI 0) (h1 : ¬ x = nI 1) (h2 : ¬ x = nI 2) : x.toInt < 0 ∨ (2 : Int) < x.toInt := ksw_out 2 (by decide) (fun k hk => by
  match k, hk with
  | 0, _ => exact h0
  | 1, _ => exact h1
  | 2, _ => exact h2)
theorem ksw_5 {x : Int32} (h0 : ¬ x = nI 0) (h1 : ¬ x = nI 1) (h2 : ¬ x = nI 2) (h3 : ¬ x = nI 3) (h4 : ¬ x = nI 4) : x.toInt < 0 ∨ (4 : Int) < x.toInt := ksw_out 4 (by decide) (fun k hk => by
  match k, hk with
  | 0, _ => exact h0
  | 1, _ => exact h1
  | 2, _ => exact h2
  | 3, _ => exact h3
  | 4, _ => exact h4)
theorem ksw_7 {x : Int32} (h0 : ¬ x = nI 0) (h1 : ¬ x = nI 1) (h2 : ¬ x = nI 2) (h3 : ¬ x = nI 3) (h4 : ¬ x = nI 4) (h5 : ¬ x = nI 5) (h6 : ¬ x = nI 6) : x.toInt < 0 ∨ (6 : Int) < x.toInt := ksw_out 6 (by decide) (fun k hk => by
  match k, hk with
  | 0, _ => exact h0
  | 1, _ => exact h1
  | 2, _ => exact h2
  | 3, _ => exact h3
  | 4, _ => exact h4
  | 5, _ => exact h5
  | 6, _ => exact h6)
theorem n_toInt {x : Int32} {k : Nat} (hk : k < 2 ^ 31) (h : ¬ x = nI k) : ¬ x.toInt = (k : Int) := fun e => h (by
  have : x.toInt = (nI k).toInt := by rw [nI_toInt hk]; exact e
  exact Int32.toInt_inj.mp this)
/-! shifts and masks -/
theorem sh_amt : ∀ p, p < 32 → ((nI p &&& 31).toBitVec.smod 32).toNat = p := by decide +kernel
theorem n_shl {p : Nat} (h : p < 31) : nI 1 <<< (nI p &&& 31) = nI (2 ^ p) := by
  rw [pk_shlN (nI p &&& 31) p (sh_amt p (by omega)) (by
    rw [Nat.one_mul]
    exact Nat.pow_lt_pow_right (by decide) (by omega)), Nat.one_mul]
theorem n_shr {m p : Nat} (hm : m < 2 ^ 31) (h : p < 31) : nI m >>> (nI p &&& 31) = nI (m / 2 ^ p) := pk_shrN hm (nI p &&& 31) p (sh_amt p (by omega))
theorem n_and1 {m : Nat} (hm : m < 2 ^ 31) : nI m &&& nI 1 = nI (m % 2) := pk_andN (by omega) 1 rfl
theorem n_tb (m p : Nat) : m / 2 ^ p % 2 = (if m.testBit p then 1 else 0) := by
  rw [Nat.testBit_eq_decide_div_mod_eq]
  by_cases h : m / 2 ^ p % 2 = 1
  · simp [h]
  · have : m / 2 ^ p % 2 = 0 := by omega
    simp [this]
/-- the bit test of both classes -/
theorem n_bit {m p : Nat} (hm : m < 2 ^ 31) (h : p < 31) : (nI m >>> (nI p &&& 31)) &&& nI 1 = b2 (m.testBit p) := by
  have hd : m / 2 ^ p < 2 ^ 31 := Nat.lt_of_le_of_lt (Nat.div_le_self m (2 ^ p)) hm
  rw [n_shr hm h, n_and1 hd, n_tb]
  cases m.testBit p <;> rfl
theorem n_or (a b : Nat) : nI a ||| nI b = nI (a ||| b) := by
  apply Int32.toBitVec_inj.mp
  show BitVec.ofNat 32 a ||| BitVec.ofNat 32 b = BitVec.ofNat 32 (a ||| b)
  apply BitVec.eq_of_toNat_eq
  simp only [BitVec.toNat_or, BitVec.toNat_ofNat]
  rw [Nat.or_mod_two_pow]
theorem n_and (a b : Nat) : nI a &&& nI b = nI (a &&& b) := by
  apply Int32.toBitVec_inj.mp
  show BitVec.ofNat 32 a &&& BitVec.ofNat 32 b = BitVec.ofNat 32 (a &&& b)
  apply BitVec.eq_of_toNat_eq
  simp only [BitVec.toNat_and, BitVec.toNat_ofNat]
  rw [Nat.and_mod_two_pow]
theorem n_xor (a b : Nat) : nI a ^^^ nI b = nI (a ^^^ b) := by
  apply Int32.toBitVec_inj.mp
  show BitVec.ofNat 32 a ^^^ BitVec.ofNat 32 b = BitVec.ofNat 32 (a ^^^ b)
  apply BitVec.eq_of_toNat_eq
  simp only [BitVec.toNat_xor, BitVec.toNat_ofNat]
  rw [Nat.xor_mod_two_pow]
/-- a without b -/
def wo (a b : Nat) : Nat := a ^^^ (a &&& b)
theorem wo_tb (a b p : Nat) : (wo a b).testBit p = (a.testBit p && !b.testBit p) := by
  unfold wo
  rw [Nat.testBit_xor, Nat.testBit_and]
  cases a.testBit p <;> cases b.testBit p <;> rfl
theorem wo_lt {a b n : Nat} (h : a < 2 ^ n) : wo a b < 2 ^ n := Nat.xor_lt_two_pow h (Nat.lt_of_le_of_lt Nat.and_le_left h)
theorem n_wo (a b : Nat) : nI a &&& (nI b ^^^ (-1)) = nI (wo a b) := by
  unfold wo
  rw [← n_xor, ← n_and]
  apply Int32.toBitVec_inj.mp
  show (nI a).toBitVec &&& ((nI b).toBitVec ^^^ (-1 : Int32).toBitVec) = (nI a).toBitVec ^^^ ((nI a).toBitVec &&& (nI b).toBitVec)
  generalize (nI a).toBitVec = x
  generalize (nI b).toBitVec = y
  have e : (-1 : Int32).toBitVec = BitVec.allOnes 32 := by decide
  rw [e]
  apply BitVec.eq_of_getLsbD_eq
  intro i hi
  simp only [BitVec.getLsbD_and, BitVec.getLsbD_xor, BitVec.getLsbD_allOnes, hi, decide_true]
  cases x.getLsbD i <;> cases y.getLsbD i <;> rfl
theorem tb_or_pow (m p i : Nat) : (m ||| 2 ^ p).testBit i = (m.testBit i || decide (p = i)) := by rw [Nat.testBit_or, Nat.testBit_two_pow]
theorem or_pow_lt {m p n : Nat} (h : m < 2 ^ n) (hp : p < n) : m ||| 2 ^ p < 2 ^ n := Nat.or_lt_two_pow h (Nat.pow_lt_pow_right (by decide) hp)
/-- a set as bits -/
def mk (f : Nat → Bool) : Nat → Nat
  | 0 => 0
  | n + 1 => if f n then mk f n ||| 2 ^ n else mk f n
theorem mk_lt (f : Nat → Bool) : ∀ n, mk f n < 2 ^ n
  | 0 => Nat.one_pos
  | n + 1 => by
    have ih := mk_lt f n
    have h2 : 2 ^ n < 2 ^ (n + 1) := Nat.pow_lt_pow_right (by decide) (by omega)
    unfold mk
    split
    · exact or_pow_lt (by omega) (by omega)
    · omega
theorem mk_tb (f : Nat → Bool) : ∀ n i, (mk f n).testBit i = (decide (i < n) && f i)
  | 0, i => by simp [mk]
  | n + 1, i => by
    have ih := mk_tb f n i
    have hn : f i = f n ∨ i ≠ n := by
      by_cases e : i = n
      · exact Or.inl (by rw [e])
      · exact Or.inr e
    unfold mk
    by_cases h : f n = true
    · rw [if_pos h, tb_or_pow, ih]
      by_cases e : n = i
      · subst e; simp [h]
      · have e1 : decide (i < n + 1) = decide (i < n) := by
          apply decide_eq_decide.mpr; omega
        rw [e1]; simp [e]
    · rw [if_neg h, ih]
      by_cases e : i = n
      · subst e; simp [h]
      · have e1 : decide (i < n + 1) = decide (i < n) := by
          apply decide_eq_decide.mpr; omega
        rw [e1]
theorem mk_cong {f g : Nat → Bool} : ∀ {n : Nat}, (∀ i, i < n → f i = g i) → mk f n = mk g n
  | 0, _ => rfl
  | n + 1, h => by
    unfold mk
    rw [mk_cong (fun i hi => h i (Nat.lt_succ_of_lt hi)), h n (Nat.lt_succ_self n)]
theorem tb_ext {a b n : Nat} (ha : a < 2 ^ n) (hb : b < 2 ^ n) (h : ∀ i, i < n → a.testBit i = b.testBit i) : a = b := by
  apply Nat.eq_of_testBit_eq
  intro i
  rcases Nat.lt_or_ge i n with q | q
  · exact h i q
  · rw [Nat.testBit_lt_two_pow (Nat.lt_of_lt_of_le ha (Nat.pow_le_pow_right (by decide) q)), Nat.testBit_lt_two_pow (Nat.lt_of_lt_of_le hb (Nat.pow_le_pow_right (by decide) q))]
theorem p31 {m n : Nat} (h : m < 2 ^ n) (hn : n ≤ 31) : m < 2 ^ 31 := Nat.lt_of_lt_of_le h (Nat.pow_le_pow_right (by decide) hn)
def fu {α : Type} (f : Nat → α) (k : Nat) (v : α) : Nat → α := fun j => if j = k then v else f j
theorem fu_s {α : Type} (f : Nat → α) (k : Nat) (v : α) : fu f k v k = v := by simp [fu]
theorem fu_n {α : Type} {f : Nat → α} {k j : Nat} {v : α} (h : j ≠ k) : fu f k v j = f j := by simp [fu, h]
theorem kLe_s {v : Value} {x : Option Value} {a b : List (Option Value)} (h : x = some v) (h2 : kLe a b) : kLe (some v :: a) (x :: b) := ⟨h, h2⟩
theorem kLe_n {x : Option Value} {a b : List (Option Value)} (h2 : kLe a b) : kLe (none :: a) (x :: b) := h2
theorem kLe_0 {b : List (Option Value)} : kLe [] b := trivial
