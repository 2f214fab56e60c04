/-! what is counted -/
def bt (x : Int32) (lo hi : Nat) : Bool := decide (¬ x < nI lo ∧ ¬ nI hi < x)
theorem bt_t {x : Int32} {lo hi : Nat} (hl : lo < 2 ^ 31) (hh : hi < 2 ^ 31) (h : bt x lo hi = true) : ∃ k, lo ≤ k ∧ k ≤ hi ∧ x = nI k ∧ ixn x = k := by
  obtain ⟨h1, h2⟩ := of_decide_eq_true h
  have h0 : ¬ x < 0 := fun z => h1 (by
    have a := Int32.lt_iff_toInt_lt.mp z
    apply Int32.lt_iff_toInt_lt.mpr
    rw [nI_toInt hl]
    simp at a
    omega)
  obtain ⟨k, hk, rfl⟩ := n_le hh h0 h2
  exact ⟨k, Nat.not_lt.mp fun z => h1 (nI_lt z hl), hk, rfl, nI_clamp (by omega)⟩
theorem bt_n {k lo hi : Nat} (hh : hi < 2 ^ 31) (h1 : lo ≤ k) (h2 : k ≤ hi) : bt (nI k) lo hi = true := decide_eq_true ⟨nI_nlt h1 (by omega), nI_nlt h2 hh⟩
theorem lt14 {x : Int32} : x < nI 14 ↔ ¬ nI 13 < x := by
  rw [Int32.lt_iff_toInt_lt, Int32.lt_iff_toInt_lt, nI_toInt (by decide), nI_toInt (by decide)]
  omega
theorem smN_cong {f g : Nat → Nat} : ∀ {n : Nat}, (∀ i, i < n → f i = g i) → smN f n = smN g n
  | 0, _ => rfl
  | n + 1, h => by unfold smN; rw [smN_cong (fun i hi => h i (by omega)), h n (by omega)]
theorem smN_add (f g : Nat → Nat) : ∀ n, smN (fun i => f i + g i) n = smN f n + smN g n
  | 0 => rfl
  | n + 1 => by unfold smN; rw [smN_add f g n]; omega
theorem smN_0 : ∀ n, smN (fun _ => 0) n = 0
  | 0 => rfl
  | n + 1 => by unfold smN; rw [smN_0 n]
theorem smN_ext {f : Nat → Nat} {n m : Nat} (h : ∀ i, n ≤ i → f i = 0) : n ≤ m → smN f m = smN f n := by
  induction m with
  | zero => intro hm; rw [show n = 0 by omega]
  | succ m ih =>
    intro hm
    rcases Nat.lt_or_ge m n with q | q
    · rw [show n = m + 1 by omega]
    · rw [show smN f (m + 1) = smN f m + f m from rfl, ih q, h m q]; rfl
theorem cnt_cong {f g : Nat → Bool} : ∀ {n : Nat}, (∀ i, i < n → f i = g i) → cnt f n = cnt g n
  | 0, _ => rfl
  | n + 1, h => by unfold cnt; rw [cnt_cong (fun i hi => h i (by omega)), h n (by omega)]
theorem cnt_sm (f : Nat → Bool) : ∀ n, cnt f n = smN (fun i => if f i then 1 else 0) n
  | 0 => rfl
  | n + 1 => by unfold cnt smN; rw [cnt_sm f n]
theorem cnt_0 {f : Nat → Bool} : ∀ {n : Nat}, cnt f n = 0 ↔ ∀ i, i < n → f i = false
  | 0 => ⟨fun _ i hi => absurd hi (Nat.not_lt_zero _), fun _ => rfl⟩
  | n + 1 => by
    unfold cnt
    constructor
    · intro h i hi
      by_cases e : i = n
      · subst e
        cases hf : f i
        · rfl
        · rw [hf] at h; simp at h
      · exact (cnt_0 (n := n)).mp (by omega) i (by omega)
    · intro h
      rw [cnt_0.mpr (fun i hi => h i (by omega)), h n (by omega)]; rfl
theorem smN_z {f : Nat → Nat} : ∀ {n : Nat}, smN f n = 0 ↔ ∀ i, i < n → f i = 0
  | 0 => ⟨fun _ i hi => absurd hi (Nat.not_lt_zero _), fun _ => rfl⟩
  | n + 1 => by
    unfold smN
    constructor
    · intro h i hi
      by_cases e : i = n
      · subst e; omega
      · exact (smN_z (n := n)).mp (by omega) i (by omega)
    · intro h
      rw [smN_z.mpr (fun i hi => h i (by omega)), h n (by omega)]
theorem smN_part {f : Nat → Nat} {n p : Nat} (hp : p < n) : smN (fun i => if i = p then 0 else f i) n + f p = smN f n := by
  induction n with
  | zero => omega
  | succ n ih =>
    unfold smN
    by_cases e : p = n
    · subst e
      have : smN (fun i => if i = p then 0 else f i) p = smN f p := smN_cong (fun i hi => by rw [if_neg (by omega)])
      rw [this, if_pos rfl]; rfl
    · have := ih (by omega)
      rw [if_neg (fun z => e z.symm)]
      omega
/-- chills -/
def coC (c : Cf) (t : Nat) : Nat := (smS c (t + 1)).2.2
def chP (c : Cf) (p T : Nat) : Nat := cnt (fun t => (coC c t).testBit p) T
def allC (c : Cf) (T : Nat) : Nat := smN (fun p => chP c p T) (cP c)
def wtC (H : Nat) (c : Cf) (T : Nat) : Nat := smN (smS c T).2.1 H
def xW (c : Cf) (h t : Nat) : Nat := (smS c (t + 1)).2.1 h
theorem pcn_and (m S : Nat) : pcn (m &&& S) = smN (fun p => if S.testBit p then (if m.testBit p then 1 else 0) else 0) 6 := by
  unfold pcn
  rw [cnt_sm]
  apply smN_cong
  intro i _
  rw [Nat.testBit_and]
  cases m.testBit i <;> cases S.testBit i <;> rfl
theorem chN_eq (C : Nat → Nat) (S : Nat) : ∀ T, chN C S T = smN (fun p => if S.testBit p then cnt (fun t => (C t).testBit p) T else 0) 6
  | 0 => by
    unfold chN
    rw [smN_z.mpr]
    intro i _
    simp [cnt]
  | T + 1 => by
    unfold chN
    rw [chN_eq C S T, pcn_and, ← smN_add]
    apply smN_cong
    intro i _
    simp only [cnt]
    cases S.testBit i <;> rfl
theorem ch_1 {c : Cf} {p T : Nat} (hp : p < 6) : chN (coC c) (2 ^ p) T = chP c p T := by
  rw [chN_eq]
  have : smN (fun i => if i = p then 0 else (if (2 ^ p).testBit i then cnt (fun t => (coC c t).testBit i) T else 0)) 6 = 0 := smN_z.mpr (fun i _ => by
    by_cases e : i = p
    · rw [if_pos e]
    · rw [if_neg e, Nat.testBit_two_pow]
      simp only [decide_eq_true_eq]
      rw [if_neg (fun z => e z.symm)])
  have h := smN_part (f := fun i => if (2 ^ p).testBit i then cnt (fun t => (coC c t).testBit i) T else 0) hp
  rw [this] at h
  rw [← h, Nat.testBit_two_pow_self]
  simp [chP]
theorem tb_full {P p : Nat} : (2 ^ P - 1).testBit p = decide (p < P) := Nat.testBit_two_pow_sub_one P p
theorem ch_all {c : Cf} {T : Nat} (hP : cP c ≤ 6) : chN (coC c) (2 ^ cP c - 1) T = allC c T := by
  rw [chN_eq]
  unfold allC
  rw [smN_ext (n := cP c) (m := 6) (fun i hi => by rw [tb_full]; simp; omega) hP]
  apply smN_cong
  intro i hi
  rw [tb_full]
  simp [hi, chP]
theorem ch_oth {c : Cf} {p T : Nat} (hP : cP c ≤ 6) (hp : p < cP c) : chN (coC c) (wo (2 ^ cP c - 1) (2 ^ p)) T = allC c T - chP c p T := by
  rw [chN_eq]
  unfold allC
  have h := smN_part (f := fun i => chP c i T) hp
  rw [← h, Nat.add_sub_cancel]
  rw [smN_ext (n := cP c) (m := 6) (fun i hi => by rw [wo_tb, tb_full]; simp; omega) hP]
  apply smN_cong
  intro i hi
  rw [wo_tb, tb_full, Nat.testBit_two_pow]
  by_cases e : i = p
  · subst e; simp
  · rw [if_neg e]
    have : ¬ p = i := fun z => e z.symm
    simp [hi, this, chP]
theorem and_0 {m S : Nat} : m &&& S = 0 ↔ ∀ p, S.testBit p = true → m.testBit p = false := by
  constructor
  · intro h p hp
    have := congrArg (fun z => z.testBit p) h
    simp only [Nat.testBit_and, Nat.zero_testBit, hp, Bool.and_true] at this
    exact this
  · intro h
    apply Nat.eq_of_testBit_eq
    intro p
    rw [Nat.testBit_and, Nat.zero_testBit]
    cases hp : S.testBit p
    · rw [Bool.and_false]
    · rw [h p hp]; rfl
theorem wmB_iff {c : Cf} {S : Nat} : ∀ {T : Nat}, wmB c S T = true ↔ ∀ p, S.testBit p = true → chP c p T = 0
  | 0 => ⟨fun _ _ _ => rfl, fun _ => rfl⟩
  | T + 1 => by
    unfold wmB
    rw [Bool.and_eq_true, decide_eq_true_iff, wmB_iff, and_0]
    constructor
    · intro h p hp
      unfold chP cnt
      rw [show cnt (fun t => (coC c t).testBit p) T = 0 from h.1 p hp, show (coC c T).testBit p = false from h.2 p hp]; rfl
    · intro h
      refine ⟨fun p hp => ?_, fun p hp => ?_⟩
      · have := h p hp
        unfold chP cnt at this
        unfold chP
        omega
      · have := h p hp
        unfold chP cnt at this
        cases hf : (smS c (T + 1)).2.2.testBit p
        · rfl
        · have e : (coC c T).testBit p = true := hf
          rw [e] at this
          simp at this
theorem wm_1 {c : Cf} {p T : Nat} : wmB c (2 ^ p) T = decide (chP c p T = 0) := by
  rw [Bool.eq_iff_iff, wmB_iff, decide_eq_true_iff]
  constructor
  · intro h; exact h p (Nat.testBit_two_pow_self)
  · intro h i hi
    rw [Nat.testBit_two_pow] at hi
    rw [← of_decide_eq_true hi]; exact h
theorem wm_all {c : Cf} {T : Nat} : wmB c (2 ^ cP c - 1) T = decide (allC c T = 0) := by
  rw [Bool.eq_iff_iff, wmB_iff, decide_eq_true_iff]
  unfold allC
  rw [smN_z]
  constructor
  · intro h p hp; exact h p (by rw [tb_full]; simp [hp])
  · intro h p hp
    rw [tb_full] at hp
    exact h p (of_decide_eq_true hp)
theorem wm_mk {c : Cf} {f : Nat → Bool} {n T : Nat} : wmB c (mk f n) T = decide (cnt (fun p => f p && !decide (chP c p T = 0)) n = 0) := by
  rw [Bool.eq_iff_iff, wmB_iff, decide_eq_true_iff, cnt_0]
  constructor
  · intro h p hp
    cases hf : f p
    · rfl
    · rw [h p (by rw [mk_tb]; simp [hp, hf])]; rfl
  · intro h p hp
    rw [mk_tb] at hp
    simp at hp
    have := h p hp.1
    rw [hp.2] at this
    simpa using this
/-- the first that is so -/
def fsN (f : Nat → Bool) : Nat → Option Nat
  | 0 => none
  | n + 1 => match fsN f n with
    | some k => some k
    | none => if f n then some n else none
theorem fsN_none {f : Nat → Bool} : ∀ {n : Nat}, (∀ i, i < n → f i = false) → fsN f n = none
  | 0, _ => rfl
  | n + 1, h => by unfold fsN; rw [fsN_none (fun i hi => h i (by omega)), h n (by omega)]; rfl
theorem fsN_some {f : Nat → Bool} {i : Nat} (h1 : ∀ j, j < i → f j = false) (h2 : f i = true) : ∀ n, i < n → fsN f n = some i
  | 0, hi => absurd hi (Nat.not_lt_zero _)
  | n + 1, hi => by
    unfold fsN
    by_cases e : i = n
    · subst e; rw [fsN_none h1, h2]; rfl
    · rw [fsN_some h1 h2 n (by omega)]
def opI (o : Option Nat) : Int32 := match o with
  | none => -9
  | some k => nI k
/-- the least, the first of several; the smallest set, the least of several -/
def bsN (f : Nat → Nat) : Nat → Nat × Nat
  | 0 => (0, 0)
  | v + 1 => if (bsN f v).1 = 0 ∨ f (v + 1) < (bsN f v).2 then (v + 1, f (v + 1)) else bsN f v
def wmN (f : Nat → Bool) : Nat → Option Nat
  | 0 => none
  | s + 1 => if f s && (match wmN f s with | none => true | some b => decide (pcn s < pcn b)) then some s else wmN f s
theorem gcd_b (a b : Nat) : Nat.gcd a b = Nat.gcd b (a % b) := by rw [Nat.gcd_comm a b, Nat.gcd_rec b a, Nat.gcd_comm]
def shN (a b : Nat) (z : Bool) : Int64 := if b = 0 then (if z then 0 else 1) else if z then lN (a / Nat.gcd a b) else lN (b / Nat.gcd a b)
/-! other configs -/
def cfA (S : AS) (a : Nat) : Cf := cfW (aD S) (aS S) (waS (aD S)) a (aG S) 9 0
def cfV (S : AS) (v : Nat) : Cf := cfW (aD S) v (waS (aD S)) (aA S) (aG S) 9 0
def cfK (S : AS) (p k : Nat) : Cf := cfW (aD S) (aS S) (fu (waS (aD S)) p (wan k (dbu (aD S) p))) (aA S) (aG S) 9 0
def cfL (S : AS) (h m : Nat) : Cf := cfW (aD S) (aS S) (waS (aD S)) (aA S) (aG S) h m
