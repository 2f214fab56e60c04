/-! a town's halves, as bits -/
def tmN (sn t : Nat) : Nat := if t = 0 then sn else 14 - sn
def bgN (sn t : Nat) : Nat := if t = 0 then 0 else sn
def hvN (b : Nat) : Nat → Nat
  | 0 => 0
  | k + 1 => hvN b k ||| 2 ^ ((b + k) % 14)
def hvT (sn t m : Nat) : Nat := hvN (bgN sn t) (tmN sn t + min m (tmN sn (1 - t)))
theorem hvN_lt (b : Nat) : ∀ k, hvN b k < 2 ^ 14
  | 0 => Nat.two_pow_pos 14
  | k + 1 => or_pow_lt (hvN_lt b k) (Nat.mod_lt _ (by decide))
set_option maxRecDepth 100000 in
theorem hv_to : ∀ sn, sn < 14 → ∀ z, z < 14 → ∀ t, t < 2 → ∀ u, u < 2 → 1 ≤ sn → cnt (hvT sn t z &&& hvT sn u 0).testBit 14 = if t = u then tmN sn u else min z (tmN sn u) := by decide +kernel
set_option maxRecDepth 100000 in
theorem hv_tb : ∀ sn, sn < 14 → ∀ t, t < 2 → ∀ i, i < 14 → 1 ≤ sn → (hvT sn t 0).testBit i = decide (t = if i < sn then 0 else 1) := by decide +kernel
/-- those of some -/
def orN (f : Nat → Bool) (g : Nat → Nat) : Nat → Nat
  | 0 => 0
  | n + 1 => if f n then orN f g n ||| g n else orN f g n
theorem orN_lt {f : Nat → Bool} {g : Nat → Nat} (h : ∀ p, g p < 2 ^ 14) : ∀ n, orN f g n < 2 ^ 14
  | 0 => Nat.two_pow_pos 14
  | n + 1 => by
    unfold orN
    split
    · exact Nat.or_lt_two_pow (orN_lt h n) (h n)
    · exact orN_lt h n
theorem orN_tb {f : Nat → Bool} {g : Nat → Nat} {i : Nat} : ∀ n, (orN f g n).testBit i = !decide (cnt (fun p => f p && (g p).testBit i) n = 0)
  | 0 => by simp [orN, cnt]
  | n + 1 => by
    have ih := orN_tb (f := f) (g := g) (i := i) n
    unfold orN cnt
    by_cases c : f n = true
    · rw [if_pos c, Nat.testBit_or, ih, c, Bool.true_and]
      cases (g n).testBit i
      · simp
      · simp
    · rw [if_neg c, ih, (Bool.not_eq_true _).mp c]
      simp
theorem th_eq {S : AS} (ok : okS S) (hP : 0 < dP (aD S)) (h : Nat) : wo 16383 (orN (fun p => decide (dho (aD S) p = h) && !(aA S).testBit p) (fun p => hvT (aS S) (dtw (aD S) p) 0) (dP (aD S))) = mk (thF S h) 14 := by
  refine tb_ext (n := 14) (wo_lt (by decide)) (mk_lt _ _) (fun i hi => ?_)
  have hsn := ok.2.2.1 hP
  rw [wo_tb, mk_tb, orN_tb, show (16383 : Nat) = 2 ^ 14 - 1 from rfl, tb_full, decide_eq_true hi, Bool.true_and, Bool.true_and, Bool.not_not]
  unfold thF
  rw [cnt_cong]
  intro p hp
  have od := ok.1.2.2.2 p hp
  rw [hv_tb (aS S) (by omega) (dtw (aD S) p) (by omega) i hi hsn.1]
  unfold inH
  cases decide (dho (aD S) p = h) <;> cases (aA S).testBit p <;> cases decide (dtw (aD S) p = if i < aS S then 0 else 1) <;> rfl
set_option maxHeartbeats 4000000 in
theorem m_timeOf (Γ : kGm) {μ : kM} {q : kq4} (sn t : Nat) (hsn : 1 ≤ sn ∧ sn ≤ 13) (ht : t ≤ 1) (e : μ 49 5 = nI sn) : gC Γ yX5_timeOf mX5_timeOf 1 [.ref 49, .int (nI t)] μ q (fun r μ' q' => r = some (.int (nI (tmN sn t))) ∧ μ' = μ ∧ q' = q) := by
  refine gC.ofG (n := 0) ⟨by decide +kernel, rfl, rfl, by decide⟩ (Nat.le_of_ble_eq_true rfl) ?_
  show gG Γ mX5_timeOf 1 0 [some (.ref 49), some (.int (nI t))] [] μ q _
  refine kG.iload_n 1 dX5_timeOf_0 rfl rfl ?_
  refine kG.if_ne 11 4 dX5_timeOf_1 (by decide) rfl (fun h1 => ?_) (fun h1 => ?_)
  · have c : ¬ t = 0 := fun z => h1 (by rw [z]; rfl)
    refine kG.bipush (v := nI 14) 13 dX5_timeOf_11 (by decide) rfl ?_
    refine kG.aload_n 14 dX5_timeOf_13 rfl rfl ?_
    refine gG.getI 17 dX5_timeOf_14 fX5_123 ⟨by decide, by decide⟩ rfl rfl rfl ?_
    rw [e]
    refine kG.isub 18 dX5_timeOf_17 rfl ?_
    rw [pk_sub (by omega)]
    refine gG.iret dX5_timeOf_18 rfl ?_
    unfold tmN
    first | (rw [if_pos c]; exact ⟨rfl, rfl, rfl⟩) | (rw [if_neg c]; exact ⟨rfl, rfl, rfl⟩)
  · have c : t = 0 := (nI_eq (b := 0) (by omega) (by decide)).mp h1
    refine kG.aload_n 5 dX5_timeOf_4 rfl rfl ?_
    refine gG.getI 8 dX5_timeOf_5 fX5_123 ⟨by decide, by decide⟩ rfl rfl rfl ?_
    rw [e]
    refine kG.goto 18 dX5_timeOf_8 (by decide) ?_
    refine gG.iret dX5_timeOf_18 rfl ?_
    unfold tmN
    first | (rw [if_pos c]; exact ⟨rfl, rfl, rfl⟩) | (rw [if_neg c]; exact ⟨rfl, rfl, rfl⟩)
set_option maxHeartbeats 4000000 in
theorem hv_l (Γ : kGm) {μ : kM} {q : kq4} {b n : Nat} (hb : b ≤ 13) (hn : n ≤ 28) {x1 x2 x4 : Option Value} : ∀ (m i : Nat), i + m = n → gG Γ mX5_halvesOf 2 48 [some (.ref 49), x1, x2, some (.int (nI b)), x4, some (.int (nI n)), some (.int (nI (hvN b i))), some (.int (nI i))] [] (μ) q (fun r μ' q' => r = some (.int (nI (hvN b n))) ∧ μ' = μ ∧ q' = q) := by
  intro m
  induction m with
  | zero =>
    intro i hm
    refine kG.iload 50 dX5_halvesOf_48 rfl rfl ?_
    refine kG.iload 52 dX5_halvesOf_50 rfl rfl ?_
    refine kG.icmp_ge 75 55 dX5_halvesOf_52 (by decide) rfl (fun h52 => ?_) (fun h52 => ?_)
    · refine kG.iload 77 dX5_halvesOf_75 rfl rfl ?_
      refine gG.iret dX5_halvesOf_77 rfl ?_
      rw [show n = i by omega]
      exact ⟨rfl, rfl, rfl⟩
    · exact absurd (nI_le (by omega) (by omega)) h52
  | succ m ih =>
    intro i hm
    refine kG.iload 50 dX5_halvesOf_48 rfl rfl ?_
    refine kG.iload 52 dX5_halvesOf_50 rfl rfl ?_
    refine kG.icmp_ge 75 55 dX5_halvesOf_52 (by decide) rfl (fun h52 => ?_) (fun h52 => ?_)
    · exact absurd h52 (nI_ge (by omega) (by omega))
    · refine kG.iload 57 dX5_halvesOf_55 rfl rfl ?_
      refine kG.iconst (v := nI 1) 58 dX5_halvesOf_57 (by decide) rfl ?_
      refine kG.iload_n 59 dX5_halvesOf_58 rfl rfl ?_
      refine kG.iload 61 dX5_halvesOf_59 rfl rfl ?_
      refine kG.iadd 62 dX5_halvesOf_61 rfl ?_
      rw [nI_add]
      refine kG.bipush (v := nI 14) 64 dX5_halvesOf_62 (by decide) rfl ?_
      refine kG.irem 65 dX5_halvesOf_64 rfl (by decide) ?_
      rw [pk_rem (by omega) (by decide) (by decide)]
      refine kG.ishl 66 dX5_halvesOf_65 rfl ?_
      rw [n_shl (by have := Nat.mod_lt (b + i) (show 0 < 14 by decide); omega)]
      refine kG.ior 67 dX5_halvesOf_66 rfl ?_
      rw [n_or]
      refine kG.istore 69 dX5_halvesOf_67 (by decide) rfl rfl ?_
      dsimp only [List.set]
      refine kG.iinc (v := nI (i + 1)) 72 dX5_halvesOf_69 rfl (nI_1 i) (by decide) rfl rfl ?_
      dsimp only [List.set]
      refine kG.goto 48 dX5_halvesOf_72 (by decide) ?_
      exact ih (i + 1) (by omega)
set_option maxHeartbeats 4000000 in
theorem m_halvesOf (Γ : kGm) {μ : kM} {q : kq4} (sn t : Nat) (hsn : 1 ≤ sn ∧ sn ≤ 13) (ht : t ≤ 1) (e : μ 49 5 = nI sn) (m : Nat) (hm : m ≤ 13) : gC Γ yX5_halvesOf mX5_halvesOf 2 [.ref 49, .int (nI t), .int (nI m)] μ q (fun r μ' q' => r = some (.int (nI (hvT sn t m))) ∧ μ' = μ ∧ q' = q) := by
  refine gC.ofG (n := 0) ⟨by decide +kernel, rfl, rfl, by decide⟩ (Nat.le_of_ble_eq_true rfl) ?_
  show gG Γ mX5_halvesOf 2 0 [some (.ref 49), some (.int (nI t)), some (.int (nI m)), none, none, none, none, none] [] μ q _
  have ho : tmN sn (1 - t) ≤ 13 := by unfold tmN; split <;> omega
  have ho2 : tmN sn t ≤ 13 := by unfold tmN; split <;> omega
  refine kG.iload_n 1 dX5_halvesOf_0 rfl rfl ?_
  refine kG.if_ne 8 4 dX5_halvesOf_1 (by decide) rfl (fun h1 => ?_) (fun h1 => ?_)
  · have c : ¬ t = 0 := fun z => h1 (by rw [z]; rfl)
    have eB : nI sn = nI (bgN sn t) := by unfold bgN; rw [if_neg c]
    refine kG.aload_n 9 dX5_halvesOf_8 rfl rfl ?_
    refine gG.getI 12 dX5_halvesOf_9 fX5_123 ⟨by decide, by decide⟩ rfl rfl rfl ?_
    rw [e]
    rw [eB]
    refine kG.istore_n 13 dX5_halvesOf_12 (by decide) rfl rfl ?_
    dsimp only [List.set]
    refine kG.aload_n 14 dX5_halvesOf_13 rfl rfl ?_
    refine kG.iconst (v := nI 1) 15 dX5_halvesOf_14 (by decide) rfl ?_
    refine kG.iload_n 16 dX5_halvesOf_15 rfl rfl ?_
    refine kG.isub 17 dX5_halvesOf_16 rfl ?_
    rw [pk_sub ht]
    refine gG.callV 20 dX5_halvesOf_17 lX5_233 vX5_timeOf (m_timeOf Γ sn (1 - t) hsn (by omega) e) rfl rfl ⟨by decide, by decide⟩ rfl ⟨by decide, rfl⟩ ⟨by decide, by decide⟩ (Nat.le_of_ble_eq_true rfl) rfl (fun r17 μ17 q17 hc17 => ?_)
    obtain ⟨rfl, rfl, rfl⟩ := hc17
    refine kG.istore 22 dX5_halvesOf_20 (by decide) rfl rfl ?_
    dsimp only [List.set]
    refine kG.aload_n 23 dX5_halvesOf_22 rfl rfl ?_
    refine kG.iload_n 24 dX5_halvesOf_23 rfl rfl ?_
    refine gG.callV 27 dX5_halvesOf_24 lX5_233 vX5_timeOf (m_timeOf Γ sn t hsn ht e) rfl rfl ⟨by decide, by decide⟩ rfl ⟨by decide, rfl⟩ ⟨by decide, by decide⟩ (Nat.le_of_ble_eq_true rfl) rfl (fun r24 μ24 q24 hc24 => ?_)
    obtain ⟨rfl, rfl, rfl⟩ := hc24
    refine kG.iload_n 28 dX5_halvesOf_27 rfl rfl ?_
    refine kG.iload 30 dX5_halvesOf_28 rfl rfl ?_
    refine kG.icmp_le 38 33 dX5_halvesOf_30 (by decide) rfl (fun h30 => ?_) (fun h30 => ?_)
    · have c2 : m ≤ tmN sn (1 - t) := (nI_leI (by omega) (by omega)).mp h30
      have eN : tmN sn t + m = tmN sn t + min m (tmN sn (1 - t)) := by rw [Nat.min_eq_left c2]
      refine kG.iload_n 39 dX5_halvesOf_38 rfl rfl ?_
      refine kG.iadd 40 dX5_halvesOf_39 rfl ?_
      rw [nI_add]
      rw [eN]
      refine kG.istore 42 dX5_halvesOf_40 (by decide) rfl rfl ?_
      dsimp only [List.set]
      refine kG.iconst (v := nI 0) 43 dX5_halvesOf_42 (by decide) rfl ?_
      refine kG.istore 45 dX5_halvesOf_43 (by decide) rfl rfl ?_
      dsimp only [List.set]
      refine kG.iconst (v := nI 0) 46 dX5_halvesOf_45 (by decide) rfl ?_
      refine kG.istore 48 dX5_halvesOf_46 (by decide) rfl rfl ?_
      dsimp only [List.set]
      exact hv_l Γ (b := bgN sn t) (n := tmN sn t + min m (tmN sn (1 - t))) (by unfold bgN; split <;> omega) (by have := Nat.min_le_right m (tmN sn (1 - t)); omega) (tmN sn t + min m (tmN sn (1 - t))) 0 (by omega)
    · have c2 : ¬ m ≤ tmN sn (1 - t) := fun z => h30 (nI_le z (by omega))
      have eN : tmN sn t + tmN sn (1 - t) = tmN sn t + min m (tmN sn (1 - t)) := by rw [Nat.min_eq_right (by omega)]
      refine kG.iload 35 dX5_halvesOf_33 rfl rfl ?_
      refine kG.goto 39 dX5_halvesOf_35 (by decide) ?_
      refine kG.iadd 40 dX5_halvesOf_39 rfl ?_
      rw [nI_add]
      rw [eN]
      refine kG.istore 42 dX5_halvesOf_40 (by decide) rfl rfl ?_
      dsimp only [List.set]
      refine kG.iconst (v := nI 0) 43 dX5_halvesOf_42 (by decide) rfl ?_
      refine kG.istore 45 dX5_halvesOf_43 (by decide) rfl rfl ?_
      dsimp only [List.set]
      refine kG.iconst (v := nI 0) 46 dX5_halvesOf_45 (by decide) rfl ?_
      refine kG.istore 48 dX5_halvesOf_46 (by decide) rfl rfl ?_
      dsimp only [List.set]
      exact hv_l Γ (b := bgN sn t) (n := tmN sn t + min m (tmN sn (1 - t))) (by unfold bgN; split <;> omega) (by have := Nat.min_le_right m (tmN sn (1 - t)); omega) (tmN sn t + min m (tmN sn (1 - t))) 0 (by omega)
  · have c : t = 0 := (nI_eq (b := 0) (by omega) (by decide)).mp h1
    have eB : nI 0 = nI (bgN sn t) := by unfold bgN; rw [if_pos c]
    refine kG.iconst (v := nI 0) 5 dX5_halvesOf_4 (by decide) rfl ?_
    refine kG.goto 12 dX5_halvesOf_5 (by decide) ?_
    rw [eB]
    refine kG.istore_n 13 dX5_halvesOf_12 (by decide) rfl rfl ?_
    dsimp only [List.set]
    refine kG.aload_n 14 dX5_halvesOf_13 rfl rfl ?_
    refine kG.iconst (v := nI 1) 15 dX5_halvesOf_14 (by decide) rfl ?_
    refine kG.iload_n 16 dX5_halvesOf_15 rfl rfl ?_
    refine kG.isub 17 dX5_halvesOf_16 rfl ?_
    rw [pk_sub ht]
    refine gG.callV 20 dX5_halvesOf_17 lX5_233 vX5_timeOf (m_timeOf Γ sn (1 - t) hsn (by omega) e) rfl rfl ⟨by decide, by decide⟩ rfl ⟨by decide, rfl⟩ ⟨by decide, by decide⟩ (Nat.le_of_ble_eq_true rfl) rfl (fun r17 μ17 q17 hc17 => ?_)
    obtain ⟨rfl, rfl, rfl⟩ := hc17
    refine kG.istore 22 dX5_halvesOf_20 (by decide) rfl rfl ?_
    dsimp only [List.set]
    refine kG.aload_n 23 dX5_halvesOf_22 rfl rfl ?_
    refine kG.iload_n 24 dX5_halvesOf_23 rfl rfl ?_
    refine gG.callV 27 dX5_halvesOf_24 lX5_233 vX5_timeOf (m_timeOf Γ sn t hsn ht e) rfl rfl ⟨by decide, by decide⟩ rfl ⟨by decide, rfl⟩ ⟨by decide, by decide⟩ (Nat.le_of_ble_eq_true rfl) rfl (fun r24 μ24 q24 hc24 => ?_)
    obtain ⟨rfl, rfl, rfl⟩ := hc24
    refine kG.iload_n 28 dX5_halvesOf_27 rfl rfl ?_
    refine kG.iload 30 dX5_halvesOf_28 rfl rfl ?_
    refine kG.icmp_le 38 33 dX5_halvesOf_30 (by decide) rfl (fun h30 => ?_) (fun h30 => ?_)
    · have c2 : m ≤ tmN sn (1 - t) := (nI_leI (by omega) (by omega)).mp h30
      have eN : tmN sn t + m = tmN sn t + min m (tmN sn (1 - t)) := by rw [Nat.min_eq_left c2]
      refine kG.iload_n 39 dX5_halvesOf_38 rfl rfl ?_
      refine kG.iadd 40 dX5_halvesOf_39 rfl ?_
      rw [nI_add]
      rw [eN]
      refine kG.istore 42 dX5_halvesOf_40 (by decide) rfl rfl ?_
      dsimp only [List.set]
      refine kG.iconst (v := nI 0) 43 dX5_halvesOf_42 (by decide) rfl ?_
      refine kG.istore 45 dX5_halvesOf_43 (by decide) rfl rfl ?_
      dsimp only [List.set]
      refine kG.iconst (v := nI 0) 46 dX5_halvesOf_45 (by decide) rfl ?_
      refine kG.istore 48 dX5_halvesOf_46 (by decide) rfl rfl ?_
      dsimp only [List.set]
      exact hv_l Γ (b := bgN sn t) (n := tmN sn t + min m (tmN sn (1 - t))) (by unfold bgN; split <;> omega) (by have := Nat.min_le_right m (tmN sn (1 - t)); omega) (tmN sn t + min m (tmN sn (1 - t))) 0 (by omega)
    · have c2 : ¬ m ≤ tmN sn (1 - t) := fun z => h30 (nI_le z (by omega))
      have eN : tmN sn t + tmN sn (1 - t) = tmN sn t + min m (tmN sn (1 - t)) := by rw [Nat.min_eq_right (by omega)]
      refine kG.iload 35 dX5_halvesOf_33 rfl rfl ?_
      refine kG.goto 39 dX5_halvesOf_35 (by decide) ?_
      refine kG.iadd 40 dX5_halvesOf_39 rfl ?_
      rw [nI_add]
      rw [eN]
      refine kG.istore 42 dX5_halvesOf_40 (by decide) rfl rfl ?_
      dsimp only [List.set]
      refine kG.iconst (v := nI 0) 43 dX5_halvesOf_42 (by decide) rfl ?_
      refine kG.istore 45 dX5_halvesOf_43 (by decide) rfl rfl ?_
      dsimp only [List.set]
      refine kG.iconst (v := nI 0) 46 dX5_halvesOf_45 (by decide) rfl ?_
      refine kG.istore 48 dX5_halvesOf_46 (by decide) rfl rfl ?_
      dsimp only [List.set]
      exact hv_l Γ (b := bgN sn t) (n := tmN sn t + min m (tmN sn (1 - t))) (by unfold bgN; split <;> omega) (by have := Nat.min_le_right m (tmN sn (1 - t)); omega) (tmN sn t + min m (tmN sn (1 - t))) 0 (by omega)
set_option maxHeartbeats 4000000 in
theorem y_together (Γ : kGm) {S : AS} {μ : kM} {q : kq4} (ok : okS S) (h : MS S μ) (x : Int32) (y : Int32) (z : Int32) : gC Γ yX5_together mX5_together 3 [.ref 49, .int x, .int y, .int z] μ q (PMi (s_together S x y z) (S) μ q) := by
  refine gC.ofG (n := 0) ⟨by decide +kernel, rfl, rfl, by decide⟩ (Nat.le_of_ble_eq_true rfl) ?_
  show gG Γ mX5_together 3 0 [some (.ref 49), some (.int x), some (.int y), some (.int z)] [] μ q _
  have okd := ok.1
  have hH4 := ok.1.1
  have hP6 := ok.1.2.1
  have hc := h.1
  have hp := hc.2.2.2.2.2.1
  have hh := hc.2.2.2.2.1
  refine kG.aload_n 1 dX5_together_0 rfl rfl ?_
  refine kG.iload_n 2 dX5_together_1 rfl rfl ?_
  refine gG.callV 5 dX5_together_2 lX5_158 vX5_isPerson (m_isPerson Γ x (dP (aD S)) hc.2.2.1) rfl rfl ⟨by decide, by decide⟩ rfl ⟨by decide, rfl⟩ ⟨by decide, by decide⟩ (Nat.le_of_ble_eq_true rfl) rfl (fun r2 μ2 q2 hc2 => ?_)
  obtain ⟨rfl, rfl, rfl⟩ := hc2
  refine kG.if_eq 21 8 dX5_together_5 (by decide) rfl (fun h5 => ?_) (fun h5 => ?_)
  · have hb := b2_0.mp h5
    have hb : (inB x (dP (aD S)) && inB y (dP (aD S)) && !decide (x = y)) = false := by rw [hb]; rfl
    refine kG.iconst (v := (-1)) 22 dX5_together_21 (by decide) rfl ?_
    refine gG.iret dX5_together_22 rfl ?_
    refine ⟨?_, h, rfl, fun _ _ => rfl⟩
    unfold s_together
    rw [if_neg (by rw [hb]; decide)]
  · have hb2 := b2_n0.mp h5
    refine kG.aload_n 9 dX5_together_8 rfl rfl ?_
    refine kG.iload_n 10 dX5_together_9 rfl rfl ?_
    refine gG.callV 13 dX5_together_10 lX5_158 vX5_isPerson (m_isPerson Γ y (dP (aD S)) hc.2.2.1) rfl rfl ⟨by decide, by decide⟩ rfl ⟨by decide, rfl⟩ ⟨by decide, by decide⟩ (Nat.le_of_ble_eq_true rfl) rfl (fun r10 μ10 q10 hc10 => ?_)
    obtain ⟨rfl, rfl, rfl⟩ := hc10
    refine kG.if_eq 21 16 dX5_together_13 (by decide) rfl (fun h13 => ?_) (fun h13 => ?_)
    · have hb := b2_0.mp h13
      have hb : (inB x (dP (aD S)) && inB y (dP (aD S)) && !decide (x = y)) = false := by rw [hb, Bool.and_false]; rfl
      refine kG.iconst (v := (-1)) 22 dX5_together_21 (by decide) rfl ?_
      refine gG.iret dX5_together_22 rfl ?_
      refine ⟨?_, h, rfl, fun _ _ => rfl⟩
      unfold s_together
      rw [if_neg (by rw [hb]; decide)]
    · have hb10 := b2_n0.mp h13
      refine kG.iload_n 17 dX5_together_16 rfl rfl ?_
      refine kG.iload_n 18 dX5_together_17 rfl rfl ?_
      refine kG.icmp_ne 23 21 dX5_together_18 (by decide) rfl (fun h18 => ?_) (fun h18 => ?_)
      · have hne := h18
        refine kG.iload_n 24 dX5_together_23 rfl rfl ?_
        refine kG.iconst (v := nI 0) 25 dX5_together_24 (by decide) rfl ?_
        refine kG.bipush (v := nI 13) 27 dX5_together_25 (by decide) rfl ?_
        refine gG.callS 30 dX5_together_27 lX5_89 vX5_within (m_within Γ z 0 13) rfl rfl ⟨by decide, by decide⟩ (Nat.le_of_ble_eq_true rfl) rfl (fun r27 μ27 q27 hc27 => ?_)
        obtain ⟨rfl, rfl, rfl⟩ := hc27
        rw [bt_in (by decide)]
        refine kG.if_ne 36 33 dX5_together_30 (by decide) rfl (fun h30 => ?_) (fun h30 => ?_)
        · have hz : inB z 14 = true := b2_n0.mp h30
          obtain ⟨kx, hkx, rfl, ex⟩ := inB_t (by omega) hb2
          obtain ⟨ky, hky, rfl, ey⟩ := inB_t (by omega) hb10
          obtain ⟨kz, hkz, rfl, ez⟩ := inB_t (by decide) hz
          have hsn := ok.2.2.1 (by omega)
          have hd1 := okd.2.2.2 kx hkx
          have hd2 := okd.2.2.2 ky hky
          have q1 := hp kx hkx
          have q2 := hp ky hky
          refine kG.aload_n 37 dX5_together_36 rfl rfl ?_
          refine gG.getP 40 dX5_together_37 fX5_31 ⟨by decide, by decide⟩ rfl rfl rfl rfl ?_
          refine kG.iload_n 41 dX5_together_40 rfl rfl ?_
          refine gG.iald (n := 6) _ 42 dX5_together_41 ⟨by decide, by decide⟩ rfl rfl (by omega) (by decide) rfl ?_
          rw [q1.2.2.1]
          refine kG.aload_n 43 dX5_together_42 rfl rfl ?_
          refine gG.getP 46 dX5_together_43 fX5_31 ⟨by decide, by decide⟩ rfl rfl rfl rfl ?_
          refine kG.iload_n 47 dX5_together_46 rfl rfl ?_
          refine gG.iald (n := 6) _ 48 dX5_together_47 ⟨by decide, by decide⟩ rfl rfl (by omega) (by decide) rfl ?_
          rw [q2.2.2.1]
          refine kG.icmp_ne 80 51 dX5_together_48 (by decide) rfl (fun h48 => ?_) (fun h48 => ?_)
          · have eh : ¬ dho (aD S) kx = dho (aD S) ky := fun w => h48 (by rw [w])
            refine kG.iconst (v := nI 0) 81 dX5_together_80 (by decide) rfl ?_
            refine gG.iret dX5_together_81 rfl ?_
            refine ⟨?_, h, rfl, fun _ _ => rfl⟩
            unfold s_together
            rw [if_pos (by rw [hb2, hb10, decide_eq_false hne]; rfl), if_pos hz, ex, ey, if_neg eh]
          · have eh : dho (aD S) kx = dho (aD S) ky := (nI_eq (by omega) (by omega)).mp h48
            refine kG.aload_n 52 dX5_together_51 rfl rfl ?_
            refine kG.aload_n 53 dX5_together_52 rfl rfl ?_
            refine gG.getP 56 dX5_together_53 fX5_28 ⟨by decide, by decide⟩ rfl rfl rfl rfl ?_
            refine kG.iload_n 57 dX5_together_56 rfl rfl ?_
            refine gG.iald (n := 6) _ 58 dX5_together_57 ⟨by decide, by decide⟩ rfl rfl (by omega) (by decide) rfl ?_
            rw [q1.2.1]
            refine kG.iload_n 59 dX5_together_58 rfl rfl ?_
            refine gG.callV 62 dX5_together_59 lX5_236 vX5_halvesOf (m_halvesOf Γ (aS S) (dtw (aD S) kx) hsn (by omega) hc.1 kz (by omega)) rfl rfl ⟨by decide, by decide⟩ rfl ⟨by decide, rfl⟩ ⟨by decide, by decide⟩ (Nat.le_of_ble_eq_true rfl) rfl (fun r59 μ59 q59 hc59 => ?_)
            obtain ⟨rfl, rfl, rfl⟩ := hc59
            refine kG.aload_n 63 dX5_together_62 rfl rfl ?_
            refine kG.aload_n 64 dX5_together_63 rfl rfl ?_
            refine gG.getP 67 dX5_together_64 fX5_28 ⟨by decide, by decide⟩ rfl rfl rfl rfl ?_
            refine kG.iload_n 68 dX5_together_67 rfl rfl ?_
            refine gG.iald (n := 6) _ 69 dX5_together_68 ⟨by decide, by decide⟩ rfl rfl (by omega) (by decide) rfl ?_
            rw [q2.2.1]
            refine kG.iconst (v := nI 0) 70 dX5_together_69 (by decide) rfl ?_
            refine gG.callV 73 dX5_together_70 lX5_236 vX5_halvesOf (m_halvesOf Γ (aS S) (dtw (aD S) ky) hsn (by omega) hc.1 0 (by decide)) rfl rfl ⟨by decide, by decide⟩ rfl ⟨by decide, rfl⟩ ⟨by decide, by decide⟩ (Nat.le_of_ble_eq_true rfl) rfl (fun r70 μ70 q70 hc70 => ?_)
            obtain ⟨rfl, rfl, rfl⟩ := hc70
            refine kG.iand 74 dX5_together_73 rfl ?_
            rw [n_and]
            refine gG.callS 77 dX5_together_74 lX5_213 vX5_size (m_size Γ 14 (hvT (aS S) (dtw (aD S) kx) kz &&& hvT (aS S) (dtw (aD S) ky) 0) (Nat.lt_of_le_of_lt Nat.and_le_left (hvN_lt _ _)) (by decide)) rfl rfl ⟨by decide, by decide⟩ (Nat.le_of_ble_eq_true rfl) rfl (fun r74 μ74 q74 hc74 => ?_)
            obtain ⟨rfl, rfl, rfl⟩ := hc74
            rw [hv_to (aS S) (by omega) kz hkz (dtw (aD S) kx) (by omega) (dtw (aD S) ky) (by omega) hsn.1]
            refine kG.goto 81 dX5_together_77 (by decide) ?_
            refine gG.iret dX5_together_81 rfl ?_
            by_cases et : dtw (aD S) kx = dtw (aD S) ky
            · rw [if_pos et]
              refine ⟨?_, h, rfl, fun _ _ => rfl⟩
              unfold s_together
              rw [if_pos (by rw [hb2, hb10, decide_eq_false hne]; rfl), if_pos hz, ex, ey, ez, if_pos eh, if_pos et]
              rfl
            · rw [if_neg et]
              refine ⟨?_, h, rfl, fun _ _ => rfl⟩
              unfold s_together
              rw [if_pos (by rw [hb2, hb10, decide_eq_false hne]; rfl), if_pos hz, ex, ey, ez, if_pos eh, if_neg et]
              rfl
        · have hz : inB z 14 = false := b2_0.mp h30
          refine kG.bipush (v := (-2)) 35 dX5_together_33 (by decide) rfl ?_
          refine gG.iret dX5_together_35 rfl ?_
          refine ⟨?_, h, rfl, fun _ _ => rfl⟩
          unfold s_together
          rw [if_pos (by rw [hb2, hb10, decide_eq_false hne]; rfl), if_neg (by rw [hz]; decide)]
      · have hb : (inB x (dP (aD S)) && inB y (dP (aD S)) && !decide (x = y)) = false := by rw [decide_eq_true h18, show (!true) = false from rfl, Bool.and_false]
        refine kG.iconst (v := (-1)) 22 dX5_together_21 (by decide) rfl ?_
        refine gG.iret dX5_together_22 rfl ?_
        refine ⟨?_, h, rfl, fun _ _ => rfl⟩
        unfold s_together
        rw [if_neg (by rw [hb]; decide)]
set_option maxHeartbeats 4000000 in
theorem mthird_l (Γ : kGm) {S : AS} {μ : kM} {q : kq4} (ok : okS S) (h : MS S μ) {kx : Nat} (hkx : kx < dH (aD S)) : ∀ (m i : Nat), i + m = dP (aD S) → gG Γ mX5_third 3 14 [some (.ref 49), some (.int (nI kx)), some (.int (nI (orN (fun p => decide (dho (aD S) p = kx) && !(aA S).testBit p) (fun p => hvT (aS S) (dtw (aD S) p) 0) i))), some (.int (nI i))] [] (μ) q (PMi (s_third S (nI kx)) S μ q) := by
  intro m
  induction m with
  | zero =>
    intro i hm
    have okd := ok.1
    have hH4 := ok.1.1
    have hP6 := ok.1.2.1
    have hc := h.1
    have hp := hc.2.2.2.2.2.1
    have hh := hc.2.2.2.2.1
    refine kG.iload_n 15 dX5_third_14 rfl rfl ?_
    refine kG.aload_n 16 dX5_third_15 rfl rfl ?_
    refine gG.getI 19 dX5_third_16 fX5_96 ⟨by decide, by decide⟩ rfl rfl rfl ?_
    rw [h.1.2.2.1]
    refine kG.icmp_ge 65 22 dX5_third_19 (by decide) rfl (fun h19 => ?_) (fun h19 => ?_)
    · refine kG.sipush (v := nI 16383) 68 dX5_third_65 (by decide) rfl ?_
      refine kG.iload_n 69 dX5_third_68 rfl rfl ?_
      refine kG.iconst (v := (-1)) 70 dX5_third_69 (by decide) rfl ?_
      refine kG.ixor 71 dX5_third_70 rfl ?_
      refine kG.iand 72 dX5_third_71 rfl ?_
      rw [n_wo]
      refine gG.iret dX5_third_72 rfl ?_
      refine ⟨?_, h, rfl, fun _ _ => rfl⟩
      unfold s_third
      rw [if_pos (inB_n (by omega) hkx), ixn_n (by omega), ← th_eq ok (hP0 ok hkx) kx, show dP (aD S) = i by omega]
    · exact absurd (nI_le (by omega) (by omega)) h19
  | succ m ih =>
    intro i hm
    have okd := ok.1
    have hH4 := ok.1.1
    have hP6 := ok.1.2.1
    have hc := h.1
    have hp := hc.2.2.2.2.2.1
    have hh := hc.2.2.2.2.1
    refine kG.iload_n 15 dX5_third_14 rfl rfl ?_
    refine kG.aload_n 16 dX5_third_15 rfl rfl ?_
    refine gG.getI 19 dX5_third_16 fX5_96 ⟨by decide, by decide⟩ rfl rfl rfl ?_
    rw [h.1.2.2.1]
    have q1 := hp i (by omega)
    have od := okd.2.2.2 i (by omega)
    refine kG.icmp_ge 65 22 dX5_third_19 (by decide) rfl (fun h19 => ?_) (fun h19 => ?_)
    · exact absurd h19 (nI_ge (by omega) (by omega))
    · refine kG.iload_n 23 dX5_third_22 rfl rfl ?_
      refine kG.aload_n 24 dX5_third_23 rfl rfl ?_
      refine gG.getP 27 dX5_third_24 fX5_31 ⟨by decide, by decide⟩ rfl rfl rfl rfl ?_
      refine kG.iload_n 28 dX5_third_27 rfl rfl ?_
      refine gG.iald (n := 6) _ 29 dX5_third_28 ⟨by decide, by decide⟩ rfl rfl (by omega) (by decide) rfl ?_
      rw [q1.2.2.1]
      refine kG.iload_n 30 dX5_third_29 rfl rfl ?_
      refine kG.icmp_ne 56 33 dX5_third_30 (by decide) rfl (fun h30 => ?_) (fun h30 => ?_)
      · have c1 : ¬ dho (aD S) i = kx := fun z => h30 (by rw [z])
        have eV : nI (orN (fun p => decide (dho (aD S) p = kx) && !(aA S).testBit p) (fun p => hvT (aS S) (dtw (aD S) p) 0) i) ||| nI 0 = nI (orN (fun p => decide (dho (aD S) p = kx) && !(aA S).testBit p) (fun p => hvT (aS S) (dtw (aD S) p) 0) (i + 1)) := by
          rw [n_or, Nat.or_zero, orN, if_neg (by rw [decide_eq_false c1]; exact Bool.false_ne_true)]
        refine kG.iconst (v := nI 0) 57 dX5_third_56 (by decide) rfl ?_
        refine kG.ior 58 dX5_third_57 rfl ?_
        refine kG.istore_n 59 dX5_third_58 (by decide) rfl rfl ?_
        dsimp only [List.set]
        refine kG.iinc (v := nI (i + 1)) 62 dX5_third_59 rfl (nI_1 i) (by decide) rfl rfl ?_
        dsimp only [List.set]
        refine kG.goto 14 dX5_third_62 (by decide) ?_
        refine kG.sub (kLe_s rfl (kLe_s rfl (kLe_s (v := .int (nI (orN (fun p => decide (dho (aD S) p = kx) && !(aA S).testBit p) (fun p => hvT (aS S) (dtw (aD S) p) 0) (i + 1)))) (congrArg (fun z => some (Value.int z)) eV) (kLe_s rfl kLe_0)))) (ih (i + 1) (by omega))
      · have c1 : dho (aD S) i = kx := (nI_eq (by omega) (by omega)).mp h30
        refine kG.aload_n 34 dX5_third_33 rfl rfl ?_
        refine gG.getP 37 dX5_third_34 fX5_40 ⟨by decide, by decide⟩ rfl rfl rfl rfl ?_
        refine kG.iload_n 38 dX5_third_37 rfl rfl ?_
        refine gG.zald (n := 6) _ 39 dX5_third_38 ⟨by decide, by decide⟩ rfl rfl (by omega) (by decide) rfl ?_
        rw [hc.2.2.2.2.2.2.1 i (by omega)]
        refine kG.if_ne 56 42 dX5_third_39 (by decide) rfl (fun h39 => ?_) (fun h39 => ?_)
        · have c2 := b2_n0.mp h39
          have eV : nI (orN (fun p => decide (dho (aD S) p = kx) && !(aA S).testBit p) (fun p => hvT (aS S) (dtw (aD S) p) 0) i) ||| nI 0 = nI (orN (fun p => decide (dho (aD S) p = kx) && !(aA S).testBit p) (fun p => hvT (aS S) (dtw (aD S) p) 0) (i + 1)) := by
            rw [n_or, Nat.or_zero, orN, if_neg (by rw [c2]; simp)]
          refine kG.iconst (v := nI 0) 57 dX5_third_56 (by decide) rfl ?_
          refine kG.ior 58 dX5_third_57 rfl ?_
          refine kG.istore_n 59 dX5_third_58 (by decide) rfl rfl ?_
          dsimp only [List.set]
          refine kG.iinc (v := nI (i + 1)) 62 dX5_third_59 rfl (nI_1 i) (by decide) rfl rfl ?_
          dsimp only [List.set]
          refine kG.goto 14 dX5_third_62 (by decide) ?_
          refine kG.sub (kLe_s rfl (kLe_s rfl (kLe_s (v := .int (nI (orN (fun p => decide (dho (aD S) p = kx) && !(aA S).testBit p) (fun p => hvT (aS S) (dtw (aD S) p) 0) (i + 1)))) (congrArg (fun z => some (Value.int z)) eV) (kLe_s rfl kLe_0)))) (ih (i + 1) (by omega))
        · have c2 := b2_0.mp h39
          have eV : nI (orN (fun p => decide (dho (aD S) p = kx) && !(aA S).testBit p) (fun p => hvT (aS S) (dtw (aD S) p) 0) i) ||| nI (hvT (aS S) (dtw (aD S) i) 0) = nI (orN (fun p => decide (dho (aD S) p = kx) && !(aA S).testBit p) (fun p => hvT (aS S) (dtw (aD S) p) 0) (i + 1)) := by
            rw [n_or, orN, if_pos (by rw [decide_eq_true c1, c2]; rfl)]
          refine kG.aload_n 43 dX5_third_42 rfl rfl ?_
          refine kG.aload_n 44 dX5_third_43 rfl rfl ?_
          refine gG.getP 47 dX5_third_44 fX5_28 ⟨by decide, by decide⟩ rfl rfl rfl rfl ?_
          refine kG.iload_n 48 dX5_third_47 rfl rfl ?_
          refine gG.iald (n := 6) _ 49 dX5_third_48 ⟨by decide, by decide⟩ rfl rfl (by omega) (by decide) rfl ?_
          rw [q1.2.1]
          refine kG.iconst (v := nI 0) 50 dX5_third_49 (by decide) rfl ?_
          refine gG.callV 53 dX5_third_50 lX5_236 vX5_halvesOf (m_halvesOf Γ (aS S) (dtw (aD S) i) (ok.2.2.1 (by omega)) (by omega) hc.1 0 (by decide)) rfl rfl ⟨by decide, by decide⟩ rfl ⟨by decide, rfl⟩ ⟨by decide, by decide⟩ (Nat.le_of_ble_eq_true rfl) rfl (fun r50 μ50 q50 hc50 => ?_)
          obtain ⟨rfl, rfl, rfl⟩ := hc50
          refine kG.goto 57 dX5_third_53 (by decide) ?_
          refine kG.ior 58 dX5_third_57 rfl ?_
          refine kG.istore_n 59 dX5_third_58 (by decide) rfl rfl ?_
          dsimp only [List.set]
          refine kG.iinc (v := nI (i + 1)) 62 dX5_third_59 rfl (nI_1 i) (by decide) rfl rfl ?_
          dsimp only [List.set]
          refine kG.goto 14 dX5_third_62 (by decide) ?_
          refine kG.sub (kLe_s rfl (kLe_s rfl (kLe_s (v := .int (nI (orN (fun p => decide (dho (aD S) p = kx) && !(aA S).testBit p) (fun p => hvT (aS S) (dtw (aD S) p) 0) (i + 1)))) (congrArg (fun z => some (Value.int z)) eV) (kLe_s rfl kLe_0)))) (ih (i + 1) (by omega))
set_option maxHeartbeats 4000000 in
theorem y_third (Γ : kGm) {S : AS} {μ : kM} {q : kq4} (ok : okS S) (h : MS S μ) (x : Int32) : gC Γ yX5_third mX5_third 3 [.ref 49, .int x] μ q (PMi (s_third S x) (S) μ q) := by
  refine gC.ofG (n := 0) ⟨by decide +kernel, rfl, rfl, by decide⟩ (Nat.le_of_ble_eq_true rfl) ?_
  show gG Γ mX5_third 3 0 [some (.ref 49), some (.int x), none, none] [] μ q _
  have okd := ok.1
  have hH4 := ok.1.1
  have hP6 := ok.1.2.1
  have hc := h.1
  have hp := hc.2.2.2.2.2.1
  have hh := hc.2.2.2.2.1
  refine kG.aload_n 1 dX5_third_0 rfl rfl ?_
  refine kG.iload_n 2 dX5_third_1 rfl rfl ?_
  refine gG.callV 5 dX5_third_2 lX5_155 vX5_isHouse (m_isHouse Γ x (dH (aD S)) hc.2.1) rfl rfl ⟨by decide, by decide⟩ rfl ⟨by decide, rfl⟩ ⟨by decide, by decide⟩ (Nat.le_of_ble_eq_true rfl) rfl (fun r2 μ2 q2 hc2 => ?_)
  obtain ⟨rfl, rfl, rfl⟩ := hc2
  refine kG.if_ne 10 8 dX5_third_5 (by decide) rfl (fun g2 => ?_) (fun g2 => ?_)
  · have hb2 := b2_n0.mp g2
    obtain ⟨kx, hkx, rfl, ex⟩ := inB_t (by omega) hb2
    have hx := hh kx hkx
    refine kG.iconst (v := nI 0) 11 dX5_third_10 (by decide) rfl ?_
    refine kG.istore_n 12 dX5_third_11 (by decide) rfl rfl ?_
    dsimp only [List.set]
    refine kG.iconst (v := nI 0) 13 dX5_third_12 (by decide) rfl ?_
    refine kG.istore_n 14 dX5_third_13 (by decide) rfl rfl ?_
    dsimp only [List.set]
    exact mthird_l Γ ok h hkx (dP (aD S)) 0 (by omega)
  · have hb2 := b2_0.mp g2
    refine kG.iconst (v := (-1)) 9 dX5_third_8 (by decide) rfl ?_
    refine gG.iret dX5_third_9 rfl ?_
    exact ⟨by unfold s_third; rw [if_neg (by rw [hb2]; decide)], h, rfl, fun _ _ => rfl⟩
