set_option maxHeartbeats 4000000 in
theorem cd_step (Γ : kGm) {μ : kM} {q : kq4} {a b : Int32} {x : Option Value} {u l i : Nat} {Q : Option Value → kM → kq4 → Prop} (hu : u < 2 ^ 31) (hl : l < 2 ^ 31) (hi : i < 64) (h0 : 0 < l) (H : gG Γ mX4_commonDivisor 1 7 [some (.int a), some (.int b), some (.int (nI (l))), some (.int (nI (u % l))), some (.int (nI (i + 1))), some (.int (nI (u % l)))] [] μ q Q) : gG Γ mX4_commonDivisor 1 7 [some (.int a), some (.int b), some (.int (nI (u))), some (.int (nI (l))), some (.int (nI (i))), x] [] μ q Q := by
  refine kG.iload 9 dX4_commonDivisor_7 rfl rfl ?_
  refine kG.bipush (v := nI 64) 11 dX4_commonDivisor_9 (by decide) rfl ?_
  refine kG.icmp_ge 34 14 dX4_commonDivisor_11 (by decide) rfl (fun h11 => ?_) (fun h11 => ?_)
  · exact absurd h11 (nI_ge (by omega) (by omega))
  · refine kG.iload_n 15 dX4_commonDivisor_14 rfl rfl ?_
    refine kG.if_eq 34 18 dX4_commonDivisor_15 (by decide) rfl (fun h15 => ?_) (fun h15 => ?_)
    · exact absurd h15 (nI_ne0 h0 hl)
    · refine kG.iload_n 19 dX4_commonDivisor_18 rfl rfl ?_
      refine kG.iload_n 20 dX4_commonDivisor_19 rfl rfl ?_
      refine kG.irem 21 dX4_commonDivisor_20 rfl (nI_ne0 h0 hl) ?_
      rw [pk_rem hu h0 hl]
      refine kG.istore 23 dX4_commonDivisor_21 (by decide) rfl rfl ?_
      dsimp only [List.set]
      refine kG.iload_n 24 dX4_commonDivisor_23 rfl rfl ?_
      refine kG.istore_n 25 dX4_commonDivisor_24 (by decide) rfl rfl ?_
      dsimp only [List.set]
      refine kG.iload 27 dX4_commonDivisor_25 rfl rfl ?_
      refine kG.istore_n 28 dX4_commonDivisor_27 (by decide) rfl rfl ?_
      dsimp only [List.set]
      refine kG.iinc (v := nI (i + 1)) 31 dX4_commonDivisor_28 rfl (nI_1 i) (by decide) rfl rfl ?_
      dsimp only [List.set]
      refine kG.goto 7 dX4_commonDivisor_31 (by decide) ?_
      exact H
set_option maxHeartbeats 4000000 in
theorem cd_zero (Γ : kGm) {μ : kM} {q : kq4} {a b : Int32} {x : Option Value} {u i : Nat} : gG Γ mX4_commonDivisor 1 7 [some (.int a), some (.int b), some (.int (nI (u))), some (.int (nI (0))), some (.int (nI (i))), x] [] μ q (fun r μ' q' => r = some (.int (nI u)) ∧ μ' = μ ∧ q' = q) := by
  refine kG.iload 9 dX4_commonDivisor_7 rfl rfl ?_
  refine kG.bipush (v := nI 64) 11 dX4_commonDivisor_9 (by decide) rfl ?_
  refine kG.icmp_ge 34 14 dX4_commonDivisor_11 (by decide) rfl (fun h11 => ?_) (fun h11 => ?_)
  · refine kG.iload_n 35 dX4_commonDivisor_34 rfl rfl ?_
    refine gG.iret dX4_commonDivisor_35 rfl ?_
    exact ⟨rfl, rfl, rfl⟩
  · refine kG.iload_n 15 dX4_commonDivisor_14 rfl rfl ?_
    refine kG.if_eq 34 18 dX4_commonDivisor_15 (by decide) rfl (fun h15 => ?_) (fun h15 => ?_)
    · refine kG.iload_n 35 dX4_commonDivisor_34 rfl rfl ?_
      refine gG.iret dX4_commonDivisor_35 rfl ?_
      exact ⟨rfl, rfl, rfl⟩
    · exact absurd rfl h15
theorem gcd_half {a b : Nat} (h0 : 0 < b) (h : b < a) : 2 * (a % b) < a := by
  have h1 := Nat.mod_lt a h0
  have h2 := Nat.div_add_mod a b
  have h3 : 1 ≤ a / b := Nat.div_pos (by omega) h0
  have h4 : b * 1 ≤ b * (a / b) := Nat.mul_le_mul_left _ h3
  omega
theorem cd_loop (Γ : kGm) {μ : kM} {q : kq4} {a b : Int32} : ∀ (m i u l : Nat) (x : Option Value), u < 2 ^ 31 → l < 2 ^ 31 → l < 2 ^ m → i + 2 * m + 1 ≤ 64 → gG Γ mX4_commonDivisor 1 7 [some (.int a), some (.int b), some (.int (nI (u))), some (.int (nI (l))), some (.int (nI (i))), x] [] μ q (fun r μ' q' => r = some (.int (nI (Nat.gcd u l))) ∧ μ' = μ ∧ q' = q) := by
  intro m
  induction m with
  | zero =>
    intro i u l x _ _ hl _
    have : l = 0 := by simpa using hl
    subst this
    rw [Nat.gcd_zero_right]
    exact cd_zero Γ
  | succ m ih =>
    intro i u l x hu hl hm hi
    rcases Nat.eq_zero_or_pos l with rfl | h0
    · rw [Nat.gcd_zero_right]
      exact cd_zero Γ
    · rw [gcd_b]
      have h1 := Nat.mod_lt u h0
      refine cd_step Γ hu hl (by omega) h0 ?_
      rcases Nat.eq_zero_or_pos (u % l) with e | h2
      · rw [e, Nat.gcd_zero_right]
        have := cd_zero Γ (μ := μ) (q := q) (a := a) (b := b) (x := some (.int (nI 0))) (u := l) (i := i + 1)
        exact this
      · rw [gcd_b]
        refine cd_step Γ hl (by omega) (by omega) h2 ?_
        have h3 := gcd_half h2 h1
        rw [Nat.pow_succ] at hm
        exact ih (i + 1 + 1) _ _ _ (by omega) (by omega) (by omega) (by omega)
set_option maxHeartbeats 4000000 in
theorem c_commonDivisor (Γ : kGm) {μ : kM} {q : kq4} {u l : Nat} (hu : u < 2 ^ 31) (hl : l < 2 ^ 31) : gC Γ yX4_commonDivisor mX4_commonDivisor 1 [.int (nI u), .int (nI l)] μ q (fun r μ' q' => r = some (.int (nI (Nat.gcd u l))) ∧ μ' = μ ∧ q' = q) := by
  refine gC.ofG (n := 0) ⟨by decide +kernel, rfl, rfl, by decide⟩ (Nat.le_of_ble_eq_true rfl) ?_
  show gG Γ mX4_commonDivisor 1 0 [some (.int (nI u)), some (.int (nI l)), none, none, none, none] [] μ q _
  refine kG.iload_n 1 dX4_commonDivisor_0 rfl rfl ?_
  refine kG.istore_n 2 dX4_commonDivisor_1 (by decide) rfl rfl ?_
  dsimp only [List.set]
  refine kG.iload_n 3 dX4_commonDivisor_2 rfl rfl ?_
  refine kG.istore_n 4 dX4_commonDivisor_3 (by decide) rfl rfl ?_
  dsimp only [List.set]
  refine kG.iconst (v := nI 0) 5 dX4_commonDivisor_4 (by decide) rfl ?_
  refine kG.istore 7 dX4_commonDivisor_5 (by decide) rfl rfl ?_
  dsimp only [List.set]
  exact cd_loop Γ 31 0 u l _ hu hl hl (by decide)
set_option maxHeartbeats 4000000 in
theorem c_ofShare (Γ : kGm) {μ : kM} {q : kq4} {u l : Nat} (hu : u < 2 ^ 31) (hl : l < 2 ^ 31) {z : Int32} (hz : bt z 0 1 = true) : gC Γ yX4_ofShare mX4_ofShare 2 [.int (nI u), .int (nI l), .int z] μ q (fun r μ' q' => r = some (.long (shN u l (decide (z = nI 0)))) ∧ μ' = μ ∧ q' = q) := by
  refine gC.ofG (n := 0) ⟨by decide +kernel, rfl, rfl, by decide⟩ (Nat.le_of_ble_eq_true rfl) ?_
  show gG Γ mX4_ofShare 2 0 [some (.int (nI u)), some (.int (nI l)), some (.int z), none] [] μ q _
  refine kG.iload_n 1 dX4_ofShare_0 rfl rfl ?_
  refine kG.iload_n 2 dX4_ofShare_1 rfl rfl ?_
  refine gG.callS 5 dX4_ofShare_2 lX4_289 vX4_commonDivisor (c_commonDivisor Γ hu hl) rfl rfl ⟨by decide, by decide⟩ (Nat.le_of_ble_eq_true rfl) rfl (fun r2 μ2 q2 hc2 => ?_)
  obtain ⟨rfl, rfl, rfl⟩ := hc2
  have hg1 : Nat.gcd u l = 0 → l = 0 := fun e => (Nat.gcd_eq_zero_iff.mp e).2
  have hg2 : 0 < l → Nat.gcd u l ≤ l := fun e => Nat.gcd_le_right u e
  refine kG.istore_n 6 dX4_ofShare_5 (by decide) rfl rfl ?_
  dsimp only [List.set]
  refine kG.iload_n 7 dX4_ofShare_6 rfl rfl ?_
  refine kG.if_eq 14 10 dX4_ofShare_7 (by decide) rfl (fun h7 => ?_) (fun h7 => ?_)
  · have hl0 : l = 0 := by
      rcases Nat.eq_zero_or_pos l with e | e
      · exact e
      · have := hg2 e
        exact hg1 ((nI_eq (b := 0) (by omega) (by decide)).mp h7)
    refine kG.iload_n 15 dX4_ofShare_14 rfl rfl ?_
    refine kG.i2l 16 dX4_ofShare_15 rfl ?_
    refine gG.lret dX4_ofShare_16 rfl ?_
    refine ⟨?_, rfl, rfl⟩
    unfold shN
    rw [if_pos hl0]
    obtain ⟨k, -, k2, rfl, -⟩ := bt_t (by decide) (by decide) hz
    rcases (by omega : k = 0 ∨ k = 1) with rfl | rfl
    · rfl
    · rfl
  · refine kG.iload_n 11 dX4_ofShare_10 rfl rfl ?_
    refine kG.if_ne 17 14 dX4_ofShare_11 (by decide) rfl (fun h11 => ?_) (fun h11 => ?_)
    · have hl1 : 0 < l := Nat.pos_of_ne_zero (fun e => h11 (by rw [e]; rfl))
      have hg3 := hg2 hl1
      have hg4 : 0 < Nat.gcd u l := Nat.gcd_pos_of_pos_right u hl1
      refine kG.iload_n 18 dX4_ofShare_17 rfl rfl ?_
      refine kG.if_ne 28 21 dX4_ofShare_18 (by decide) rfl (fun h18 => ?_) (fun h18 => ?_)
      · have hz0 : ¬ z = nI 0 := h18
        refine kG.iload_n 29 dX4_ofShare_28 rfl rfl ?_
        refine kG.iload_n 30 dX4_ofShare_29 rfl rfl ?_
        refine kG.idiv 31 dX4_ofShare_30 rfl (nI_ne0 hg4 (by omega)) ?_
        rw [pk_div hl hg4 (by omega)]
        refine kG.i2l 32 dX4_ofShare_31 rfl ?_
        rw [nI_l (Nat.lt_of_le_of_lt (Nat.div_le_self _ _) hl)]
        refine gG.lret dX4_ofShare_32 rfl ?_
        refine ⟨?_, rfl, rfl⟩
        unfold shN
        rw [if_neg (by omega)]
        first | rw [decide_eq_true hz0]; rfl | rw [decide_eq_false hz0]; rfl
      · have hz0 : z = nI 0 := h18
        refine kG.iload_n 22 dX4_ofShare_21 rfl rfl ?_
        refine kG.iload_n 23 dX4_ofShare_22 rfl rfl ?_
        refine kG.idiv 24 dX4_ofShare_23 rfl (nI_ne0 hg4 (by omega)) ?_
        rw [pk_div hu hg4 (by omega)]
        refine kG.i2l 25 dX4_ofShare_24 rfl ?_
        rw [nI_l (Nat.lt_of_le_of_lt (Nat.div_le_self _ _) hu)]
        refine kG.goto 32 dX4_ofShare_25 (by decide) ?_
        refine gG.lret dX4_ofShare_32 rfl ?_
        refine ⟨?_, rfl, rfl⟩
        unfold shN
        rw [if_neg (by omega)]
        first | rw [decide_eq_true hz0]; rfl | rw [decide_eq_false hz0]; rfl
    · have hl0 : l = 0 := (nI_eq (b := 0) hl (by decide)).mp h11
      refine kG.iload_n 15 dX4_ofShare_14 rfl rfl ?_
      refine kG.i2l 16 dX4_ofShare_15 rfl ?_
      refine gG.lret dX4_ofShare_16 rfl ?_
      refine ⟨?_, rfl, rfl⟩
      unfold shN
      rw [if_pos hl0]
      obtain ⟨k, -, k2, rfl, -⟩ := bt_t (by decide) (by decide) hz
      rcases (by omega : k = 0 ∨ k = 1) with rfl | rfl
      · rfl
      · rfl
set_option maxHeartbeats 4000000 in
theorem c_lessWear (Γ : kGm) {S : AS} {μ : kM} {q : kq4} (h : CS S μ q) (p wk : Nat) (hp : p < dP (aD S)) (hwk : wk < 10) : gC Γ yX4_lessWearWithout mX4_lessWearWithout 5 [.ref 1, .int (nI p), .int (nI wk)] μ q (PCi (nI (lwN S p ((wk + 1) * 14))) S μ) := by
  refine gC.ofG (n := 0) ⟨by decide +kernel, rfl, rfl, by decide⟩ (Nat.le_of_ble_eq_true rfl) ?_
  show gG Γ mX4_lessWearWithout 5 0 [some (.ref 1), some (.int (nI p)), some (.int (nI wk)), none] [] μ q _
  have ht := h.2.1.1
  have hD := h.2.2.1.1
  have okd := h.1.1
  have hH4 := h.1.1.1
  have hP6 := h.1.1.2.1
  have hP : 0 < dP (aD S) := by omega
  have hsn := h.1.2.2.1 hP
  have hok1 : okC (dH (aD S)) (cfS S) := okc_of h.1 hsn (waS_le h.1.1) (by decide)
  have hok2 : okC (dH (aD S)) (cfA S (aA S ||| 2 ^ p)) := okc_of h.1 hsn (waS_le h.1.1) (by decide)
  have hb1 := smN_le (X := (smS (cfS S) (wk * 14 + 13 + 1)).2.1) (b := 90) (dH (aD S)) (fun i hi => (sm_bd hok1 (wk * 14 + 13 + 1) i hi).2)
  have hb2 := smN_le (X := (smS (cfA S (aA S ||| 2 ^ p)) (wk * 14 + 13 + 1)).2.1) (b := 90) (dH (aD S)) (fun i hi => (sm_bd hok2 (wk * 14 + 13 + 1) i hi).2)
  refine kG.iload_n 1 dX4_lessWearWithout_0 rfl rfl ?_
  refine kG.bipush (v := nI 13) 3 dX4_lessWearWithout_1 (by decide) rfl ?_
  refine gG.callS 6 dX4_lessWearWithout_3 lX4_138 vX4_timeOf (c_timeOf Γ _ _) rfl rfl ⟨by decide, by decide⟩ (Nat.le_of_ble_eq_true rfl) rfl (fun r3 μ3 q3 hc3 => ?_)
  obtain ⟨rfl, rfl, rfl⟩ := hc3
  rw [pk_mul, nI_add]
  refine kG.istore_n 7 dX4_lessWearWithout_6 (by decide) rfl rfl ?_
  dsimp only [List.set]
  refine kG.aload_n 8 dX4_lessWearWithout_7 rfl rfl ?_
  refine gG.getP 11 dX4_lessWearWithout_8 fX4_48 ⟨by decide, by decide⟩ rfl rfl rfl rfl ?_
  refine kG.aload_n 12 dX4_lessWearWithout_11 rfl rfl ?_
  refine gG.getP 15 dX4_lessWearWithout_12 fX4_32 ⟨by decide, by decide⟩ rfl rfl rfl rfl ?_
  refine kG.aload_n 16 dX4_lessWearWithout_15 rfl rfl ?_
  refine gG.getI 19 dX4_lessWearWithout_16 fX4_51 ⟨by decide, by decide⟩ rfl rfl rfl ?_
  refine kG.iconst (v := nI 1) 20 dX4_lessWearWithout_19 (by decide) rfl ?_
  refine kG.iload_n 21 dX4_lessWearWithout_20 rfl rfl ?_
  refine kG.ishl 22 dX4_lessWearWithout_21 rfl ?_
  rw [h.2.2.1.2.2, n_shl (by omega)]
  refine kG.ior 23 dX4_lessWearWithout_22 rfl ?_
  rw [n_or]
  refine gG.callV 26 dX4_lessWearWithout_23 lX4_160 vX3_prepare (c_prepT Γ h (aA S ||| 2 ^ p)) rfl rfl ⟨by decide, by decide⟩ rfl ⟨by decide, rfl⟩ ⟨by decide, by decide⟩ (Nat.le_of_ble_eq_true rfl) rfl (fun r23 μ23 q23 hc23 => ?_)
  obtain ⟨rfl, rfl, p1, p2, p3⟩ := hc23
  refine kG.aload_n 27 dX4_lessWearWithout_26 rfl rfl ?_
  refine gG.getP 30 dX4_lessWearWithout_27 fX4_48 ⟨by decide, by decide⟩ rfl rfl rfl rfl ?_
  refine kG.iload_n 31 dX4_lessWearWithout_30 rfl rfl ?_
  refine kG.iconst (v := nI 1) 32 dX4_lessWearWithout_31 (by decide) rfl ?_
  refine kG.iadd 33 dX4_lessWearWithout_32 rfl ?_
  rw [nI_add]
  refine kG.iconst (v := nI 0) 34 dX4_lessWearWithout_33 (by decide) rfl ?_
  refine gG.callV 37 dX4_lessWearWithout_34 lX4_165 vX3_live (c_liveT Γ p1 rfl p2 hsn (or_64 (aA_64 h.1) hp hP6) (waS_le h.1.1) (by decide) (wk + 1) 0 (by omega) (by decide)) rfl rfl ⟨by decide, by decide⟩ rfl ⟨by decide, rfl⟩ ⟨by decide, by decide⟩ (Nat.le_of_ble_eq_true rfl) rfl (fun r34 μ34 q34 hc34 => ?_)
  obtain ⟨rfl, rfl, l1, l2, l3⟩ := hc34
  have l4 := l2 (wmB_0 _ _)
  refine kG.pop 38 dX4_lessWearWithout_37 rfl rfl ?_
  refine kG.iconst (v := nI 0) 39 dX4_lessWearWithout_38 (by decide) rfl ?_
  refine kG.aload_n 40 dX4_lessWearWithout_39 rfl rfl ?_
  refine gG.callV 43 dX4_lessWearWithout_40 lX4_134 vX4_freshWeeks (c_fresh Γ l1 hP) rfl rfl ⟨by decide, by decide⟩ rfl ⟨by decide, rfl⟩ ⟨by decide, by decide⟩ (Nat.le_of_ble_eq_true rfl) rfl (fun r40 μ40 q40 hc40 => ?_)
  obtain ⟨rfl, fc, fq, fq2, fq3, fl_, ff⟩ := hc40
  refine kG.iload_n 44 dX4_lessWearWithout_43 rfl rfl ?_
  refine gG.callV 47 dX4_lessWearWithout_44 lX4_279 vX3_wearTogether (c_wearTogether Γ (Or.inl rfl) fc.2.1.2.2.2.1 (by rw [show tq q40 27 = q40.1 from fq3]; exact fc.2.2.1.1) okd (wk * 14 + 13) (by omega) (smS (cfS S) (wk * 14 + 13 + 1)).2.1 (fun i hi => (fl_.2 i hi (wk * 14 + 13) (by omega)).2)) rfl rfl ⟨by decide, by decide⟩ rfl ⟨by decide, rfl⟩ ⟨by decide, by decide⟩ (Nat.le_of_ble_eq_true rfl) rfl (fun r44 μ44 q44 hc44 => ?_)
  obtain ⟨rfl, rfl, rfl⟩ := hc44
  refine kG.aload_n 48 dX4_lessWearWithout_47 rfl rfl ?_
  refine gG.getP 51 dX4_lessWearWithout_48 fX4_48 ⟨by decide, by decide⟩ rfl rfl rfl rfl ?_
  refine kG.iload_n 52 dX4_lessWearWithout_51 rfl rfl ?_
  refine gG.callV 55 dX4_lessWearWithout_52 lX4_279 vX3_wearTogether (c_wearTogether Γ (Or.inr rfl) fc.2.1.2.2.2.2 (by rw [show tq _ 34 = _ from fq2.trans fq.symm]; exact fc.2.2.1.1) okd (wk * 14 + 13) (by omega) (smS (cfA S (aA S ||| 2 ^ p)) (wk * 14 + 13 + 1)).2.1 (fun i hi => by rw [ff _ (by decide) (by omega)]; exact (l4.2 i hi (wk * 14 + 13) (by omega)).2)) rfl rfl ⟨by decide, by decide⟩ rfl ⟨by decide, rfl⟩ ⟨by decide, by decide⟩ (Nat.le_of_ble_eq_true rfl) rfl (fun r52 μ52 q52 hc52 => ?_)
  obtain ⟨rfl, rfl, rfl⟩ := hc52
  refine kG.isub 56 dX4_lessWearWithout_55 rfl ?_
  refine gG.mmax 59 dX4_lessWearWithout_56 lX4_282 (by decide) (Nat.le_of_ble_eq_true rfl) rfl ?_
  rw [mend_eq (by omega) (by omega)]
  refine gG.iret dX4_lessWearWithout_59 rfl ?_
  refine ⟨?_, fc, fun k hk => by rw [ff k (by omega) (by omega), l3 k (by omega), p3 k (by omega)]⟩
  unfold lwN wtC
  rw [show (wk + 1) * 14 = wk * 14 + 13 + 1 by omega]
theorem lw_le {S : AS} (h : okS S) {p T : Nat} (hP : 0 < dP (aD S)) : lwN S p T ≤ 360 := by
  have hb1 := smN_le (X := (smS (cfS S) T).2.1) (b := 90) (dH (aD S)) (fun i hi => (sm_bd (okc_of h (h.2.2.1 hP) (waS_le h.1) (by decide) : okC (dH (aD S)) (cfS S)) T i hi).2)
  have := h.1.1
  unfold lwN wtC
  omega
set_option maxHeartbeats 4000000 in
theorem pays_loop (Γ : kGm) {S : AS} (hP : 0 < dP (aD S)) {kx ky T : Nat} (hkx : kx < dP (aD S)) (hky : ky < 10) (hT : T = (ky + 1) * 14) {z : Int32} (hz : bt z 0 1 = true) (μ0 : kM) : ∀ (m i : Nat) (μ : kM) (q : kq4) (x : Option Value), i + m = dP (aD S) → (CS S μ q) → (∀ k, 49 ≤ k → μ k = μ0 k) → gG Γ mX4_pays 6 35 [some (.ref 1), some (.int (nI kx)), some (.int (nI ky)), some (.int z), some (.int (nI (if kx < i then lwN S kx T else 0))), some (.int (nI (smN (fun p => lwN S p T) i))), some (.int (nI i)), x] [] (μ) q (PCl (s_pays S (nI kx) (nI ky) z) S μ0) := by
  intro m
  induction m with
  | zero =>
    intro i μ q x hm h hf
    have hP6 := h.1.1.2.1
    have hb1 := smN_le (X := fun p => lwN S p T) (b := 360) i (fun p _ => lw_le h.1 hP)
    have hb2 := lw_le h.1 (p := kx) (T := T) hP
    refine kG.iload 37 dX4_pays_35 rfl rfl ?_
    refine kG.aload_n 38 dX4_pays_37 rfl rfl ?_
    refine gG.getP 41 dX4_pays_38 fX4_32 ⟨by decide, by decide⟩ rfl rfl rfl rfl ?_
    refine gG.getI 44 dX4_pays_41 fX4_187 (isT_k h.2.1.1) (isT_s h.2.1.1) rfl rfl ?_
    refine kG.icmp_ge 79 47 dX4_pays_44 (by decide) rfl (fun h44 => ?_) (fun h44 => ?_)
    · refine kG.iload 81 dX4_pays_79 rfl rfl ?_
      refine kG.iload 83 dX4_pays_81 rfl rfl ?_
      refine kG.iload_n 84 dX4_pays_83 rfl rfl ?_
      rw [if_pos (show kx < i by omega)]
      refine gG.callS 87 dX4_pays_84 lX4_193 vX4_ofShare (c_ofShare Γ (u := lwN S kx T) (l := smN (fun p => lwN S p T) i) (by omega) (by omega) hz) rfl rfl ⟨by decide, by decide⟩ (Nat.le_of_ble_eq_true rfl) rfl (fun r84 μ84 q84 hc84 => ?_)
      obtain ⟨rfl, rfl, rfl⟩ := hc84
      refine gG.lret dX4_pays_87 rfl ?_
      refine ⟨?_, h, hf⟩
      unfold s_pays
      rw [inB_n (by omega) hkx, inB_n (by omega) hky, hz, if_pos (by decide), ixn_n (by omega), ixn_n (by omega), ← hT, show dP (aD S) = i by omega]
    · rw [h.2.2.1.1.2.1] at h44
      exact absurd (nI_le (by omega) (by omega)) h44
  | succ m ih =>
    intro i μ q x hm h hf
    have ht := h.2.1.1
    have hD := h.2.2.1.1
    have okd := h.1.1
    have hH4 := h.1.1.1
    have hP6 := h.1.1.2.1
    refine kG.iload 37 dX4_pays_35 rfl rfl ?_
    refine kG.aload_n 38 dX4_pays_37 rfl rfl ?_
    refine gG.getP 41 dX4_pays_38 fX4_32 ⟨by decide, by decide⟩ rfl rfl rfl rfl ?_
    refine gG.getI 44 dX4_pays_41 fX4_187 (isT_k h.2.1.1) (isT_s h.2.1.1) rfl rfl ?_
    refine kG.icmp_ge 79 47 dX4_pays_44 (by decide) rfl (fun h44 => ?_) (fun h44 => ?_)
    · rw [h.2.2.1.1.2.1] at h44
      exact absurd h44 (nI_ge (by omega) (by omega))
    · refine kG.aload_n 48 dX4_pays_47 rfl rfl ?_
      refine kG.iload 50 dX4_pays_48 rfl rfl ?_
      refine kG.iload_n 51 dX4_pays_50 rfl rfl ?_
      refine gG.callV 54 dX4_pays_51 lX4_190 vX4_lessWearWithout (c_lessWear Γ h i ky (by omega) hky) rfl rfl ⟨by decide, by decide⟩ rfl ⟨by decide, rfl⟩ ⟨by decide, by decide⟩ (Nat.le_of_ble_eq_true rfl) rfl (fun r51 μ51 q51 hc51 => ?_)
      rw [← hT] at hc51
      obtain ⟨rfl, hc51⟩ := hc51
      replace hc51 := And.intro trivial hc51
      refine kG.istore 56 dX4_pays_54 (by decide) rfl rfl ?_
      dsimp only [List.set]
      refine kG.iload 58 dX4_pays_56 rfl rfl ?_
      refine kG.iload 60 dX4_pays_58 rfl rfl ?_
      refine kG.iadd 61 dX4_pays_60 rfl ?_
      rw [nI_add]
      refine kG.istore 63 dX4_pays_61 (by decide) rfl rfl ?_
      dsimp only [List.set]
      refine kG.iload 65 dX4_pays_63 rfl rfl ?_
      refine kG.iload_n 66 dX4_pays_65 rfl rfl ?_
      refine kG.icmp_ne 73 69 dX4_pays_66 (by decide) rfl (fun h66 => ?_) (fun h66 => ?_)
      · have e1 : ¬ i = kx := fun z => h66 (by rw [z])
        have eV : nI (if kx < i then lwN S kx T else 0) = nI (if kx < i + 1 then lwN S kx T else 0) := by
          by_cases zz : kx < i
          · rw [if_pos zz, if_pos (by omega)]
          · rw [if_neg zz, if_neg (by omega)]
        refine kG.iinc (v := nI (i + 1)) 76 dX4_pays_73 rfl (nI_1 i) (by decide) rfl rfl ?_
        dsimp only [List.set]
        refine kG.goto 35 dX4_pays_76 (by decide) ?_
        refine kG.sub (kLe_s rfl (kLe_s rfl (kLe_s rfl (kLe_s rfl (kLe_s (v := .int (nI (if kx < i + 1 then lwN S kx T else 0))) (congrArg (fun z => some (Value.int z)) eV) (kLe_s rfl (kLe_s rfl (kLe_s rfl kLe_0)))))))) (ih (i + 1) _ _ (some (.int (nI (lwN S i T)))) (by omega) hc51.2.1 (fun k hk => by rw [hc51.2.2 k hk]; exact hf k hk))
      · have e1 : i = kx := (nI_eq (by omega) (by omega)).mp h66
        have eV : nI (lwN S i T) = nI (if kx < i + 1 then lwN S kx T else 0) := by rw [if_pos (by omega), e1]
        refine kG.iload 71 dX4_pays_69 rfl rfl ?_
        refine kG.istore 73 dX4_pays_71 (by decide) rfl rfl ?_
        dsimp only [List.set]
        refine kG.iinc (v := nI (i + 1)) 76 dX4_pays_73 rfl (nI_1 i) (by decide) rfl rfl ?_
        dsimp only [List.set]
        refine kG.goto 35 dX4_pays_76 (by decide) ?_
        refine kG.sub (kLe_s rfl (kLe_s rfl (kLe_s rfl (kLe_s rfl (kLe_s (v := .int (nI (if kx < i + 1 then lwN S kx T else 0))) (congrArg (fun z => some (Value.int z)) eV) (kLe_s rfl (kLe_s rfl (kLe_s rfl kLe_0)))))))) (ih (i + 1) _ _ (some (.int (nI (lwN S i T)))) (by omega) hc51.2.1 (fun k hk => by rw [hc51.2.2 k hk]; exact hf k hk))
set_option maxHeartbeats 4000000 in
theorem x_pays (Γ : kGm) {S : AS} {μ : kM} {q : kq4} (h : CS S μ q) (x : Int32) (y : Int32) (z : Int32) : gC Γ yX4_pays mX4_pays 6 [.ref 1, .int x, .int y, .int z] μ q (PCl (s_pays S x y z) (S) μ) := by
  refine gC.ofG (n := 0) ⟨by decide +kernel, rfl, rfl, by decide⟩ (Nat.le_of_ble_eq_true rfl) ?_
  show gG Γ mX4_pays 6 0 [some (.ref 1), some (.int x), some (.int y), some (.int z), none, none, none, none] [] μ q _
  have ht := h.2.1.1
  have hD := h.2.2.1.1
  have okd := h.1.1
  have hH4 := h.1.1.1
  have hP6 := h.1.1.2.1
  refine kG.aload_n 1 dX4_pays_0 rfl rfl ?_
  refine kG.iload_n 2 dX4_pays_1 rfl rfl ?_
  refine gG.callV 5 dX4_pays_2 lX4_91 vX4_isPerson (c_isP Γ h x) rfl rfl ⟨by decide, by decide⟩ rfl ⟨by decide, rfl⟩ ⟨by decide, by decide⟩ (Nat.le_of_ble_eq_true rfl) rfl (fun r2 μ2 q2 hc2 => ?_)
  obtain ⟨rfl, rfl, rfl⟩ := hc2
  refine kG.if_eq 22 8 dX4_pays_5 (by decide) rfl (fun h5 => ?_) (fun h5 => ?_)
  · have hb := b2_0.mp h5
    have hb : (inB x (dP (aD S)) && inB y 10 && bt z 0 1) = false := by rw [hb]; rfl
    refine kG.ldc2 25 dX4_pays_22 kX4_185 rfl ?_
    refine gG.lret dX4_pays_25 rfl ?_
    refine ⟨?_, h, fun _ _ => rfl⟩
    unfold s_pays
    rw [if_neg (by rw [hb]; decide)]
  · have hb2 := b2_n0.mp h5
    refine kG.iload_n 9 dX4_pays_8 rfl rfl ?_
    refine gG.callS 12 dX4_pays_9 lX4_119 vX4_isWeek (c_isWk Γ y) rfl rfl ⟨by decide, by decide⟩ (Nat.le_of_ble_eq_true rfl) rfl (fun r9 μ9 q9 hc9 => ?_)
    obtain ⟨rfl, rfl, rfl⟩ := hc9
    refine kG.if_eq 22 15 dX4_pays_12 (by decide) rfl (fun h12 => ?_) (fun h12 => ?_)
    · have hb := b2_0.mp h12
      have hb : (inB x (dP (aD S)) && inB y 10 && bt z 0 1) = false := by rw [hb, Bool.and_false]; rfl
      refine kG.ldc2 25 dX4_pays_22 kX4_185 rfl ?_
      refine gG.lret dX4_pays_25 rfl ?_
      refine ⟨?_, h, fun _ _ => rfl⟩
      unfold s_pays
      rw [if_neg (by rw [hb]; decide)]
    · have hb9 := b2_n0.mp h12
      refine kG.iload_n 16 dX4_pays_15 rfl rfl ?_
      refine gG.callS 19 dX4_pays_16 lX4_182 vX4_isWhich (c_isWh Γ z) rfl rfl ⟨by decide, by decide⟩ (Nat.le_of_ble_eq_true rfl) rfl (fun r16 μ16 q16 hc16 => ?_)
      obtain ⟨rfl, rfl, rfl⟩ := hc16
      refine kG.if_ne 26 22 dX4_pays_19 (by decide) rfl (fun h19 => ?_) (fun h19 => ?_)
      · have hz := b2_n0.mp h19
        obtain ⟨kx, hkx, rfl, ex⟩ := inB_t (by omega) hb2
        obtain ⟨ky, hky, rfl, ey⟩ := inB_t (by decide) hb9
        refine kG.iconst (v := nI 0) 27 dX4_pays_26 (by decide) rfl ?_
        refine kG.istore 29 dX4_pays_27 (by decide) rfl rfl ?_
        dsimp only [List.set]
        refine kG.iconst (v := nI 0) 30 dX4_pays_29 (by decide) rfl ?_
        refine kG.istore 32 dX4_pays_30 (by decide) rfl rfl ?_
        dsimp only [List.set]
        refine kG.iconst (v := nI 0) 33 dX4_pays_32 (by decide) rfl ?_
        refine kG.istore 35 dX4_pays_33 (by decide) rfl rfl ?_
        dsimp only [List.set]
        exact pays_loop Γ (by omega) hkx hky rfl hz _ (dP (aD S)) 0 _ _ none (by omega) h (fun _ _ => rfl)
      · have hb := b2_0.mp h19
        have hb : (inB x (dP (aD S)) && inB y 10 && bt z 0 1) = false := by rw [hb, Bool.and_false]
        refine kG.ldc2 25 dX4_pays_22 kX4_185 rfl ?_
        refine gG.lret dX4_pays_25 rfl ?_
        refine ⟨?_, h, fun _ _ => rfl⟩
        unfold s_pays
        rw [if_neg (by rw [hb]; decide)]
set_option maxHeartbeats 4000000 in
theorem odds_loop (Γ : kGm) {S : AS} (hP : 0 < dP (aD S)) {ky T : Nat} (hky : ky < 10) (hT : T = (ky + 1) * 14) {z : Int32} (hz : bt z 0 1 = true) (μ0 : kM) : ∀ (m i : Nat) (μ : kM) (q : kq4), i + m = 2 ^ dP (aD S) → (CS S μ q) → (∀ k, 49 ≤ k → μ k = μ0 k) → gG Γ mX4_odds 5 33 [some (.ref 1), some (.int (nI ky)), some (.int z), some (.int (nI (cnt (odF S T) i))), some (.int (nI i))] [] (μ) q (PCl (s_odds S (nI ky) z) S μ0) := by
  intro m
  induction m with
  | zero =>
    intro i μ q hm h hf
    have hP6 := h.1.1.2.1
    have h64 := full_64 h.1
    have h1p : 1 ≤ 2 ^ dP (aD S) := Nat.one_le_two_pow
    have hcl := cnt_le (odF S T) i
    refine kG.iload 35 dX4_odds_33 rfl rfl ?_
    refine kG.aload_n 36 dX4_odds_35 rfl rfl ?_
    refine gG.callV 39 dX4_odds_36 lX4_153 vX4_everybody (c_every Γ h) rfl rfl ⟨by decide, by decide⟩ rfl ⟨by decide, rfl⟩ ⟨by decide, by decide⟩ (Nat.le_of_ble_eq_true rfl) rfl (fun r36 μ36 q36 hc36 => ?_)
    obtain ⟨rfl, rfl, rfl⟩ := hc36
    refine kG.icmp_gt 81 42 dX4_odds_39 (by decide) rfl (fun h39 => ?_) (fun h39 => ?_)
    · refine kG.iload_n 82 dX4_odds_81 rfl rfl ?_
      refine kG.aload_n 83 dX4_odds_82 rfl rfl ?_
      refine gG.callV 86 dX4_odds_83 lX4_153 vX4_everybody (c_every Γ h) rfl rfl ⟨by decide, by decide⟩ rfl ⟨by decide, rfl⟩ ⟨by decide, by decide⟩ (Nat.le_of_ble_eq_true rfl) rfl (fun r83 μ83 q83 hc83 => ?_)
      obtain ⟨rfl, rfl, rfl⟩ := hc83
      refine kG.iconst (v := nI 1) 87 dX4_odds_86 (by decide) rfl ?_
      refine kG.iadd 88 dX4_odds_87 rfl ?_
      rw [nI_add, show 2 ^ dP (aD S) - 1 + 1 = i by omega]
      refine kG.iload_n 89 dX4_odds_88 rfl rfl ?_
      refine gG.callS 92 dX4_odds_89 lX4_193 vX4_ofShare (c_ofShare Γ (u := cnt (odF S T) i) (l := i) (by omega) (by omega) hz) rfl rfl ⟨by decide, by decide⟩ (Nat.le_of_ble_eq_true rfl) rfl (fun r89 μ89 q89 hc89 => ?_)
      obtain ⟨rfl, rfl, rfl⟩ := hc89
      refine gG.lret dX4_odds_92 rfl ?_
      refine ⟨?_, h, hf⟩
      unfold s_odds
      rw [inB_n (by omega) hky, hz, decide_eq_false (show ¬ dP (aD S) = 0 by omega), if_pos (by decide), ixn_n (by omega), ← hT, show 2 ^ dP (aD S) = i by omega]
    · exact absurd (nI_lt (by omega) (by omega)) h39
  | succ m ih =>
    intro i μ q hm h hf
    have ht := h.2.1.1
    have hD := h.2.2.1.1
    have okd := h.1.1
    have hH4 := h.1.1.1
    have hP6 := h.1.1.2.1
    have hsn := h.1.2.2.1 hP
    have h64 := full_64 h.1
    have h1p : 1 ≤ 2 ^ dP (aD S) := Nat.one_le_two_pow
    refine kG.iload 35 dX4_odds_33 rfl rfl ?_
    refine kG.aload_n 36 dX4_odds_35 rfl rfl ?_
    refine gG.callV 39 dX4_odds_36 lX4_153 vX4_everybody (c_every Γ h) rfl rfl ⟨by decide, by decide⟩ rfl ⟨by decide, rfl⟩ ⟨by decide, by decide⟩ (Nat.le_of_ble_eq_true rfl) rfl (fun r36 μ36 q36 hc36 => ?_)
    obtain ⟨rfl, rfl, rfl⟩ := hc36
    refine kG.icmp_gt 81 42 dX4_odds_39 (by decide) rfl (fun h39 => ?_) (fun h39 => ?_)
    · exact absurd h39 (nI_nlt (by omega) (by omega))
    · refine kG.aload_n 43 dX4_odds_42 rfl rfl ?_
      refine gG.getP 46 dX4_odds_43 fX4_48 ⟨by decide, by decide⟩ rfl rfl rfl rfl ?_
      refine kG.aload_n 47 dX4_odds_46 rfl rfl ?_
      refine gG.getP 50 dX4_odds_47 fX4_32 ⟨by decide, by decide⟩ rfl rfl rfl rfl ?_
      refine kG.iload 52 dX4_odds_50 rfl rfl ?_
      refine gG.callV 55 dX4_odds_52 lX4_160 vX3_prepare (c_prepT Γ h i) rfl rfl ⟨by decide, by decide⟩ rfl ⟨by decide, rfl⟩ ⟨by decide, by decide⟩ (Nat.le_of_ble_eq_true rfl) rfl (fun r52 μ52 q52 hc52 => ?_)
      obtain ⟨rfl, rfl, p1, p2, p3⟩ := hc52
      refine kG.aload_n 56 dX4_odds_55 rfl rfl ?_
      refine gG.getP 59 dX4_odds_56 fX4_48 ⟨by decide, by decide⟩ rfl rfl rfl rfl ?_
      refine kG.iload_n 60 dX4_odds_59 rfl rfl ?_
      refine kG.iconst (v := nI 1) 61 dX4_odds_60 (by decide) rfl ?_
      refine kG.iadd 62 dX4_odds_61 rfl ?_
      rw [nI_add]
      refine kG.aload_n 63 dX4_odds_62 rfl rfl ?_
      refine gG.callV 66 dX4_odds_63 lX4_153 vX4_everybody (c_every Γ p1) rfl rfl ⟨by decide, by decide⟩ rfl ⟨by decide, rfl⟩ ⟨by decide, by decide⟩ (Nat.le_of_ble_eq_true rfl) rfl (fun r63 μ63 q63 hc63 => ?_)
      obtain ⟨rfl, rfl, rfl⟩ := hc63
      refine gG.callV 69 dX4_odds_66 lX4_165 vX3_live (c_liveT Γ p1 rfl p2 hsn (show i < 64 by omega) (waS_le h.1.1) (by decide) (ky + 1) (2 ^ dP (aD S) - 1) (by omega) h64) rfl rfl ⟨by decide, by decide⟩ rfl ⟨by decide, rfl⟩ ⟨by decide, by decide⟩ (Nat.le_of_ble_eq_true rfl) rfl (fun r66 μ66 q66 hc66 => ?_)
      obtain ⟨rfl, rfl, l1, -, l3⟩ := hc66
      rw [← hT, show wmB (cfW (aD S) (aS S) (waS (aD S)) i (aG S) 9 0) (2 ^ dP (aD S) - 1) T = odF S T i from wm_all (c := cfA S i)]
      refine kG.if_eq 75 72 dX4_odds_69 (by decide) rfl (fun h69 => ?_) (fun h69 => ?_)
      · have hb : odF S T i = false := b2_0.mp h69
        refine kG.iinc (v := nI (i + 1)) 78 dX4_odds_75 rfl (nI_1 i) (by decide) rfl rfl ?_
        dsimp only [List.set]
        refine kG.goto 33 dX4_odds_78 (by decide) ?_
        first
          | (refine kG.sub (kLe_s rfl (kLe_s rfl (kLe_s rfl (kLe_s (v := .int (nI (cnt (odF S T) (i + 1)))) (by rw [cnt, hb]; rfl) (kLe_s rfl kLe_0))))) (ih (i + 1) _ _ (by omega) l1 (fun k hk => by rw [l3 k (by omega), p3 k (by omega)]; exact hf k hk)); done)
      · have hb : odF S T i = true := b2_n0.mp h69
        refine kG.iinc (v := nI (cnt (odF S T) i + 1)) 75 dX4_odds_72 rfl (nI_1 _) (by decide) rfl rfl ?_
        dsimp only [List.set]
        refine kG.iinc (v := nI (i + 1)) 78 dX4_odds_75 rfl (nI_1 i) (by decide) rfl rfl ?_
        dsimp only [List.set]
        refine kG.goto 33 dX4_odds_78 (by decide) ?_
        first
          | (refine kG.sub (kLe_s rfl (kLe_s rfl (kLe_s rfl (kLe_s (v := .int (nI (cnt (odF S T) (i + 1)))) (by rw [cnt, hb]; rfl) (kLe_s rfl kLe_0))))) (ih (i + 1) _ _ (by omega) l1 (fun k hk => by rw [l3 k (by omega), p3 k (by omega)]; exact hf k hk)); done)
set_option maxHeartbeats 4000000 in
theorem x_odds (Γ : kGm) {S : AS} {μ : kM} {q : kq4} (h : CS S μ q) (y : Int32) (z : Int32) : gC Γ yX4_odds mX4_odds 5 [.ref 1, .int y, .int z] μ q (PCl (s_odds S y z) (S) μ) := by
  refine gC.ofG (n := 0) ⟨by decide +kernel, rfl, rfl, by decide⟩ (Nat.le_of_ble_eq_true rfl) ?_
  show gG Γ mX4_odds 5 0 [some (.ref 1), some (.int y), some (.int z), none, none] [] μ q _
  have ht := h.2.1.1
  have hD := h.2.2.1.1
  have okd := h.1.1
  have hH4 := h.1.1.1
  have hP6 := h.1.1.2.1
  refine kG.iload_n 1 dX4_odds_0 rfl rfl ?_
  refine gG.callS 4 dX4_odds_1 lX4_119 vX4_isWeek (c_isWk Γ y) rfl rfl ⟨by decide, by decide⟩ (Nat.le_of_ble_eq_true rfl) rfl (fun r1 μ1 q1 hc1 => ?_)
  obtain ⟨rfl, rfl, rfl⟩ := hc1
  refine kG.if_eq 24 7 dX4_odds_4 (by decide) rfl (fun h4 => ?_) (fun h4 => ?_)
  · have hb := b2_0.mp h4
    have hb : (inB y 10 && bt z 0 1 && !decide (dP (aD S) = 0)) = false := by rw [hb]; rfl
    refine kG.ldc2 27 dX4_odds_24 kX4_185 rfl ?_
    refine gG.lret dX4_odds_27 rfl ?_
    refine ⟨?_, h, fun _ _ => rfl⟩
    unfold s_odds
    rw [if_neg (by rw [hb]; decide)]
  · have hb2 := b2_n0.mp h4
    refine kG.iload_n 8 dX4_odds_7 rfl rfl ?_
    refine gG.callS 11 dX4_odds_8 lX4_182 vX4_isWhich (c_isWh Γ z) rfl rfl ⟨by decide, by decide⟩ (Nat.le_of_ble_eq_true rfl) rfl (fun r8 μ8 q8 hc8 => ?_)
    obtain ⟨rfl, rfl, rfl⟩ := hc8
    refine kG.if_eq 24 14 dX4_odds_11 (by decide) rfl (fun h11 => ?_) (fun h11 => ?_)
    · have hb := b2_0.mp h11
      have hb : (inB y 10 && bt z 0 1 && !decide (dP (aD S) = 0)) = false := by rw [hb, Bool.and_false]; rfl
      refine kG.ldc2 27 dX4_odds_24 kX4_185 rfl ?_
      refine gG.lret dX4_odds_27 rfl ?_
      refine ⟨?_, h, fun _ _ => rfl⟩
      unfold s_odds
      rw [if_neg (by rw [hb]; decide)]
    · have hz := b2_n0.mp h11
      refine kG.aload_n 15 dX4_odds_14 rfl rfl ?_
      refine gG.getP 18 dX4_odds_15 fX4_32 ⟨by decide, by decide⟩ rfl rfl rfl rfl ?_
      refine gG.getI 21 dX4_odds_18 fX4_77 (isT_k h.2.1.1) (isT_s h.2.1.1) rfl rfl ?_
      refine kG.if_ne 28 24 dX4_odds_21 (by decide) rfl (fun h21 => ?_) (fun h21 => ?_)
      · have hP : 0 < dP (aD S) := Nat.pos_of_ne_zero (fun z => h21 ((HP h).mpr z))
        obtain ⟨ky, hky, rfl, ey⟩ := inB_t (by decide) hb2
        refine kG.iconst (v := nI 0) 29 dX4_odds_28 (by decide) rfl ?_
        refine kG.istore_n 30 dX4_odds_29 (by decide) rfl rfl ?_
        dsimp only [List.set]
        refine kG.iconst (v := nI 0) 31 dX4_odds_30 (by decide) rfl ?_
        refine kG.istore 33 dX4_odds_31 (by decide) rfl rfl ?_
        dsimp only [List.set]
        exact odds_loop Γ hP hky rfl hz _ (2 ^ dP (aD S)) 0 _ _ (by omega) h (fun _ _ => rfl)
      · have hb := (HP h).mp h21
        have hb : (inB y 10 && bt z 0 1 && !decide (dP (aD S) = 0)) = false := by rw [decide_eq_true hb, show (!true) = false from rfl, Bool.and_false]
        refine kG.ldc2 27 dX4_odds_24 kX4_185 rfl ?_
        refine gG.lret dX4_odds_27 rfl ?_
        refine ⟨?_, h, fun _ _ => rfl⟩
        unfold s_odds
        rw [if_neg (by rw [hb]; decide)]
