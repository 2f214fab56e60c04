theorem cnt_sh (f : Nat → Bool) : ∀ n, cnt f (n + 1) = (if f 0 then 1 else 0) + cnt (fun i => f (i + 1)) n
  | 0 => by simp [cnt]
  | n + 1 => by
    rw [show cnt f (n + 1 + 1) = cnt f (n + 1) + (if f (n + 1) then 1 else 0) from rfl, cnt_sh f n, show cnt (fun i => f (i + 1)) (n + 1) = cnt (fun i => f (i + 1)) n + (if f (n + 1) then 1 else 0) from rfl]
    omega
theorem cnt_half (s n : Nat) : cnt s.testBit (n + 1) = s % 2 + cnt (s / 2).testBit n := by
  rw [cnt_sh]
  have e1 : (if s.testBit 0 then 1 else 0) = s % 2 := by
    rw [Nat.testBit_zero]
    by_cases z : s % 2 = 1
    · rw [decide_eq_true z, z]; rfl
    · rw [decide_eq_false z]; simp; omega
  rw [e1]
  congr 1
  exact cnt_cong (fun i _ => Nat.testBit_succ s i)
theorem cnt_none (n : Nat) : cnt (0 : Nat).testBit n = 0 := cnt_0.mpr (fun i _ => Nat.zero_testBit i)
theorem mk_id {a n : Nat} (h : a < 2 ^ n) : mk a.testBit n = a := by
  apply Nat.eq_of_testBit_eq
  intro i
  rw [mk_tb]
  by_cases e : i < n
  · rw [decide_eq_true e, Bool.true_and]
  · rw [decide_eq_false e, Bool.false_and, Nat.testBit_lt_two_pow (Nat.lt_of_lt_of_le h (Nat.pow_le_pow_right (by decide) (by omega)))]
theorem MC_lay {D : Dt} {sn aw s : Nat} {G : Kp} {μ μ' : kM} (h : MC D sn aw G μ) (f : ∀ k, k ≠ 60 → μ' k = μ k) (g : ∀ p, p < dP D → μ' 60 p = b2 (s.testBit p)) : MC D sn s G μ' := by
  obtain ⟨h1, h2, h3, h4, h5, h6, h7, h8⟩ := h
  refine ⟨by rw [f 49 (by decide)]; exact h1, by rw [f 49 (by decide)]; exact h2, by rw [f 49 (by decide)]; exact h3, by rw [f 49 (by decide)]; exact h4, ?_, ?_, g, ?_⟩
  · rw [f 53 (by decide), f 54 (by decide)]; exact h5
  · rw [f 55 (by decide), f 56 (by decide), f 57 (by decide), f 58 (by decide), f 59 (by decide)]; exact h6
  · rw [f 63 (by decide), f 64 (by decide), f 65 (by decide)]; exact h8
theorem ME_60 {S : AS} {μ μ' : kM} (h : ME S μ) (f : ∀ k, k ≠ 60 → μ' k = μ k) : ME S μ' := ME_fr h (fun j _ => by rw [f 49 (by decide)]) (fun k hk => f k (by omega))
set_option maxHeartbeats 4000000 in
theorem size_l (Γ : kGm) {μ : kM} {q : kq4} {X0 : Int32} : ∀ (m s a : Nat), s < 2 ^ m → m ≤ 20 → gG Γ mX5_size 1 4 [some (.int X0), some (.int (nI a)), some (.int (nI s))] [] μ q (fun r μ' q' => r = some (.int (nI (a + cnt s.testBit m))) ∧ μ' = μ ∧ q' = q) := by
  intro m
  induction m with
  | zero =>
    intro s a hs hm
    have e00 : s = 0 := by simpa using hs
    refine kG.iload_n 5 dX5_size_4 rfl rfl ?_
    refine kG.if_le 21 8 dX5_size_5 (by decide) rfl (fun h5 => ?_) (fun h5 => ?_)
    · refine kG.iload_n 22 dX5_size_21 rfl rfl ?_
      refine gG.iret dX5_size_22 rfl ?_
      exact ⟨rfl, rfl, rfl⟩
    · rw [e00] at h5
      exact absurd (by decide) h5
  | succ m ih =>
    intro s a hs hm
    have hpw : 2 ^ (m + 1) ≤ 2 ^ 20 := Nat.pow_le_pow_right (by decide) hm
    rw [Nat.pow_succ] at hs
    refine kG.iload_n 5 dX5_size_4 rfl rfl ?_
    refine kG.if_le 21 8 dX5_size_5 (by decide) rfl (fun h5 => ?_) (fun h5 => ?_)
    · have e0 : s = 0 := Nat.eq_zero_of_not_pos (fun z => nI_nle z (by omega) h5)
      refine kG.iload_n 22 dX5_size_21 rfl rfl ?_
      refine gG.iret dX5_size_22 rfl ?_
      rw [e0, cnt_none]
      exact ⟨rfl, rfl, rfl⟩
    · skip
      refine kG.iload_n 9 dX5_size_8 rfl rfl ?_
      refine kG.iload_n 10 dX5_size_9 rfl rfl ?_
      refine kG.iconst (v := nI 1) 11 dX5_size_10 (by decide) rfl ?_
      refine kG.iand 12 dX5_size_11 rfl ?_
      rw [n_and1 (by omega)]
      refine kG.iadd 13 dX5_size_12 rfl ?_
      rw [nI_add]
      refine kG.istore_n 14 dX5_size_13 (by decide) rfl rfl ?_
      dsimp only [List.set]
      refine kG.iload_n 15 dX5_size_14 rfl rfl ?_
      refine kG.iconst (v := nI 1) 16 dX5_size_15 (by decide) rfl ?_
      refine kG.ishr 17 dX5_size_16 rfl ?_
      rw [n_shr (by omega) (by decide), Nat.pow_one]
      refine kG.istore_n 18 dX5_size_17 (by decide) rfl rfl ?_
      dsimp only [List.set]
      refine kG.goto 4 dX5_size_18 (by decide) ?_
      rw [cnt_half s m, ← Nat.add_assoc]; exact ih (s / 2) (a + s % 2) (by omega) (by omega)
set_option maxHeartbeats 4000000 in
theorem m_size (Γ : kGm) {μ : kM} {q : kq4} (m s : Nat) (hs : s < 2 ^ m) (hm : m ≤ 20) : gC Γ yX5_size mX5_size 1 [.int (nI s)] μ q (fun r μ' q' => r = some (.int (nI (cnt s.testBit m))) ∧ μ' = μ ∧ q' = q) := by
  refine gC.ofG (n := 0) ⟨by decide +kernel, rfl, rfl, by decide⟩ (Nat.le_of_ble_eq_true rfl) ?_
  show gG Γ mX5_size 1 0 [some (.int (nI s)), none, none] [] μ q _
  refine kG.iconst (v := nI 0) 1 dX5_size_0 (by decide) rfl ?_
  refine kG.istore_n 2 dX5_size_1 (by decide) rfl rfl ?_
  dsimp only [List.set]
  refine kG.iload_n 3 dX5_size_2 rfl rfl ?_
  refine kG.istore_n 4 dX5_size_3 (by decide) rfl rfl ?_
  dsimp only [List.set]
  have z := size_l Γ (μ := μ) (q := q) (X0 := nI s) m s 0 hs hm
  rw [Nat.zero_add] at z
  exact z
set_option maxHeartbeats 4000000 in
theorem awn_l (Γ : kGm) {D : Dt} {sn aw : Nat} {G : Kp} {μ : kM} {q : kq4} (h : MC D sn aw G μ) (ok : okD D) : ∀ (m i : Nat), i + m = dP D → gG Γ mX5_awayNow 1 4 [some (.ref 49), some (.int (nI (mk aw.testBit i))), some (.int (nI i))] [] (μ) q (fun r μ' q' => r = some (.int (nI (mk aw.testBit (dP D)))) ∧ μ' = μ ∧ q' = q) := by
  intro m
  induction m with
  | zero =>
    intro i hm
    have hP := ok.2.1
    refine kG.iload_n 5 dX5_awayNow_4 rfl rfl ?_
    refine kG.aload_n 6 dX5_awayNow_5 rfl rfl ?_
    refine gG.getI 9 dX5_awayNow_6 fX5_96 ⟨by decide, by decide⟩ rfl rfl rfl ?_
    rw [h.2.2.1]
    refine kG.icmp_ge 37 12 dX5_awayNow_9 (by decide) rfl (fun h9 => ?_) (fun h9 => ?_)
    · refine kG.iload_n 38 dX5_awayNow_37 rfl rfl ?_
      refine gG.iret dX5_awayNow_38 rfl ?_
      rw [show dP D = i by omega]
      exact ⟨rfl, rfl, rfl⟩
    · exact absurd (nI_le (by omega) (by omega)) h9
  | succ m ih =>
    intro i hm
    have hP := ok.2.1
    refine kG.iload_n 5 dX5_awayNow_4 rfl rfl ?_
    refine kG.aload_n 6 dX5_awayNow_5 rfl rfl ?_
    refine gG.getI 9 dX5_awayNow_6 fX5_96 ⟨by decide, by decide⟩ rfl rfl rfl ?_
    rw [h.2.2.1]
    refine kG.icmp_ge 37 12 dX5_awayNow_9 (by decide) rfl (fun h9 => ?_) (fun h9 => ?_)
    · exact absurd h9 (nI_ge (by omega) (by omega))
    · refine kG.iload_n 13 dX5_awayNow_12 rfl rfl ?_
      refine kG.aload_n 14 dX5_awayNow_13 rfl rfl ?_
      refine gG.getP 17 dX5_awayNow_14 fX5_40 ⟨by decide, by decide⟩ rfl rfl rfl rfl ?_
      refine kG.iload_n 18 dX5_awayNow_17 rfl rfl ?_
      refine gG.zald (n := 6) _ 19 dX5_awayNow_18 ⟨by decide, by decide⟩ rfl rfl (by omega) (by decide) rfl ?_
      rw [h.2.2.2.2.2.2.1 i (by omega)]
      refine kG.if_eq 28 22 dX5_awayNow_19 (by decide) rfl (fun h19 => ?_) (fun h19 => ?_)
      · have hb := b2_0.mp h19
        refine kG.iconst (v := nI 0) 29 dX5_awayNow_28 (by decide) rfl ?_
        refine kG.ior 30 dX5_awayNow_29 rfl ?_
        first | rw [n_shl (by omega), n_or, ← mk_t (f := aw.testBit) hb] | rw [show nI (mk aw.testBit i) ||| nI 0 = nI (mk aw.testBit (i + 1)) by rw [n_or, Nat.or_zero, ← mk_f (f := aw.testBit) hb]]
        refine kG.istore_n 31 dX5_awayNow_30 (by decide) rfl rfl ?_
        dsimp only [List.set]
        refine kG.iinc (v := nI (i + 1)) 34 dX5_awayNow_31 rfl (nI_1 i) (by decide) rfl rfl ?_
        dsimp only [List.set]
        refine kG.goto 4 dX5_awayNow_34 (by decide) ?_
        exact ih (i + 1) (by omega)
      · have hb := b2_n0.mp h19
        refine kG.iconst (v := nI 1) 23 dX5_awayNow_22 (by decide) rfl ?_
        refine kG.iload_n 24 dX5_awayNow_23 rfl rfl ?_
        refine kG.ishl 25 dX5_awayNow_24 rfl ?_
        refine kG.goto 29 dX5_awayNow_25 (by decide) ?_
        refine kG.ior 30 dX5_awayNow_29 rfl ?_
        first | rw [n_shl (by omega), n_or, ← mk_t (f := aw.testBit) hb] | rw [show nI (mk aw.testBit i) ||| nI 0 = nI (mk aw.testBit (i + 1)) by rw [n_or, Nat.or_zero, ← mk_f (f := aw.testBit) hb]]
        refine kG.istore_n 31 dX5_awayNow_30 (by decide) rfl rfl ?_
        dsimp only [List.set]
        refine kG.iinc (v := nI (i + 1)) 34 dX5_awayNow_31 rfl (nI_1 i) (by decide) rfl rfl ?_
        dsimp only [List.set]
        refine kG.goto 4 dX5_awayNow_34 (by decide) ?_
        exact ih (i + 1) (by omega)
set_option maxHeartbeats 4000000 in
theorem m_awayNow (Γ : kGm) {D : Dt} {sn aw : Nat} {G : Kp} {μ : kM} {q : kq4} (h : MC D sn aw G μ) (ok : okD D) (ha : aw < 2 ^ dP D) : gC Γ yX5_awayNow mX5_awayNow 1 [.ref 49] μ q (fun r μ' q' => r = some (.int (nI aw)) ∧ μ' = μ ∧ q' = q) := by
  refine gC.ofG (n := 0) ⟨by decide +kernel, rfl, rfl, by decide⟩ (Nat.le_of_ble_eq_true rfl) ?_
  show gG Γ mX5_awayNow 1 0 [some (.ref 49), none, none] [] μ q _
  refine kG.iconst (v := nI 0) 1 dX5_awayNow_0 (by decide) rfl ?_
  refine kG.istore_n 2 dX5_awayNow_1 (by decide) rfl rfl ?_
  dsimp only [List.set]
  refine kG.iconst (v := nI 0) 3 dX5_awayNow_2 (by decide) rfl ?_
  refine kG.istore_n 4 dX5_awayNow_3 (by decide) rfl rfl ?_
  dsimp only [List.set]
  have z := awn_l Γ (q := q) h ok (dP D) 0 (by omega)
  rw [mk_id ha] at z
  exact z
set_option maxHeartbeats 4000000 in
theorem lay_l (Γ : kGm) {D : Dt} {sn aw : Nat} {G : Kp} {μ : kM} {q : kq4} (h : MC D sn aw G μ) (ok : okD D) (s : Nat) (hs : s < 2 ^ 31) : ∀ (m i : Nat) (μ1 : kM), i + m = dP D → (∀ k, k ≠ 60 → μ1 k = μ k) → (∀ x, x < i → μ1 60 x = b2 (s.testBit x)) → gG Γ mX5_layAway 1 2 [some (.ref 49), some (.int (nI s)), some (.int (nI i))] [] (μ1) q (fun r μ' q' => r = none ∧ q' = q ∧ (∀ k, k ≠ 60 → μ' k = μ k) ∧ MC D sn s G μ') := by
  intro m
  induction m with
  | zero =>
    intro i μ1 hm h1 h2
    have hP := ok.2.1
    refine kG.iload_n 3 dX5_layAway_2 rfl rfl ?_
    refine kG.aload_n 4 dX5_layAway_3 rfl rfl ?_
    refine gG.getI 7 dX5_layAway_4 fX5_96 ⟨by decide, by decide⟩ rfl rfl rfl ?_
    rw [h1 49 (by decide), h.2.2.1]
    refine kG.icmp_ge 36 10 dX5_layAway_7 (by decide) rfl (fun h7 => ?_) (fun h7 => ?_)
    · refine gG.vret dX5_layAway_36 rfl ?_
      exact ⟨rfl, rfl, h1, MC_lay h h1 (fun p hp => h2 p (by omega))⟩
    · exact absurd (nI_le (by omega) (by omega)) h7
  | succ m ih =>
    intro i μ1 hm h1 h2
    have hP := ok.2.1
    refine kG.iload_n 3 dX5_layAway_2 rfl rfl ?_
    refine kG.aload_n 4 dX5_layAway_3 rfl rfl ?_
    refine gG.getI 7 dX5_layAway_4 fX5_96 ⟨by decide, by decide⟩ rfl rfl rfl ?_
    rw [h1 49 (by decide), h.2.2.1]
    refine kG.icmp_ge 36 10 dX5_layAway_7 (by decide) rfl (fun h7 => ?_) (fun h7 => ?_)
    · exact absurd h7 (nI_ge (by omega) (by omega))
    · refine kG.aload_n 11 dX5_layAway_10 rfl rfl ?_
      refine gG.getP 14 dX5_layAway_11 fX5_40 ⟨by decide, by decide⟩ rfl rfl rfl rfl ?_
      refine kG.iload_n 15 dX5_layAway_14 rfl rfl ?_
      refine kG.iload_n 16 dX5_layAway_15 rfl rfl ?_
      refine kG.iload_n 17 dX5_layAway_16 rfl rfl ?_
      refine kG.ishr 18 dX5_layAway_17 rfl ?_
      refine kG.iconst (v := nI 1) 19 dX5_layAway_18 (by decide) rfl ?_
      refine kG.iand 20 dX5_layAway_19 rfl ?_
      rw [n_bit hs (by omega)]
      refine kG.iconst (v := nI 1) 21 dX5_layAway_20 (by decide) rfl ?_
      refine kG.icmp_ne 28 24 dX5_layAway_21 (by decide) rfl (fun h21 => ?_) (fun h21 => ?_)
      · have hb : s.testBit i = false := by
          cases hb : s.testBit i
          · rfl
          · rw [hb] at h21; exact absurd rfl h21
        refine kG.iconst (v := nI 0) 29 dX5_layAway_28 (by decide) rfl ?_
        refine gG.zast (n := 6) _ 30 dX5_layAway_29 ⟨by decide, by decide⟩ rfl rfl (by omega) (by decide) rfl rfl ?_
        refine kG.iinc (v := nI (i + 1)) 33 dX5_layAway_30 rfl (nI_1 i) (by decide) rfl rfl ?_
        dsimp only [List.set]
        refine kG.goto 2 dX5_layAway_33 (by decide) ?_
        refine ih (i + 1) _ (by omega) (fun k a => by rw [uI_off a]; exact h1 k a) (fun x hx => ?_)
        by_cases e : x = i
        · subst e; rw [uI_same, hb]; rfl
        · rw [uI_ne (Or.inr e)]; exact h2 x (by omega)
      · have hb : s.testBit i = true := by
          cases hb : s.testBit i
          · rw [hb] at h21; exact absurd h21 (by decide)
          · rfl
        refine kG.iconst (v := nI 1) 25 dX5_layAway_24 (by decide) rfl ?_
        refine kG.goto 29 dX5_layAway_25 (by decide) ?_
        refine gG.zast (n := 6) _ 30 dX5_layAway_29 ⟨by decide, by decide⟩ rfl rfl (by omega) (by decide) rfl rfl ?_
        refine kG.iinc (v := nI (i + 1)) 33 dX5_layAway_30 rfl (nI_1 i) (by decide) rfl rfl ?_
        dsimp only [List.set]
        refine kG.goto 2 dX5_layAway_33 (by decide) ?_
        refine ih (i + 1) _ (by omega) (fun k a => by rw [uI_off a]; exact h1 k a) (fun x hx => ?_)
        by_cases e : x = i
        · subst e; rw [uI_same, hb]; rfl
        · rw [uI_ne (Or.inr e)]; exact h2 x (by omega)
set_option maxHeartbeats 4000000 in
theorem m_layAway (Γ : kGm) {D : Dt} {sn aw : Nat} {G : Kp} {μ : kM} {q : kq4} (h : MC D sn aw G μ) (ok : okD D) (s : Nat) (hs : s < 2 ^ 31) : gC Γ yX5_layAway mX5_layAway 1 [.ref 49, .int (nI s)] μ q (fun r μ' q' => r = none ∧ q' = q ∧ (∀ k, k ≠ 60 → μ' k = μ k) ∧ MC D sn s G μ') := by
  refine gC.ofG (n := 0) ⟨by decide +kernel, rfl, rfl, by decide⟩ (Nat.le_of_ble_eq_true rfl) ?_
  show gG Γ mX5_layAway 1 0 [some (.ref 49), some (.int (nI s)), none] [] μ q _
  refine kG.iconst (v := nI 0) 1 dX5_layAway_0 (by decide) rfl ?_
  refine kG.istore_n 2 dX5_layAway_1 (by decide) rfl rfl ?_
  dsimp only [List.set]
  exact lay_l Γ h ok s hs (dP D) 0 μ (by omega) (fun _ _ => rfl) (fun x hx => absurd hx (Nat.not_lt_zero _))
set_option maxHeartbeats 4000000 in
theorem alw_l (Γ : kGm) {D : Dt} {sn aw : Nat} {G : Kp} {μ : kM} {q : kq4} (ok : okD D) (wr : Nat → Nat) (hH_ : μ 49 6 = nI (dH D)) (w2 : An 67 (dH D) wr μ) {x1 : Int32} : ∀ (m i : Nat), i + m = dH D → gG Γ mX5_allWear 6 9 [some (.ref 49), some (.int x1), some (.int (nI (smN wr i))), some (.int (nI i))] [] (μ) q (fun r μ' q' => r = some (.int (nI (smN wr (dH D)))) ∧ μ' = μ ∧ q' = q) := by
  intro m
  induction m with
  | zero =>
    intro i hm
    have hH := ok.1
    refine kG.iload_n 10 dX5_allWear_9 rfl rfl ?_
    refine kG.aload_n 11 dX5_allWear_10 rfl rfl ?_
    refine gG.getI 14 dX5_allWear_11 fX5_93 ⟨by decide, by decide⟩ rfl rfl rfl ?_
    rw [hH_]
    refine kG.icmp_ge 32 17 dX5_allWear_14 (by decide) rfl (fun h14 => ?_) (fun h14 => ?_)
    · refine kG.iload_n 33 dX5_allWear_32 rfl rfl ?_
      refine gG.iret dX5_allWear_33 rfl ?_
      rw [show dH D = i by omega]
      exact ⟨rfl, rfl, rfl⟩
    · exact absurd (nI_le (by omega) (by omega)) h14
  | succ m ih =>
    intro i hm
    have hH := ok.1
    refine kG.iload_n 10 dX5_allWear_9 rfl rfl ?_
    refine kG.aload_n 11 dX5_allWear_10 rfl rfl ?_
    refine gG.getI 14 dX5_allWear_11 fX5_93 ⟨by decide, by decide⟩ rfl rfl rfl ?_
    rw [hH_]
    refine kG.icmp_ge 32 17 dX5_allWear_14 (by decide) rfl (fun h14 => ?_) (fun h14 => ?_)
    · exact absurd h14 (nI_ge (by omega) (by omega))
    · refine kG.iload_n 18 dX5_allWear_17 rfl rfl ?_
      refine kG.aload_n 19 dX5_allWear_18 rfl rfl ?_
      refine gG.getP 22 dX5_allWear_19 fX5_62 ⟨by decide, by decide⟩ rfl rfl rfl rfl ?_
      refine kG.iload_n 23 dX5_allWear_22 rfl rfl ?_
      refine gG.iald (n := 4) _ 24 dX5_allWear_23 ⟨by decide, by decide⟩ rfl rfl (by omega) (by decide) rfl ?_
      rw [w2 i (by omega)]
      refine kG.iadd 25 dX5_allWear_24 rfl ?_
      rw [nI_add]
      refine kG.istore_n 26 dX5_allWear_25 (by decide) rfl rfl ?_
      dsimp only [List.set]
      refine kG.iinc (v := nI (i + 1)) 29 dX5_allWear_26 rfl (nI_1 i) (by decide) rfl rfl ?_
      dsimp only [List.set]
      refine kG.goto 9 dX5_allWear_29 (by decide) ?_
      exact ih (i + 1) (by omega)
set_option maxHeartbeats 4000000 in
theorem m_allWear (Γ : kGm) {D : Dt} {sn aw : Nat} {G : Kp} {μ : kM} {q : kq4} (h : MC D sn aw G μ) (ok : okD D) (okm : okM D sn G) (wk : Nat) (hwk : wk < 10) : gC Γ yX5_allWear mX5_allWear 6 [.ref 49, .int (nI wk)] μ q (fun r μ' q' => r = some (.int (nI (wtC (dH D) (cM D sn aw G) ((wk + 1) * 14)))) ∧ q' = q ∧ FW μ μ') := by
  refine gC.ofG (n := 0) ⟨by decide +kernel, rfl, rfl, by decide⟩ (Nat.le_of_ble_eq_true rfl) ?_
  show gG Γ mX5_allWear 6 0 [some (.ref 49), some (.int (nI wk)), none, none] [] μ q _
  refine kG.aload_n 1 dX5_allWear_0 rfl rfl ?_
  refine kG.iload_n 2 dX5_allWear_1 rfl rfl ?_
  refine gG.callV 5 dX5_allWear_2 lX5_200 vX5_goWeeks (m_goWeeks Γ h ok okm wk hwk) rfl rfl ⟨by decide, by decide⟩ rfl ⟨by decide, rfl⟩ ⟨by decide, by decide⟩ (Nat.le_of_ble_eq_true rfl) rfl (fun r2 μ2 q2 hc2 => ?_)
  obtain ⟨rfl, rfl, f1, f2⟩ := hc2
  have hm := FW_MC h f1
  refine kG.iconst (v := nI 0) 6 dX5_allWear_5 (by decide) rfl ?_
  refine kG.istore_n 7 dX5_allWear_6 (by decide) rfl rfl ?_
  dsimp only [List.set]
  refine kG.iconst (v := nI 0) 8 dX5_allWear_7 (by decide) rfl ?_
  refine kG.istore_n 9 dX5_allWear_8 (by decide) rfl rfl ?_
  dsimp only [List.set]
  exact gG_weak (alw_l Γ (sn := sn) (aw := aw) (G := G) ok (smS (cM D sn aw G) ((wk + 1) * 14)).2.1 hm.2.1 f2.2.1 (dH D) 0 (by omega)) (fun r μ3 q3 z => by obtain ⟨rfl, rfl, rfl⟩ := z; exact ⟨rfl, rfl, f1⟩)
