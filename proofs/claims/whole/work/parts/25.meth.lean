theorem okc_of {S : AS} {sn a : Nat} {wa : Nat → Nat} {mh mw : Nat} (h : okS S) (hsn : 1 ≤ sn ∧ sn ≤ 13) (hwa : ∀ p, p < dP (aD S) → wa p ≤ 12) (hmw : mw ≤ 99) : okC (dH (aD S)) (cfW (aD S) sn wa a (aG S) mh mw) := cfW_ok h.1 hsn hwa h.2.2.2.2.2.1.1 (by have := h.2.2.2.2.2.1.2; omega) hmw
theorem co_64 {H : Nat} {c : Cf} (hc : okC H c) (t : Nat) : coC c t < 64 := Nat.lt_of_lt_of_le (sm_lt hc (t + 1)) (Nat.pow_le_pow_right (by decide) hc.2.1)
theorem LVd_ch {c : Cf} {w H T n : Nat} {μ : kM} (hc : okC H c) (h : LVd c w H T μ) (hn : n ≤ T) : ∀ t, t < n → μ (w + 1 + 2) t = nI (coC c t) ∧ coC c t < 64 := fun t ht => ⟨h.1 t (by omega), co_64 hc t⟩
theorem p2_64 {p P : Nat} (hp : p < P) (hP : P ≤ 6) : 2 ^ p < 64 := Nat.pow_lt_pow_right (n := 6) (by decide) (by omega)
theorem or_64 {a p P : Nat} (ha : a < 64) (hp : p < P) (hP : P ≤ 6) : a ||| 2 ^ p < 64 := or_pow_lt (n := 6) ha (by omega)
set_option maxHeartbeats 4000000 in
theorem x_wood (Γ : kGm) {S : AS} {μ : kM} {q : kq4} (h : CS S μ q) (x : Int32) (y : Int32) (z : Int32) : gC Γ yX4_wood mX4_wood 5 [.ref 1, .int x, .int y, .int z] μ q (PCi (s_wood S x y z) (S) μ) := by
  refine gC.ofG (n := 0) ⟨by decide +kernel, rfl, rfl, by decide⟩ (Nat.le_of_ble_eq_true rfl) ?_
  show gG Γ mX4_wood 5 0 [some (.ref 1), some (.int x), some (.int y), some (.int z)] [] μ q _
  have ht := h.2.1.1
  have hD := h.2.2.1.1
  have okd := h.1.1
  have hH4 := h.1.1.1
  have hP6 := h.1.1.2.1
  refine kG.aload_n 1 dX4_wood_0 rfl rfl ?_
  refine kG.iload_n 2 dX4_wood_1 rfl rfl ?_
  refine gG.callV 5 dX4_wood_2 lX4_80 vX4_isHouse (c_isH Γ h x) rfl rfl ⟨by decide, by decide⟩ rfl ⟨by decide, rfl⟩ ⟨by decide, by decide⟩ (Nat.le_of_ble_eq_true rfl) rfl (fun r2 μ2 q2 hc2 => ?_)
  obtain ⟨rfl, rfl, rfl⟩ := hc2
  refine kG.if_ne 10 8 dX4_wood_5 (by decide) rfl (fun g2 => ?_) (fun g2 => ?_)
  · have hb2 := b2_n0.mp g2
    obtain ⟨kx, hkx, rfl, ex⟩ := inB_t (by omega) hb2
    have hP := hP0 h.1 hkx
    have hsn := h.1.2.2.1 hP
    refine kG.iload_n 11 dX4_wood_10 rfl rfl ?_
    refine kG.iload_n 12 dX4_wood_11 rfl rfl ?_
    refine gG.callS 15 dX4_wood_12 lX4_130 vX4_isTime (c_isTm Γ y z) rfl rfl ⟨by decide, by decide⟩ (Nat.le_of_ble_eq_true rfl) rfl (fun r12 μ12 q12 hc12 => ?_)
    obtain ⟨rfl, rfl, rfl⟩ := hc12
    refine kG.if_ne 21 18 dX4_wood_15 (by decide) rfl (fun g12 => ?_) (fun g12 => ?_)
    · have hb12 := b2_n0.mp g12
      have hw2 := Bool.and_eq_true_iff.mp hb12
      obtain ⟨ky, hky, rfl, ey⟩ := inB_t (by decide) hw2.1
      obtain ⟨kz, hkz, rfl, ez⟩ := inB_t (by decide) hw2.2
      refine kG.aload_n 22 dX4_wood_21 rfl rfl ?_
      refine gG.callV 25 dX4_wood_22 lX4_134 vX4_freshWeeks (c_fresh Γ h hP) rfl rfl ⟨by decide, by decide⟩ rfl ⟨by decide, rfl⟩ ⟨by decide, by decide⟩ (Nat.le_of_ble_eq_true rfl) rfl (fun r22 μ22 q22 hc22 => ?_)
      obtain ⟨rfl, fc, fq, fq2, fq3, fl_, ff⟩ := hc22
      refine kG.iload_n 26 dX4_wood_25 rfl rfl ?_
      refine kG.iload_n 27 dX4_wood_26 rfl rfl ?_
      refine kG.iload_n 28 dX4_wood_27 rfl rfl ?_
      refine gG.callS 31 dX4_wood_28 lX4_138 vX4_timeOf (c_timeOf Γ _ _) rfl rfl ⟨by decide, by decide⟩ (Nat.le_of_ble_eq_true rfl) rfl (fun r28 μ28 q28 hc28 => ?_)
      obtain ⟨rfl, rfl, rfl⟩ := hc28
      rw [pk_mul, nI_add]
      refine gG.callV 34 dX4_wood_31 lX4_141 vX3_woodAt (c_woodAt Γ (Or.inl rfl) kx (ky * 14 + kz) (by omega) (by omega)) rfl rfl ⟨by decide, by decide⟩ rfl ⟨by decide, rfl⟩ ⟨by decide, by decide⟩ (Nat.le_of_ble_eq_true rfl) rfl (fun r31 μ31 q31 hc31 => ?_)
      obtain ⟨rfl, rfl, rfl⟩ := hc31
      refine gG.iret dX4_wood_34 rfl ?_
      refine ⟨?_, fc, fun k hk => ff k (by omega) (by omega)⟩
      unfold s_wood
      rw [if_pos hb2, if_pos hb12, ex, ey, ez, (fl_.2 kx hkx (ky * 14 + kz) (by omega)).1]
    · have hb12 := b2_0.mp g12
      refine kG.bipush (v := (-2)) 20 dX4_wood_18 (by decide) rfl ?_
      refine gG.iret dX4_wood_20 rfl ?_
      exact ⟨by unfold s_wood; rw [if_pos hb2, if_neg (by rw [hb12]; decide)], h, fun _ _ => rfl⟩
  · have hb2 := b2_0.mp g2
    refine kG.iconst (v := (-1)) 9 dX4_wood_8 (by decide) rfl ?_
    refine gG.iret dX4_wood_9 rfl ?_
    exact ⟨by unfold s_wood; rw [if_neg (by rw [hb2]; decide)], h, fun _ _ => rfl⟩
set_option maxHeartbeats 4000000 in
theorem x_wear (Γ : kGm) {S : AS} {μ : kM} {q : kq4} (h : CS S μ q) (x : Int32) (y : Int32) (z : Int32) : gC Γ yX4_wear mX4_wear 5 [.ref 1, .int x, .int y, .int z] μ q (PCi (s_wear S x y z) (S) μ) := by
  refine gC.ofG (n := 0) ⟨by decide +kernel, rfl, rfl, by decide⟩ (Nat.le_of_ble_eq_true rfl) ?_
  show gG Γ mX4_wear 5 0 [some (.ref 1), some (.int x), some (.int y), some (.int z)] [] μ q _
  have ht := h.2.1.1
  have hD := h.2.2.1.1
  have okd := h.1.1
  have hH4 := h.1.1.1
  have hP6 := h.1.1.2.1
  refine kG.aload_n 1 dX4_wear_0 rfl rfl ?_
  refine kG.iload_n 2 dX4_wear_1 rfl rfl ?_
  refine gG.callV 5 dX4_wear_2 lX4_80 vX4_isHouse (c_isH Γ h x) rfl rfl ⟨by decide, by decide⟩ rfl ⟨by decide, rfl⟩ ⟨by decide, by decide⟩ (Nat.le_of_ble_eq_true rfl) rfl (fun r2 μ2 q2 hc2 => ?_)
  obtain ⟨rfl, rfl, rfl⟩ := hc2
  refine kG.if_ne 10 8 dX4_wear_5 (by decide) rfl (fun g2 => ?_) (fun g2 => ?_)
  · have hb2 := b2_n0.mp g2
    obtain ⟨kx, hkx, rfl, ex⟩ := inB_t (by omega) hb2
    have hP := hP0 h.1 hkx
    have hsn := h.1.2.2.1 hP
    refine kG.iload_n 11 dX4_wear_10 rfl rfl ?_
    refine kG.iload_n 12 dX4_wear_11 rfl rfl ?_
    refine gG.callS 15 dX4_wear_12 lX4_130 vX4_isTime (c_isTm Γ y z) rfl rfl ⟨by decide, by decide⟩ (Nat.le_of_ble_eq_true rfl) rfl (fun r12 μ12 q12 hc12 => ?_)
    obtain ⟨rfl, rfl, rfl⟩ := hc12
    refine kG.if_ne 21 18 dX4_wear_15 (by decide) rfl (fun g12 => ?_) (fun g12 => ?_)
    · have hb12 := b2_n0.mp g12
      have hw2 := Bool.and_eq_true_iff.mp hb12
      obtain ⟨ky, hky, rfl, ey⟩ := inB_t (by decide) hw2.1
      obtain ⟨kz, hkz, rfl, ez⟩ := inB_t (by decide) hw2.2
      refine kG.aload_n 22 dX4_wear_21 rfl rfl ?_
      refine gG.callV 25 dX4_wear_22 lX4_134 vX4_freshWeeks (c_fresh Γ h hP) rfl rfl ⟨by decide, by decide⟩ rfl ⟨by decide, rfl⟩ ⟨by decide, by decide⟩ (Nat.le_of_ble_eq_true rfl) rfl (fun r22 μ22 q22 hc22 => ?_)
      obtain ⟨rfl, fc, fq, fq2, fq3, fl_, ff⟩ := hc22
      refine kG.iload_n 26 dX4_wear_25 rfl rfl ?_
      refine kG.iload_n 27 dX4_wear_26 rfl rfl ?_
      refine kG.iload_n 28 dX4_wear_27 rfl rfl ?_
      refine gG.callS 31 dX4_wear_28 lX4_138 vX4_timeOf (c_timeOf Γ _ _) rfl rfl ⟨by decide, by decide⟩ (Nat.le_of_ble_eq_true rfl) rfl (fun r28 μ28 q28 hc28 => ?_)
      obtain ⟨rfl, rfl, rfl⟩ := hc28
      rw [pk_mul, nI_add]
      refine gG.callV 34 dX4_wear_31 lX4_144 vX3_wearAt (c_wearAt Γ (Or.inl rfl) kx (ky * 14 + kz) (by omega) (by omega)) rfl rfl ⟨by decide, by decide⟩ rfl ⟨by decide, rfl⟩ ⟨by decide, by decide⟩ (Nat.le_of_ble_eq_true rfl) rfl (fun r31 μ31 q31 hc31 => ?_)
      obtain ⟨rfl, rfl, rfl⟩ := hc31
      refine gG.iret dX4_wear_34 rfl ?_
      refine ⟨?_, fc, fun k hk => ff k (by omega) (by omega)⟩
      unfold s_wear
      rw [if_pos hb2, if_pos hb12, ex, ey, ez, (fl_.2 kx hkx (ky * 14 + kz) (by omega)).2]
      rfl
    · have hb12 := b2_0.mp g12
      refine kG.bipush (v := (-2)) 20 dX4_wear_18 (by decide) rfl ?_
      refine gG.iret dX4_wear_20 rfl ?_
      exact ⟨by unfold s_wear; rw [if_pos hb2, if_neg (by rw [hb12]; decide)], h, fun _ _ => rfl⟩
  · have hb2 := b2_0.mp g2
    refine kG.iconst (v := (-1)) 9 dX4_wear_8 (by decide) rfl ?_
    refine gG.iret dX4_wear_9 rfl ?_
    exact ⟨by unfold s_wear; rw [if_neg (by rw [hb2]; decide)], h, fun _ _ => rfl⟩
set_option maxHeartbeats 4000000 in
theorem x_cold (Γ : kGm) {S : AS} {μ : kM} {q : kq4} (h : CS S μ q) (y : Int32) (z : Int32) : gC Γ yX4_cold mX4_cold 5 [.ref 1, .int y, .int z] μ q (PCi (s_cold S y z) (S) μ) := by
  refine gC.ofG (n := 0) ⟨by decide +kernel, rfl, rfl, by decide⟩ (Nat.le_of_ble_eq_true rfl) ?_
  show gG Γ mX4_cold 5 0 [some (.ref 1), some (.int y), some (.int z)] [] μ q _
  have ht := h.2.1.1
  have hD := h.2.2.1.1
  have okd := h.1.1
  have hH4 := h.1.1.1
  have hP6 := h.1.1.2.1
  refine kG.iload_n 1 dX4_cold_0 rfl rfl ?_
  refine kG.iload_n 2 dX4_cold_1 rfl rfl ?_
  refine gG.callS 5 dX4_cold_2 lX4_130 vX4_isTime (c_isTm Γ y z) rfl rfl ⟨by decide, by decide⟩ (Nat.le_of_ble_eq_true rfl) rfl (fun r2 μ2 q2 hc2 => ?_)
  obtain ⟨rfl, rfl, rfl⟩ := hc2
  refine kG.if_ne 11 8 dX4_cold_5 (by decide) rfl (fun g2 => ?_) (fun g2 => ?_)
  · have hb2 := b2_n0.mp g2
    have hw2 := Bool.and_eq_true_iff.mp hb2
    obtain ⟨ky, hky, rfl, ey⟩ := inB_t (by decide) hw2.1
    obtain ⟨kz, hkz, rfl, ez⟩ := inB_t (by decide) hw2.2
    refine kG.aload_n 12 dX4_cold_11 rfl rfl ?_
    refine gG.getP 15 dX4_cold_12 fX4_32 ⟨by decide, by decide⟩ rfl rfl rfl rfl ?_
    refine gG.getI 18 dX4_cold_15 fX4_77 (isT_k h.2.1.1) (isT_s h.2.1.1) rfl rfl ?_
    refine kG.if_ne 24 21 dX4_cold_18 (by decide) rfl (fun h18 => ?_) (fun h18 => ?_)
    · have hz : dP (aD S) ≠ 0 := fun z => h18 ((HP h).mpr z)
      have hP : 0 < dP (aD S) := by omega
      have hsn := h.1.2.2.1 hP
      refine kG.aload_n 25 dX4_cold_24 rfl rfl ?_
      refine gG.callV 28 dX4_cold_25 lX4_134 vX4_freshWeeks (c_fresh Γ h hP) rfl rfl ⟨by decide, by decide⟩ rfl ⟨by decide, rfl⟩ ⟨by decide, by decide⟩ (Nat.le_of_ble_eq_true rfl) rfl (fun r25 μ25 q25 hc25 => ?_)
      obtain ⟨rfl, fc, fq, fq2, fq3, fl_, ff⟩ := hc25
      refine kG.iload_n 29 dX4_cold_28 rfl rfl ?_
      refine kG.iload_n 30 dX4_cold_29 rfl rfl ?_
      refine gG.callS 33 dX4_cold_30 lX4_138 vX4_timeOf (c_timeOf Γ _ _) rfl rfl ⟨by decide, by decide⟩ (Nat.le_of_ble_eq_true rfl) rfl (fun r30 μ30 q30 hc30 => ?_)
      obtain ⟨rfl, rfl, rfl⟩ := hc30
      rw [pk_mul, nI_add]
      refine gG.callV 36 dX4_cold_33 lX4_147 vX3_coldAt (c_coldAt Γ (Or.inl rfl) (ky * 14 + kz) (by omega)) rfl rfl ⟨by decide, by decide⟩ rfl ⟨by decide, rfl⟩ ⟨by decide, by decide⟩ (Nat.le_of_ble_eq_true rfl) rfl (fun r33 μ33 q33 hc33 => ?_)
      obtain ⟨rfl, rfl, rfl⟩ := hc33
      refine gG.iret dX4_cold_36 rfl ?_
      refine ⟨?_, fc, fun k hk => ff k (by omega) (by omega)⟩
      unfold s_cold
      rw [if_pos hb2, if_neg hz, ey, ez, fl_.1 (ky * 14 + kz) (by omega)]
      rfl
    · have hz := (HP h).mp h18
      refine kG.bipush (v := (-3)) 23 dX4_cold_21 (by decide) rfl ?_
      refine gG.iret dX4_cold_23 rfl ?_
      exact ⟨by unfold s_cold; rw [if_pos hb2, if_pos hz], h, fun _ _ => rfl⟩
  · have hb2 := b2_0.mp g2
    refine kG.bipush (v := (-2)) 10 dX4_cold_8 (by decide) rfl ?_
    refine gG.iret dX4_cold_10 rfl ?_
    exact ⟨by unfold s_cold; rw [if_neg (by rw [hb2]; decide)], h, fun _ _ => rfl⟩
set_option maxHeartbeats 4000000 in
theorem x_chills (Γ : kGm) {S : AS} {μ : kM} {q : kq4} (h : CS S μ q) (x : Int32) (y : Int32) : gC Γ yX4_chills mX4_chills 5 [.ref 1, .int x, .int y] μ q (PCi (s_chills S x y) (S) μ) := by
  refine gC.ofG (n := 0) ⟨by decide +kernel, rfl, rfl, by decide⟩ (Nat.le_of_ble_eq_true rfl) ?_
  show gG Γ mX4_chills 5 0 [some (.ref 1), some (.int x), some (.int y)] [] μ q _
  have ht := h.2.1.1
  have hD := h.2.2.1.1
  have okd := h.1.1
  have hH4 := h.1.1.1
  have hP6 := h.1.1.2.1
  refine kG.aload_n 1 dX4_chills_0 rfl rfl ?_
  refine kG.iload_n 2 dX4_chills_1 rfl rfl ?_
  refine gG.callV 5 dX4_chills_2 lX4_91 vX4_isPerson (c_isP Γ h x) rfl rfl ⟨by decide, by decide⟩ rfl ⟨by decide, rfl⟩ ⟨by decide, by decide⟩ (Nat.le_of_ble_eq_true rfl) rfl (fun r2 μ2 q2 hc2 => ?_)
  obtain ⟨rfl, rfl, rfl⟩ := hc2
  refine kG.if_ne 10 8 dX4_chills_5 (by decide) rfl (fun g2 => ?_) (fun g2 => ?_)
  · have hb2 := b2_n0.mp g2
    obtain ⟨kx, hkx, rfl, ex⟩ := inB_t (by omega) hb2
    have hP : 0 < dP (aD S) := by omega
    have hsn := h.1.2.2.1 hP
    refine kG.iload_n 11 dX4_chills_10 rfl rfl ?_
    refine gG.callS 14 dX4_chills_11 lX4_119 vX4_isWeek (c_isWk Γ y) rfl rfl ⟨by decide, by decide⟩ (Nat.le_of_ble_eq_true rfl) rfl (fun r11 μ11 q11 hc11 => ?_)
    obtain ⟨rfl, rfl, rfl⟩ := hc11
    refine kG.if_ne 20 17 dX4_chills_14 (by decide) rfl (fun g11 => ?_) (fun g11 => ?_)
    · have hb11 := b2_n0.mp g11
      obtain ⟨ky, hky, rfl, ey⟩ := inB_t (by decide) hb11
      refine kG.aload_n 21 dX4_chills_20 rfl rfl ?_
      refine gG.callV 24 dX4_chills_21 lX4_134 vX4_freshWeeks (c_fresh Γ h hP) rfl rfl ⟨by decide, by decide⟩ rfl ⟨by decide, rfl⟩ ⟨by decide, by decide⟩ (Nat.le_of_ble_eq_true rfl) rfl (fun r21 μ21 q21 hc21 => ?_)
      obtain ⟨rfl, fc, fq, fq2, fq3, fl_, ff⟩ := hc21
      refine kG.iconst (v := nI 1) 25 dX4_chills_24 (by decide) rfl ?_
      refine kG.iload_n 26 dX4_chills_25 rfl rfl ?_
      refine kG.ishl 27 dX4_chills_26 rfl ?_
      rw [n_shl (by omega)]
      refine kG.iload_n 28 dX4_chills_27 rfl rfl ?_
      refine gG.callV 31 dX4_chills_28 lX4_150 vX3_chillsOf (c_chillsOf Γ (Or.inl rfl) (coC (cfS S)) (2 ^ kx) ky (p2_64 hkx hP6) hky (LVd_ch (okc_of h.1 hsn (waS_le h.1.1) (by decide) : okC (dH (aD S)) (cfS S)) fl_ (by omega))) rfl rfl ⟨by decide, by decide⟩ rfl ⟨by decide, rfl⟩ ⟨by decide, by decide⟩ (Nat.le_of_ble_eq_true rfl) rfl (fun r28 μ28 q28 hc28 => ?_)
      obtain ⟨rfl, rfl, rfl⟩ := hc28
      refine gG.iret dX4_chills_31 rfl ?_
      refine ⟨?_, fc, fun k hk => ff k (by omega) (by omega)⟩
      unfold s_chills
      rw [if_pos hb2, if_pos hb11, ex, ey, ch_1 (by omega)]
    · have hb11 := b2_0.mp g11
      refine kG.bipush (v := (-2)) 19 dX4_chills_17 (by decide) rfl ?_
      refine gG.iret dX4_chills_19 rfl ?_
      exact ⟨by unfold s_chills; rw [if_pos hb2, if_neg (by rw [hb11]; decide)], h, fun _ _ => rfl⟩
  · have hb2 := b2_0.mp g2
    refine kG.iconst (v := (-1)) 9 dX4_chills_8 (by decide) rfl ?_
    refine gG.iret dX4_chills_9 rfl ?_
    exact ⟨by unfold s_chills; rw [if_neg (by rw [hb2]; decide)], h, fun _ _ => rfl⟩
set_option maxHeartbeats 4000000 in
theorem x_all (Γ : kGm) {S : AS} {μ : kM} {q : kq4} (h : CS S μ q) : gC Γ yX4_all mX4_all 5 [.ref 1] μ q (PCi (s_all S) (S) μ) := by
  refine gC.ofG (n := 0) ⟨by decide +kernel, rfl, rfl, by decide⟩ (Nat.le_of_ble_eq_true rfl) ?_
  show gG Γ mX4_all 5 0 [some (.ref 1)] [] μ q _
  have ht := h.2.1.1
  have hD := h.2.2.1.1
  have okd := h.1.1
  have hH4 := h.1.1.1
  have hP6 := h.1.1.2.1
  refine kG.aload_n 1 dX4_all_0 rfl rfl ?_
  refine gG.getP 4 dX4_all_1 fX4_32 ⟨by decide, by decide⟩ rfl rfl rfl rfl ?_
  refine gG.getI 7 dX4_all_4 fX4_77 (isT_k h.2.1.1) (isT_s h.2.1.1) rfl rfl ?_
  refine kG.if_ne 13 10 dX4_all_7 (by decide) rfl (fun h7 => ?_) (fun h7 => ?_)
  · have hz : dP (aD S) ≠ 0 := fun z => h7 ((HP h).mpr z)
    have hP : 0 < dP (aD S) := by omega
    have hsn := h.1.2.2.1 hP
    refine kG.aload_n 14 dX4_all_13 rfl rfl ?_
    refine gG.callV 17 dX4_all_14 lX4_134 vX4_freshWeeks (c_fresh Γ h hP) rfl rfl ⟨by decide, by decide⟩ rfl ⟨by decide, rfl⟩ ⟨by decide, by decide⟩ (Nat.le_of_ble_eq_true rfl) rfl (fun r14 μ14 q14 hc14 => ?_)
    obtain ⟨rfl, fc, fq, fq2, fq3, fl_, ff⟩ := hc14
    refine kG.aload_n 18 dX4_all_17 rfl rfl ?_
    refine gG.callV 21 dX4_all_18 lX4_153 vX4_everybody (c_every Γ fc) rfl rfl ⟨by decide, by decide⟩ rfl ⟨by decide, rfl⟩ ⟨by decide, by decide⟩ (Nat.le_of_ble_eq_true rfl) rfl (fun r18 μ18 q18 hc18 => ?_)
    obtain ⟨rfl, rfl, rfl⟩ := hc18
    refine kG.bipush (v := nI 9) 23 dX4_all_21 (by decide) rfl ?_
    refine gG.callV 26 dX4_all_23 lX4_150 vX3_chillsOf (c_chillsOf Γ (Or.inl rfl) (coC (cfS S)) (2 ^ dP (aD S) - 1) 9 (full_64 h.1) (by decide) (LVd_ch (okc_of h.1 hsn (waS_le h.1.1) (by decide) : okC (dH (aD S)) (cfS S)) fl_ (by decide))) rfl rfl ⟨by decide, by decide⟩ rfl ⟨by decide, rfl⟩ ⟨by decide, by decide⟩ (Nat.le_of_ble_eq_true rfl) rfl (fun r23 μ23 q23 hc23 => ?_)
    obtain ⟨rfl, rfl, rfl⟩ := hc23
    refine gG.iret dX4_all_26 rfl ?_
    refine ⟨?_, fc, fun k hk => ff k (by omega) (by omega)⟩
    unfold s_all
    rw [if_neg hz]
    exact congrArg (fun z => some (Value.int (nI z))) (ch_all (c := cfS S) hP6)
  · have hz := (HP h).mp h7
    refine kG.bipush (v := (-3)) 12 dX4_all_10 (by decide) rfl ?_
    refine gG.iret dX4_all_12 rfl ?_
    exact ⟨by unfold s_all; rw [if_pos hz], h, fun _ _ => rfl⟩
set_option maxHeartbeats 4000000 in
theorem brk_loop (Γ : kGm) {S : AS} {μ : kM} {q : kq4} (h : CS S μ q) (μ0 : kM) (hf : ∀ k, 49 ≤ k → μ k = μ0 k) (kx : Nat) (hkx : kx < dH (aD S)) (hP : 0 < dP (aD S)) (fl_ : LVd (cfS S) 27 (dH (aD S)) 140 μ) : ∀ (m i : Nat), i + m = 140 → (∀ j, j < i → brF S kx j = false) → gG Γ mX4_breaks 5 17 [some (.ref 1), some (.int (nI kx)), some (.ref 27), some (.int (nI i))] [] (μ) q (PCi (s_breaks S (nI kx)) S μ0) := by
  intro m
  induction m with
  | zero =>
    intro i hm hn
    have hH4 := h.1.1.1
    refine kG.iload_n 18 dX4_breaks_17 rfl rfl ?_
    refine kG.sipush (v := nI 140) 21 dX4_breaks_18 (by decide) rfl ?_
    refine kG.icmp_ge 49 24 dX4_breaks_21 (by decide) rfl (fun h21 => ?_) (fun h21 => ?_)
    · refine kG.bipush (v := (-9)) 51 dX4_breaks_49 (by decide) rfl ?_
      refine gG.iret dX4_breaks_51 rfl ?_
      refine ⟨?_, h, hf⟩
      unfold s_breaks
      rw [if_pos (inB_n (by omega) hkx), ixn_n (by omega), fsN_none (fun j hj => hn j (by omega))]
      rfl
    · exact absurd (nI_le (by omega) (by omega)) h21
  | succ m ih =>
    intro i hm hn
    have hH4 := h.1.1.1
    have hsn := h.1.2.2.1 hP
    have hbd := (sm_bd (okc_of h.1 hsn (waS_le h.1.1) (by decide) : okC (dH (aD S)) (cfS S)) (i + 1) kx hkx).2
    have hbd : xW (cfS S) kx i ≤ 90 := hbd
    refine kG.iload_n 18 dX4_breaks_17 rfl rfl ?_
    refine kG.sipush (v := nI 140) 21 dX4_breaks_18 (by decide) rfl ?_
    refine kG.icmp_ge 49 24 dX4_breaks_21 (by decide) rfl (fun h21 => ?_) (fun h21 => ?_)
    · exact absurd h21 (nI_ge (by omega) (by omega))
    · refine kG.aload_n 25 dX4_breaks_24 rfl rfl ?_
      refine gG.getP 28 dX4_breaks_25 fX4_32 ⟨by decide, by decide⟩ rfl rfl rfl rfl ?_
      refine kG.iload_n 29 dX4_breaks_28 rfl rfl ?_
      refine kG.aload_n 30 dX4_breaks_29 rfl rfl ?_
      refine kG.iload_n 31 dX4_breaks_30 rfl rfl ?_
      refine kG.iload_n 32 dX4_breaks_31 rfl rfl ?_
      refine gG.callV 35 dX4_breaks_32 lX4_144 vX3_wearAt (c_wearAt Γ (Or.inl rfl) kx i (by omega) (by omega)) rfl rfl ⟨by decide, by decide⟩ rfl ⟨by decide, rfl⟩ ⟨by decide, by decide⟩ (Nat.le_of_ble_eq_true rfl) rfl (fun r32 μ32 q32 hc32 => ?_)
      obtain ⟨rfl, rfl, rfl⟩ := hc32
      rw [(fl_.2 kx hkx i (by omega)).2]
      refine gG.callV 38 dX4_breaks_35 lX4_157 vX2_breaksBy (c_breaksBy Γ h.2.1.1 kx (dbe (aD S) kx) (xW (cfS S) kx i) (by omega) (h.1.1.2.2.1 kx hkx).2.2 (by omega) (h.2.2.1.1.2.2.1 kx hkx).2) rfl rfl (isT_k h.2.1.1) (isT_s h.2.1.1) ⟨by decide, rfl⟩ ⟨by decide, by decide⟩ (Nat.le_of_ble_eq_true rfl) rfl (fun r35 μ35 q35 hc35 => ?_)
      obtain ⟨rfl, rfl, rfl⟩ := hc35
      refine kG.if_eq 43 41 dX4_breaks_38 (by decide) rfl (fun h38 => ?_) (fun h38 => ?_)
      · have hb : brF S kx i = false := b2_0.mp h38
        refine kG.iinc (v := nI (i + 1)) 46 dX4_breaks_43 rfl (nI_1 i) (by decide) rfl rfl ?_
        dsimp only [List.set]
        refine kG.goto 17 dX4_breaks_46 (by decide) ?_
        refine ih (i + 1) (by omega) (fun j hj => ?_)
        by_cases e : j = i
        · subst e; exact hb
        · exact hn j (by omega)
      · have hb : brF S kx i = true := b2_n0.mp h38
        refine kG.iload_n 42 dX4_breaks_41 rfl rfl ?_
        refine gG.iret dX4_breaks_42 rfl ?_
        refine ⟨?_, h, hf⟩
        unfold s_breaks
        rw [if_pos (inB_n (by omega) hkx), ixn_n (by omega), fsN_some hn hb 140 (by omega)]
        rfl
set_option maxHeartbeats 4000000 in
theorem x_breaks (Γ : kGm) {S : AS} {μ : kM} {q : kq4} (h : CS S μ q) (x : Int32) : gC Γ yX4_breaks mX4_breaks 5 [.ref 1, .int x] μ q (PCi (s_breaks S x) (S) μ) := by
  refine gC.ofG (n := 0) ⟨by decide +kernel, rfl, rfl, by decide⟩ (Nat.le_of_ble_eq_true rfl) ?_
  show gG Γ mX4_breaks 5 0 [some (.ref 1), some (.int x), none, none] [] μ q _
  have ht := h.2.1.1
  have hD := h.2.2.1.1
  have okd := h.1.1
  have hH4 := h.1.1.1
  have hP6 := h.1.1.2.1
  refine kG.aload_n 1 dX4_breaks_0 rfl rfl ?_
  refine kG.iload_n 2 dX4_breaks_1 rfl rfl ?_
  refine gG.callV 5 dX4_breaks_2 lX4_80 vX4_isHouse (c_isH Γ h x) rfl rfl ⟨by decide, by decide⟩ rfl ⟨by decide, rfl⟩ ⟨by decide, by decide⟩ (Nat.le_of_ble_eq_true rfl) rfl (fun r2 μ2 q2 hc2 => ?_)
  obtain ⟨rfl, rfl, rfl⟩ := hc2
  refine kG.if_ne 10 8 dX4_breaks_5 (by decide) rfl (fun g2 => ?_) (fun g2 => ?_)
  · have hb2 := b2_n0.mp g2
    obtain ⟨kx, hkx, rfl, ex⟩ := inB_t (by omega) hb2
    have hP := hP0 h.1 hkx
    have hsn := h.1.2.2.1 hP
    refine kG.aload_n 11 dX4_breaks_10 rfl rfl ?_
    refine gG.callV 14 dX4_breaks_11 lX4_134 vX4_freshWeeks (c_fresh Γ h hP) rfl rfl ⟨by decide, by decide⟩ rfl ⟨by decide, rfl⟩ ⟨by decide, by decide⟩ (Nat.le_of_ble_eq_true rfl) rfl (fun r11 μ11 q11 hc11 => ?_)
    obtain ⟨rfl, fc, fq, fq2, fq3, fl_, ff⟩ := hc11
    refine kG.astore_n 15 dX4_breaks_14 (by decide) rfl rfl ?_
    dsimp only [List.set]
    refine kG.iconst (v := nI 0) 16 dX4_breaks_15 (by decide) rfl ?_
    refine kG.istore_n 17 dX4_breaks_16 (by decide) rfl rfl ?_
    dsimp only [List.set]
    exact brk_loop Γ fc _ (fun k hk => ff k (by omega) (by omega)) kx hkx hP fl_ 140 0 (by omega) (fun j hj => absurd hj (Nat.not_lt_zero _))
  · have hb2 := b2_0.mp g2
    refine kG.iconst (v := (-1)) 9 dX4_breaks_8 (by decide) rfl ?_
    refine gG.iret dX4_breaks_9 rfl ?_
    exact ⟨by unfold s_breaks; rw [if_neg (by rw [hb2]; decide)], h, fun _ _ => rfl⟩
theorem bsN_le (f : Nat → Nat) : ∀ n, (bsN f n).1 ≤ n
  | 0 => Nat.le_refl _
  | n + 1 => by
    have := bsN_le f n
    unfold bsN
    split
    · exact Nat.le_refl _
    · omega
theorem bsN_b {f : Nat → Nat} {b : Nat} (h : ∀ v, f v ≤ b) : ∀ n, (bsN f n).2 ≤ b
  | 0 => Nat.zero_le _
  | n + 1 => by
    have := bsN_b h n
    unfold bsN
    split
    · exact h _
    · exact this
theorem chP_le (c : Cf) (p T : Nat) : chP c p T ≤ T := cnt_le _ T
theorem allC_le {c : Cf} {T : Nat} (hP : cP c ≤ 6) : allC c T ≤ 6 * T := by
  have := smN_le (X := fun p => chP c p T) (b := T) (cP c) (fun p _ => chP_le c p T)
  have h2 : T * cP c ≤ T * 6 := Nat.mul_le_mul_left _ hP
  unfold allC
  omega
set_option maxHeartbeats 4000000 in
theorem best_loop (Γ : kGm) {S : AS} (hP : 0 < dP (aD S)) (x : Int32) (hx : bt x 0 1 = true) (μ0 : kM) : ∀ (m i : Nat) (μ : kM) (q : kq4), i + m = 13 → (CS S μ q) → (∀ k, 49 ≤ k → μ k = μ0 k) → gG Γ mX4_best 5 32 [some (.ref 1), some (.int x), some (.int (nI (bsN (bsF S) i).1)), some (.int (nI (bsN (bsF S) i).2)), some (.int (nI (i + 1))), none] [] (μ) q (PCi (s_best S x) S μ0) := by
  intro m
  induction m with
  | zero =>
    intro i μ q hm h hf
    refine kG.iload 34 dX4_best_32 rfl rfl ?_
    refine kG.bipush (v := nI 14) 36 dX4_best_34 (by decide) rfl ?_
    refine kG.icmp_ge 111 39 dX4_best_36 (by decide) rfl (fun h36 => ?_) (fun h36 => ?_)
    · refine kG.iload_n 112 dX4_best_111 rfl rfl ?_
      refine kG.if_ne 119 115 dX4_best_112 (by decide) rfl (fun h112 => ?_) (fun h112 => ?_)
      · have hx0 : ¬ x = nI 0 := h112
        refine kG.iload_n 120 dX4_best_119 rfl rfl ?_
        refine gG.iret dX4_best_120 rfl ?_
        refine ⟨?_, h, hf⟩
        unfold s_best
        rw [if_pos hx, if_neg (by omega)]
        rw [show i = 13 by omega]
        first | rw [if_pos hx0] | rw [if_neg hx0]
      · have hx0 : x = nI 0 := h112
        refine kG.iload_n 116 dX4_best_115 rfl rfl ?_
        refine kG.goto 120 dX4_best_116 (by decide) ?_
        refine gG.iret dX4_best_120 rfl ?_
        refine ⟨?_, h, hf⟩
        unfold s_best
        rw [if_pos hx, if_neg (by omega)]
        rw [show i = 13 by omega]
        first | rw [if_pos hx0] | rw [if_neg hx0]
    · exact absurd (nI_le (by omega) (by omega)) h36
  | succ m ih =>
    intro i μ q hm h hf
    have ht := h.2.1.1
    have hD := h.2.2.1.1
    have okd := h.1.1
    have hH4 := h.1.1.1
    have hP6 := h.1.1.2.1
    have okc : okC (dH (aD S)) (cfV S (i + 1)) := okc_of h.1 (by omega) (waS_le h.1.1) (by decide)
    have hb1 := bsN_le (bsF S) i
    have hb2 := bsN_b (f := bsF S) (b := 6 * 140) (fun v => allC_le (c := cfV S v) hP6) i
    have hb3 : bsF S (i + 1) ≤ 6 * 140 := allC_le (c := cfV S (i + 1)) hP6
    refine kG.iload 34 dX4_best_32 rfl rfl ?_
    refine kG.bipush (v := nI 14) 36 dX4_best_34 (by decide) rfl ?_
    refine kG.icmp_ge 111 39 dX4_best_36 (by decide) rfl (fun h36 => ?_) (fun h36 => ?_)
    · exact absurd h36 (nI_ge (by omega) (by omega))
    · refine kG.aload_n 40 dX4_best_39 rfl rfl ?_
      refine gG.getP 43 dX4_best_40 fX4_48 ⟨by decide, by decide⟩ rfl rfl rfl rfl ?_
      refine kG.aload_n 44 dX4_best_43 rfl rfl ?_
      refine gG.getP 47 dX4_best_44 fX4_32 ⟨by decide, by decide⟩ rfl rfl rfl rfl ?_
      refine kG.aload_n 48 dX4_best_47 rfl rfl ?_
      refine gG.getI 51 dX4_best_48 fX4_51 ⟨by decide, by decide⟩ rfl rfl rfl ?_
      rw [h.2.2.1.2.2]
      refine gG.callV 54 dX4_best_51 lX4_160 vX3_prepare (c_prepT Γ h (aA S)) rfl rfl ⟨by decide, by decide⟩ rfl ⟨by decide, rfl⟩ ⟨by decide, by decide⟩ (Nat.le_of_ble_eq_true rfl) rfl (fun r51 μ51 q51 hc51 => ?_)
      obtain ⟨rfl, rfl, p1, p2, p3⟩ := hc51
      have p4 : LVp (aD S) 34 (i + 1) (aA S) (waS (aD S)) (aG S) 9 0 q.1 (uI μ51 34 9 (nI (i + 1))) := ⟨TD_fr p2.1 (fun k a b => uI_off (by rcases ht with z | z <;> omega)), KD_fr p2.2.1 (fun k a b => uI_off (by omega)), by rw [uI_ne (Or.inr (by decide))]; exact p2.2.2.1, uI_same _ _ _ _, fun h' hh => by rw [uI_ne (Or.inr (by decide))]; exact p2.2.2.2.2.1 h' hh, by rw [uI_ne (Or.inr (by decide))]; exact p2.2.2.2.2.2.1, An_fr p2.2.2.2.2.2.2 (uI_off (by decide))⟩
      have p5 : CS S (uI μ51 34 9 (nI (i + 1))) (stq q 34 q.1) := CS_tr p1 p1.2.1 ⟨rfl, rfl⟩ (fun k hk => uI_off (by omega))
      refine kG.aload_n 55 dX4_best_54 rfl rfl ?_
      refine gG.getP 58 dX4_best_55 fX4_48 ⟨by decide, by decide⟩ rfl rfl rfl rfl ?_
      refine kG.iload 60 dX4_best_58 rfl rfl ?_
      refine gG.putI 63 dX4_best_60 fX4_164 ⟨by decide, by decide⟩ rfl rfl rfl ⟨rfl, rfl⟩ rfl ?_
      refine kG.aload_n 64 dX4_best_63 rfl rfl ?_
      refine gG.getP 67 dX4_best_64 fX4_48 ⟨by decide, by decide⟩ rfl rfl rfl rfl ?_
      refine kG.bipush (v := nI 10) 69 dX4_best_67 (by decide) rfl ?_
      refine kG.iconst (v := nI 0) 70 dX4_best_69 (by decide) rfl ?_
      refine gG.callV 73 dX4_best_70 lX4_165 vX3_live (c_liveT Γ p5 rfl p4 (by omega) (aA_64 h.1) (waS_le h.1.1) (by decide) 10 0 (by decide) (by decide)) rfl rfl ⟨by decide, by decide⟩ rfl ⟨by decide, rfl⟩ ⟨by decide, by decide⟩ (Nat.le_of_ble_eq_true rfl) rfl (fun r70 μ70 q70 hc70 => ?_)
      obtain ⟨rfl, rfl, l1, l2, l3⟩ := hc70
      have l4 := l2 (wmB_0 _ _)
      refine kG.pop 74 dX4_best_73 rfl rfl ?_
      refine kG.aload_n 75 dX4_best_74 rfl rfl ?_
      refine gG.getP 78 dX4_best_75 fX4_48 ⟨by decide, by decide⟩ rfl rfl rfl rfl ?_
      refine kG.aload_n 79 dX4_best_78 rfl rfl ?_
      refine gG.callV 82 dX4_best_79 lX4_153 vX4_everybody (c_every Γ l1) rfl rfl ⟨by decide, by decide⟩ rfl ⟨by decide, rfl⟩ ⟨by decide, by decide⟩ (Nat.le_of_ble_eq_true rfl) rfl (fun r79 μ79 q79 hc79 => ?_)
      obtain ⟨rfl, rfl, rfl⟩ := hc79
      refine kG.bipush (v := nI 9) 84 dX4_best_82 (by decide) rfl ?_
      refine gG.callV 87 dX4_best_84 lX4_150 vX3_chillsOf (c_chillsOf Γ (Or.inr rfl) (coC (cfV S (i + 1))) (2 ^ dP (aD S) - 1) 9 (full_64 h.1) (by decide) (LVd_ch okc l4 (by decide))) rfl rfl ⟨by decide, by decide⟩ rfl ⟨by decide, rfl⟩ ⟨by decide, by decide⟩ (Nat.le_of_ble_eq_true rfl) rfl (fun r84 μ84 q84 hc84 => ?_)
      obtain ⟨rfl, rfl, rfl⟩ := hc84
      rw [show chN (coC (cfV S (i + 1))) (2 ^ dP (aD S) - 1) ((9 + 1) * 14) = bsF S (i + 1) from ch_all (c := (cfV S (i + 1))) hP6]
      refine kG.istore 89 dX4_best_87 (by decide) rfl rfl ?_
      dsimp only [List.set]
      refine kG.iload_n 90 dX4_best_89 rfl rfl ?_
      refine kG.if_eq 99 93 dX4_best_90 (by decide) rfl (fun h90 => ?_) (fun h90 => ?_)
      · have e0 : (bsN (bsF S) i).1 = 0 := (nI_eq (b := 0) (by omega) (by decide)).mp h90
        have eB : bsN (bsF S) (i + 1) = (i + 1, bsF S (i + 1)) := by rw [bsN, if_pos (Or.inl e0)]
        refine kG.iload 101 dX4_best_99 rfl rfl ?_
        refine kG.istore_n 102 dX4_best_101 (by decide) rfl rfl ?_
        dsimp only [List.set]
        refine kG.iload 104 dX4_best_102 rfl rfl ?_
        refine kG.istore_n 105 dX4_best_104 (by decide) rfl rfl ?_
        dsimp only [List.set]
        refine kG.iinc (v := nI (i + 1 + 1)) 108 dX4_best_105 rfl (nI_1 (i + 1)) (by decide) rfl rfl ?_
        dsimp only [List.set]
        refine kG.goto 32 dX4_best_108 (by decide) ?_
        refine kG.sub (kLe_s rfl (kLe_s rfl (kLe_s (v := .int (nI (bsN (bsF S) (i + 1)).1)) (by rw [eB]) (kLe_s (v := .int (nI (bsN (bsF S) (i + 1)).2)) (by rw [eB]) (kLe_s rfl (kLe_n kLe_0)))))) (ih (i + 1) _ _ (by omega) l1 (fun k hk => by rw [l3 k (by omega), uI_off (by omega), p3 k (by omega)]; exact hf k hk))
      · have e0 : ¬ (bsN (bsF S) i).1 = 0 := fun z => h90 (by rw [z]; rfl)
        refine kG.iload 95 dX4_best_93 rfl rfl ?_
        refine kG.iload_n 96 dX4_best_95 rfl rfl ?_
        refine kG.icmp_ge 105 99 dX4_best_96 (by decide) rfl (fun h96 => ?_) (fun h96 => ?_)
        · have e1 := (nI_leI (by omega) (by omega)).mp h96
          have eB : bsN (bsF S) (i + 1) = bsN (bsF S) i := by rw [bsN, if_neg (by rintro (z | z) <;> omega)]
          refine kG.iinc (v := nI (i + 1 + 1)) 108 dX4_best_105 rfl (nI_1 (i + 1)) (by decide) rfl rfl ?_
          dsimp only [List.set]
          refine kG.goto 32 dX4_best_108 (by decide) ?_
          refine kG.sub (kLe_s rfl (kLe_s rfl (kLe_s (v := .int (nI (bsN (bsF S) (i + 1)).1)) (by rw [eB]) (kLe_s (v := .int (nI (bsN (bsF S) (i + 1)).2)) (by rw [eB]) (kLe_s rfl (kLe_n kLe_0)))))) (ih (i + 1) _ _ (by omega) l1 (fun k hk => by rw [l3 k (by omega), uI_off (by omega), p3 k (by omega)]; exact hf k hk))
        · have e1 : bsF S (i + 1) < (bsN (bsF S) i).2 := Nat.not_le.mp fun z => h96 (nI_le z (by omega))
          have eB : bsN (bsF S) (i + 1) = (i + 1, bsF S (i + 1)) := by rw [bsN, if_pos (Or.inr e1)]
          refine kG.iload 101 dX4_best_99 rfl rfl ?_
          refine kG.istore_n 102 dX4_best_101 (by decide) rfl rfl ?_
          dsimp only [List.set]
          refine kG.iload 104 dX4_best_102 rfl rfl ?_
          refine kG.istore_n 105 dX4_best_104 (by decide) rfl rfl ?_
          dsimp only [List.set]
          refine kG.iinc (v := nI (i + 1 + 1)) 108 dX4_best_105 rfl (nI_1 (i + 1)) (by decide) rfl rfl ?_
          dsimp only [List.set]
          refine kG.goto 32 dX4_best_108 (by decide) ?_
          refine kG.sub (kLe_s rfl (kLe_s rfl (kLe_s (v := .int (nI (bsN (bsF S) (i + 1)).1)) (by rw [eB]) (kLe_s (v := .int (nI (bsN (bsF S) (i + 1)).2)) (by rw [eB]) (kLe_s rfl (kLe_n kLe_0)))))) (ih (i + 1) _ _ (by omega) l1 (fun k hk => by rw [l3 k (by omega), uI_off (by omega), p3 k (by omega)]; exact hf k hk))
set_option maxHeartbeats 4000000 in
theorem x_best (Γ : kGm) {S : AS} {μ : kM} {q : kq4} (h : CS S μ q) (x : Int32) : gC Γ yX4_best mX4_best 5 [.ref 1, .int x] μ q (PCi (s_best S x) (S) μ) := by
  refine gC.ofG (n := 0) ⟨by decide +kernel, rfl, rfl, by decide⟩ (Nat.le_of_ble_eq_true rfl) ?_
  show gG Γ mX4_best 5 0 [some (.ref 1), some (.int x), none, none, none, none] [] μ q _
  have ht := h.2.1.1
  have hD := h.2.2.1.1
  have okd := h.1.1
  have hH4 := h.1.1.1
  have hP6 := h.1.1.2.1
  refine kG.iload_n 1 dX4_best_0 rfl rfl ?_
  refine kG.if_lt 9 4 dX4_best_1 (by decide) rfl (fun h1 => ?_) (fun h1 => ?_)
  · have hb : bt x 0 1 = false := decide_eq_false (fun z => z.1 h1)
    refine kG.bipush (v := (-2)) 11 dX4_best_9 (by decide) rfl ?_
    refine gG.iret dX4_best_11 rfl ?_
    exact ⟨by unfold s_best; rw [if_neg (by rw [hb]; decide)], h, fun _ _ => rfl⟩
  · refine kG.iload_n 5 dX4_best_4 rfl rfl ?_
    refine kG.iconst (v := nI 1) 6 dX4_best_5 (by decide) rfl ?_
    refine kG.icmp_le 12 9 dX4_best_6 (by decide) rfl (fun h6 => ?_) (fun h6 => ?_)
    · have hb : bt x 0 1 = true := decide_eq_true ⟨h1, Int32.not_lt.mpr h6⟩
      refine kG.aload_n 13 dX4_best_12 rfl rfl ?_
      refine gG.getP 16 dX4_best_13 fX4_32 ⟨by decide, by decide⟩ rfl rfl rfl rfl ?_
      refine gG.getI 19 dX4_best_16 fX4_77 (isT_k h.2.1.1) (isT_s h.2.1.1) rfl rfl ?_
      refine kG.if_ne 25 22 dX4_best_19 (by decide) rfl (fun h19 => ?_) (fun h19 => ?_)
      · have hz : dP (aD S) ≠ 0 := fun z => h19 ((HP h).mpr z)
        have hP : 0 < dP (aD S) := by omega
        have hsn := h.1.2.2.1 hP
        refine kG.iconst (v := nI 0) 26 dX4_best_25 (by decide) rfl ?_
        refine kG.istore_n 27 dX4_best_26 (by decide) rfl rfl ?_
        dsimp only [List.set]
        refine kG.iconst (v := nI 0) 28 dX4_best_27 (by decide) rfl ?_
        refine kG.istore_n 29 dX4_best_28 (by decide) rfl rfl ?_
        dsimp only [List.set]
        refine kG.iconst (v := nI 1) 30 dX4_best_29 (by decide) rfl ?_
        refine kG.istore 32 dX4_best_30 (by decide) rfl rfl ?_
        dsimp only [List.set]
        exact best_loop Γ hP x hb _ 13 0 _ _ (by omega) h (fun _ _ => rfl)
      · have hz := (HP h).mp h19
        refine kG.bipush (v := (-3)) 24 dX4_best_22 (by decide) rfl ?_
        refine gG.iret dX4_best_24 rfl ?_
        exact ⟨by unfold s_best; rw [if_pos hb, if_pos hz], h, fun _ _ => rfl⟩
    · have hb : bt x 0 1 = false := decide_eq_false (fun z => h6 (Int32.not_lt.mp z.2))
      refine kG.bipush (v := (-2)) 11 dX4_best_9 (by decide) rfl ?_
      refine gG.iret dX4_best_11 rfl ?_
      exact ⟨by unfold s_best; rw [if_neg (by rw [hb]; decide)], h, fun _ _ => rfl⟩
set_option maxHeartbeats 4000000 in
theorem x_blame (Γ : kGm) {S : AS} {μ : kM} {q : kq4} (h : CS S μ q) (x : Int32) : gC Γ yX4_blame mX4_blame 5 [.ref 1, .int x] μ q (PCi (s_blame S x) (S) μ) := by
  refine gC.ofG (n := 0) ⟨by decide +kernel, rfl, rfl, by decide⟩ (Nat.le_of_ble_eq_true rfl) ?_
  show gG Γ mX4_blame 5 0 [some (.ref 1), some (.int x), none, none] [] μ q _
  have ht := h.2.1.1
  have hD := h.2.2.1.1
  have okd := h.1.1
  have hH4 := h.1.1.1
  have hP6 := h.1.1.2.1
  refine kG.aload_n 1 dX4_blame_0 rfl rfl ?_
  refine kG.iload_n 2 dX4_blame_1 rfl rfl ?_
  refine gG.callV 5 dX4_blame_2 lX4_91 vX4_isPerson (c_isP Γ h x) rfl rfl ⟨by decide, by decide⟩ rfl ⟨by decide, rfl⟩ ⟨by decide, by decide⟩ (Nat.le_of_ble_eq_true rfl) rfl (fun r2 μ2 q2 hc2 => ?_)
  obtain ⟨rfl, rfl, rfl⟩ := hc2
  refine kG.if_ne 10 8 dX4_blame_5 (by decide) rfl (fun g2 => ?_) (fun g2 => ?_)
  · have hb2 := b2_n0.mp g2
    obtain ⟨kx, hkx, rfl, ex⟩ := inB_t (by omega) hb2
    have hP : 0 < dP (aD S) := by omega
    have hsn := h.1.2.2.1 hP
    refine kG.aload_n 11 dX4_blame_10 rfl rfl ?_
    refine gG.callV 14 dX4_blame_11 lX4_153 vX4_everybody (c_every Γ h) rfl rfl ⟨by decide, by decide⟩ rfl ⟨by decide, rfl⟩ ⟨by decide, by decide⟩ (Nat.le_of_ble_eq_true rfl) rfl (fun r11 μ11 q11 hc11 => ?_)
    obtain ⟨rfl, rfl, rfl⟩ := hc11
    refine kG.iconst (v := nI 1) 15 dX4_blame_14 (by decide) rfl ?_
    refine kG.iload_n 16 dX4_blame_15 rfl rfl ?_
    refine kG.ishl 17 dX4_blame_16 rfl ?_
    rw [n_shl (by omega)]
    refine kG.iconst (v := (-1)) 18 dX4_blame_17 (by decide) rfl ?_
    refine kG.ixor 19 dX4_blame_18 rfl ?_
    refine kG.iand 20 dX4_blame_19 rfl ?_
    rw [n_wo]
    refine kG.istore_n 21 dX4_blame_20 (by decide) rfl rfl ?_
    dsimp only [List.set]
    refine kG.aload_n 22 dX4_blame_21 rfl rfl ?_
    refine gG.callV 25 dX4_blame_22 lX4_134 vX4_freshWeeks (c_fresh Γ h hP) rfl rfl ⟨by decide, by decide⟩ rfl ⟨by decide, rfl⟩ ⟨by decide, by decide⟩ (Nat.le_of_ble_eq_true rfl) rfl (fun r22 μ22 q22 hc22 => ?_)
    obtain ⟨rfl, fc, fq, fq2, fq3, fl_, ff⟩ := hc22
    have hot : (wo (2 ^ dP (aD S) - 1) (2 ^ kx)) < 64 := wo_lt (n := 6) (full_64 h.1)
    have e7 : μ22 1 7 = nI (aA S) := fc.2.2.1.2.2
    refine kG.iload_n 26 dX4_blame_25 rfl rfl ?_
    refine kG.bipush (v := nI 9) 28 dX4_blame_26 (by decide) rfl ?_
    refine gG.callV 31 dX4_blame_28 lX4_150 vX3_chillsOf (c_chillsOf Γ (Or.inl rfl) (coC (cfS S)) (wo (2 ^ dP (aD S) - 1) (2 ^ kx)) 9 hot (by decide) (LVd_ch (okc_of h.1 hsn (waS_le h.1.1) (by decide) : okC (dH (aD S)) (cfS S)) fl_ (by decide))) rfl rfl ⟨by decide, by decide⟩ rfl ⟨by decide, rfl⟩ ⟨by decide, by decide⟩ (Nat.le_of_ble_eq_true rfl) rfl (fun r28 μ28 q28 hc28 => ?_)
    obtain ⟨rfl, rfl, rfl⟩ := hc28
    refine kG.istore_n 32 dX4_blame_31 (by decide) rfl rfl ?_
    dsimp only [List.set]
    refine kG.aload_n 33 dX4_blame_32 rfl rfl ?_
    refine gG.getP 36 dX4_blame_33 fX4_48 ⟨by decide, by decide⟩ rfl rfl rfl rfl ?_
    refine kG.aload_n 37 dX4_blame_36 rfl rfl ?_
    refine gG.getP 40 dX4_blame_37 fX4_32 ⟨by decide, by decide⟩ rfl rfl rfl rfl ?_
    refine kG.aload_n 41 dX4_blame_40 rfl rfl ?_
    refine gG.getI 44 dX4_blame_41 fX4_51 ⟨by decide, by decide⟩ rfl rfl rfl ?_
    refine kG.iconst (v := nI 1) 45 dX4_blame_44 (by decide) rfl ?_
    refine kG.iload_n 46 dX4_blame_45 rfl rfl ?_
    refine kG.ishl 47 dX4_blame_46 rfl ?_
    rw [e7, n_shl (by omega)]
    refine kG.ior 48 dX4_blame_47 rfl ?_
    rw [n_or]
    refine gG.callV 51 dX4_blame_48 lX4_160 vX3_prepare (c_prepT Γ fc (aA S ||| 2 ^ kx)) rfl rfl ⟨by decide, by decide⟩ rfl ⟨by decide, rfl⟩ ⟨by decide, by decide⟩ (Nat.le_of_ble_eq_true rfl) rfl (fun r48 μ48 q48 hc48 => ?_)
    obtain ⟨rfl, rfl, p1, p2, p3⟩ := hc48
    refine kG.aload_n 52 dX4_blame_51 rfl rfl ?_
    refine gG.getP 55 dX4_blame_52 fX4_48 ⟨by decide, by decide⟩ rfl rfl rfl rfl ?_
    refine kG.bipush (v := nI 10) 57 dX4_blame_55 (by decide) rfl ?_
    refine kG.iconst (v := nI 0) 58 dX4_blame_57 (by decide) rfl ?_
    refine gG.callV 61 dX4_blame_58 lX4_165 vX3_live (c_liveT Γ p1 rfl p2 hsn (or_64 (aA_64 h.1) hkx hP6) (waS_le h.1.1) (by decide) 10 0 (by decide) (by decide)) rfl rfl ⟨by decide, by decide⟩ rfl ⟨by decide, rfl⟩ ⟨by decide, by decide⟩ (Nat.le_of_ble_eq_true rfl) rfl (fun r58 μ58 q58 hc58 => ?_)
    obtain ⟨rfl, rfl, l1, l2, l3⟩ := hc58
    have l4 := l2 (wmB_0 _ _)
    refine kG.pop 62 dX4_blame_61 rfl rfl ?_
    refine kG.sipush (v := nI 1000) 65 dX4_blame_62 (by decide) rfl ?_
    refine kG.iload_n 66 dX4_blame_65 rfl rfl ?_
    refine kG.iadd 67 dX4_blame_66 rfl ?_
    refine kG.aload_n 68 dX4_blame_67 rfl rfl ?_
    refine gG.getP 71 dX4_blame_68 fX4_48 ⟨by decide, by decide⟩ rfl rfl rfl rfl ?_
    refine kG.iload_n 72 dX4_blame_71 rfl rfl ?_
    refine kG.bipush (v := nI 9) 74 dX4_blame_72 (by decide) rfl ?_
    refine gG.callV 77 dX4_blame_74 lX4_150 vX3_chillsOf (c_chillsOf Γ (Or.inr rfl) (coC (cfA S (aA S ||| 2 ^ kx))) (wo (2 ^ dP (aD S) - 1) (2 ^ kx)) 9 hot (by decide) (LVd_ch (okc_of h.1 hsn (waS_le h.1.1) (by decide) : okC (dH (aD S)) (cfA S (aA S ||| 2 ^ kx))) l4 (by decide))) rfl rfl ⟨by decide, by decide⟩ rfl ⟨by decide, rfl⟩ ⟨by decide, by decide⟩ (Nat.le_of_ble_eq_true rfl) rfl (fun r74 μ74 q74 hc74 => ?_)
    obtain ⟨rfl, rfl, rfl⟩ := hc74
    refine kG.isub 78 dX4_blame_77 rfl ?_
    refine gG.iret dX4_blame_78 rfl ?_
    refine ⟨?_, l1, fun k hk => by rw [l3 k (by omega), p3 k (by omega), ff k (by omega) (by omega)]⟩
    unfold s_blame
    rw [if_pos hb2, ex]
    have z1 : chN (coC (cfS S)) (wo (2 ^ dP (aD S) - 1) (2 ^ kx)) ((9 + 1) * 14) = othC (cfS S) kx := ch_oth (c := cfS S) hP6 hkx
    have z2 : chN (coC (cfA S (aA S ||| 2 ^ kx))) (wo (2 ^ dP (aD S) - 1) (2 ^ kx)) ((9 + 1) * 14) = othC (cfA S (aA S ||| 2 ^ kx)) kx := ch_oth (c := (cfA S (aA S ||| 2 ^ kx))) hP6 hkx
    rw [z1, z2]
  · have hb2 := b2_0.mp g2
    refine kG.iconst (v := (-1)) 9 dX4_blame_8 (by decide) rfl ?_
    refine gG.iret dX4_blame_9 rfl ?_
    exact ⟨by unfold s_blame; rw [if_neg (by rw [hb2]; decide)], h, fun _ _ => rfl⟩
