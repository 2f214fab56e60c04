theorem okM_S {S : AS} (h : okS S) (hP : 0 < dP (aD S)) : okM (aD S) (aS S) (aG S) := ⟨h.1, (h.2.2.1 hP).1, (h.2.2.1 hP).2, h.2.2.2.2.2.1.1, by have := h.2.2.2.2.2.1.2; omega⟩
def ME (S : AS) (μ : kM) : Prop := MR (aR S) μ ∧ MH S μ ∧ μ 49 1 = aT S ∧ μ 49 0 = aF S
theorem ME_fr {S : AS} {μ μ' : kM} (h : ME S μ) (f : ∀ j, (j = 0 ∨ j = 1 ∨ j = 31) → μ' 49 j = μ 49 j) (g : ∀ k, (50 ≤ k ∧ k ≤ 52) ∨ (70 ≤ k ∧ k ≤ 73) → μ' k = μ k) : ME S μ' := ⟨MR_fr h.1 (f 31 (by decide)) (fun k a b => g k (by omega)), MH_fr h.2.1 (fun k a b => g k (by omega)), by rw [f 1 (by decide)]; exact h.2.2.1, by rw [f 0 (by decide)]; exact h.2.2.2⟩
theorem ME_FW {S : AS} {μ μ' : kM} (h : ME S μ) (f : FW μ μ') : ME S μ' := ME_fr h (fun j hj => f.2 j (by omega)) (fun k hk => f.1 k (by omega) (by omega))
theorem MS_FW {S : AS} {μ μ' : kM} (h : MS S μ) (f : FW μ μ') : MS S μ' := ⟨FW_MC h.1 f, ME_FW h.2 f⟩
theorem FW_lo {μ μ' : kM} (f : FW μ μ') : ∀ k, k < 49 → μ' k = μ k := fun k hk => f.1 k (by omega) (by omega)
theorem MC_sn {D : Dt} {sn aw : Nat} {G : Kp} {μ : kM} (v : Nat) (h : MC D sn aw G μ) : MC D v aw G (uI μ 49 5 (nI v)) := by
  have f1 : ∀ j, j ≠ 5 → uI μ 49 5 (nI v) 49 j = μ 49 j := fun j hj => uI_ne (Or.inr hj)
  have f2 : ∀ k, k ≠ 49 → uI μ 49 5 (nI v) k = μ k := fun k hk => uI_off hk
  obtain ⟨-, h2⟩ := h
  refine ⟨uI_same _ _ _ _, ?_⟩
  rw [f1 6 (by decide), f1 7 (by decide), f1 22 (by decide), f2 53 (by decide), f2 54 (by decide), f2 55 (by decide), f2 56 (by decide), f2 57 (by decide), f2 58 (by decide), f2 59 (by decide), f2 60 (by decide), f2 63 (by decide), f2 64 (by decide), f2 65 (by decide)]
  exact h2
theorem ch_le_all {c : Cf} {p T : Nat} (hp : p < cP c) : chP c p T ≤ allC c T := by
  have := smN_part (f := fun i => chP c i T) hp
  unfold allC
  omega
set_option maxHeartbeats 4000000 in
theorem y_wood (Γ : kGm) {S : AS} {μ : kM} {q : kq4} (ok : okS S) (h : MS S μ) (x : Int32) (y : Int32) (z : Int32) : gC Γ yX5_wood mX5_wood 5 [.ref 49, .int x, .int y, .int z] μ q (PMi (s_wood S x y z) (S) μ q) := by
  refine gC.ofG (n := 0) ⟨by decide +kernel, rfl, rfl, by decide⟩ (Nat.le_of_ble_eq_true rfl) ?_
  show gG Γ mX5_wood 5 0 [some (.ref 49), some (.int x), some (.int y), some (.int z)] [] μ q _
  have okd := ok.1
  have hH4 := ok.1.1
  have hP6 := ok.1.2.1
  have hc := h.1
  have hp := hc.2.2.2.2.2.1
  have hh := hc.2.2.2.2.1
  refine kG.aload_n 1 dX5_wood_0 rfl rfl ?_
  refine kG.iload_n 2 dX5_wood_1 rfl rfl ?_
  refine gG.callV 5 dX5_wood_2 lX5_155 vX5_isHouse (m_isHouse Γ x (dH (aD S)) hc.2.1) rfl rfl ⟨by decide, by decide⟩ rfl ⟨by decide, rfl⟩ ⟨by decide, by decide⟩ (Nat.le_of_ble_eq_true rfl) rfl (fun r2 μ2 q2 hc2 => ?_)
  obtain ⟨rfl, rfl, rfl⟩ := hc2
  refine kG.if_ne 10 8 dX5_wood_5 (by decide) rfl (fun g2 => ?_) (fun g2 => ?_)
  · have hb2 := b2_n0.mp g2
    obtain ⟨kx, hkx, rfl, ex⟩ := inB_t (by omega) hb2
    have hx := hh kx hkx
    refine kG.iload_n 11 dX5_wood_10 rfl rfl ?_
    refine gG.callS 14 dX5_wood_11 lX5_164 vX5_isWeek (m_isWeek Γ y) rfl rfl ⟨by decide, by decide⟩ (Nat.le_of_ble_eq_true rfl) rfl (fun r11 μ11 q11 hc11 => ?_)
    obtain ⟨rfl, rfl, rfl⟩ := hc11
    refine kG.if_eq 24 17 dX5_wood_14 (by decide) rfl (fun h14 => ?_) (fun h14 => ?_)
    · have hb := b2_0.mp h14
      have hbad : (inB y 10 && inB z 14) = false := by rw [hb]; rfl
      refine kG.bipush (v := (-2)) 26 dX5_wood_24 (by decide) rfl ?_
      refine gG.iret dX5_wood_26 rfl ?_
      exact ⟨by unfold s_wood; rw [if_pos hb2, if_neg (by rw [hbad]; decide)], h, rfl, fun _ _ => rfl⟩
    · have hby := b2_n0.mp h14
      refine kG.iload_n 18 dX5_wood_17 rfl rfl ?_
      refine gG.callS 21 dX5_wood_18 lX5_197 vX5_isHalf (m_isHalf Γ z) rfl rfl ⟨by decide, by decide⟩ (Nat.le_of_ble_eq_true rfl) rfl (fun r18 μ18 q18 hc18 => ?_)
      obtain ⟨rfl, rfl, rfl⟩ := hc18
      refine kG.if_ne 27 24 dX5_wood_21 (by decide) rfl (fun h21 => ?_) (fun h21 => ?_)
      · have hbz := b2_n0.mp h21
        have hgd : (inB y 10 && inB z 14) = true := by rw [hby, hbz]; rfl
        obtain ⟨ky, hky, rfl, ey⟩ := inB_t (by decide) hby
        obtain ⟨kz, hkz, rfl, ez⟩ := inB_t (by decide) hbz
        have hP0_ : 0 < dP (aD S) := hP0 ok hkx
        have okm := okM_S ok hP0_
        refine kG.aload_n 28 dX5_wood_27 rfl rfl ?_
        refine kG.iload_n 29 dX5_wood_28 rfl rfl ?_
        refine kG.iload_n 30 dX5_wood_29 rfl rfl ?_
        refine gG.callV 33 dX5_wood_30 lX5_194 vX5_goTo (m_goTo Γ hc okd okm ky kz hky hkz) rfl rfl ⟨by decide, by decide⟩ rfl ⟨by decide, rfl⟩ ⟨by decide, by decide⟩ (Nat.le_of_ble_eq_true rfl) rfl (fun r30 μ30 q30 hc30 => ?_)
        obtain ⟨rfl, rfl, f1, f2⟩ := hc30
        refine kG.aload_n 34 dX5_wood_33 rfl rfl ?_
        refine gG.getP 37 dX5_wood_34 fX5_59 ⟨by decide, by decide⟩ rfl rfl rfl rfl ?_
        refine kG.iload_n 38 dX5_wood_37 rfl rfl ?_
        refine gG.iald (n := 4) _ 39 dX5_wood_38 ⟨by decide, by decide⟩ rfl rfl (by omega) (by decide) rfl ?_
        rw [f2.1 kx hkx]
        refine gG.iret dX5_wood_39 rfl ?_
        refine ⟨?_, MS_FW h f1, rfl, FW_lo f1⟩
        unfold s_wood
        rw [if_pos hb2, if_pos hgd, ex, ey, ez, show ky * 14 + kz = 14 * ky + kz by omega]
        rfl
      · have hb := b2_0.mp h21
        have hbad : (inB y 10 && inB z 14) = false := by rw [hb, Bool.and_false]
        refine kG.bipush (v := (-2)) 26 dX5_wood_24 (by decide) rfl ?_
        refine gG.iret dX5_wood_26 rfl ?_
        exact ⟨by unfold s_wood; rw [if_pos hb2, if_neg (by rw [hbad]; decide)], h, rfl, fun _ _ => rfl⟩
  · have hb2 := b2_0.mp g2
    refine kG.iconst (v := (-1)) 9 dX5_wood_8 (by decide) rfl ?_
    refine gG.iret dX5_wood_9 rfl ?_
    exact ⟨by unfold s_wood; rw [if_neg (by rw [hb2]; decide)], h, rfl, fun _ _ => rfl⟩
set_option maxHeartbeats 4000000 in
theorem y_wear (Γ : kGm) {S : AS} {μ : kM} {q : kq4} (ok : okS S) (h : MS S μ) (x : Int32) (y : Int32) (z : Int32) : gC Γ yX5_wear mX5_wear 5 [.ref 49, .int x, .int y, .int z] μ q (PMi (s_wear S x y z) (S) μ q) := by
  refine gC.ofG (n := 0) ⟨by decide +kernel, rfl, rfl, by decide⟩ (Nat.le_of_ble_eq_true rfl) ?_
  show gG Γ mX5_wear 5 0 [some (.ref 49), some (.int x), some (.int y), some (.int z)] [] μ q _
  have okd := ok.1
  have hH4 := ok.1.1
  have hP6 := ok.1.2.1
  have hc := h.1
  have hp := hc.2.2.2.2.2.1
  have hh := hc.2.2.2.2.1
  refine kG.aload_n 1 dX5_wear_0 rfl rfl ?_
  refine kG.iload_n 2 dX5_wear_1 rfl rfl ?_
  refine gG.callV 5 dX5_wear_2 lX5_155 vX5_isHouse (m_isHouse Γ x (dH (aD S)) hc.2.1) rfl rfl ⟨by decide, by decide⟩ rfl ⟨by decide, rfl⟩ ⟨by decide, by decide⟩ (Nat.le_of_ble_eq_true rfl) rfl (fun r2 μ2 q2 hc2 => ?_)
  obtain ⟨rfl, rfl, rfl⟩ := hc2
  refine kG.if_ne 10 8 dX5_wear_5 (by decide) rfl (fun g2 => ?_) (fun g2 => ?_)
  · have hb2 := b2_n0.mp g2
    obtain ⟨kx, hkx, rfl, ex⟩ := inB_t (by omega) hb2
    have hx := hh kx hkx
    refine kG.iload_n 11 dX5_wear_10 rfl rfl ?_
    refine gG.callS 14 dX5_wear_11 lX5_164 vX5_isWeek (m_isWeek Γ y) rfl rfl ⟨by decide, by decide⟩ (Nat.le_of_ble_eq_true rfl) rfl (fun r11 μ11 q11 hc11 => ?_)
    obtain ⟨rfl, rfl, rfl⟩ := hc11
    refine kG.if_eq 24 17 dX5_wear_14 (by decide) rfl (fun h14 => ?_) (fun h14 => ?_)
    · have hb := b2_0.mp h14
      have hbad : (inB y 10 && inB z 14) = false := by rw [hb]; rfl
      refine kG.bipush (v := (-2)) 26 dX5_wear_24 (by decide) rfl ?_
      refine gG.iret dX5_wear_26 rfl ?_
      exact ⟨by unfold s_wear; rw [if_pos hb2, if_neg (by rw [hbad]; decide)], h, rfl, fun _ _ => rfl⟩
    · have hby := b2_n0.mp h14
      refine kG.iload_n 18 dX5_wear_17 rfl rfl ?_
      refine gG.callS 21 dX5_wear_18 lX5_197 vX5_isHalf (m_isHalf Γ z) rfl rfl ⟨by decide, by decide⟩ (Nat.le_of_ble_eq_true rfl) rfl (fun r18 μ18 q18 hc18 => ?_)
      obtain ⟨rfl, rfl, rfl⟩ := hc18
      refine kG.if_ne 27 24 dX5_wear_21 (by decide) rfl (fun h21 => ?_) (fun h21 => ?_)
      · have hbz := b2_n0.mp h21
        have hgd : (inB y 10 && inB z 14) = true := by rw [hby, hbz]; rfl
        obtain ⟨ky, hky, rfl, ey⟩ := inB_t (by decide) hby
        obtain ⟨kz, hkz, rfl, ez⟩ := inB_t (by decide) hbz
        have hP0_ : 0 < dP (aD S) := hP0 ok hkx
        have okm := okM_S ok hP0_
        refine kG.aload_n 28 dX5_wear_27 rfl rfl ?_
        refine kG.iload_n 29 dX5_wear_28 rfl rfl ?_
        refine kG.iload_n 30 dX5_wear_29 rfl rfl ?_
        refine gG.callV 33 dX5_wear_30 lX5_194 vX5_goTo (m_goTo Γ hc okd okm ky kz hky hkz) rfl rfl ⟨by decide, by decide⟩ rfl ⟨by decide, rfl⟩ ⟨by decide, by decide⟩ (Nat.le_of_ble_eq_true rfl) rfl (fun r30 μ30 q30 hc30 => ?_)
        obtain ⟨rfl, rfl, f1, f2⟩ := hc30
        refine kG.aload_n 34 dX5_wear_33 rfl rfl ?_
        refine gG.getP 37 dX5_wear_34 fX5_62 ⟨by decide, by decide⟩ rfl rfl rfl rfl ?_
        refine kG.iload_n 38 dX5_wear_37 rfl rfl ?_
        refine gG.iald (n := 4) _ 39 dX5_wear_38 ⟨by decide, by decide⟩ rfl rfl (by omega) (by decide) rfl ?_
        rw [f2.2.1 kx hkx]
        refine gG.iret dX5_wear_39 rfl ?_
        refine ⟨?_, MS_FW h f1, rfl, FW_lo f1⟩
        unfold s_wear
        rw [if_pos hb2, if_pos hgd, ex, ey, ez, show ky * 14 + kz = 14 * ky + kz by omega]
        rfl
      · have hb := b2_0.mp h21
        have hbad : (inB y 10 && inB z 14) = false := by rw [hb, Bool.and_false]
        refine kG.bipush (v := (-2)) 26 dX5_wear_24 (by decide) rfl ?_
        refine gG.iret dX5_wear_26 rfl ?_
        exact ⟨by unfold s_wear; rw [if_pos hb2, if_neg (by rw [hbad]; decide)], h, rfl, fun _ _ => rfl⟩
  · have hb2 := b2_0.mp g2
    refine kG.iconst (v := (-1)) 9 dX5_wear_8 (by decide) rfl ?_
    refine gG.iret dX5_wear_9 rfl ?_
    exact ⟨by unfold s_wear; rw [if_neg (by rw [hb2]; decide)], h, rfl, fun _ _ => rfl⟩
set_option maxHeartbeats 4000000 in
theorem y_cold (Γ : kGm) {S : AS} {μ : kM} {q : kq4} (ok : okS S) (h : MS S μ) (x : Int32) (y : Int32) : gC Γ yX5_cold mX5_cold 5 [.ref 49, .int x, .int y] μ q (PMi (s_cold S x y) (S) μ q) := by
  refine gC.ofG (n := 0) ⟨by decide +kernel, rfl, rfl, by decide⟩ (Nat.le_of_ble_eq_true rfl) ?_
  show gG Γ mX5_cold 5 0 [some (.ref 49), some (.int x), some (.int y)] [] μ q _
  have okd := ok.1
  have hH4 := ok.1.1
  have hP6 := ok.1.2.1
  have hc := h.1
  have hp := hc.2.2.2.2.2.1
  have hh := hc.2.2.2.2.1
  refine kG.iload_n 1 dX5_cold_0 rfl rfl ?_
  refine gG.callS 4 dX5_cold_1 lX5_164 vX5_isWeek (m_isWeek Γ x) rfl rfl ⟨by decide, by decide⟩ (Nat.le_of_ble_eq_true rfl) rfl (fun r1 μ1 q1 hc1 => ?_)
  obtain ⟨rfl, rfl, rfl⟩ := hc1
  refine kG.if_eq 14 7 dX5_cold_4 (by decide) rfl (fun h4 => ?_) (fun h4 => ?_)
  · have hb := b2_0.mp h4
    have hbad : (inB x 10 && inB y 14) = false := by rw [hb]; rfl
    refine kG.bipush (v := (-2)) 16 dX5_cold_14 (by decide) rfl ?_
    refine gG.iret dX5_cold_16 rfl ?_
    exact ⟨by unfold s_cold; rw [if_neg (by rw [hbad]; decide)], h, rfl, fun _ _ => rfl⟩
  · have hby := b2_n0.mp h4
    refine kG.iload_n 8 dX5_cold_7 rfl rfl ?_
    refine gG.callS 11 dX5_cold_8 lX5_197 vX5_isHalf (m_isHalf Γ y) rfl rfl ⟨by decide, by decide⟩ (Nat.le_of_ble_eq_true rfl) rfl (fun r8 μ8 q8 hc8 => ?_)
    obtain ⟨rfl, rfl, rfl⟩ := hc8
    refine kG.if_ne 17 14 dX5_cold_11 (by decide) rfl (fun h11 => ?_) (fun h11 => ?_)
    · have hbz := b2_n0.mp h11
      have hgd : (inB x 10 && inB y 14) = true := by rw [hby, hbz]; rfl
      obtain ⟨ky, hky, rfl, ey⟩ := inB_t (by decide) hby
      obtain ⟨kz, hkz, rfl, ez⟩ := inB_t (by decide) hbz
      refine kG.aload_n 18 dX5_cold_17 rfl rfl ?_
      refine gG.getI 21 dX5_cold_18 fX5_96 ⟨by decide, by decide⟩ rfl rfl rfl ?_
      rw [hc.2.2.1]
      refine kG.if_ne 27 24 dX5_cold_21 (by decide) rfl (fun h21 => ?_) (fun h21 => ?_)
      · have hz : ¬ dP (aD S) = 0 := fun z => h21 (by rw [z]; rfl)
        have okm := okM_S ok (by omega)
        refine kG.aload_n 28 dX5_cold_27 rfl rfl ?_
        refine kG.iload_n 29 dX5_cold_28 rfl rfl ?_
        refine kG.iload_n 30 dX5_cold_29 rfl rfl ?_
        refine gG.callV 33 dX5_cold_30 lX5_194 vX5_goTo (m_goTo Γ hc okd okm ky kz hky hkz) rfl rfl ⟨by decide, by decide⟩ rfl ⟨by decide, rfl⟩ ⟨by decide, by decide⟩ (Nat.le_of_ble_eq_true rfl) rfl (fun r30 μ30 q30 hc30 => ?_)
        obtain ⟨rfl, rfl, f1, f2⟩ := hc30
        refine kG.aload_n 34 dX5_cold_33 rfl rfl ?_
        refine gG.getI 37 dX5_cold_34 fX5_174 ⟨by decide, by decide⟩ rfl rfl rfl ?_
        rw [f2.2.2.2.1]
        refine gG.iret dX5_cold_37 rfl ?_
        refine ⟨?_, MS_FW h f1, rfl, FW_lo f1⟩
        unfold s_cold
        rw [if_pos hgd, if_neg hz, ey, ez, show ky * 14 + kz = 14 * ky + kz by omega]
        rfl
      · have hz : dP (aD S) = 0 := (nI_eq (b := 0) (by omega) (by decide)).mp h21
        refine kG.bipush (v := (-3)) 26 dX5_cold_24 (by decide) rfl ?_
        refine gG.iret dX5_cold_26 rfl ?_
        exact ⟨by unfold s_cold; rw [if_pos hgd, if_pos hz], h, rfl, fun _ _ => rfl⟩
    · have hb := b2_0.mp h11
      have hbad : (inB x 10 && inB y 14) = false := by rw [hb, Bool.and_false]
      refine kG.bipush (v := (-2)) 16 dX5_cold_14 (by decide) rfl ?_
      refine gG.iret dX5_cold_16 rfl ?_
      exact ⟨by unfold s_cold; rw [if_neg (by rw [hbad]; decide)], h, rfl, fun _ _ => rfl⟩
set_option maxHeartbeats 4000000 in
theorem y_chills (Γ : kGm) {S : AS} {μ : kM} {q : kq4} (ok : okS S) (h : MS S μ) (x : Int32) (y : Int32) : gC Γ yX5_chills mX5_chills 6 [.ref 49, .int x, .int y] μ q (PMi (s_chills S x y) (S) μ q) := by
  refine gC.ofG (n := 0) ⟨by decide +kernel, rfl, rfl, by decide⟩ (Nat.le_of_ble_eq_true rfl) ?_
  show gG Γ mX5_chills 6 0 [some (.ref 49), some (.int x), some (.int y)] [] μ q _
  have okd := ok.1
  have hH4 := ok.1.1
  have hP6 := ok.1.2.1
  have hc := h.1
  have hp := hc.2.2.2.2.2.1
  have hh := hc.2.2.2.2.1
  refine kG.aload_n 1 dX5_chills_0 rfl rfl ?_
  refine kG.iload_n 2 dX5_chills_1 rfl rfl ?_
  refine gG.callV 5 dX5_chills_2 lX5_158 vX5_isPerson (m_isPerson Γ x (dP (aD S)) hc.2.2.1) rfl rfl ⟨by decide, by decide⟩ rfl ⟨by decide, rfl⟩ ⟨by decide, by decide⟩ (Nat.le_of_ble_eq_true rfl) rfl (fun r2 μ2 q2 hc2 => ?_)
  obtain ⟨rfl, rfl, rfl⟩ := hc2
  refine kG.if_ne 10 8 dX5_chills_5 (by decide) rfl (fun g2 => ?_) (fun g2 => ?_)
  · have hb2 := b2_n0.mp g2
    obtain ⟨kx, hkx, rfl, ex⟩ := inB_t (by omega) hb2
    have hx := hp kx hkx
    have od := okd.2.2.2 kx hkx
    refine kG.iload_n 11 dX5_chills_10 rfl rfl ?_
    refine gG.callS 14 dX5_chills_11 lX5_164 vX5_isWeek (m_isWeek Γ y) rfl rfl ⟨by decide, by decide⟩ (Nat.le_of_ble_eq_true rfl) rfl (fun r11 μ11 q11 hc11 => ?_)
    obtain ⟨rfl, rfl, rfl⟩ := hc11
    refine kG.if_ne 20 17 dX5_chills_14 (by decide) rfl (fun h14 => ?_) (fun h14 => ?_)
    · have hby := b2_n0.mp h14
      obtain ⟨ky, hky, rfl, ey⟩ := inB_t (by decide) hby
      have okm := okM_S ok (by omega)
      refine kG.aload_n 21 dX5_chills_20 rfl rfl ?_
      refine kG.iload_n 22 dX5_chills_21 rfl rfl ?_
      refine gG.callV 25 dX5_chills_22 lX5_200 vX5_goWeeks (m_goWeeks Γ hc okd okm ky hky) rfl rfl ⟨by decide, by decide⟩ rfl ⟨by decide, rfl⟩ ⟨by decide, by decide⟩ (Nat.le_of_ble_eq_true rfl) rfl (fun r22 μ22 q22 hc22 => ?_)
      obtain ⟨rfl, rfl, f1, f2⟩ := hc22
      refine kG.aload_n 26 dX5_chills_25 rfl rfl ?_
      refine gG.getP 29 dX5_chills_26 fX5_65 ⟨by decide, by decide⟩ rfl rfl rfl rfl ?_
      refine kG.iload_n 30 dX5_chills_29 rfl rfl ?_
      refine gG.iald (n := 6) _ 31 dX5_chills_30 ⟨by decide, by decide⟩ rfl rfl (by omega) (by decide) rfl ?_
      rw [f2.2.2.1 kx hkx]
      refine gG.iret dX5_chills_31 rfl ?_
      refine ⟨?_, MS_FW h f1, rfl, FW_lo f1⟩
      unfold s_chills
      rw [if_pos hb2, if_pos hby, ex, ey]
      rfl
    · have hby := b2_0.mp h14
      refine kG.bipush (v := (-2)) 19 dX5_chills_17 (by decide) rfl ?_
      refine gG.iret dX5_chills_19 rfl ?_
      exact ⟨by unfold s_chills; rw [if_pos hb2, if_neg (by rw [hby]; decide)], h, rfl, fun _ _ => rfl⟩
  · have hb2 := b2_0.mp g2
    refine kG.iconst (v := (-1)) 9 dX5_chills_8 (by decide) rfl ?_
    refine gG.iret dX5_chills_9 rfl ?_
    exact ⟨by unfold s_chills; rw [if_neg (by rw [hb2]; decide)], h, rfl, fun _ _ => rfl⟩
set_option maxHeartbeats 4000000 in
theorem y_all (Γ : kGm) {S : AS} {μ : kM} {q : kq4} (ok : okS S) (h : MS S μ) : gC Γ yX5_all mX5_all 7 [.ref 49] μ q (PMi (s_all S) (S) μ q) := by
  refine gC.ofG (n := 0) ⟨by decide +kernel, rfl, rfl, by decide⟩ (Nat.le_of_ble_eq_true rfl) ?_
  show gG Γ mX5_all 7 0 [some (.ref 49)] [] μ q _
  have okd := ok.1
  have hH4 := ok.1.1
  have hP6 := ok.1.2.1
  have hc := h.1
  have hp := hc.2.2.2.2.2.1
  have hh := hc.2.2.2.2.1
  refine kG.aload_n 1 dX5_all_0 rfl rfl ?_
  refine gG.getI 4 dX5_all_1 fX5_96 ⟨by decide, by decide⟩ rfl rfl rfl ?_
  rw [hc.2.2.1]
  refine kG.if_ne 12 7 dX5_all_4 (by decide) rfl (fun h4 => ?_) (fun h4 => ?_)
  · have hz : ¬ dP (aD S) = 0 := fun z => h4 (by rw [z]; rfl)
    have okm := okM_S ok (by omega)
    refine kG.aload_n 13 dX5_all_12 rfl rfl ?_
    refine gG.callV 16 dX5_all_13 lX5_207 vX5_allNow (m_allNow Γ hc okd okm) rfl rfl ⟨by decide, by decide⟩ rfl ⟨by decide, rfl⟩ ⟨by decide, by decide⟩ (Nat.le_of_ble_eq_true rfl) rfl (fun r13 μ13 q13 hc13 => ?_)
    obtain ⟨rfl, rfl, f1, f2⟩ := hc13
    refine gG.iret dX5_all_16 rfl ?_
    exact ⟨by unfold s_all; rw [if_neg hz]; rfl, MS_FW h f1, rfl, FW_lo f1⟩
  · have hz : dP (aD S) = 0 := (nI_eq (b := 0) (by omega) (by decide)).mp h4
    refine kG.bipush (v := (-3)) 9 dX5_all_7 (by decide) rfl ?_
    refine kG.goto 16 dX5_all_9 (by decide) ?_
    refine gG.iret dX5_all_16 rfl ?_
    exact ⟨by unfold s_all; rw [if_pos hz], h, rfl, fun _ _ => rfl⟩
set_option maxHeartbeats 4000000 in
theorem y_breaks (Γ : kGm) {S : AS} {μ : kM} {q : kq4} (ok : okS S) (h : MS S μ) (x : Int32) : gC Γ yX5_breaks mX5_breaks 6 [.ref 49, .int x] μ q (PMi (s_breaks S x) (S) μ q) := by
  refine gC.ofG (n := 0) ⟨by decide +kernel, rfl, rfl, by decide⟩ (Nat.le_of_ble_eq_true rfl) ?_
  show gG Γ mX5_breaks 6 0 [some (.ref 49), some (.int x)] [] μ q _
  have okd := ok.1
  have hH4 := ok.1.1
  have hP6 := ok.1.2.1
  have hc := h.1
  have hp := hc.2.2.2.2.2.1
  have hh := hc.2.2.2.2.1
  refine kG.aload_n 1 dX5_breaks_0 rfl rfl ?_
  refine kG.iload_n 2 dX5_breaks_1 rfl rfl ?_
  refine gG.callV 5 dX5_breaks_2 lX5_155 vX5_isHouse (m_isHouse Γ x (dH (aD S)) hc.2.1) rfl rfl ⟨by decide, by decide⟩ rfl ⟨by decide, rfl⟩ ⟨by decide, by decide⟩ (Nat.le_of_ble_eq_true rfl) rfl (fun r2 μ2 q2 hc2 => ?_)
  obtain ⟨rfl, rfl, rfl⟩ := hc2
  refine kG.if_ne 10 8 dX5_breaks_5 (by decide) rfl (fun g2 => ?_) (fun g2 => ?_)
  · have hb2 := b2_n0.mp g2
    obtain ⟨kx, hkx, rfl, ex⟩ := inB_t (by omega) hb2
    have hx := hh kx hkx
    have hP0_ : 0 < dP (aD S) := hP0 ok hkx
    have okm := okM_S ok hP0_
    refine kG.aload_n 11 dX5_breaks_10 rfl rfl ?_
    refine kG.bipush (v := nI 9) 13 dX5_breaks_11 (by decide) rfl ?_
    refine gG.callV 16 dX5_breaks_13 lX5_200 vX5_goWeeks (m_goWeeks Γ hc okd okm 9 (by decide)) rfl rfl ⟨by decide, by decide⟩ rfl ⟨by decide, rfl⟩ ⟨by decide, by decide⟩ (Nat.le_of_ble_eq_true rfl) rfl (fun r13 μ13 q13 hc13 => ?_)
    obtain ⟨rfl, rfl, f1, f2⟩ := hc13
    refine kG.aload_n 17 dX5_breaks_16 rfl rfl ?_
    refine gG.getP 20 dX5_breaks_17 fX5_68 ⟨by decide, by decide⟩ rfl rfl rfl rfl ?_
    refine kG.iload_n 21 dX5_breaks_20 rfl rfl ?_
    refine gG.iald (n := 4) _ 22 dX5_breaks_21 ⟨by decide, by decide⟩ rfl rfl (by omega) (by decide) rfl ?_
    rw [f2.2.2.2.2 kx hkx]
    refine gG.iret dX5_breaks_22 rfl ?_
    exact ⟨by unfold s_breaks; rw [if_pos hb2, ex]; rfl, MS_FW h f1, rfl, FW_lo f1⟩
  · have hb2 := b2_0.mp g2
    refine kG.iconst (v := (-1)) 9 dX5_breaks_8 (by decide) rfl ?_
    refine gG.iret dX5_breaks_9 rfl ?_
    exact ⟨by unfold s_breaks; rw [if_neg (by rw [hb2]; decide)], h, rfl, fun _ _ => rfl⟩
set_option maxHeartbeats 4000000 in
theorem y_blame (Γ : kGm) {S : AS} {μ : kM} {q : kq4} (ok : okS S) (h : MS S μ) (x : Int32) : gC Γ yX5_blame mX5_blame 7 [.ref 49, .int x] μ q (PMi (s_blame S x) (S) μ q) := by
  refine gC.ofG (n := 0) ⟨by decide +kernel, rfl, rfl, by decide⟩ (Nat.le_of_ble_eq_true rfl) ?_
  show gG Γ mX5_blame 7 0 [some (.ref 49), some (.int x), none, none, none] [] μ q _
  have okd := ok.1
  have hH4 := ok.1.1
  have hP6 := ok.1.2.1
  have hc := h.1
  have hp := hc.2.2.2.2.2.1
  have hh := hc.2.2.2.2.1
  refine kG.aload_n 1 dX5_blame_0 rfl rfl ?_
  refine kG.iload_n 2 dX5_blame_1 rfl rfl ?_
  refine gG.callV 5 dX5_blame_2 lX5_158 vX5_isPerson (m_isPerson Γ x (dP (aD S)) hc.2.2.1) rfl rfl ⟨by decide, by decide⟩ rfl ⟨by decide, rfl⟩ ⟨by decide, by decide⟩ (Nat.le_of_ble_eq_true rfl) rfl (fun r2 μ2 q2 hc2 => ?_)
  obtain ⟨rfl, rfl, rfl⟩ := hc2
  refine kG.if_ne 10 8 dX5_blame_5 (by decide) rfl (fun g2 => ?_) (fun g2 => ?_)
  · have hb2 := b2_n0.mp g2
    obtain ⟨kx, hkx, rfl, ex⟩ := inB_t (by omega) hb2
    have hx := hp kx hkx
    have od := okd.2.2.2 kx hkx
    have okm := okM_S ok (by omega)
    refine kG.aload_n 11 dX5_blame_10 rfl rfl ?_
    refine gG.callV 14 dX5_blame_11 lX5_207 vX5_allNow (m_allNow Γ hc okd okm) rfl rfl ⟨by decide, by decide⟩ rfl ⟨by decide, rfl⟩ ⟨by decide, by decide⟩ (Nat.le_of_ble_eq_true rfl) rfl (fun r11 μ11 q11 hc11 => ?_)
    obtain ⟨rfl, rfl, f1, f2⟩ := hc11
    have hm1 := FW_MC hc f1
    have q1 : chP (cM (aD S) (aS S) (aA S) (aG S)) kx 140 ≤ allC (cM (aD S) (aS S) (aA S) (aG S)) 140 := ch_le_all (c := (cM (aD S) (aS S) (aA S) (aG S))) hkx
    refine kG.aload_n 15 dX5_blame_14 rfl rfl ?_
    refine gG.getP 18 dX5_blame_15 fX5_65 ⟨by decide, by decide⟩ rfl rfl rfl rfl ?_
    refine kG.iload_n 19 dX5_blame_18 rfl rfl ?_
    refine gG.iald (n := 6) _ 20 dX5_blame_19 ⟨by decide, by decide⟩ rfl rfl (by omega) (by decide) rfl ?_
    rw [show μ11 68 kx = nI (chP (cM (aD S) (aS S) (aA S) (aG S)) kx 140) from f2.2.2.1 kx hkx]
    refine kG.isub 21 dX5_blame_20 rfl ?_
    rw [pk_sub q1]
    refine kG.istore_n 22 dX5_blame_21 (by decide) rfl rfl ?_
    dsimp only [List.set]
    refine kG.aload_n 23 dX5_blame_22 rfl rfl ?_
    refine gG.getP 26 dX5_blame_23 fX5_40 ⟨by decide, by decide⟩ rfl rfl rfl rfl ?_
    refine kG.iload_n 27 dX5_blame_26 rfl rfl ?_
    refine gG.zald (n := 6) _ 28 dX5_blame_27 ⟨by decide, by decide⟩ rfl rfl (by omega) (by decide) rfl ?_
    rw [hm1.2.2.2.2.2.2.1 kx hkx]
    refine kG.istore_n 29 dX5_blame_28 (by decide) rfl rfl ?_
    dsimp only [List.set]
    refine kG.aload_n 30 dX5_blame_29 rfl rfl ?_
    refine gG.getP 33 dX5_blame_30 fX5_40 ⟨by decide, by decide⟩ rfl rfl rfl rfl ?_
    refine kG.iload_n 34 dX5_blame_33 rfl rfl ?_
    refine kG.iconst (v := nI 1) 35 dX5_blame_34 (by decide) rfl ?_
    refine gG.zast (n := 6) _ 36 dX5_blame_35 ⟨by decide, by decide⟩ rfl rfl (by omega) (by decide) rfl rfl ?_
    have hm2 : MC (aD S) (aS S) (aA S ||| 2 ^ kx) (aG S) (uI μ11 60 kx (b2 true)) := MC_aw hm1 (by rw [Nat.testBit_or, Nat.testBit_two_pow_self, Bool.or_true]) (fun i hi => by rw [Nat.testBit_or, Nat.testBit_two_pow, decide_eq_false (fun z => hi z.symm), Bool.or_false])
    refine kG.aload_n 37 dX5_blame_36 rfl rfl ?_
    refine gG.callV 40 dX5_blame_37 lX5_207 vX5_allNow (m_allNow Γ hm2 okd okm) rfl rfl ⟨by decide, by decide⟩ rfl ⟨by decide, rfl⟩ ⟨by decide, by decide⟩ (Nat.le_of_ble_eq_true rfl) rfl (fun r37 μ37 q37 hc37 => ?_)
    obtain ⟨rfl, rfl, f3, f4⟩ := hc37
    have hm3 := FW_MC hm2 f3
    have q2 : chP (cM (aD S) (aS S) (aA S ||| 2 ^ kx) (aG S)) kx 140 ≤ allC (cM (aD S) (aS S) (aA S ||| 2 ^ kx) (aG S)) 140 := ch_le_all (c := (cM (aD S) (aS S) (aA S ||| 2 ^ kx) (aG S))) hkx
    refine kG.aload_n 41 dX5_blame_40 rfl rfl ?_
    refine gG.getP 44 dX5_blame_41 fX5_65 ⟨by decide, by decide⟩ rfl rfl rfl rfl ?_
    refine kG.iload_n 45 dX5_blame_44 rfl rfl ?_
    refine gG.iald (n := 6) _ 46 dX5_blame_45 ⟨by decide, by decide⟩ rfl rfl (by omega) (by decide) rfl ?_
    rw [show μ37 68 kx = nI (chP (cM (aD S) (aS S) (aA S ||| 2 ^ kx) (aG S)) kx 140) from f4.2.2.1 kx hkx]
    refine kG.isub 47 dX5_blame_46 rfl ?_
    rw [pk_sub q2]
    refine kG.istore 49 dX5_blame_47 (by decide) rfl rfl ?_
    dsimp only [List.set]
    refine kG.aload_n 50 dX5_blame_49 rfl rfl ?_
    refine gG.getP 53 dX5_blame_50 fX5_40 ⟨by decide, by decide⟩ rfl rfl rfl rfl ?_
    refine kG.iload_n 54 dX5_blame_53 rfl rfl ?_
    refine kG.iload_n 55 dX5_blame_54 rfl rfl ?_
    refine gG.zast (n := 6) _ 56 dX5_blame_55 ⟨by decide, by decide⟩ rfl rfl (by omega) (by decide) (b2_bit _) rfl ?_
    have hm4 : MC (aD S) (aS S) (aA S) (aG S) (uI μ37 60 kx (b2 ((aA S).testBit kx))) := MC_aw hm3 rfl (fun i hi => by rw [Nat.testBit_or, Nat.testBit_two_pow, decide_eq_false (fun z => hi z.symm), Bool.or_false])
    refine kG.iload_n 57 dX5_blame_56 rfl rfl ?_
    refine kG.iload 59 dX5_blame_57 rfl rfl ?_
    refine kG.isub 60 dX5_blame_59 rfl ?_
    refine kG.sipush (v := nI 1000) 63 dX5_blame_60 (by decide) rfl ?_
    refine kG.iadd 64 dX5_blame_63 rfl ?_
    refine gG.iret dX5_blame_64 rfl ?_
    refine ⟨?_, ⟨hm4, ME_fr (ME_FW (ME_fr (ME_FW h.2 f1) (fun j _ => by rw [uI_off (show 49 ≠ 60 by decide)]) (fun k hk => uI_off (by omega))) f3) (fun j _ => by rw [uI_off (show 49 ≠ 60 by decide)]) (fun k hk => uI_off (by omega))⟩, rfl, fun k hk => by rw [uI_off (by omega), FW_lo f3 k hk, uI_off (by omega), FW_lo f1 k hk]⟩
    unfold s_blame
    rw [if_pos hb2, ex]
    refine congrArg (fun z => some (Value.int z)) ?_
    show nI (othC (cfS S) kx) - nI (othC (cfA S (aA S ||| 2 ^ kx)) kx) + nI 1000 = nI 1000 + nI (othC (cfS S) kx) - nI (othC (cfA S (aA S ||| 2 ^ kx)) kx)
    rw [Int32.sub_eq_add_neg, Int32.sub_eq_add_neg, Int32.add_comm (nI (othC (cfS S) kx) + _) (nI 1000), Int32.add_assoc]
  · have hb2 := b2_0.mp g2
    refine kG.iconst (v := (-1)) 9 dX5_blame_8 (by decide) rfl ?_
    refine gG.iret dX5_blame_9 rfl ?_
    exact ⟨by unfold s_blame; rw [if_neg (by rw [hb2]; decide)], h, rfl, fun _ _ => rfl⟩
