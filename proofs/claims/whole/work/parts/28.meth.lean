theorem mn_eq {a b : Nat} (ha : a < 2 ^ 31) (hb : b < 2 ^ 31) : (if nI b < nI a then nI b else nI a) = nI (min a b) := by
  by_cases e : b < a
  · rw [if_pos (nI_lt e ha), Nat.min_eq_right (by omega)]
  · rw [if_neg (nI_nlt (by omega) hb), Nat.min_eq_left (by omega)]
theorem th_iff {S : AS} {h half : Nat} : (wo (mk (fun p => decide (dtw (aD S) p = if half < aS S then 0 else 1)) (dP (aD S))) (aA S) &&& mk (fun p => decide (dho (aD S) p = h)) (dP (aD S)) = 0) ↔ thF S h half = true := by
  unfold thF
  rw [decide_eq_true_iff, and_0, cnt_0]
  constructor
  · intro H p hp
    by_cases e : dho (aD S) p = h
    · have z := H p (by rw [mk_tb]; simp [hp, e])
      rw [wo_tb, mk_tb, decide_eq_true hp, Bool.true_and] at z
      unfold inH
      rw [z]; rfl
    · rw [decide_eq_false e, Bool.and_false]
  · intro H p hp
    rw [mk_tb] at hp
    have hp := Bool.and_eq_true_iff.mp hp
    have hp1 := of_decide_eq_true hp.1
    have z := H p hp1
    rw [hp.2, Bool.and_true] at z
    rw [wo_tb, mk_tb, decide_eq_true hp1, Bool.true_and]
    exact z
set_option maxHeartbeats 4000000 in
theorem x_together (Γ : kGm) {S : AS} {μ : kM} {q : kq4} (h : CS S μ q) (x : Int32) (y : Int32) (z : Int32) : gC Γ yX4_together mX4_together 3 [.ref 1, .int x, .int y, .int z] μ q (PCi (s_together S x y z) (S) μ) := by
  refine gC.ofG (n := 0) ⟨by decide +kernel, rfl, rfl, by decide⟩ (Nat.le_of_ble_eq_true rfl) ?_
  show gG Γ mX4_together 3 0 [some (.ref 1), some (.int x), some (.int y), some (.int z), none] [] μ q _
  have ht := h.2.1.1
  have hD := h.2.2.1.1
  have okd := h.1.1
  have hH4 := h.1.1.1
  have hP6 := h.1.1.2.1
  refine kG.aload_n 1 dX4_together_0 rfl rfl ?_
  refine kG.iload_n 2 dX4_together_1 rfl rfl ?_
  refine gG.callV 5 dX4_together_2 lX4_91 vX4_isPerson (c_isP Γ h x) rfl rfl ⟨by decide, by decide⟩ rfl ⟨by decide, rfl⟩ ⟨by decide, by decide⟩ (Nat.le_of_ble_eq_true rfl) rfl (fun r2 μ2 q2 hc2 => ?_)
  obtain ⟨rfl, rfl, rfl⟩ := hc2
  refine kG.if_eq 21 8 dX4_together_5 (by decide) rfl (fun h5 => ?_) (fun h5 => ?_)
  · have hb := b2_0.mp h5
    have hb : (inB x (dP (aD S)) && inB y (dP (aD S)) && !decide (x = y)) = false := by rw [hb]; rfl
    refine kG.iconst (v := (-1)) 22 dX4_together_21 (by decide) rfl ?_
    refine gG.iret dX4_together_22 rfl ?_
    refine ⟨?_, h, fun _ _ => rfl⟩
    unfold s_together
    rw [if_neg (by rw [hb]; decide)]
  · have hb2 := b2_n0.mp h5
    refine kG.aload_n 9 dX4_together_8 rfl rfl ?_
    refine kG.iload_n 10 dX4_together_9 rfl rfl ?_
    refine gG.callV 13 dX4_together_10 lX4_91 vX4_isPerson (c_isP Γ h y) rfl rfl ⟨by decide, by decide⟩ rfl ⟨by decide, rfl⟩ ⟨by decide, by decide⟩ (Nat.le_of_ble_eq_true rfl) rfl (fun r10 μ10 q10 hc10 => ?_)
    obtain ⟨rfl, rfl, rfl⟩ := hc10
    refine kG.if_eq 21 16 dX4_together_13 (by decide) rfl (fun h13 => ?_) (fun h13 => ?_)
    · have hb := b2_0.mp h13
      have hb : (inB x (dP (aD S)) && inB y (dP (aD S)) && !decide (x = y)) = false := by rw [hb, Bool.and_false]; rfl
      refine kG.iconst (v := (-1)) 22 dX4_together_21 (by decide) rfl ?_
      refine gG.iret dX4_together_22 rfl ?_
      refine ⟨?_, h, fun _ _ => rfl⟩
      unfold s_together
      rw [if_neg (by rw [hb]; decide)]
    · have hb10 := b2_n0.mp h13
      refine kG.iload_n 17 dX4_together_16 rfl rfl ?_
      refine kG.iload_n 18 dX4_together_17 rfl rfl ?_
      refine kG.icmp_ne 23 21 dX4_together_18 (by decide) rfl (fun h18 => ?_) (fun h18 => ?_)
      · have hne := h18
        refine kG.iload_n 24 dX4_together_23 rfl rfl ?_
        refine kG.if_lt 33 27 dX4_together_24 (by decide) rfl (fun h24 => ?_) (fun h24 => ?_)
        · have hz : inB z 14 = false := decide_eq_false (fun w => w.1 h24)
          refine kG.bipush (v := (-2)) 35 dX4_together_33 (by decide) rfl ?_
          refine gG.iret dX4_together_35 rfl ?_
          refine ⟨?_, h, fun _ _ => rfl⟩
          unfold s_together
          rw [if_pos (by rw [hb2, hb10, decide_eq_false hne]; rfl), if_neg (by rw [hz]; decide)]
        · refine kG.iload_n 28 dX4_together_27 rfl rfl ?_
          refine kG.bipush (v := nI 14) 30 dX4_together_28 (by decide) rfl ?_
          refine kG.icmp_lt 36 33 dX4_together_30 (by decide) rfl (fun h30 => ?_) (fun h30 => ?_)
          · have hz : inB z 14 = true := decide_eq_true ⟨h24, Int32.not_le.mpr h30⟩
            obtain ⟨kx, hkx, rfl, ex⟩ := inB_t (by omega) hb2
            obtain ⟨ky, hky, rfl, ey⟩ := inB_t (by omega) hb10
            obtain ⟨kz, hkz, rfl, ez⟩ := inB_t (by decide) hz
            have hsn := h.1.2.2.1 (by omega)
            have hd1 := okd.2.2.2 kx hkx
            have hd2 := okd.2.2.2 ky hky
            refine kG.aload_n 37 dX4_together_36 rfl rfl ?_
            refine gG.getP 40 dX4_together_37 fX4_32 ⟨by decide, by decide⟩ rfl rfl rfl rfl ?_
            refine gG.getP 43 dX4_together_40 fX4_100 (isT_k h.2.1.1) (isT_s h.2.1.1) rfl (PI_T h.2.1.1 (by decide)) rfl ?_
            refine kG.iload_n 44 dX4_together_43 rfl rfl ?_
            refine gG.iald (n := 6) _ 45 dX4_together_44 (arT_k h.2.1.1 (by decide)) (arT_s h.2.1.1 (by decide)) rfl (by omega) (by decide) rfl ?_
            rw [(hD.2.2.2 kx hkx).2.2.1]
            refine kG.aload_n 46 dX4_together_45 rfl rfl ?_
            refine gG.getP 49 dX4_together_46 fX4_32 ⟨by decide, by decide⟩ rfl rfl rfl rfl ?_
            refine gG.getP 52 dX4_together_49 fX4_100 (isT_k h.2.1.1) (isT_s h.2.1.1) rfl (PI_T h.2.1.1 (by decide)) rfl ?_
            refine kG.iload_n 53 dX4_together_52 rfl rfl ?_
            refine gG.iald (n := 6) _ 54 dX4_together_53 (arT_k h.2.1.1 (by decide)) (arT_s h.2.1.1 (by decide)) rfl (by omega) (by decide) rfl ?_
            rw [(hD.2.2.2 ky hky).2.2.1]
            refine kG.icmp_eq 59 57 dX4_together_54 (by decide) rfl (fun h54 => ?_) (fun h54 => ?_)
            · have eh : dho (aD S) kx = dho (aD S) ky := (nI_eq (by omega) (by omega)).mp h54
              refine kG.aload_n 60 dX4_together_59 rfl rfl ?_
              refine gG.getP 63 dX4_together_60 fX4_32 ⟨by decide, by decide⟩ rfl rfl rfl rfl ?_
              refine gG.getP 66 dX4_together_63 fX4_97 (isT_k h.2.1.1) (isT_s h.2.1.1) rfl (PI_T h.2.1.1 (by decide)) rfl ?_
              refine kG.iload_n 67 dX4_together_66 rfl rfl ?_
              refine gG.iald (n := 6) _ 68 dX4_together_67 (arT_k h.2.1.1 (by decide)) (arT_s h.2.1.1 (by decide)) rfl (by omega) (by decide) rfl ?_
              rw [(hD.2.2.2 ky hky).2.1]
              refine kG.if_ne 81 71 dX4_together_68 (by decide) rfl (fun h68 => ?_) (fun h68 => ?_)
              · have e0 : ¬ dtw (aD S) ky = 0 := fun w => h68 (by rw [w]; rfl)
                refine kG.bipush (v := nI 14) 83 dX4_together_81 (by decide) rfl ?_
                refine kG.aload_n 84 dX4_together_83 rfl rfl ?_
                refine gG.getP 87 dX4_together_84 fX4_32 ⟨by decide, by decide⟩ rfl rfl rfl rfl ?_
                refine gG.getI 90 dX4_together_87 fX4_116 (isT_k h.2.1.1) (isT_s h.2.1.1) rfl rfl ?_
                refine kG.isub 91 dX4_together_90 rfl ?_
                rw [h.2.2.1.2.1, pk_sub (by omega), show nI (14 - aS S) = nI (tmT S (dtw (aD S) ky)) from congrArg nI (by unfold tmT; rw [if_neg e0])]
                refine kG.istore 93 dX4_together_91 (by decide) rfl rfl ?_
                dsimp only [List.set]
                refine kG.aload_n 94 dX4_together_93 rfl rfl ?_
                refine gG.getP 97 dX4_together_94 fX4_32 ⟨by decide, by decide⟩ rfl rfl rfl rfl ?_
                refine gG.getP 100 dX4_together_97 fX4_97 (isT_k h.2.1.1) (isT_s h.2.1.1) rfl (PI_T h.2.1.1 (by decide)) rfl ?_
                refine kG.iload_n 101 dX4_together_100 rfl rfl ?_
                refine gG.iald (n := 6) _ 102 dX4_together_101 (arT_k h.2.1.1 (by decide)) (arT_s h.2.1.1 (by decide)) rfl (by omega) (by decide) rfl ?_
                rw [(hD.2.2.2 kx hkx).2.1]
                refine kG.aload_n 103 dX4_together_102 rfl rfl ?_
                refine gG.getP 106 dX4_together_103 fX4_32 ⟨by decide, by decide⟩ rfl rfl rfl rfl ?_
                refine gG.getP 109 dX4_together_106 fX4_97 (isT_k h.2.1.1) (isT_s h.2.1.1) rfl (PI_T h.2.1.1 (by decide)) rfl ?_
                refine kG.iload_n 110 dX4_together_109 rfl rfl ?_
                refine gG.iald (n := 6) _ 111 dX4_together_110 (arT_k h.2.1.1 (by decide)) (arT_s h.2.1.1 (by decide)) rfl (by omega) (by decide) rfl ?_
                rw [(hD.2.2.2 ky hky).2.1]
                refine kG.icmp_ne 117 114 dX4_together_111 (by decide) rfl (fun h111 => ?_) (fun h111 => ?_)
                · have et : ¬ dtw (aD S) kx = dtw (aD S) ky := fun w => h111 (by rw [w])
                  refine kG.iload_n 118 dX4_together_117 rfl rfl ?_
                  refine kG.iload 120 dX4_together_118 rfl rfl ?_
                  refine gG.mmin 123 dX4_together_120 lX4_197 (by decide) (Nat.le_of_ble_eq_true rfl) rfl ?_
                  have ht14 : tmT S (dtw (aD S) ky) ≤ 14 := by unfold tmT; split <;> omega
                  rw [mn_eq (by omega) (by omega)]
                  refine gG.iret dX4_together_123 rfl ?_
                  refine ⟨?_, h, fun _ _ => rfl⟩
                  unfold s_together
                  rw [if_pos (by rw [hb2, hb10, decide_eq_false hne]; rfl), if_pos hz, ex, ey, ez, if_pos eh, if_neg et]
                · have et : dtw (aD S) kx = dtw (aD S) ky := (nI_eq (by omega) (by omega)).mp h111
                  refine kG.iload 116 dX4_together_114 rfl rfl ?_
                  refine gG.iret dX4_together_116 rfl ?_
                  refine ⟨?_, h, fun _ _ => rfl⟩
                  unfold s_together
                  rw [if_pos (by rw [hb2, hb10, decide_eq_false hne]; rfl), if_pos hz, ex, ey, if_pos eh, if_pos et]
              · have e0 : dtw (aD S) ky = 0 := (nI_eq (b := 0) (by omega) (by decide)).mp h68
                refine kG.aload_n 72 dX4_together_71 rfl rfl ?_
                refine gG.getP 75 dX4_together_72 fX4_32 ⟨by decide, by decide⟩ rfl rfl rfl rfl ?_
                refine gG.getI 78 dX4_together_75 fX4_116 (isT_k h.2.1.1) (isT_s h.2.1.1) rfl rfl ?_
                rw [h.2.2.1.2.1, show nI (aS S) = nI (tmT S (dtw (aD S) ky)) from congrArg nI (by unfold tmT; rw [if_pos e0])]
                refine kG.goto 91 dX4_together_78 (by decide) ?_
                refine kG.istore 93 dX4_together_91 (by decide) rfl rfl ?_
                dsimp only [List.set]
                refine kG.aload_n 94 dX4_together_93 rfl rfl ?_
                refine gG.getP 97 dX4_together_94 fX4_32 ⟨by decide, by decide⟩ rfl rfl rfl rfl ?_
                refine gG.getP 100 dX4_together_97 fX4_97 (isT_k h.2.1.1) (isT_s h.2.1.1) rfl (PI_T h.2.1.1 (by decide)) rfl ?_
                refine kG.iload_n 101 dX4_together_100 rfl rfl ?_
                refine gG.iald (n := 6) _ 102 dX4_together_101 (arT_k h.2.1.1 (by decide)) (arT_s h.2.1.1 (by decide)) rfl (by omega) (by decide) rfl ?_
                rw [(hD.2.2.2 kx hkx).2.1]
                refine kG.aload_n 103 dX4_together_102 rfl rfl ?_
                refine gG.getP 106 dX4_together_103 fX4_32 ⟨by decide, by decide⟩ rfl rfl rfl rfl ?_
                refine gG.getP 109 dX4_together_106 fX4_97 (isT_k h.2.1.1) (isT_s h.2.1.1) rfl (PI_T h.2.1.1 (by decide)) rfl ?_
                refine kG.iload_n 110 dX4_together_109 rfl rfl ?_
                refine gG.iald (n := 6) _ 111 dX4_together_110 (arT_k h.2.1.1 (by decide)) (arT_s h.2.1.1 (by decide)) rfl (by omega) (by decide) rfl ?_
                rw [(hD.2.2.2 ky hky).2.1]
                refine kG.icmp_ne 117 114 dX4_together_111 (by decide) rfl (fun h111 => ?_) (fun h111 => ?_)
                · have et : ¬ dtw (aD S) kx = dtw (aD S) ky := fun w => h111 (by rw [w])
                  refine kG.iload_n 118 dX4_together_117 rfl rfl ?_
                  refine kG.iload 120 dX4_together_118 rfl rfl ?_
                  refine gG.mmin 123 dX4_together_120 lX4_197 (by decide) (Nat.le_of_ble_eq_true rfl) rfl ?_
                  have ht14 : tmT S (dtw (aD S) ky) ≤ 14 := by unfold tmT; split <;> omega
                  rw [mn_eq (by omega) (by omega)]
                  refine gG.iret dX4_together_123 rfl ?_
                  refine ⟨?_, h, fun _ _ => rfl⟩
                  unfold s_together
                  rw [if_pos (by rw [hb2, hb10, decide_eq_false hne]; rfl), if_pos hz, ex, ey, ez, if_pos eh, if_neg et]
                · have et : dtw (aD S) kx = dtw (aD S) ky := (nI_eq (by omega) (by omega)).mp h111
                  refine kG.iload 116 dX4_together_114 rfl rfl ?_
                  refine gG.iret dX4_together_116 rfl ?_
                  refine ⟨?_, h, fun _ _ => rfl⟩
                  unfold s_together
                  rw [if_pos (by rw [hb2, hb10, decide_eq_false hne]; rfl), if_pos hz, ex, ey, if_pos eh, if_pos et]
            · have eh : ¬ dho (aD S) kx = dho (aD S) ky := fun w => h54 (by rw [w])
              refine kG.iconst (v := nI 0) 58 dX4_together_57 (by decide) rfl ?_
              refine gG.iret dX4_together_58 rfl ?_
              refine ⟨?_, h, fun _ _ => rfl⟩
              unfold s_together
              rw [if_pos (by rw [hb2, hb10, decide_eq_false hne]; rfl), if_pos hz, ex, ey, if_neg eh]
          · have hz : inB z 14 = false := decide_eq_false (fun w => w.2 (Int32.not_lt.mp h30))
            refine kG.bipush (v := (-2)) 35 dX4_together_33 (by decide) rfl ?_
            refine gG.iret dX4_together_35 rfl ?_
            refine ⟨?_, h, fun _ _ => rfl⟩
            unfold s_together
            rw [if_pos (by rw [hb2, hb10, decide_eq_false hne]; rfl), if_neg (by rw [hz]; decide)]
      · have hb : (inB x (dP (aD S)) && inB y (dP (aD S)) && !decide (x = y)) = false := by rw [decide_eq_true h18, show (!true) = false from rfl, Bool.and_false]
        refine kG.iconst (v := (-1)) 22 dX4_together_21 (by decide) rfl ?_
        refine gG.iret dX4_together_22 rfl ?_
        refine ⟨?_, h, fun _ _ => rfl⟩
        unfold s_together
        rw [if_neg (by rw [hb]; decide)]
set_option maxHeartbeats 4000000 in
theorem third_loop (Γ : kGm) {S : AS} {μ : kM} {q : kq4} (h : CS S μ q) (kx : Nat) (hkx : kx < dH (aD S)) : ∀ (m i : Nat), i + m = 14 → gG Γ mX4_third 3 14 [some (.ref 1), some (.int (nI kx)), some (.int (nI (mk (thF S kx) i))), some (.int (nI i))] [] (μ) q (PCi (s_third S (nI kx)) S μ) := by
  intro m
  induction m with
  | zero =>
    intro i hm
    have hH4 := h.1.1.1
    refine kG.iload_n 15 dX4_third_14 rfl rfl ?_
    refine kG.bipush (v := nI 14) 17 dX4_third_15 (by decide) rfl ?_
    refine kG.icmp_ge 49 20 dX4_third_17 (by decide) rfl (fun h17 => ?_) (fun h17 => ?_)
    · refine kG.iload_n 50 dX4_third_49 rfl rfl ?_
      refine gG.iret dX4_third_50 rfl ?_
      refine ⟨?_, h, fun _ _ => rfl⟩
      unfold s_third
      rw [if_pos (inB_n (by omega) hkx), ixn_n (by omega), show (14 : Nat) = i by omega]
    · exact absurd (nI_le (by omega) (by omega)) h17
  | succ m ih =>
    intro i hm
    have ht := h.2.1.1
    have hD := h.2.2.1.1
    have okd := h.1.1
    have hH4 := h.1.1.1
    have hP6 := h.1.1.2.1
    refine kG.iload_n 15 dX4_third_14 rfl rfl ?_
    refine kG.bipush (v := nI 14) 17 dX4_third_15 (by decide) rfl ?_
    refine kG.icmp_ge 49 20 dX4_third_17 (by decide) rfl (fun h17 => ?_) (fun h17 => ?_)
    · exact absurd h17 (nI_ge (by omega) (by omega))
    · refine kG.aload_n 21 dX4_third_20 rfl rfl ?_
      refine kG.iload_n 22 dX4_third_21 rfl rfl ?_
      refine gG.callV 25 dX4_third_22 lX4_202 vX4_whoIsIn (c_whoIsIn Γ h i (by omega)) rfl rfl ⟨by decide, by decide⟩ rfl ⟨by decide, rfl⟩ ⟨by decide, by decide⟩ (Nat.le_of_ble_eq_true rfl) rfl (fun r22 μ22 q22 hc22 => ?_)
      obtain ⟨rfl, rfl, rfl⟩ := hc22
      refine kG.aload_n 26 dX4_third_25 rfl rfl ?_
      refine gG.getP 29 dX4_third_26 fX4_32 ⟨by decide, by decide⟩ rfl rfl rfl rfl ?_
      refine kG.iload_n 30 dX4_third_29 rfl rfl ?_
      refine gG.callV 33 dX4_third_30 lX4_173 vX2_dwellersOf (c_dwellersOf Γ ht hD okd kx (by omega)) rfl rfl (isT_k h.2.1.1) (isT_s h.2.1.1) ⟨by decide, rfl⟩ ⟨by decide, by decide⟩ (Nat.le_of_ble_eq_true rfl) rfl (fun r30 μ30 q30 hc30 => ?_)
      obtain ⟨rfl, rfl, rfl⟩ := hc30
      refine kG.iand 34 dX4_third_33 rfl ?_
      rw [n_and]
      refine kG.if_ne 43 37 dX4_third_34 (by decide) rfl (fun h34 => ?_) (fun h34 => ?_)
      · have hb : (thF S kx) i = false := Bool.eq_false_iff.mpr (fun w => h34 (congrArg nI (th_iff.mpr w)))
        refine kG.iinc (v := nI (i + 1)) 46 dX4_third_43 rfl (nI_1 i) (by decide) rfl rfl ?_
        dsimp only [List.set]
        refine kG.goto 14 dX4_third_46 (by decide) ?_
        first
          | exact ih (i + 1) (by omega)
          | (rw [← mk_f (f := (thF S kx)) hb]; exact ih (i + 1) (by omega))
      · have hl : (wo (mk (fun p => decide (dtw (aD S) p = if i < aS S then 0 else 1)) (dP (aD S))) (aA S) &&& mk (fun p => decide (dho (aD S) p = kx)) (dP (aD S))) < 64 := Nat.lt_of_le_of_lt Nat.and_le_right (Nat.lt_of_lt_of_le (mk_lt _ _) (Nat.pow_le_pow_right (by decide) hP6))
        have hb : (thF S kx) i = true := th_iff.mp ((nI_eq (b := 0) (by omega) (by decide)).mp h34)
        refine kG.iload_n 38 dX4_third_37 rfl rfl ?_
        refine kG.iconst (v := nI 1) 39 dX4_third_38 (by decide) rfl ?_
        refine kG.iload_n 40 dX4_third_39 rfl rfl ?_
        refine kG.ishl 41 dX4_third_40 rfl ?_
        refine kG.ior 42 dX4_third_41 rfl ?_
        rw [n_shl (by omega), n_or, ← mk_t (f := (thF S kx)) hb]
        refine kG.istore_n 43 dX4_third_42 (by decide) rfl rfl ?_
        dsimp only [List.set]
        refine kG.iinc (v := nI (i + 1)) 46 dX4_third_43 rfl (nI_1 i) (by decide) rfl rfl ?_
        dsimp only [List.set]
        refine kG.goto 14 dX4_third_46 (by decide) ?_
        first
          | exact ih (i + 1) (by omega)
          | (rw [← mk_f (f := (thF S kx)) hb]; exact ih (i + 1) (by omega))
set_option maxHeartbeats 4000000 in
theorem x_third (Γ : kGm) {S : AS} {μ : kM} {q : kq4} (h : CS S μ q) (x : Int32) : gC Γ yX4_third mX4_third 3 [.ref 1, .int x] μ q (PCi (s_third S x) (S) μ) := by
  refine gC.ofG (n := 0) ⟨by decide +kernel, rfl, rfl, by decide⟩ (Nat.le_of_ble_eq_true rfl) ?_
  show gG Γ mX4_third 3 0 [some (.ref 1), some (.int x), none, none] [] μ q _
  have ht := h.2.1.1
  have hD := h.2.2.1.1
  have okd := h.1.1
  have hH4 := h.1.1.1
  have hP6 := h.1.1.2.1
  refine kG.aload_n 1 dX4_third_0 rfl rfl ?_
  refine kG.iload_n 2 dX4_third_1 rfl rfl ?_
  refine gG.callV 5 dX4_third_2 lX4_80 vX4_isHouse (c_isH Γ h x) rfl rfl ⟨by decide, by decide⟩ rfl ⟨by decide, rfl⟩ ⟨by decide, by decide⟩ (Nat.le_of_ble_eq_true rfl) rfl (fun r2 μ2 q2 hc2 => ?_)
  obtain ⟨rfl, rfl, rfl⟩ := hc2
  refine kG.if_ne 10 8 dX4_third_5 (by decide) rfl (fun g2 => ?_) (fun g2 => ?_)
  · have hb2 := b2_n0.mp g2
    obtain ⟨kx, hkx, rfl, ex⟩ := inB_t (by omega) hb2
    have hP := hP0 h.1 hkx
    have hsn := h.1.2.2.1 hP
    refine kG.iconst (v := nI 0) 11 dX4_third_10 (by decide) rfl ?_
    refine kG.istore_n 12 dX4_third_11 (by decide) rfl rfl ?_
    dsimp only [List.set]
    refine kG.iconst (v := nI 0) 13 dX4_third_12 (by decide) rfl ?_
    refine kG.istore_n 14 dX4_third_13 (by decide) rfl rfl ?_
    dsimp only [List.set]
    exact third_loop Γ h kx hkx 14 0 (by omega)
  · have hb2 := b2_0.mp g2
    refine kG.iconst (v := (-1)) 9 dX4_third_8 (by decide) rfl ?_
    refine gG.iret dX4_third_9 rfl ?_
    exact ⟨by unfold s_third; rw [if_neg (by rw [hb2]; decide)], h, fun _ _ => rfl⟩
set_option maxHeartbeats 4000000 in
theorem c_tellD (Γ : kGm) {S : AS} {μ : kM} {q : kq4} (h : CS S μ q) (kx : Nat) (hkx : kx < dP (aD S)) : gC Γ yX4_tellDweller mX4_tellDweller 2 [.ref 1, .int (nI kx)] μ q (PCi (nI (dbu (aD S) kx)) ((sTr S (tr1 (aT S) (nI 1)))) μ) := by
  refine gC.ofG (n := 0) ⟨by decide +kernel, rfl, rfl, by decide⟩ (Nat.le_of_ble_eq_true rfl) ?_
  show gG Γ mX4_tellDweller 2 0 [some (.ref 1), some (.int (nI kx))] [] μ q _
  have ht := h.2.1.1
  have hD := h.2.2.1.1
  have okd := h.1.1
  have hH4 := h.1.1.1
  have hP6 := h.1.1.2.1
  refine kG.aload_n 1 dX4_tellDweller_0 rfl rfl ?_
  refine kG.iconst (v := nI 1) 2 dX4_tellDweller_1 (by decide) rfl ?_
  refine gG.callV 5 dX4_tellDweller_2 lX4_264 vX4_leaveInTrace (c_leaveInTrace Γ (nI 1)) rfl rfl ⟨by decide, by decide⟩ rfl ⟨by decide, rfl⟩ ⟨by decide, by decide⟩ (Nat.le_of_ble_eq_true rfl) rfl (fun r2 μ2 q2 hc2 => ?_)
  obtain ⟨rfl, rfl, rfl⟩ := hc2
  rw [h.2.2.2.2.2.1.1]
  have h1 := CS_tc (nI 31 * aT S + nI 1) h
  refine kG.aload_n 6 dX4_tellDweller_5 rfl rfl ?_
  refine gG.getP 9 dX4_tellDweller_6 fX4_32 ⟨by decide, by decide⟩ rfl rfl rfl rfl ?_
  refine gG.getP 12 dX4_tellDweller_9 fX4_103 (isT_k h.2.1.1) (isT_s h.2.1.1) rfl (PI_T h.2.1.1 (by decide)) rfl ?_
  refine kG.iload_n 13 dX4_tellDweller_12 rfl rfl ?_
  refine gG.iald (n := 6) _ 14 dX4_tellDweller_13 (arT_k h.2.1.1 (by decide)) (arT_s h.2.1.1 (by decide)) rfl (by omega) (by decide) rfl ?_
  rw [(h1.2.2.1.1.2.2.2 kx hkx).2.2.2.1]
  refine gG.iret dX4_tellDweller_14 rfl ?_
  exact ⟨rfl, h1, fun k hk => uI_off (by omega)⟩
set_option maxHeartbeats 4000000 in
theorem c_tellH (Γ : kGm) {S : AS} {μ : kM} {q : kq4} (h : CS S μ q) (kx : Nat) (hkx : kx < dP (aD S)) : gC Γ yX4_tellHearty mX4_tellHearty 3 [.ref 1, .int (nI kx)] μ q (PCi (nI (dbu (aD S) kx + 100)) (sTr S (tr1 (tr1 (aT S) (nI 2)) (nI 1))) μ) := by
  refine gC.ofG (n := 0) ⟨by decide +kernel, rfl, rfl, by decide⟩ (Nat.le_of_ble_eq_true rfl) ?_
  show gG Γ mX4_tellHearty 3 0 [some (.ref 1), some (.int (nI kx))] [] μ q _
  have ht := h.2.1.1
  have hD := h.2.2.1.1
  have okd := h.1.1
  have hH4 := h.1.1.1
  have hP6 := h.1.1.2.1
  refine kG.aload_n 1 dX4_tellHearty_0 rfl rfl ?_
  refine kG.iconst (v := nI 2) 2 dX4_tellHearty_1 (by decide) rfl ?_
  refine gG.callV 5 dX4_tellHearty_2 lX4_264 vX4_leaveInTrace (c_leaveInTrace Γ (nI 2)) rfl rfl ⟨by decide, by decide⟩ rfl ⟨by decide, rfl⟩ ⟨by decide, by decide⟩ (Nat.le_of_ble_eq_true rfl) rfl (fun r2 μ2 q2 hc2 => ?_)
  obtain ⟨rfl, rfl, rfl⟩ := hc2
  rw [h.2.2.2.2.2.1.1]
  have h1 := CS_tc (nI 31 * aT S + nI 2) h
  refine kG.aload_n 6 dX4_tellHearty_5 rfl rfl ?_
  refine kG.iload_n 7 dX4_tellHearty_6 rfl rfl ?_
  refine gG.callV 10 dX4_tellHearty_7 lX4_255 vX4_tellDweller (c_tellD Γ h1 kx hkx) rfl rfl ⟨by decide, by decide⟩ rfl ⟨by decide, rfl⟩ ⟨by decide, by decide⟩ (Nat.le_of_ble_eq_true rfl) rfl (fun r7 μ7 q7 hc7 => ?_)
  obtain ⟨rfl, h7, f7⟩ := hc7
  refine kG.bipush (v := nI 100) 12 dX4_tellHearty_10 (by decide) rfl ?_
  refine kG.iadd 13 dX4_tellHearty_12 rfl ?_
  rw [nI_add]
  refine gG.iret dX4_tellHearty_13 rfl ?_
  exact ⟨rfl, h7, fun k hk => by rw [f7 k hk, uI_off (by omega)]⟩
set_option maxHeartbeats 4000000 in
theorem c_tellF (Γ : kGm) {S : AS} {μ : kM} {q : kq4} (h : CS S μ q) (kx : Nat) (hkx : kx < dP (aD S)) : gC Γ yX4_tellFroward mX4_tellFroward 4 [.ref 1, .int (nI kx)] μ q (PCi (nI (2 * dbu (aD S) kx + 100)) (sTr S (tr1 (tr1 (tr1 (tr1 (aT S) (nI 3)) (nI 2)) (nI 1)) (nI 1))) μ) := by
  refine gC.ofG (n := 0) ⟨by decide +kernel, rfl, rfl, by decide⟩ (Nat.le_of_ble_eq_true rfl) ?_
  show gG Γ mX4_tellFroward 4 0 [some (.ref 1), some (.int (nI kx))] [] μ q _
  have ht := h.2.1.1
  have hD := h.2.2.1.1
  have okd := h.1.1
  have hH4 := h.1.1.1
  have hP6 := h.1.1.2.1
  refine kG.aload_n 1 dX4_tellFroward_0 rfl rfl ?_
  refine kG.iconst (v := nI 3) 2 dX4_tellFroward_1 (by decide) rfl ?_
  refine gG.callV 5 dX4_tellFroward_2 lX4_264 vX4_leaveInTrace (c_leaveInTrace Γ (nI 3)) rfl rfl ⟨by decide, by decide⟩ rfl ⟨by decide, rfl⟩ ⟨by decide, by decide⟩ (Nat.le_of_ble_eq_true rfl) rfl (fun r2 μ2 q2 hc2 => ?_)
  obtain ⟨rfl, rfl, rfl⟩ := hc2
  rw [h.2.2.2.2.2.1.1]
  have h1 := CS_tc (nI 31 * aT S + nI 3) h
  refine kG.aload_n 6 dX4_tellFroward_5 rfl rfl ?_
  refine kG.iload_n 7 dX4_tellFroward_6 rfl rfl ?_
  refine gG.callV 10 dX4_tellFroward_7 lX4_258 vX4_tellHearty (c_tellH Γ h1 kx hkx) rfl rfl ⟨by decide, by decide⟩ rfl ⟨by decide, rfl⟩ ⟨by decide, by decide⟩ (Nat.le_of_ble_eq_true rfl) rfl (fun r7 μ7 q7 hc7 => ?_)
  obtain ⟨rfl, h7, f7⟩ := hc7
  refine kG.aload_n 11 dX4_tellFroward_10 rfl rfl ?_
  refine kG.iload_n 12 dX4_tellFroward_11 rfl rfl ?_
  refine gG.callV 15 dX4_tellFroward_12 lX4_255 vX4_tellDweller (c_tellD Γ h7 kx hkx) rfl rfl ⟨by decide, by decide⟩ rfl ⟨by decide, rfl⟩ ⟨by decide, by decide⟩ (Nat.le_of_ble_eq_true rfl) rfl (fun r12 μ12 q12 hc12 => ?_)
  obtain ⟨rfl, h12, f12⟩ := hc12
  refine kG.iadd 16 dX4_tellFroward_15 rfl ?_
  rw [nI_add]
  refine gG.iret dX4_tellFroward_16 rfl ?_
  refine ⟨?_, h12, fun k hk => by rw [f12 k hk, f7 k hk, uI_off (by omega)]⟩
  rw [show 2 * dbu (aD S) kx + 100 = dbu (aD S) kx + 100 + dbu (aD S) kx by omega]
  rfl
set_option maxHeartbeats 4000000 in
theorem x_tell (Γ : kGm) {S : AS} {μ : kM} {q : kq4} (h : CS S μ q) (x : Int32) : gC Γ yX4_tell mX4_tell 5 [.ref 1, .int x] μ q (PCi (s_tell S x) (n_tell S x) μ) := by
  refine gC.ofG (n := 0) ⟨by decide +kernel, rfl, rfl, by decide⟩ (Nat.le_of_ble_eq_true rfl) ?_
  show gG Γ mX4_tell 5 0 [some (.ref 1), some (.int x)] [] μ q _
  have ht := h.2.1.1
  have hD := h.2.2.1.1
  have okd := h.1.1
  have hH4 := h.1.1.1
  have hP6 := h.1.1.2.1
  refine kG.aload_n 1 dX4_tell_0 rfl rfl ?_
  refine kG.iload_n 2 dX4_tell_1 rfl rfl ?_
  refine gG.callV 5 dX4_tell_2 lX4_91 vX4_isPerson (c_isP Γ h x) rfl rfl ⟨by decide, by decide⟩ rfl ⟨by decide, rfl⟩ ⟨by decide, by decide⟩ (Nat.le_of_ble_eq_true rfl) rfl (fun r2 μ2 q2 hc2 => ?_)
  obtain ⟨rfl, rfl, rfl⟩ := hc2
  refine kG.if_ne 10 8 dX4_tell_5 (by decide) rfl (fun g2 => ?_) (fun g2 => ?_)
  · have hb2 := b2_n0.mp g2
    obtain ⟨kx, hkx, rfl, ex⟩ := inB_t (by omega) hb2
    have hP : 0 < dP (aD S) := by omega
    have hsn := h.1.2.2.1 hP
    refine kG.aload_n 11 dX4_tell_10 rfl rfl ?_
    refine gG.getP 14 dX4_tell_11 fX4_32 ⟨by decide, by decide⟩ rfl rfl rfl rfl ?_
    refine gG.getP 17 dX4_tell_14 fX4_94 (isT_k h.2.1.1) (isT_s h.2.1.1) rfl (PI_T h.2.1.1 (by decide)) rfl ?_
    refine kG.iload_n 18 dX4_tell_17 rfl rfl ?_
    refine gG.iald (n := 6) _ 19 dX4_tell_18 (arT_k h.2.1.1 (by decide)) (arT_s h.2.1.1 (by decide)) rfl (by omega) (by decide) rfl ?_
    rw [(hD.2.2.2 kx hkx).1]
    have hd1 := okd.2.2.2 kx hkx
    by_cases hs19_0 : nI (dkd (aD S) kx) = nI 0
    · rw [hs19_0]
      refine kG.lookup (off := 25) 44 dX4_tell_19 (by decide) (by decide) (by decide) ?_
      have e0 : dkd (aD S) kx = 0 := (nI_eq (by omega) (by decide)).mp hs19_0
      refine kG.aload_n 45 dX4_tell_44 rfl rfl ?_
      refine kG.iload_n 46 dX4_tell_45 rfl rfl ?_
      refine gG.callV 49 dX4_tell_46 lX4_255 vX4_tellDweller (c_tellD Γ h kx hkx) rfl rfl ⟨by decide, by decide⟩ rfl ⟨by decide, rfl⟩ ⟨by decide, by decide⟩ (Nat.le_of_ble_eq_true rfl) rfl (fun r46 μ46 q46 hc46 => ?_)
      obtain ⟨rfl, hc46⟩ := hc46
      replace hc46 := And.intro trivial hc46
      refine gG.iret dX4_tell_49 rfl ?_
      refine ⟨?_, ?_, hc46.2.2⟩
      · unfold s_tell
        rw [if_pos hb2, ex, if_pos e0]
      · unfold n_tell
        rw [if_pos hb2, ex, if_pos e0]
        exact hc46.2.1
    by_cases hs19_1 : nI (dkd (aD S) kx) = nI 1
    · rw [hs19_1]
      refine kG.lookup (off := 31) 50 dX4_tell_19 (by decide) (by decide) (by decide) ?_
      have e0 : ¬ dkd (aD S) kx = 0 := fun w => hs19_0 (by rw [w])
      have e1 : dkd (aD S) kx = 1 := (nI_eq (by omega) (by decide)).mp hs19_1
      refine kG.aload_n 51 dX4_tell_50 rfl rfl ?_
      refine kG.iload_n 52 dX4_tell_51 rfl rfl ?_
      refine gG.callV 55 dX4_tell_52 lX4_258 vX4_tellHearty (c_tellH Γ h kx hkx) rfl rfl ⟨by decide, by decide⟩ rfl ⟨by decide, rfl⟩ ⟨by decide, by decide⟩ (Nat.le_of_ble_eq_true rfl) rfl (fun r52 μ52 q52 hc52 => ?_)
      obtain ⟨rfl, hc52⟩ := hc52
      replace hc52 := And.intro trivial hc52
      refine gG.iret dX4_tell_55 rfl ?_
      refine ⟨?_, ?_, hc52.2.2⟩
      · unfold s_tell
        rw [if_pos hb2, ex, if_neg e0, if_pos e1]
      · unfold n_tell
        rw [if_pos hb2, ex, if_neg e0, if_pos e1]
        exact hc52.2.1
    · refine kG.lookup (off := 37) 56 dX4_tell_19 (by decide) (by have e0 := n_toInt (k := 0) (by decide) hs19_0; have e1 := n_toInt (k := 1) (by decide) hs19_1; show Op.lookupswitch.offset [(0, 25), (1, 31)] 37 _ = 37; simp only [Op.lookupswitch.offset_cons, Op.lookupswitch.offset_nil]; rw [if_neg (fun z => e0 z.symm), if_neg (fun z => e1 z.symm)]) (by decide) ?_
      have e0 : ¬ dkd (aD S) kx = 0 := fun w => hs19_0 (by rw [w])
      have e1 : ¬ dkd (aD S) kx = 1 := fun w => hs19_1 (by rw [w])
      refine kG.aload_n 57 dX4_tell_56 rfl rfl ?_
      refine kG.iload_n 58 dX4_tell_57 rfl rfl ?_
      refine gG.callV 61 dX4_tell_58 lX4_261 vX4_tellFroward (c_tellF Γ h kx hkx) rfl rfl ⟨by decide, by decide⟩ rfl ⟨by decide, rfl⟩ ⟨by decide, by decide⟩ (Nat.le_of_ble_eq_true rfl) rfl (fun r58 μ58 q58 hc58 => ?_)
      obtain ⟨rfl, hc58⟩ := hc58
      replace hc58 := And.intro trivial hc58
      refine gG.iret dX4_tell_61 rfl ?_
      refine ⟨?_, ?_, hc58.2.2⟩
      · unfold s_tell
        rw [if_pos hb2, ex, if_neg e0, if_neg e1]
      · unfold n_tell
        rw [if_pos hb2, ex, if_neg e0, if_neg e1]
        exact hc58.2.1
  · have hb2 := b2_0.mp g2
    refine kG.iconst (v := (-1)) 9 dX4_tell_8 (by decide) rfl ?_
    refine gG.iret dX4_tell_9 rfl ?_
    refine ⟨by unfold s_tell; rw [if_neg (by rw [hb2]; decide)], ?_, fun _ _ => rfl⟩
    unfold n_tell
    rw [if_neg (by rw [hb2]; decide)]
    exact h
set_option maxHeartbeats 4000000 in
theorem x_knock (Γ : kGm) {S : AS} {μ : kM} {q : kq4} (h : CS S μ q) (x : Int32) : gC Γ yX4_knock mX4_knock 2 [.ref 1, .int x] μ q (PCi (s_knock S x) (n_knock S x) μ) := by
  refine gC.ofG (n := 0) ⟨by decide +kernel, rfl, rfl, by decide⟩ (Nat.le_of_ble_eq_true rfl) ?_
  show gG Γ mX4_knock 2 0 [some (.ref 1), some (.int x)] [] μ q _
  have ht := h.2.1.1
  have hD := h.2.2.1.1
  have okd := h.1.1
  have hH4 := h.1.1.1
  have hP6 := h.1.1.2.1
  refine kG.aload_n 1 dX4_knock_0 rfl rfl ?_
  refine kG.iload_n 2 dX4_knock_1 rfl rfl ?_
  refine gG.callV 5 dX4_knock_2 lX4_91 vX4_isPerson (c_isP Γ h x) rfl rfl ⟨by decide, by decide⟩ rfl ⟨by decide, rfl⟩ ⟨by decide, by decide⟩ (Nat.le_of_ble_eq_true rfl) rfl (fun r2 μ2 q2 hc2 => ?_)
  obtain ⟨rfl, rfl, rfl⟩ := hc2
  refine kG.if_ne 10 8 dX4_knock_5 (by decide) rfl (fun g2 => ?_) (fun g2 => ?_)
  · have hb2 := b2_n0.mp g2
    obtain ⟨kx, hkx, rfl, ex⟩ := inB_t (by omega) hb2
    have hP : 0 < dP (aD S) := by omega
    have hsn := h.1.2.2.1 hP
    refine kG.aload_n 11 dX4_knock_10 rfl rfl ?_
    refine gG.getP 14 dX4_knock_11 fX4_32 ⟨by decide, by decide⟩ rfl rfl rfl rfl ?_
    refine gG.getP 17 dX4_knock_14 fX4_94 (isT_k h.2.1.1) (isT_s h.2.1.1) rfl (PI_T h.2.1.1 (by decide)) rfl ?_
    refine kG.iload_n 18 dX4_knock_17 rfl rfl ?_
    refine gG.iald (n := 6) _ 19 dX4_knock_18 (arT_k h.2.1.1 (by decide)) (arT_s h.2.1.1 (by decide)) rfl (by omega) (by decide) rfl ?_
    rw [(hD.2.2.2 kx hkx).1]
    have hd1 := okd.2.2.2 kx hkx
    refine kG.iconst (v := nI 2) 20 dX4_knock_19 (by decide) rfl ?_
    refine kG.icmp_ne 31 23 dX4_knock_20 (by decide) rfl (fun h20 => ?_) (fun h20 => ?_)
    · have e2 : ¬ dkd (aD S) kx = 2 := fun w => h20 (by rw [w])
      refine kG.aload_n 32 dX4_knock_31 rfl rfl ?_
      refine kG.iconst (v := nI 4) 33 dX4_knock_32 (by decide) rfl ?_
      refine gG.callV 36 dX4_knock_33 lX4_264 vX4_leaveInTrace (c_leaveInTrace Γ (nI 4)) rfl rfl ⟨by decide, by decide⟩ rfl ⟨by decide, rfl⟩ ⟨by decide, by decide⟩ (Nat.le_of_ble_eq_true rfl) rfl (fun r33 μ33 q33 hc33 => ?_)
      obtain ⟨rfl, rfl, rfl⟩ := hc33
      rw [h.2.2.2.2.2.1.1]
      have h1 := CS_tc (nI 31 * aT S + nI 4) h
      refine kG.iload_n 37 dX4_knock_36 rfl rfl ?_
      refine gG.iret dX4_knock_37 rfl ?_
      refine ⟨?_, ?_, fun k hk => uI_off (by omega)⟩
      · unfold s_knock
        rw [if_pos hb2, ex, if_neg e2]
      · unfold n_knock
        rw [if_pos hb2, ex, if_neg e2]
        exact h1
    · have e2 : dkd (aD S) kx = 2 := (nI_eq (by omega) (by decide)).mp h20
      refine kG.aload_n 24 dX4_knock_23 rfl rfl ?_
      refine kG.iconst (v := nI 5) 25 dX4_knock_24 (by decide) rfl ?_
      refine gG.callV 28 dX4_knock_25 lX4_264 vX4_leaveInTrace (c_leaveInTrace Γ (nI 5)) rfl rfl ⟨by decide, by decide⟩ rfl ⟨by decide, rfl⟩ ⟨by decide, by decide⟩ (Nat.le_of_ble_eq_true rfl) rfl (fun r25 μ25 q25 hc25 => ?_)
      obtain ⟨rfl, rfl, rfl⟩ := hc25
      rw [h.2.2.2.2.2.1.1]
      have h1 := CS_tc (nI 31 * aT S + nI 5) h
      refine kG.bipush (v := nI 50) 30 dX4_knock_28 (by decide) rfl ?_
      refine gG.iret dX4_knock_30 rfl ?_
      refine ⟨?_, ?_, fun k hk => uI_off (by omega)⟩
      · unfold s_knock
        rw [if_pos hb2, ex, if_pos e2]
      · unfold n_knock
        rw [if_pos hb2, ex, if_pos e2]
        exact h1
  · have hb2 := b2_0.mp g2
    refine kG.iconst (v := (-1)) 9 dX4_knock_8 (by decide) rfl ?_
    refine gG.iret dX4_knock_9 rfl ?_
    refine ⟨by unfold s_knock; rw [if_neg (by rw [hb2]; decide)], ?_, fun _ _ => rfl⟩
    unfold n_knock
    rw [if_neg (by rw [hb2]; decide)]
    exact h
theorem lt3 {x : Int32} : x < nI 3 ↔ ¬ nI 2 < x := by
  rw [Int32.lt_iff_toInt_lt, Int32.lt_iff_toInt_lt, nI_toInt (by decide), nI_toInt (by decide)]
  omega
set_option maxHeartbeats 4000000 in
theorem x_as (Γ : kGm) {S : AS} {μ : kM} {q : kq4} (h : CS S μ q) (x : Int32) (y : Int32) : gC Γ yX4_as mX4_as 2 [.ref 1, .int x, .int y] μ q (PCi (s_as S x y) (n_as S x y) μ) := by
  refine gC.ofG (n := 0) ⟨by decide +kernel, rfl, rfl, by decide⟩ (Nat.le_of_ble_eq_true rfl) ?_
  show gG Γ mX4_as 2 0 [some (.ref 1), some (.int x), some (.int y)] [] μ q _
  have ht := h.2.1.1
  have hD := h.2.2.1.1
  have okd := h.1.1
  have hH4 := h.1.1.1
  have hP6 := h.1.1.2.1
  refine kG.aload_n 1 dX4_as_0 rfl rfl ?_
  refine kG.iconst (v := nI 0) 2 dX4_as_1 (by decide) rfl ?_
  refine gG.putI 5 dX4_as_2 fX4_62 ⟨by decide, by decide⟩ rfl rfl rfl ⟨rfl, rfl⟩ rfl ?_
  have h1 := CS_fa (nI 0) h
  refine kG.aload_n 6 dX4_as_5 rfl rfl ?_
  refine kG.iload_n 7 dX4_as_6 rfl rfl ?_
  refine gG.callV 10 dX4_as_7 lX4_91 vX4_isPerson (c_isP Γ h1 x) rfl rfl ⟨by decide, by decide⟩ rfl ⟨by decide, rfl⟩ ⟨by decide, by decide⟩ (Nat.le_of_ble_eq_true rfl) rfl (fun r7 μ7 q7 hc7 => ?_)
  obtain ⟨rfl, rfl, rfl⟩ := hc7
  refine kG.if_ne 15 13 dX4_as_10 (by decide) rfl (fun h10 => ?_) (fun h10 => ?_)
  · have hb := b2_n0.mp h10
    refine kG.iload_n 16 dX4_as_15 rfl rfl ?_
    refine kG.if_lt 24 19 dX4_as_16 (by decide) rfl (fun h16 => ?_) (fun h16 => ?_)
    · have hy : bt y 0 2 = false := decide_eq_false (fun w => w.1 h16)
      refine kG.bipush (v := (-2)) 26 dX4_as_24 (by decide) rfl ?_
      refine gG.iret dX4_as_26 rfl ?_
      refine ⟨by unfold s_as; rw [if_pos (show inB x (dP (aD S)) = true from hb), if_neg (by rw [hy]; decide)], ?_, fun k hk => uI_off (by omega)⟩
      unfold n_as
      rw [if_neg (by rw [hy]; rintro ⟨_, w, _⟩; cases w)]
      exact h1
    · refine kG.iload_n 20 dX4_as_19 rfl rfl ?_
      refine kG.iconst (v := nI 3) 21 dX4_as_20 (by decide) rfl ?_
      refine kG.icmp_lt 27 24 dX4_as_21 (by decide) rfl (fun h21 => ?_) (fun h21 => ?_)
      · have hy : bt y 0 2 = true := decide_eq_true ⟨h16, lt3.mp h21⟩
        obtain ⟨kx, hkx, rfl, ex⟩ := inB_t (by omega) (show inB x (dP (aD S)) = true from hb)
        obtain ⟨ky, hky0, hky, rfl, ey⟩ := bt_t (by decide) (by decide) hy
        have hd1 := okd.2.2.2 kx hkx
        refine kG.aload_n 28 dX4_as_27 rfl rfl ?_
        refine gG.getP 31 dX4_as_28 fX4_32 ⟨by decide, by decide⟩ rfl rfl rfl rfl ?_
        refine gG.getP 34 dX4_as_31 fX4_94 (isT_k h.2.1.1) (isT_s h.2.1.1) rfl (PI_T h.2.1.1 (by decide)) rfl ?_
        refine kG.iload_n 35 dX4_as_34 rfl rfl ?_
        refine gG.iald (n := 6) _ 36 dX4_as_35 (arT_k h.2.1.1 (by decide)) (arT_s h.2.1.1 (by decide)) rfl (by omega) (by decide) rfl ?_
        rw [show _ = nI (dkd (aD S) kx) from (h1.2.2.1.1.2.2.2 kx hkx).1]
        refine kG.iload_n 37 dX4_as_36 rfl rfl ?_
        refine kG.icmp_ge 48 40 dX4_as_37 (by decide) rfl (fun h37 => ?_) (fun h37 => ?_)
        · have e1 : ¬ dkd (aD S) kx < ky := Nat.not_lt.mpr ((nI_leI (by omega) (by omega)).mp h37)
          refine kG.iconst (v := nI 1) 49 dX4_as_48 (by decide) rfl ?_
          refine gG.iret dX4_as_49 rfl ?_
          first
            | (refine ⟨?_, ?_, fun k hk => by rw [uI_off (by omega), uI_off (by omega)]⟩; (unfold s_as; rw [if_pos (show inB _ (dP (aD S)) = true from hb), if_pos hy, ex, ey, if_pos e1]; rfl); (unfold n_as; rw [if_pos ⟨hb, hy, by rw [ex, ey]; exact e1⟩]; exact h2))
            | (refine ⟨?_, ?_, fun k hk => uI_off (by omega)⟩; (unfold s_as; rw [if_pos (show inB _ (dP (aD S)) = true from hb), if_pos hy, ex, ey, if_neg e1]); (unfold n_as; rw [if_neg (fun w => e1 (by have := w.2.2; rw [ex, ey] at this; exact this))]; exact h1))
        · have e1 : dkd (aD S) kx < ky := Nat.not_le.mp (fun w => h37 (nI_le w (by omega)))
          refine kG.aload_n 41 dX4_as_40 rfl rfl ?_
          refine kG.iconst (v := nI 2) 42 dX4_as_41 (by decide) rfl ?_
          refine gG.callV 45 dX4_as_42 lX4_221 vX4_faultBy (c_faultBy Γ (nI 2)) rfl rfl ⟨by decide, by decide⟩ rfl ⟨by decide, rfl⟩ ⟨by decide, by decide⟩ (Nat.le_of_ble_eq_true rfl) rfl (fun r42 μ42 q42 hc42 => ?_)
          obtain ⟨rfl, rfl, rfl⟩ := hc42
          have h2 := CS_fa (nI 2) h1
          refine kG.goto 49 dX4_as_45 (by decide) ?_
          refine gG.iret dX4_as_49 rfl ?_
          first
            | (refine ⟨?_, ?_, fun k hk => by rw [uI_off (by omega), uI_off (by omega)]⟩; (unfold s_as; rw [if_pos (show inB _ (dP (aD S)) = true from hb), if_pos hy, ex, ey, if_pos e1]; rfl); (unfold n_as; rw [if_pos ⟨hb, hy, by rw [ex, ey]; exact e1⟩]; exact h2))
            | (refine ⟨?_, ?_, fun k hk => uI_off (by omega)⟩; (unfold s_as; rw [if_pos (show inB _ (dP (aD S)) = true from hb), if_pos hy, ex, ey, if_neg e1]); (unfold n_as; rw [if_neg (fun w => e1 (by have := w.2.2; rw [ex, ey] at this; exact this))]; exact h1))
      · have hy : bt y 0 2 = false := decide_eq_false (fun w => h21 (lt3.mpr w.2))
        refine kG.bipush (v := (-2)) 26 dX4_as_24 (by decide) rfl ?_
        refine gG.iret dX4_as_26 rfl ?_
        refine ⟨by unfold s_as; rw [if_pos (show inB x (dP (aD S)) = true from hb), if_neg (by rw [hy]; decide)], ?_, fun k hk => uI_off (by omega)⟩
        unfold n_as
        rw [if_neg (by rw [hy]; rintro ⟨_, w, _⟩; cases w)]
        exact h1
  · have hb : inB x (dP (aD S)) = false := b2_0.mp h10
    refine kG.iconst (v := (-1)) 14 dX4_as_13 (by decide) rfl ?_
    refine gG.iret dX4_as_14 rfl ?_
    refine ⟨by unfold s_as; rw [if_neg (by rw [hb]; decide)], ?_, fun k hk => uI_off (by omega)⟩
    unfold n_as
    rw [if_neg (by rw [hb]; rintro ⟨w, _⟩; cases w)]
    exact h1
set_option maxHeartbeats 4000000 in
theorem x_trace (Γ : kGm) {S : AS} {μ : kM} {q : kq4} (h : CS S μ q) : gC Γ yX4_trace mX4_trace 1 [.ref 1] μ q (PCi (aT S) (S) μ) := by
  refine gC.ofG (n := 0) ⟨by decide +kernel, rfl, rfl, by decide⟩ (Nat.le_of_ble_eq_true rfl) ?_
  show gG Γ mX4_trace 1 0 [some (.ref 1)] [] μ q _
  have ht := h.2.1.1
  have hD := h.2.2.1.1
  have okd := h.1.1
  have hH4 := h.1.1.1
  have hP6 := h.1.1.2.1
  refine kG.aload_n 1 dX4_trace_0 rfl rfl ?_
  refine gG.getI 4 dX4_trace_1 fX4_59 ⟨by decide, by decide⟩ rfl rfl rfl ?_
  refine gG.iret dX4_trace_4 rfl ?_
  exact ⟨by rw [h.2.2.2.2.2.1.1], h, fun _ _ => rfl⟩
set_option maxHeartbeats 4000000 in
theorem x_fault (Γ : kGm) {S : AS} {μ : kM} {q : kq4} (h : CS S μ q) : gC Γ yX4_fault mX4_fault 1 [.ref 1] μ q (PCi (aF S) (S) μ) := by
  refine gC.ofG (n := 0) ⟨by decide +kernel, rfl, rfl, by decide⟩ (Nat.le_of_ble_eq_true rfl) ?_
  show gG Γ mX4_fault 1 0 [some (.ref 1)] [] μ q _
  have ht := h.2.1.1
  have hD := h.2.2.1.1
  have okd := h.1.1
  have hH4 := h.1.1.1
  have hP6 := h.1.1.2.1
  refine kG.aload_n 1 dX4_fault_0 rfl rfl ?_
  refine gG.getI 4 dX4_fault_1 fX4_62 ⟨by decide, by decide⟩ rfl rfl rfl ?_
  refine gG.iret dX4_fault_4 rfl ?_
  exact ⟨by rw [h.2.2.2.2.2.1.2], h, fun _ _ => rfl⟩
set_option maxHeartbeats 4000000 in
theorem x_many (Γ : kGm) {S : AS} {μ : kM} {q : kq4} (h : CS S μ q) (x : Int32) : gC Γ yX4_many mX4_many 1 [.ref 1, .int x] μ q (PCi (s_many S x) (S) μ) := by
  refine gC.ofG (n := 0) ⟨by decide +kernel, rfl, rfl, by decide⟩ (Nat.le_of_ble_eq_true rfl) ?_
  show gG Γ mX4_many 1 0 [some (.ref 1), some (.int x)] [] μ q _
  have ht := h.2.1.1
  have hD := h.2.2.1.1
  have okd := h.1.1
  have hH4 := h.1.1.1
  have hP6 := h.1.1.2.1
  refine kG.iload_n 1 dX4_many_0 rfl rfl ?_
  by_cases hs1_0 : x = nI 0
  · rw [hs1_0]
    refine kG.tableIn 36 dX4_many_1 (by decide) (by decide) rfl (by decide) ?_
    refine kG.aload_n 37 dX4_many_36 rfl rfl ?_
    refine gG.getP 40 dX4_many_37 fX4_32 ⟨by decide, by decide⟩ rfl rfl rfl rfl ?_
    refine gG.getI 43 dX4_many_40 fX4_77 (isT_k h.2.1.1) (isT_s h.2.1.1) rfl rfl ?_
    refine gG.iret dX4_many_43 rfl ?_
    refine ⟨?_, h, fun _ _ => rfl⟩
    unfold s_many
    first | rw [hD.1]; rfl | rw [hD.1]
  by_cases hs1_1 : x = nI 1
  · rw [hs1_1]
    refine kG.tableIn 44 dX4_many_1 (by decide) (by decide) rfl (by decide) ?_
    refine kG.aload_n 45 dX4_many_44 rfl rfl ?_
    refine gG.getP 48 dX4_many_45 fX4_32 ⟨by decide, by decide⟩ rfl rfl rfl rfl ?_
    refine gG.getI 51 dX4_many_48 fX4_187 (isT_k h.2.1.1) (isT_s h.2.1.1) rfl rfl ?_
    refine gG.iret dX4_many_51 rfl ?_
    refine ⟨?_, h, fun _ _ => rfl⟩
    unfold s_many
    first | rw [hD.2.1]; rfl | rw [hD.2.1]
  by_cases hs1_2 : x = nI 2
  · rw [hs1_2]
    refine kG.tableIn 52 dX4_many_1 (by decide) (by decide) rfl (by decide) ?_
    refine kG.aload_n 53 dX4_many_52 rfl rfl ?_
    refine gG.getP 56 dX4_many_53 fX4_32 ⟨by decide, by decide⟩ rfl rfl rfl rfl ?_
    refine gG.getI 59 dX4_many_56 fX4_116 (isT_k h.2.1.1) (isT_s h.2.1.1) rfl rfl ?_
    refine gG.iret dX4_many_59 rfl ?_
    refine ⟨?_, h, fun _ _ => rfl⟩
    unfold s_many
    first | rw [h.2.2.1.2.1]; rfl | rw [h.2.2.1.2.1]
  by_cases hs1_3 : x = nI 3
  · rw [hs1_3]
    refine kG.tableIn 60 dX4_many_1 (by decide) (by decide) rfl (by decide) ?_
    refine kG.aload_n 61 dX4_many_60 rfl rfl ?_
    refine gG.getP 64 dX4_many_61 fX4_22 ⟨by decide, by decide⟩ rfl rfl rfl rfl ?_
    refine gG.getI 67 dX4_many_64 fX4_74 ⟨by decide, by decide⟩ rfl rfl rfl ?_
    refine gG.iret dX4_many_67 rfl ?_
    refine ⟨?_, h, fun _ _ => rfl⟩
    unfold s_many
    first | rw [h.2.2.2.1.1.1]; rfl | rw [h.2.2.2.1.1.1]
  by_cases hs1_4 : x = nI 4
  · rw [hs1_4]
    refine kG.tableIn 68 dX4_many_1 (by decide) (by decide) rfl (by decide) ?_
    refine kG.aload_n 69 dX4_many_68 rfl rfl ?_
    refine gG.getP 72 dX4_many_69 fX4_26 ⟨by decide, by decide⟩ rfl rfl rfl rfl ?_
    refine gG.getI 75 dX4_many_72 fX4_74 ⟨by decide, by decide⟩ rfl rfl rfl ?_
    refine gG.iret dX4_many_75 rfl ?_
    refine ⟨?_, h, fun _ _ => rfl⟩
    unfold s_many
    first | rw [h.2.2.2.1.2.2.1.1]; rfl | rw [h.2.2.2.1.2.2.1.1]
  · refine kG.tableOut 76 dX4_many_1 (ksw_5 hs1_0 hs1_1 hs1_2 hs1_3 hs1_4) (by decide) ?_
    refine kG.bipush (v := (-2)) 78 dX4_many_76 (by decide) rfl ?_
    refine gG.iret dX4_many_78 rfl ?_
    refine ⟨?_, h, fun _ _ => rfl⟩
    unfold s_many
    first | rw [if_neg hs1_0, if_neg hs1_1, if_neg hs1_2, if_neg hs1_3, if_neg hs1_4]; rfl | rw [if_neg hs1_0, if_neg hs1_1, if_neg hs1_2, if_neg hs1_3, if_neg hs1_4]
