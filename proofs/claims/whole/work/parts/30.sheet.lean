theorem fl_off {μ : kM} {k a : Nat} {v : Int32} {i : Nat} (h : a ≠ k) : fl μ k v i a = μ a := uA_ne h
theorem fl_in {μ : kM} {k j : Nat} {v : Int32} {i : Nat} (h : j < i) : fl μ k v i k j = v := by unfold fl; rw [uA_same, if_pos h]
theorem CS_rn {S : AS} {μ : kM} {q : kq4} (h : CS S μ q) {k : Nat} (hk : k < 4) (l n : Nat) (hl : l ≤ 3) (hn : n ≤ 60) (y : Int32) (hy : l ≠ 0 → y = nI n) : CS (sSh S (fu (aL S) k l) (fu (aN S) k n) (fu (aC S) k (fun _ => 0))) (fl (uI (uI μ (shc k) 1 (laI l)) (shc k) 2 y) (shc k + 1) (nI 0) 60) q := by
  refine CS_sh h hk l n _ hl hn ?_ (fun h0 => ⟨?_, fun i hi => ?_⟩) (fun j h1 h2 => ?_)
  · rw [fl_off (by omega), uI_ne (Or.inr (by decide)), uI_same]
  · rw [fl_off (by omega), uI_same]; exact hy h0
  · rw [fl_in (by omega)]; rfl
  · rw [fl_off h2, uI_off h1, uI_off h1]
set_option maxHeartbeats 4000000 in
theorem x_sheet (Γ : kGm) {S : AS} {μ : kM} {q : kq4} (h : CS S μ q) (x : Int32) (y : Int32) (z : Int32) : gC Γ yX4_sheet mX4_sheet 3 [.ref 1, .int x, .int y, .int z] μ q (PCi (s_sheet S x y z) (n_sheet S x y z) μ) := by
  refine gC.ofG (n := 0) ⟨by decide +kernel, rfl, rfl, by decide⟩ (Nat.le_of_ble_eq_true rfl) ?_
  show gG Γ mX4_sheet 3 0 [some (.ref 1), some (.int x), some (.int y), some (.int z)] [] μ q _
  have ht := h.2.1.1
  have hD := h.2.2.1.1
  have okd := h.1.1
  have hH4 := h.1.1.1
  have hP6 := h.1.1.2.1
  refine kG.aload_n 1 dX4_sheet_0 rfl rfl ?_
  refine kG.iconst (v := nI 0) 2 dX4_sheet_1 (by decide) rfl ?_
  refine gG.putI 5 dX4_sheet_2 fX4_62 ⟨by decide, by decide⟩ rfl rfl rfl ⟨rfl, rfl⟩ rfl ?_
  have h1 := CS_fa (nI 0) h
  refine kG.iload_n 6 dX4_sheet_5 rfl rfl ?_
  refine gG.callS 9 dX4_sheet_6 lX4_215 vX4_isSheet (c_isSh Γ x) rfl rfl ⟨by decide, by decide⟩ (Nat.le_of_ble_eq_true rfl) rfl (fun r6 μ6 q6 hc6 => ?_)
  obtain ⟨rfl, rfl, rfl⟩ := hc6
  refine kG.if_ne 14 12 dX4_sheet_9 (by decide) rfl (fun h9 => ?_) (fun h9 => ?_)
  · have hb6 := b2_n0.mp h9
    obtain ⟨kx, hkx, rfl, ex⟩ := inB_t (by decide) hb6
    have hl3 := (h.1.2.2.2.2.2.2.2 kx hkx).1
    have hn6 := (h.1.2.2.2.2.2.2.2 kx hkx).2
    refine kG.iload_n 15 dX4_sheet_14 rfl rfl ?_
    refine gG.callS 18 dX4_sheet_15 lX4_218 vX4_isLane (c_isLn Γ y) rfl rfl ⟨by decide, by decide⟩ (Nat.le_of_ble_eq_true rfl) rfl (fun r15 μ15 q15 hc15 => ?_)
    obtain ⟨rfl, rfl, rfl⟩ := hc15
    refine kG.if_eq 27 21 dX4_sheet_18 (by decide) rfl (fun h18 => ?_) (fun h18 => ?_)
    · have hb15 := b2_0.mp h18
      have hbad : (inB y 3 && !decide (nI 60 < z)) = false := by rw [hb15]; rfl
      have hbad2 : ¬ (inB (nI kx) 4 = true ∧ inB y 3 = true ∧ ¬ nI 60 < z) := by rw [hb15]; rintro ⟨_, c, _⟩; cases c
      refine kG.bipush (v := (-2)) 29 dX4_sheet_27 (by decide) rfl ?_
      refine gG.iret dX4_sheet_29 rfl ?_
      refine ⟨?_, ?_, fun k hk => uI_off (by omega)⟩
      · unfold s_sheet
        rw [if_pos hb6, if_neg (by rw [hbad]; decide)]
      · unfold n_sheet
        rw [if_neg hbad2]
        exact h1
    · have hb15 := b2_n0.mp h18
      refine kG.iload_n 22 dX4_sheet_21 rfl rfl ?_
      refine kG.bipush (v := nI 60) 24 dX4_sheet_22 (by decide) rfl ?_
      refine kG.icmp_le 30 27 dX4_sheet_24 (by decide) rfl (fun h24 => ?_) (fun h24 => ?_)
      · have hz := Int32.not_lt.mpr h24
        have hgd : (inB y 3 && !decide (nI 60 < z)) = true := by rw [hb15, decide_eq_false hz]; rfl
        refine kG.iload_n 31 dX4_sheet_30 rfl rfl ?_
        refine kG.if_ge 40 34 dX4_sheet_31 (by decide) rfl (fun h31 => ?_) (fun h31 => ?_)
        · have hw : ¬ z < 0 := Int32.not_lt.mpr h31
          obtain ⟨ky, hky, rfl, ey⟩ := inB_t (by decide) hb15
          obtain ⟨kz, hkz, rfl⟩ := n_le (n := 60) (by decide) hw hz
          have ez := ixn_n (k := kz) (by omega)
          refine kG.aload_n 41 dX4_sheet_40 rfl rfl ?_
          refine gG.getP 44 dX4_sheet_41 fX4_13 ⟨by decide, by decide⟩ rfl rfl rfl rfl ?_
          refine kG.iload_n 45 dX4_sheet_44 rfl rfl ?_
          refine gG.aald (n := 4) _ 46 dX4_sheet_45 ⟨by decide, by decide⟩ rfl rfl (by omega) (by decide) (PI_sh (by omega)) rfl ?_
          refine kG.iload_n 47 dX4_sheet_46 rfl rfl ?_
          refine kG.iload_n 48 dX4_sheet_47 rfl rfl ?_
          refine gG.callV 51 dX4_sheet_48 lX4_224 vX1_renew (c_renew Γ (shc_S hkx) _ _) rfl rfl (isS_k (shc_S (by omega))) (isS_s (shc_S (by omega))) ⟨by decide, rfl⟩ ⟨by decide, by decide⟩ (Nat.le_of_ble_eq_true rfl) rfl (fun r48 μ48 q48 hc48 => ?_)
          obtain ⟨rfl, rfl, rfl⟩ := hc48
          have h3 := CS_rn h1 hkx (ky + 1) kz (by omega) (by omega) (nI kz) (fun _ => rfl)
          rw [laI_n (by omega), Nat.add_sub_cancel] at h3
          refine kG.iconst (v := nI 1) 52 dX4_sheet_51 (by decide) rfl ?_
          refine gG.iret dX4_sheet_52 rfl ?_
          refine ⟨?_, ?_, fun k hk => by rw [fl_off (by unfold shc; omega), uI_off (by unfold shc; omega), uI_off (by unfold shc; omega), uI_off (by omega)]⟩
          · unfold s_sheet
            rw [if_pos hb6, if_pos hgd, if_neg hw]
          · unfold n_sheet
            rw [if_pos ⟨hb6, hb15, hz⟩, if_neg hw, ex, ey, ez]
            exact h3
        · have hw : z < 0 := Int32.not_le.mp h31
          refine kG.aload_n 35 dX4_sheet_34 rfl rfl ?_
          refine kG.iconst (v := nI 4) 36 dX4_sheet_35 (by decide) rfl ?_
          refine gG.callV 39 dX4_sheet_36 lX4_221 vX4_faultBy (c_faultBy Γ (nI 4)) rfl rfl ⟨by decide, by decide⟩ rfl ⟨by decide, rfl⟩ ⟨by decide, by decide⟩ (Nat.le_of_ble_eq_true rfl) rfl (fun r36 μ36 q36 hc36 => ?_)
          obtain ⟨rfl, rfl, rfl⟩ := hc36
          have h2 := CS_fa (nI 4) h1
          refine gG.iret dX4_sheet_39 rfl ?_
          refine ⟨?_, ?_, fun k hk => by rw [uI_off (by omega), uI_off (by omega)]⟩
          · unfold s_sheet
            rw [if_pos hb6, if_pos hgd, if_pos hw]
            rfl
          · unfold n_sheet
            rw [if_pos ⟨hb6, hb15, hz⟩, if_pos hw]
            exact h2
      · have hz := Int32.not_le.mp h24
        have hbad : (inB y 3 && !decide (nI 60 < z)) = false := by rw [decide_eq_true hz, show (!true) = false from rfl, Bool.and_false]
        have hbad2 : ¬ (inB (nI kx) 4 = true ∧ inB y 3 = true ∧ ¬ nI 60 < z) := fun c => c.2.2 hz
        refine kG.bipush (v := (-2)) 29 dX4_sheet_27 (by decide) rfl ?_
        refine gG.iret dX4_sheet_29 rfl ?_
        refine ⟨?_, ?_, fun k hk => uI_off (by omega)⟩
        · unfold s_sheet
          rw [if_pos hb6, if_neg (by rw [hbad]; decide)]
        · unfold n_sheet
          rw [if_neg hbad2]
          exact h1
  · have hb6 := b2_0.mp h9
    refine kG.iconst (v := (-1)) 13 dX4_sheet_12 (by decide) rfl ?_
    refine gG.iret dX4_sheet_13 rfl ?_
    refine ⟨?_, ?_, fun k hk => uI_off (by omega)⟩
    · unfold s_sheet
      rw [if_neg (by rw [hb6]; decide)]
    · unfold n_sheet
      rw [if_neg (by rw [hb6]; rintro ⟨c, _⟩; cases c)]
      exact h1
set_option maxHeartbeats 4000000 in
theorem x_lose (Γ : kGm) {S : AS} {μ : kM} {q : kq4} (h : CS S μ q) (x : Int32) : gC Γ yX4_lose mX4_lose 3 [.ref 1, .int x] μ q (PCi (s_lose S x) (n_lose S x) μ) := by
  refine gC.ofG (n := 0) ⟨by decide +kernel, rfl, rfl, by decide⟩ (Nat.le_of_ble_eq_true rfl) ?_
  show gG Γ mX4_lose 3 0 [some (.ref 1), some (.int x)] [] μ q _
  have ht := h.2.1.1
  have hD := h.2.2.1.1
  have okd := h.1.1
  have hH4 := h.1.1.1
  have hP6 := h.1.1.2.1
  refine kG.iload_n 1 dX4_lose_0 rfl rfl ?_
  refine gG.callS 4 dX4_lose_1 lX4_215 vX4_isSheet (c_isSh Γ x) rfl rfl ⟨by decide, by decide⟩ (Nat.le_of_ble_eq_true rfl) rfl (fun r1 μ1 q1 hc1 => ?_)
  obtain ⟨rfl, rfl, rfl⟩ := hc1
  refine kG.if_ne 9 7 dX4_lose_4 (by decide) rfl (fun h4 => ?_) (fun h4 => ?_)
  · have hb6 := b2_n0.mp h4
    obtain ⟨kx, hkx, rfl, ex⟩ := inB_t (by decide) hb6
    have hl3 := (h.1.2.2.2.2.2.2.2 kx hkx).1
    have hn6 := (h.1.2.2.2.2.2.2.2 kx hkx).2
    refine kG.aload_n 10 dX4_lose_9 rfl rfl ?_
    refine gG.getP 13 dX4_lose_10 fX4_13 ⟨by decide, by decide⟩ rfl rfl rfl rfl ?_
    refine kG.iload_n 14 dX4_lose_13 rfl rfl ?_
    refine gG.aald (n := 4) _ 15 dX4_lose_14 ⟨by decide, by decide⟩ rfl rfl (by omega) (by decide) (PI_sh (by omega)) rfl ?_
    refine gG.callV 18 dX4_lose_15 lX4_228 vX1_hasNothing (c_hN Γ h hkx) rfl rfl (isS_k (shc_S (by omega))) (isS_s (shc_S (by omega))) ⟨by decide, rfl⟩ ⟨by decide, by decide⟩ (Nat.le_of_ble_eq_true rfl) rfl (fun r15 μ15 q15 hc15 => ?_)
    obtain ⟨rfl, rfl, rfl⟩ := hc15
    refine kG.if_eq 23 21 dX4_lose_18 (by decide) rfl (fun h18 => ?_) (fun h18 => ?_)
    · have hn0 : ¬ aL S kx = 0 := of_decide_eq_false (b2_0.mp h18)
      refine kG.aload_n 24 dX4_lose_23 rfl rfl ?_
      refine gG.getP 27 dX4_lose_24 fX4_13 ⟨by decide, by decide⟩ rfl rfl rfl rfl ?_
      refine kG.iload_n 28 dX4_lose_27 rfl rfl ?_
      refine gG.aald (n := 4) _ 29 dX4_lose_28 ⟨by decide, by decide⟩ rfl rfl (by omega) (by decide) (PI_sh (by omega)) rfl ?_
      refine kG.iconst (v := (-1)) 30 dX4_lose_29 (by decide) rfl ?_
      refine kG.iconst (v := nI 0) 31 dX4_lose_30 (by decide) rfl ?_
      refine gG.callV 34 dX4_lose_31 lX4_224 vX1_renew (c_renew Γ (shc_S hkx) _ _) rfl rfl (isS_k (shc_S (by omega))) (isS_s (shc_S (by omega))) ⟨by decide, rfl⟩ ⟨by decide, by decide⟩ (Nat.le_of_ble_eq_true rfl) rfl (fun r31 μ31 q31 hc31 => ?_)
      obtain ⟨rfl, rfl, rfl⟩ := hc31
      have h3 := CS_sh (μ' := fl (uI (uI μ15 (shc kx) 1 (-1)) (shc kx) 2 (nI 0)) (shc kx + 1) (nI 0) 60) h hkx 0 (aN S kx) (aC S kx) (by decide) (by omega) (by rw [fl_off (by omega), uI_ne (Or.inr (by decide)), uI_same]; rfl) (fun c => absurd rfl c) (fun j c1 c2 => by rw [fl_off c2, uI_off c1, uI_off c1])
      rw [fu_id, fu_id] at h3
      refine kG.iconst (v := nI 1) 35 dX4_lose_34 (by decide) rfl ?_
      refine gG.iret dX4_lose_35 rfl ?_
      refine ⟨?_, ?_, fun k hk => by rw [fl_off (by unfold shc; omega), uI_off (by unfold shc; omega), uI_off (by unfold shc; omega)]⟩
      · unfold s_lose
        rw [if_pos hb6, ex, if_neg hn0]
      · unfold n_lose
        rw [if_pos hb6, ex]
        exact h3
    · have hn0 : aL S kx = 0 := of_decide_eq_true (b2_n0.mp h18)
      refine kG.iconst (v := nI 0) 22 dX4_lose_21 (by decide) rfl ?_
      refine gG.iret dX4_lose_22 rfl ?_
      refine ⟨?_, ?_, fun _ _ => rfl⟩
      · unfold s_lose
        rw [if_pos hb6, ex, if_pos hn0]
      · unfold n_lose
        rw [if_pos hb6, ex, show fu (aL S) kx 0 = aL S by rw [← hn0, fu_id]]
        exact h
  · have hb6 := b2_0.mp h4
    refine kG.iconst (v := (-1)) 8 dX4_lose_7 (by decide) rfl ?_
    refine gG.iret dX4_lose_8 rfl ?_
    refine ⟨?_, ?_, fun _ _ => rfl⟩
    · unfold s_lose
      rw [if_neg (by rw [hb6]; decide)]
    · unfold n_lose
      rw [if_neg (by rw [hb6]; decide)]
      exact h
set_option maxHeartbeats 4000000 in
theorem x_put (Γ : kGm) {S : AS} {μ : kM} {q : kq4} (h : CS S μ q) (x : Int32) (y : Int32) (z : Int32) : gC Γ yX4_put mX4_put 3 [.ref 1, .int x, .int y, .int z] μ q (PCi (s_put S x y z) (n_put S x y z) μ) := by
  refine gC.ofG (n := 0) ⟨by decide +kernel, rfl, rfl, by decide⟩ (Nat.le_of_ble_eq_true rfl) ?_
  show gG Γ mX4_put 3 0 [some (.ref 1), some (.int x), some (.int y), some (.int z)] [] μ q _
  have ht := h.2.1.1
  have hD := h.2.2.1.1
  have okd := h.1.1
  have hH4 := h.1.1.1
  have hP6 := h.1.1.2.1
  refine kG.aload_n 1 dX4_put_0 rfl rfl ?_
  refine kG.iconst (v := nI 0) 2 dX4_put_1 (by decide) rfl ?_
  refine gG.putI 5 dX4_put_2 fX4_62 ⟨by decide, by decide⟩ rfl rfl rfl ⟨rfl, rfl⟩ rfl ?_
  have h1 := CS_fa (nI 0) h
  refine kG.iload_n 6 dX4_put_5 rfl rfl ?_
  refine gG.callS 9 dX4_put_6 lX4_215 vX4_isSheet (c_isSh Γ x) rfl rfl ⟨by decide, by decide⟩ (Nat.le_of_ble_eq_true rfl) rfl (fun r6 μ6 q6 hc6 => ?_)
  obtain ⟨rfl, rfl, rfl⟩ := hc6
  refine kG.if_ne 14 12 dX4_put_9 (by decide) rfl (fun h9 => ?_) (fun h9 => ?_)
  · have hb6 := b2_n0.mp h9
    obtain ⟨kx, hkx, rfl, ex⟩ := inB_t (by decide) hb6
    have hl3 := (h.1.2.2.2.2.2.2.2 kx hkx).1
    have hn6 := (h.1.2.2.2.2.2.2.2 kx hkx).2
    refine kG.aload_n 15 dX4_put_14 rfl rfl ?_
    refine gG.getP 18 dX4_put_15 fX4_13 ⟨by decide, by decide⟩ rfl rfl rfl rfl ?_
    refine kG.iload_n 19 dX4_put_18 rfl rfl ?_
    refine gG.aald (n := 4) _ 20 dX4_put_19 ⟨by decide, by decide⟩ rfl rfl (by omega) (by decide) (PI_sh (by omega)) rfl ?_
    refine gG.callV 23 dX4_put_20 lX4_228 vX1_hasNothing (c_hN Γ h1 hkx) rfl rfl (isS_k (shc_S (by omega))) (isS_s (shc_S (by omega))) ⟨by decide, rfl⟩ ⟨by decide, by decide⟩ (Nat.le_of_ble_eq_true rfl) rfl (fun r20 μ20 q20 hc20 => ?_)
    obtain ⟨rfl, rfl, rfl⟩ := hc20
    refine kG.if_eq 32 26 dX4_put_23 (by decide) rfl (fun h23 => ?_) (fun h23 => ?_)
    · have hn0 : ¬ aL S kx = 0 := of_decide_eq_false (b2_0.mp h23)
      refine kG.aload_n 33 dX4_put_32 rfl rfl ?_
      refine gG.getP 36 dX4_put_33 fX4_13 ⟨by decide, by decide⟩ rfl rfl rfl rfl ?_
      refine kG.iload_n 37 dX4_put_36 rfl rfl ?_
      refine gG.aald (n := 4) _ 38 dX4_put_37 ⟨by decide, by decide⟩ rfl rfl (by omega) (by decide) (PI_sh (by omega)) rfl ?_
      refine kG.iload_n 39 dX4_put_38 rfl rfl ?_
      refine gG.callV 42 dX4_put_39 lX4_231 vX1_hasCell (c_hC Γ h1 hkx hn0 y) rfl rfl (isS_k (shc_S (by omega))) (isS_s (shc_S (by omega))) ⟨by decide, rfl⟩ ⟨by decide, by decide⟩ (Nat.le_of_ble_eq_true rfl) rfl (fun r39 μ39 q39 hc39 => ?_)
      obtain ⟨rfl, rfl, rfl⟩ := hc39
      refine kG.if_ne 51 45 dX4_put_42 (by decide) rfl (fun h42 => ?_) (fun h42 => ?_)
      · have hy : inB y (aN S kx) = true := b2_n0.mp h42
        obtain ⟨ky, hky, rfl, ey⟩ := inB_t (by omega) hy
        have g1 := h1.2.2.2.2.1 kx hkx
        have g2 := g1.2 hn0
        refine kG.aload_n 52 dX4_put_51 rfl rfl ?_
        refine gG.getP 55 dX4_put_52 fX4_13 ⟨by decide, by decide⟩ rfl rfl rfl rfl ?_
        refine kG.iload_n 56 dX4_put_55 rfl rfl ?_
        refine gG.aald (n := 4) _ 57 dX4_put_56 ⟨by decide, by decide⟩ rfl rfl (by omega) (by decide) (PI_sh (by omega)) rfl ?_
        refine kG.iload_n 58 dX4_put_57 rfl rfl ?_
        refine kG.iload_n 59 dX4_put_58 rfl rfl ?_
        refine gG.callV 62 dX4_put_59 lX4_234 vX1_write (c_write Γ (shc_S hkx) (aN S kx) hn6 g2.1 ky hky z) rfl rfl (isS_k (shc_S (by omega))) (isS_s (shc_S (by omega))) ⟨by decide, rfl⟩ ⟨by decide, by decide⟩ (Nat.le_of_ble_eq_true rfl) rfl (fun r59 μ59 q59 hc59 => ?_)
        obtain ⟨rfl, rfl, rfl⟩ := hc59
        have h3 := CS_sh (μ' := uI (uI μ 1 10 (nI 0)) (shc kx + 1) ky (cutL (aL S kx) z)) h1 hkx (aL S kx) (aN S kx) (fu (aC S kx) ky (cutL (aL S kx) z)) hl3 hn6 (by rw [uI_off (by omega)]; exact g1.1) (fun _ => ⟨by rw [uI_off (by omega)]; exact g2.1, fun i hi => by
          by_cases e : i = ky
          · subst e; rw [uI_same, fu_s]
          · rw [uI_ne (Or.inr e), fu_n e]; exact g2.2 i hi⟩) (fun j c1 c2 => uI_off c2)
        have h4 : CS (sFa (sSh S (aL S) (aN S) (fu (aC S) kx (fu (aC S kx) ky (cutL (aL S kx) z)))) (nI 0)) (uI (uI μ 1 10 (nI 0)) (shc kx + 1) ky (cutL (aL S kx) z)) q59 := by
          have e1 := fu_id (aL S) kx
          have e2 := fu_id (aN S) kx
          rw [show fu (aL (sFa S (nI 0))) kx (aL S kx) = aL S from e1, show fu (aN (sFa S (nI 0))) kx (aN S kx) = aN S from e2] at h3
          exact h3
        have e9 := g1.1
        rw [show aL (sFa S (nI 0)) kx = aL S kx from rfl] at e9
        rw [e9, cut_eq hl3]
        refine kG.iconst (v := nI 1) 63 dX4_put_62 (by decide) rfl ?_
        refine gG.iret dX4_put_63 rfl ?_
        refine ⟨?_, ?_, fun k hk => by rw [uI_off (by unfold shc; omega), uI_off (by omega)]⟩
        · unfold s_put
          rw [if_pos hb6, ex, if_neg hn0, if_pos hy]
        · unfold n_put
          rw [if_pos hb6, ex, if_neg hn0, if_pos hy, ey]
          exact h4
      · have hy : inB y (aN S kx) = false := b2_0.mp h42
        refine kG.aload_n 46 dX4_put_45 rfl rfl ?_
        refine kG.iconst (v := nI 3) 47 dX4_put_46 (by decide) rfl ?_
        refine gG.callV 50 dX4_put_47 lX4_221 vX4_faultBy (c_faultBy Γ (nI 3)) rfl rfl ⟨by decide, by decide⟩ rfl ⟨by decide, rfl⟩ ⟨by decide, by decide⟩ (Nat.le_of_ble_eq_true rfl) rfl (fun r47 μ47 q47 hc47 => ?_)
        obtain ⟨rfl, rfl, rfl⟩ := hc47
        have h2 := CS_fa (nI 3) h1
        refine gG.iret dX4_put_50 rfl ?_
        refine ⟨?_, ?_, fun k hk => by rw [uI_off (by omega), uI_off (by omega)]⟩
        · unfold s_put
          rw [if_pos hb6, ex, if_neg hn0, if_neg (by rw [hy]; decide)]
          rfl
        · unfold n_put
          rw [if_pos hb6, ex, if_neg hn0, if_neg (by rw [hy]; decide)]
          exact h2
    · have hn0 : aL S kx = 0 := of_decide_eq_true (b2_n0.mp h23)
      refine kG.aload_n 27 dX4_put_26 rfl rfl ?_
      refine kG.iconst (v := nI 1) 28 dX4_put_27 (by decide) rfl ?_
      refine gG.callV 31 dX4_put_28 lX4_221 vX4_faultBy (c_faultBy Γ (nI 1)) rfl rfl ⟨by decide, by decide⟩ rfl ⟨by decide, rfl⟩ ⟨by decide, by decide⟩ (Nat.le_of_ble_eq_true rfl) rfl (fun r28 μ28 q28 hc28 => ?_)
      obtain ⟨rfl, rfl, rfl⟩ := hc28
      have h2 := CS_fa (nI 1) h1
      refine gG.iret dX4_put_31 rfl ?_
      refine ⟨?_, ?_, fun k hk => by rw [uI_off (by omega), uI_off (by omega)]⟩
      · unfold s_put
        rw [if_pos hb6, ex, if_pos hn0]
        rfl
      · unfold n_put
        rw [if_pos hb6, ex, if_pos hn0]
        exact h2
  · have hb6 := b2_0.mp h9
    refine kG.iconst (v := (-1)) 13 dX4_put_12 (by decide) rfl ?_
    refine gG.iret dX4_put_13 rfl ?_
    refine ⟨?_, ?_, fun k hk => uI_off (by omega)⟩
    · unfold s_put
      rw [if_neg (by rw [hb6]; decide)]
    · unfold n_put
      rw [if_neg (by rw [hb6]; decide)]
      exact h1
set_option maxHeartbeats 4000000 in
theorem x_cell (Γ : kGm) {S : AS} {μ : kM} {q : kq4} (h : CS S μ q) (x : Int32) (y : Int32) (z : Int32) : gC Γ yX4_cell mX4_cell 3 [.ref 1, .int x, .int y, .int z] μ q (PCl (s_cell S x y z) (n_cell S x y z) μ) := by
  refine gC.ofG (n := 0) ⟨by decide +kernel, rfl, rfl, by decide⟩ (Nat.le_of_ble_eq_true rfl) ?_
  show gG Γ mX4_cell 3 0 [some (.ref 1), some (.int x), some (.int y), some (.int z)] [] μ q _
  have ht := h.2.1.1
  have hD := h.2.2.1.1
  have okd := h.1.1
  have hH4 := h.1.1.1
  have hP6 := h.1.1.2.1
  refine kG.aload_n 1 dX4_cell_0 rfl rfl ?_
  refine kG.iload_n 2 dX4_cell_1 rfl rfl ?_
  refine kG.iload_n 3 dX4_cell_2 rfl rfl ?_
  refine gG.callV 6 dX4_cell_3 lX4_237 vX4_refusalOfLane (x_refL Γ h x z) rfl rfl ⟨by decide, by decide⟩ rfl ⟨by decide, rfl⟩ ⟨by decide, by decide⟩ (Nat.le_of_ble_eq_true rfl) rfl (fun r3 μ3 q3 hc3 => ?_)
  obtain ⟨rfl, hr, fr⟩ := hc3
  refine kG.if_eq 13 9 dX4_cell_6 (by decide) rfl (fun h6 => ?_) (fun h6 => ?_)
  · have hl := oA_la.mp h6
    rw [hl] at hr
    have hr : CS (sFa S (nI 0)) _ _ := hr
    obtain ⟨hb6, hb15, hn0⟩ := laF_t hl
    obtain ⟨kx, hkx, rfl, ex⟩ := inB_t (by decide) hb6
    have hl3 := (h.1.2.2.2.2.2.2.2 kx hkx).1
    have hn6 := (h.1.2.2.2.2.2.2.2 kx hkx).2
    rw [ex] at hn0
    refine kG.aload_n 14 dX4_cell_13 rfl rfl ?_
    refine gG.getP 17 dX4_cell_14 fX4_13 ⟨by decide, by decide⟩ rfl rfl rfl rfl ?_
    refine kG.iload_n 18 dX4_cell_17 rfl rfl ?_
    refine gG.aald (n := 4) _ 19 dX4_cell_18 ⟨by decide, by decide⟩ rfl rfl (by omega) (by decide) (PI_sh (by omega)) rfl ?_
    refine kG.iload_n 20 dX4_cell_19 rfl rfl ?_
    refine gG.callV 23 dX4_cell_20 lX4_231 vX1_hasCell (c_hC Γ hr hkx hn0 y) rfl rfl (isS_k (shc_S (by omega))) (isS_s (shc_S (by omega))) ⟨by decide, rfl⟩ ⟨by decide, by decide⟩ (Nat.le_of_ble_eq_true rfl) rfl (fun r20 μ20 q20 hc20 => ?_)
    obtain ⟨rfl, rfl, rfl⟩ := hc20
    refine kG.if_ne 36 26 dX4_cell_23 (by decide) rfl (fun h23 => ?_) (fun h23 => ?_)
    · have hy : inB y (aN S kx) = true := b2_n0.mp h23
      obtain ⟨ky, hky, rfl, ey⟩ := inB_t (by omega) hy
      have g2 := (hr.2.2.2.2.1 kx hkx).2 hn0
      refine kG.aload_n 37 dX4_cell_36 rfl rfl ?_
      refine gG.getP 40 dX4_cell_37 fX4_13 ⟨by decide, by decide⟩ rfl rfl rfl rfl ?_
      refine kG.iload_n 41 dX4_cell_40 rfl rfl ?_
      refine gG.aald (n := 4) _ 42 dX4_cell_41 ⟨by decide, by decide⟩ rfl rfl (by omega) (by decide) (PI_sh (by omega)) rfl ?_
      refine kG.iload_n 43 dX4_cell_42 rfl rfl ?_
      refine gG.callV 46 dX4_cell_43 lX4_205 vX1_read (c_read Γ (shc_S hkx) (aN S kx) hn6 g2.1 ky (by omega)) rfl rfl (isS_k (shc_S (by omega))) (isS_s (shc_S (by omega))) ⟨by decide, rfl⟩ ⟨by decide, by decide⟩ (Nat.le_of_ble_eq_true rfl) rfl (fun r43 μ43 q43 hc43 => ?_)
      obtain ⟨rfl, rfl, rfl⟩ := hc43
      rw [if_pos hky, g2.2 ky hky]
      refine kG.i2l 47 dX4_cell_46 rfl ?_
      refine gG.lret dX4_cell_47 rfl ?_
      refine ⟨?_, ?_, fr⟩
      · unfold s_cell
        rw [hl]; simp only []; rw [ex, if_pos hy, ey]
        rfl
      · unfold n_cell
        rw [hl]; simp only []; rw [ex, if_pos hy]
        exact hr
    · have hy : inB y (aN S kx) = false := b2_0.mp h23
      refine kG.aload_n 27 dX4_cell_26 rfl rfl ?_
      refine kG.iconst (v := nI 3) 28 dX4_cell_27 (by decide) rfl ?_
      refine gG.callV 31 dX4_cell_28 lX4_221 vX4_faultBy (c_faultBy Γ (nI 3)) rfl rfl ⟨by decide, by decide⟩ rfl ⟨by decide, rfl⟩ ⟨by decide, by decide⟩ (Nat.le_of_ble_eq_true rfl) rfl (fun r28 μ28 q28 hc28 => ?_)
      obtain ⟨rfl, rfl, rfl⟩ := hc28
      have h2 := CS_fa (nI 3) hr
      refine kG.pop 32 dX4_cell_31 rfl rfl ?_
      refine kG.ldc2 35 dX4_cell_32 kX4_185 rfl ?_
      refine gG.lret dX4_cell_35 rfl ?_
      refine ⟨?_, ?_, fun k hk => by rw [uI_off (by omega), fr k hk]⟩
      · unfold s_cell
        rw [hl]; simp only []; rw [ex, if_neg (by rw [hy]; decide)]
      · unfold n_cell
        rw [hl]; simp only []; rw [ex, if_neg (by rw [hy]; decide)]
        exact h2
  · have hl : ¬ laF S x z = none := fun c => h6 (oA_la.mpr c)
    refine kG.ldc2 12 dX4_cell_9 kX4_185 rfl ?_
    refine gG.lret dX4_cell_12 rfl ?_
    cases hlf : laF S x z with
    | none => exact absurd hlf hl
    | some e =>
      rw [hlf] at hr
      refine ⟨?_, ?_, fr⟩
      · unfold s_cell
        rw [hlf]
      · unfold n_cell
        rw [hlf]
        exact hr
set_option maxHeartbeats 4000000 in
theorem x_copy (Γ : kGm) {S : AS} {μ : kM} {q : kq4} (h : CS S μ q) (x : Int32) (y : Int32) (z : Int32) (w : Int32) (v : Int32) : gC Γ yX4_copy mX4_copy 3 [.ref 1, .int x, .int y, .int z, .int w, .int v] μ q (PCi (s_copy S x y z w v) (n_copy S x y z w v) μ) := by
  refine gC.ofG (n := 0) ⟨by decide +kernel, rfl, rfl, by decide⟩ (Nat.le_of_ble_eq_true rfl) ?_
  show gG Γ mX4_copy 3 0 [some (.ref 1), some (.int x), some (.int y), some (.int z), some (.int w), some (.int v), none, none] [] μ q _
  have ht := h.2.1.1
  have hD := h.2.2.1.1
  have okd := h.1.1
  have hH4 := h.1.1.1
  have hP6 := h.1.1.2.1
  refine kG.aload_n 1 dX4_copy_0 rfl rfl ?_
  refine kG.iconst (v := nI 0) 2 dX4_copy_1 (by decide) rfl ?_
  refine gG.putI 5 dX4_copy_2 fX4_62 ⟨by decide, by decide⟩ rfl rfl rfl ⟨rfl, rfl⟩ rfl ?_
  have h1 := CS_fa (nI 0) h
  refine kG.iload_n 6 dX4_copy_5 rfl rfl ?_
  refine gG.callS 9 dX4_copy_6 lX4_215 vX4_isSheet (c_isSh Γ x) rfl rfl ⟨by decide, by decide⟩ (Nat.le_of_ble_eq_true rfl) rfl (fun r6 μ6 q6 hc6 => ?_)
  obtain ⟨rfl, rfl, rfl⟩ := hc6
  refine kG.if_eq 19 12 dX4_copy_9 (by decide) rfl (fun h9 => ?_) (fun h9 => ?_)
  · have hb6 := b2_0.mp h9
    have hbad : (inB x 4 && inB z 4) = false := by rw [hb6]; rfl
    refine kG.iconst (v := (-1)) 20 dX4_copy_19 (by decide) rfl ?_
    refine gG.iret dX4_copy_20 rfl ?_
    refine ⟨?_, ?_, fun k hk => uI_off (by omega)⟩
    · unfold s_copy
      rw [if_neg (by rw [hbad]; decide)]
    · unfold n_copy
      rw [if_neg (by rw [hbad]; decide)]
      exact h1
  · have hb6 := b2_n0.mp h9
    refine kG.iload_n 13 dX4_copy_12 rfl rfl ?_
    refine gG.callS 16 dX4_copy_13 lX4_215 vX4_isSheet (c_isSh Γ z) rfl rfl ⟨by decide, by decide⟩ (Nat.le_of_ble_eq_true rfl) rfl (fun r13 μ13 q13 hc13 => ?_)
    obtain ⟨rfl, rfl, rfl⟩ := hc13
    refine kG.if_ne 21 19 dX4_copy_16 (by decide) rfl (fun h16 => ?_) (fun h16 => ?_)
    · have hb13 := b2_n0.mp h16
      obtain ⟨kx, hkx, rfl, ex⟩ := inB_t (by decide) hb6
      have hl3 := (h.1.2.2.2.2.2.2.2 kx hkx).1
      have hn6 := (h.1.2.2.2.2.2.2.2 kx hkx).2
      obtain ⟨kz, hkz, rfl, ez⟩ := inB_t (by decide) hb13
      have hl3z := (h.1.2.2.2.2.2.2.2 kz hkz).1
      have hn6z := (h.1.2.2.2.2.2.2.2 kz hkz).2
      refine kG.aload_n 22 dX4_copy_21 rfl rfl ?_
      refine gG.getP 25 dX4_copy_22 fX4_13 ⟨by decide, by decide⟩ rfl rfl rfl rfl ?_
      refine kG.iload_n 26 dX4_copy_25 rfl rfl ?_
      refine gG.aald (n := 4) _ 27 dX4_copy_26 ⟨by decide, by decide⟩ rfl rfl (by omega) (by decide) (PI_sh (by omega)) rfl ?_
      refine kG.astore 29 dX4_copy_27 (by decide) rfl rfl ?_
      dsimp only [List.set]
      refine kG.aload_n 30 dX4_copy_29 rfl rfl ?_
      refine gG.getP 33 dX4_copy_30 fX4_13 ⟨by decide, by decide⟩ rfl rfl rfl rfl ?_
      refine kG.iload_n 34 dX4_copy_33 rfl rfl ?_
      refine gG.aald (n := 4) _ 35 dX4_copy_34 ⟨by decide, by decide⟩ rfl rfl (by omega) (by decide) (PI_sh (by omega)) rfl ?_
      refine kG.astore 37 dX4_copy_35 (by decide) rfl rfl ?_
      dsimp only [List.set]
      refine kG.aload 39 dX4_copy_37 rfl rfl ?_
      refine gG.callV 42 dX4_copy_39 lX4_228 vX1_hasNothing (c_hN Γ h1 hkx) rfl rfl (isS_k (shc_S (by omega))) (isS_s (shc_S (by omega))) ⟨by decide, rfl⟩ ⟨by decide, by decide⟩ (Nat.le_of_ble_eq_true rfl) rfl (fun r39 μ39 q39 hc39 => ?_)
      obtain ⟨rfl, rfl, rfl⟩ := hc39
      refine kG.if_ne 53 45 dX4_copy_42 (by decide) rfl (fun h42 => ?_) (fun h42 => ?_)
      · have hnn : aL S kx = 0 ∨ aL S kz = 0 := Or.inl (of_decide_eq_true (b2_n0.mp h42))
        refine kG.aload_n 54 dX4_copy_53 rfl rfl ?_
        refine kG.iconst (v := nI 1) 55 dX4_copy_54 (by decide) rfl ?_
        refine gG.callV 58 dX4_copy_55 lX4_221 vX4_faultBy (c_faultBy Γ (nI 1)) rfl rfl ⟨by decide, by decide⟩ rfl ⟨by decide, rfl⟩ ⟨by decide, by decide⟩ (Nat.le_of_ble_eq_true rfl) rfl (fun r55 μ55 q55 hc55 => ?_)
        obtain ⟨rfl, rfl, rfl⟩ := hc55
        have h2 := CS_fa (nI 1) h1
        refine gG.iret dX4_copy_58 rfl ?_
        refine ⟨?_, ?_, fun k hk => by rw [uI_off (by omega), uI_off (by omega)]⟩
        · unfold s_copy
          rw [if_pos (show (inB (nI kx) 4 && inB (nI kz) 4) = true by rw [hb6, hb13]; rfl), ex, ez, if_pos hnn]
          rfl
        · unfold n_copy
          rw [if_pos (show (inB (nI kx) 4 && inB (nI kz) 4) = true by rw [hb6, hb13]; rfl), ex, ez, if_pos hnn]
          exact h2
      · have hn0 : ¬ aL S kx = 0 := of_decide_eq_false (b2_0.mp h42)
        refine kG.aload 47 dX4_copy_45 rfl rfl ?_
        refine gG.callV 50 dX4_copy_47 lX4_228 vX1_hasNothing (c_hN Γ h1 hkz) rfl rfl (isS_k (shc_S (by omega))) (isS_s (shc_S (by omega))) ⟨by decide, rfl⟩ ⟨by decide, by decide⟩ (Nat.le_of_ble_eq_true rfl) rfl (fun r47 μ47 q47 hc47 => ?_)
        obtain ⟨rfl, rfl, rfl⟩ := hc47
        refine kG.if_eq 59 53 dX4_copy_50 (by decide) rfl (fun h50 => ?_) (fun h50 => ?_)
        · have hn0z : ¬ aL S kz = 0 := of_decide_eq_false (b2_0.mp h50)
          have hnn : ¬ (aL S kx = 0 ∨ aL S kz = 0) := fun c => c.elim hn0 hn0z
          have g1 := h1.2.2.2.2.1 kx hkx
          have g2 := h1.2.2.2.2.1 kz hkz
          have g3 := g1.2 hn0
          have g4 := g2.2 hn0z
          refine kG.aload 61 dX4_copy_59 rfl rfl ?_
          refine gG.getI 64 dX4_copy_61 fX4_240 (isS_k (shc_S (by omega))) (isS_s (shc_S (by omega))) rfl rfl ?_
          rw [show _ = laI (aL S kx) from g1.1]
          refine kG.aload 66 dX4_copy_64 rfl rfl ?_
          refine gG.getI 69 dX4_copy_66 fX4_240 (isS_k (shc_S (by omega))) (isS_s (shc_S (by omega))) rfl rfl ?_
          rw [show _ = laI (aL S kz) from g2.1]
          refine kG.icmp_eq 78 72 dX4_copy_69 (by decide) rfl (fun h69 => ?_) (fun h69 => ?_)
          · have el : aL S kx = aL S kz := (laI_eq hl3 hl3z).mp h69
            refine kG.aload 80 dX4_copy_78 rfl rfl ?_
            refine kG.iload_n 81 dX4_copy_80 rfl rfl ?_
            refine kG.iload 83 dX4_copy_81 rfl rfl ?_
            refine gG.callV 86 dX4_copy_83 lX4_243 vX1_hasCells (c_hCs Γ h1 hkx hn0 y v) rfl rfl (isS_k (shc_S (by omega))) (isS_s (shc_S (by omega))) ⟨by decide, rfl⟩ ⟨by decide, by decide⟩ (Nat.le_of_ble_eq_true rfl) rfl (fun r83 μ83 q83 hc83 => ?_)
            obtain ⟨rfl, rfl, rfl⟩ := hc83
            refine kG.if_eq 101 89 dX4_copy_86 (by decide) rfl (fun h86 => ?_) (fun h86 => ?_)
            · have hc1 := b2_0.mp h86
              have hcp : cpOk S (nI kx) y (nI kz) w v = false := by unfold cpOk; rw [ex, show decide (¬ y < 0 ∧ ¬ nI (aN S kx) < y ∧ ¬ v < 0 ∧ ¬ nI (aN S kx) - y < v) = false from hc1]; rfl
              refine kG.aload_n 102 dX4_copy_101 rfl rfl ?_
              refine kG.iconst (v := nI 3) 103 dX4_copy_102 (by decide) rfl ?_
              refine gG.callV 106 dX4_copy_103 lX4_221 vX4_faultBy (c_faultBy Γ (nI 3)) rfl rfl ⟨by decide, by decide⟩ rfl ⟨by decide, rfl⟩ ⟨by decide, by decide⟩ (Nat.le_of_ble_eq_true rfl) rfl (fun r103 μ103 q103 hc103 => ?_)
              obtain ⟨rfl, rfl, rfl⟩ := hc103
              have h2 := CS_fa (nI 3) h1
              refine gG.iret dX4_copy_106 rfl ?_
              refine ⟨?_, ?_, fun k hk => by rw [uI_off (by omega), uI_off (by omega)]⟩
              · unfold s_copy
                rw [if_pos (show (inB (nI kx) 4 && inB (nI kz) 4) = true by rw [hb6, hb13]; rfl), ex, ez, if_neg hnn, if_pos el, if_neg (by rw [hcp]; decide)]
                rfl
              · unfold n_copy
                rw [if_pos (show (inB (nI kx) 4 && inB (nI kz) 4) = true by rw [hb6, hb13]; rfl), ex, ez, if_neg hnn, if_pos el, if_neg (by rw [hcp]; decide)]
                exact h2
            · have hc1 := b2_n0.mp h86
              have hd1 := of_decide_eq_true hc1
              refine kG.aload 91 dX4_copy_89 rfl rfl ?_
              refine kG.iload 93 dX4_copy_91 rfl rfl ?_
              refine kG.iload 95 dX4_copy_93 rfl rfl ?_
              refine gG.callV 98 dX4_copy_95 lX4_243 vX1_hasCells (c_hCs Γ h1 hkz hn0z w v) rfl rfl (isS_k (shc_S (by omega))) (isS_s (shc_S (by omega))) ⟨by decide, rfl⟩ ⟨by decide, by decide⟩ (Nat.le_of_ble_eq_true rfl) rfl (fun r95 μ95 q95 hc95 => ?_)
              obtain ⟨rfl, rfl, rfl⟩ := hc95
              refine kG.if_ne 107 101 dX4_copy_98 (by decide) rfl (fun h98 => ?_) (fun h98 => ?_)
              · have hc2 := b2_n0.mp h98
                have hd2 := of_decide_eq_true hc2
                have hcp : cpOk S (nI kx) y (nI kz) w v = true := by unfold cpOk; rw [ex, ez, show decide (¬ w < 0 ∧ ¬ nI (aN S kz) < w ∧ ¬ v < 0 ∧ ¬ nI (aN S kz) - w < v) = true from hc2, show decide (¬ y < 0 ∧ ¬ nI (aN S kx) < y ∧ ¬ v < 0 ∧ ¬ nI (aN S kx) - y < v) = true from hc1]; rfl
                obtain ⟨ky, kv, rfl, rfl, hs1⟩ := hc_t hn6 hd1.2.2.1 hd1.1 hd1.2.1 hd1.2.2.2
                obtain ⟨kw, kv2, rfl, ev2, hs2⟩ := hc_t hn6z hd2.2.2.1 hd2.1 hd2.2.1 hd2.2.2.2
                have ev3 := (nI_eq (by omega) (by omega)).mp ev2
                subst ev3
                have iy := ixn_n (k := ky) (by omega)
                have iw := ixn_n (k := kw) (by omega)
                have iv := ixn_n (k := kv) (by omega)
                refine kG.aload 109 dX4_copy_107 rfl rfl ?_
                refine gG.getP 112 dX4_copy_109 fX4_246 (isS_k (shc_S (by omega))) (isS_s (shc_S (by omega))) rfl (PI_S (shc_S (by omega))) rfl ?_
                refine kG.iload_n 113 dX4_copy_112 rfl rfl ?_
                refine kG.aload 115 dX4_copy_113 rfl rfl ?_
                refine gG.getP 118 dX4_copy_115 fX4_246 (isS_k (shc_S (by omega))) (isS_s (shc_S (by omega))) rfl (PI_S (shc_S (by omega))) rfl ?_
                refine kG.iload 120 dX4_copy_118 rfl rfl ?_
                refine kG.iload 122 dX4_copy_120 rfl rfl ?_
                refine gG.copy ky kw kv 125 dX4_copy_122 lX4_249 (arS_k (shc_S (by omega))) (arS_k (shc_S (by omega))) (arS_s (shc_S (by omega))) (arS_s (shc_S (by omega))) rfl rfl rfl (show ky + kv ≤ 60 by omega) (show kw + kv ≤ 60 by omega) ⟨by decide, by decide⟩ (by decide) (Nat.le_of_ble_eq_true rfl) rfl ?_
                have h3 := CS_sh (μ' := uA (uI μ 1 10 (nI 0)) (shc kz + 1) (va_cpy (uI μ 1 10 (nI 0) (shc kx + 1)) (uI μ 1 10 (nI 0) (shc kz + 1)) ky kw kv)) h1 hkz (aL S kz) (aN S kz) (va_cpy (aC S kx) (aC S kz) ky kw kv) hl3z hn6z (by rw [uA_ne (by omega)]; exact g2.1) (fun _ => ⟨by rw [uA_ne (by omega)]; exact g4.1, fun i hi => by
                  rw [uA_same]
                  unfold va_cpy
                  by_cases e : kw ≤ i ∧ i < kw + kv
                  · rw [if_pos e, if_pos e]; exact g3.2 _ (show ky + (i - kw) < aN S kx by omega)
                  · rw [if_neg e, if_neg e]; exact g4.2 i hi⟩) (fun j c1 c2 => uA_ne c2)
                rw [show fu (aL (sFa S (nI 0))) kz (aL S kz) = aL S from fu_id (aL S) kz, show fu (aN (sFa S (nI 0))) kz (aN S kz) = aN S from fu_id (aN S) kz] at h3
                refine kG.iload 127 dX4_copy_125 rfl rfl ?_
                refine gG.iret dX4_copy_127 rfl ?_
                refine ⟨?_, ?_, fun k hk => by rw [uA_ne (by unfold shc; omega), uI_off (by omega)]⟩
                · unfold s_copy
                  rw [if_pos (show (inB (nI kx) 4 && inB (nI kz) 4) = true by rw [hb6, hb13]; rfl), ex, ez, if_neg hnn, if_pos el, if_pos hcp]
                · unfold n_copy
                  rw [if_pos (show (inB (nI kx) 4 && inB (nI kz) 4) = true by rw [hb6, hb13]; rfl), ex, ez, if_neg hnn, if_pos el, if_pos hcp, iy, iw, iv]
                  exact h3
              · have hc2 := b2_0.mp h98
                have hcp : cpOk S (nI kx) y (nI kz) w v = false := by unfold cpOk; rw [ez, show decide (¬ w < 0 ∧ ¬ nI (aN S kz) < w ∧ ¬ v < 0 ∧ ¬ nI (aN S kz) - w < v) = false from hc2, Bool.and_false]
                refine kG.aload_n 102 dX4_copy_101 rfl rfl ?_
                refine kG.iconst (v := nI 3) 103 dX4_copy_102 (by decide) rfl ?_
                refine gG.callV 106 dX4_copy_103 lX4_221 vX4_faultBy (c_faultBy Γ (nI 3)) rfl rfl ⟨by decide, by decide⟩ rfl ⟨by decide, rfl⟩ ⟨by decide, by decide⟩ (Nat.le_of_ble_eq_true rfl) rfl (fun r103 μ103 q103 hc103 => ?_)
                obtain ⟨rfl, rfl, rfl⟩ := hc103
                have h2 := CS_fa (nI 3) h1
                refine gG.iret dX4_copy_106 rfl ?_
                refine ⟨?_, ?_, fun k hk => by rw [uI_off (by omega), uI_off (by omega)]⟩
                · unfold s_copy
                  rw [if_pos (show (inB (nI kx) 4 && inB (nI kz) 4) = true by rw [hb6, hb13]; rfl), ex, ez, if_neg hnn, if_pos el, if_neg (by rw [hcp]; decide)]
                  rfl
                · unfold n_copy
                  rw [if_pos (show (inB (nI kx) 4 && inB (nI kz) 4) = true by rw [hb6, hb13]; rfl), ex, ez, if_neg hnn, if_pos el, if_neg (by rw [hcp]; decide)]
                  exact h2
          · have el : ¬ aL S kx = aL S kz := fun c => h69 (by rw [c])
            refine kG.aload_n 73 dX4_copy_72 rfl rfl ?_
            refine kG.iconst (v := nI 2) 74 dX4_copy_73 (by decide) rfl ?_
            refine gG.callV 77 dX4_copy_74 lX4_221 vX4_faultBy (c_faultBy Γ (nI 2)) rfl rfl ⟨by decide, by decide⟩ rfl ⟨by decide, rfl⟩ ⟨by decide, by decide⟩ (Nat.le_of_ble_eq_true rfl) rfl (fun r74 μ74 q74 hc74 => ?_)
            obtain ⟨rfl, rfl, rfl⟩ := hc74
            have h2 := CS_fa (nI 2) h1
            refine gG.iret dX4_copy_77 rfl ?_
            refine ⟨?_, ?_, fun k hk => by rw [uI_off (by omega), uI_off (by omega)]⟩
            · unfold s_copy
              rw [if_pos (show (inB (nI kx) 4 && inB (nI kz) 4) = true by rw [hb6, hb13]; rfl), ex, ez, if_neg hnn, if_neg el]
              rfl
            · unfold n_copy
              rw [if_pos (show (inB (nI kx) 4 && inB (nI kz) 4) = true by rw [hb6, hb13]; rfl), ex, ez, if_neg hnn, if_neg el]
              exact h2
        · have hnn : aL S kx = 0 ∨ aL S kz = 0 := Or.inr (of_decide_eq_true (b2_n0.mp h50))
          refine kG.aload_n 54 dX4_copy_53 rfl rfl ?_
          refine kG.iconst (v := nI 1) 55 dX4_copy_54 (by decide) rfl ?_
          refine gG.callV 58 dX4_copy_55 lX4_221 vX4_faultBy (c_faultBy Γ (nI 1)) rfl rfl ⟨by decide, by decide⟩ rfl ⟨by decide, rfl⟩ ⟨by decide, by decide⟩ (Nat.le_of_ble_eq_true rfl) rfl (fun r55 μ55 q55 hc55 => ?_)
          obtain ⟨rfl, rfl, rfl⟩ := hc55
          have h2 := CS_fa (nI 1) h1
          refine gG.iret dX4_copy_58 rfl ?_
          refine ⟨?_, ?_, fun k hk => by rw [uI_off (by omega), uI_off (by omega)]⟩
          · unfold s_copy
            rw [if_pos (show (inB (nI kx) 4 && inB (nI kz) 4) = true by rw [hb6, hb13]; rfl), ex, ez, if_pos hnn]
            rfl
          · unfold n_copy
            rw [if_pos (show (inB (nI kx) 4 && inB (nI kz) 4) = true by rw [hb6, hb13]; rfl), ex, ez, if_pos hnn]
            exact h2
    · have hb13 := b2_0.mp h16
      have hbad : (inB x 4 && inB z 4) = false := by rw [hb13, Bool.and_false]
      refine kG.iconst (v := (-1)) 20 dX4_copy_19 (by decide) rfl ?_
      refine gG.iret dX4_copy_20 rfl ?_
      refine ⟨?_, ?_, fun k hk => uI_off (by omega)⟩
      · unfold s_copy
        rw [if_neg (by rw [hbad]; decide)]
      · unfold n_copy
        rw [if_neg (by rw [hbad]; decide)]
        exact h1
