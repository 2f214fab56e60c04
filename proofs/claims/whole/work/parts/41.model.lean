set_option maxHeartbeats 4000000 in
theorem y_ofHouse (Γ : kGm) {S : AS} {μ : kM} {q : kq4} (ok : okS S) (h : MS S μ) (x : Int32) (y : Int32) : gC Γ yX5_ofHouse mX5_ofHouse 2 [.ref 49, .int x, .int y] μ q (PMi (s_ofHouse S x y) (S) μ q) := by
  refine gC.ofG (n := 0) ⟨by decide +kernel, rfl, rfl, by decide⟩ (Nat.le_of_ble_eq_true rfl) ?_
  show gG Γ mX5_ofHouse 2 0 [some (.ref 49), some (.int x), some (.int y)] [] μ q _
  have okd := ok.1
  have hH4 := ok.1.1
  have hP6 := ok.1.2.1
  have hc := h.1
  have hp := hc.2.2.2.2.2.1
  have hh := hc.2.2.2.2.1
  refine kG.aload_n 1 dX5_ofHouse_0 rfl rfl ?_
  refine kG.iload_n 2 dX5_ofHouse_1 rfl rfl ?_
  refine gG.callV 5 dX5_ofHouse_2 lX5_155 vX5_isHouse (m_isHouse Γ x (dH (aD S)) hc.2.1) rfl rfl ⟨by decide, by decide⟩ rfl ⟨by decide, rfl⟩ ⟨by decide, by decide⟩ (Nat.le_of_ble_eq_true rfl) rfl (fun r2 μ2 q2 hc2 => ?_)
  obtain ⟨rfl, rfl, rfl⟩ := hc2
  refine kG.if_ne 10 8 dX5_ofHouse_5 (by decide) rfl (fun g2 => ?_) (fun g2 => ?_)
  · have hb2 := b2_n0.mp g2
    obtain ⟨kx, hkx, rfl, ex⟩ := inB_t (by omega) hb2
    have hx := hh kx hkx
    refine kG.iload_n 11 dX5_ofHouse_10 rfl rfl ?_
    refine kG.if_ne 23 14 dX5_ofHouse_11 (by decide) rfl (fun h11 => ?_) (fun h11 => ?_)
    · have e0 : ¬ y = nI 0 := h11
      refine kG.iload_n 24 dX5_ofHouse_23 rfl rfl ?_
      refine kG.iconst (v := nI 1) 25 dX5_ofHouse_24 (by decide) rfl ?_
      refine kG.icmp_ne 37 28 dX5_ofHouse_25 (by decide) rfl (fun h25 => ?_) (fun h25 => ?_)
      · have e1 : ¬ y = nI 1 := h25
        refine kG.bipush (v := (-2)) 39 dX5_ofHouse_37 (by decide) rfl ?_
        refine gG.iret dX5_ofHouse_39 rfl ?_
        refine ⟨?_, h, rfl, fun _ _ => rfl⟩
        unfold s_ofHouse
        rw [if_pos hb2, ex]
        first | rw [if_pos e0] | rw [if_neg e0, if_pos e1] | rw [if_neg e0, if_neg e1]
      · have e1 : y = nI 1 := h25
        refine kG.aload_n 29 dX5_ofHouse_28 rfl rfl ?_
        refine gG.getP 32 dX5_ofHouse_29 fX5_22 ⟨by decide, by decide⟩ rfl rfl rfl rfl ?_
        refine kG.iload_n 33 dX5_ofHouse_32 rfl rfl ?_
        refine gG.iald (n := 4) _ 34 dX5_ofHouse_33 ⟨by decide, by decide⟩ rfl rfl (by omega) (by decide) rfl ?_
        rw [hx.2]
        refine kG.goto 39 dX5_ofHouse_34 (by decide) ?_
        refine gG.iret dX5_ofHouse_39 rfl ?_
        refine ⟨?_, h, rfl, fun _ _ => rfl⟩
        unfold s_ofHouse
        rw [if_pos hb2, ex]
        first | rw [if_pos e0] | rw [if_neg e0, if_pos e1] | rw [if_neg e0, if_neg e1]
    · have e0 : y = nI 0 := h11
      refine kG.aload_n 15 dX5_ofHouse_14 rfl rfl ?_
      refine gG.getP 18 dX5_ofHouse_15 fX5_19 ⟨by decide, by decide⟩ rfl rfl rfl rfl ?_
      refine kG.iload_n 19 dX5_ofHouse_18 rfl rfl ?_
      refine gG.iald (n := 4) _ 20 dX5_ofHouse_19 ⟨by decide, by decide⟩ rfl rfl (by omega) (by decide) rfl ?_
      rw [hx.1]
      refine kG.goto 39 dX5_ofHouse_20 (by decide) ?_
      refine gG.iret dX5_ofHouse_39 rfl ?_
      refine ⟨?_, h, rfl, fun _ _ => rfl⟩
      unfold s_ofHouse
      rw [if_pos hb2, ex]
      first | rw [if_pos e0] | rw [if_neg e0, if_pos e1] | rw [if_neg e0, if_neg e1]
  · have hb2 := b2_0.mp g2
    refine kG.iconst (v := (-1)) 9 dX5_ofHouse_8 (by decide) rfl ?_
    refine gG.iret dX5_ofHouse_9 rfl ?_
    exact ⟨by unfold s_ofHouse; rw [if_neg (by rw [hb2]; decide)], h, rfl, fun _ _ => rfl⟩
set_option maxHeartbeats 4000000 in
theorem y_ofPerson (Γ : kGm) {S : AS} {μ : kM} {q : kq4} (ok : okS S) (h : MS S μ) (x : Int32) (y : Int32) : gC Γ yX5_ofPerson mX5_ofPerson 2 [.ref 49, .int x, .int y] μ q (PMi (s_ofPerson S x y) (S) μ q) := by
  refine gC.ofG (n := 0) ⟨by decide +kernel, rfl, rfl, by decide⟩ (Nat.le_of_ble_eq_true rfl) ?_
  show gG Γ mX5_ofPerson 2 0 [some (.ref 49), some (.int x), some (.int y)] [] μ q _
  have okd := ok.1
  have hH4 := ok.1.1
  have hP6 := ok.1.2.1
  have hc := h.1
  have hp := hc.2.2.2.2.2.1
  have hh := hc.2.2.2.2.1
  refine kG.aload_n 1 dX5_ofPerson_0 rfl rfl ?_
  refine kG.iload_n 2 dX5_ofPerson_1 rfl rfl ?_
  refine gG.callV 5 dX5_ofPerson_2 lX5_158 vX5_isPerson (m_isPerson Γ x (dP (aD S)) hc.2.2.1) rfl rfl ⟨by decide, by decide⟩ rfl ⟨by decide, rfl⟩ ⟨by decide, by decide⟩ (Nat.le_of_ble_eq_true rfl) rfl (fun r2 μ2 q2 hc2 => ?_)
  obtain ⟨rfl, rfl, rfl⟩ := hc2
  refine kG.if_ne 10 8 dX5_ofPerson_5 (by decide) rfl (fun g2 => ?_) (fun g2 => ?_)
  · have hb2 := b2_n0.mp g2
    obtain ⟨kx, hkx, rfl, ex⟩ := inB_t (by omega) hb2
    have hx := hp kx hkx
    have od := okd.2.2.2 kx hkx
    refine kG.iload_n 11 dX5_ofPerson_10 rfl rfl ?_
    by_cases hs11_0 : y = nI 0
    · rw [hs11_0]
      refine kG.tableIn 52 dX5_ofPerson_11 (by decide) (by decide) rfl (by decide) ?_
      refine kG.aload_n 53 dX5_ofPerson_52 rfl rfl ?_
      refine gG.getP 56 dX5_ofPerson_53 fX5_25 ⟨by decide, by decide⟩ rfl rfl rfl rfl ?_
      refine kG.iload_n 57 dX5_ofPerson_56 rfl rfl ?_
      refine gG.iald (n := 6) _ 58 dX5_ofPerson_57 ⟨by decide, by decide⟩ rfl rfl (by omega) (by decide) rfl ?_
      rw [hx.1]
      refine gG.iret dX5_ofPerson_58 rfl ?_
      refine ⟨?_, h, rfl, fun _ _ => rfl⟩
      unfold s_ofPerson
      rw [if_pos hb2, ex]
      rfl
    by_cases hs11_1 : y = nI 1
    · rw [hs11_1]
      refine kG.tableIn 59 dX5_ofPerson_11 (by decide) (by decide) rfl (by decide) ?_
      refine kG.aload_n 60 dX5_ofPerson_59 rfl rfl ?_
      refine gG.getP 63 dX5_ofPerson_60 fX5_28 ⟨by decide, by decide⟩ rfl rfl rfl rfl ?_
      refine kG.iload_n 64 dX5_ofPerson_63 rfl rfl ?_
      refine gG.iald (n := 6) _ 65 dX5_ofPerson_64 ⟨by decide, by decide⟩ rfl rfl (by omega) (by decide) rfl ?_
      rw [hx.2.1]
      refine gG.iret dX5_ofPerson_65 rfl ?_
      refine ⟨?_, h, rfl, fun _ _ => rfl⟩
      unfold s_ofPerson
      rw [if_pos hb2, ex]
      rfl
    by_cases hs11_2 : y = nI 2
    · rw [hs11_2]
      refine kG.tableIn 66 dX5_ofPerson_11 (by decide) (by decide) rfl (by decide) ?_
      refine kG.aload_n 67 dX5_ofPerson_66 rfl rfl ?_
      refine gG.getP 70 dX5_ofPerson_67 fX5_31 ⟨by decide, by decide⟩ rfl rfl rfl rfl ?_
      refine kG.iload_n 71 dX5_ofPerson_70 rfl rfl ?_
      refine gG.iald (n := 6) _ 72 dX5_ofPerson_71 ⟨by decide, by decide⟩ rfl rfl (by omega) (by decide) rfl ?_
      rw [hx.2.2.1]
      refine gG.iret dX5_ofPerson_72 rfl ?_
      refine ⟨?_, h, rfl, fun _ _ => rfl⟩
      unfold s_ofPerson
      rw [if_pos hb2, ex]
      rfl
    by_cases hs11_3 : y = nI 3
    · rw [hs11_3]
      refine kG.tableIn 73 dX5_ofPerson_11 (by decide) (by decide) rfl (by decide) ?_
      refine kG.aload_n 74 dX5_ofPerson_73 rfl rfl ?_
      refine gG.getP 77 dX5_ofPerson_74 fX5_34 ⟨by decide, by decide⟩ rfl rfl rfl rfl ?_
      refine kG.iload_n 78 dX5_ofPerson_77 rfl rfl ?_
      refine gG.iald (n := 6) _ 79 dX5_ofPerson_78 ⟨by decide, by decide⟩ rfl rfl (by omega) (by decide) rfl ?_
      rw [hx.2.2.2.1]
      refine gG.iret dX5_ofPerson_79 rfl ?_
      refine ⟨?_, h, rfl, fun _ _ => rfl⟩
      unfold s_ofPerson
      rw [if_pos hb2, ex]
      rfl
    by_cases hs11_4 : y = nI 4
    · rw [hs11_4]
      refine kG.tableIn 80 dX5_ofPerson_11 (by decide) (by decide) rfl (by decide) ?_
      refine kG.aload_n 81 dX5_ofPerson_80 rfl rfl ?_
      refine gG.getP 84 dX5_ofPerson_81 fX5_37 ⟨by decide, by decide⟩ rfl rfl rfl rfl ?_
      refine kG.iload_n 85 dX5_ofPerson_84 rfl rfl ?_
      refine gG.iald (n := 6) _ 86 dX5_ofPerson_85 ⟨by decide, by decide⟩ rfl rfl (by omega) (by decide) rfl ?_
      rw [hx.2.2.2.2]
      refine gG.iret dX5_ofPerson_86 rfl ?_
      refine ⟨?_, h, rfl, fun _ _ => rfl⟩
      unfold s_ofPerson
      rw [if_pos hb2, ex]
      rfl
    by_cases hs11_5 : y = nI 5
    · rw [hs11_5]
      refine kG.tableIn 87 dX5_ofPerson_11 (by decide) (by decide) rfl (by decide) ?_
      refine kG.aload_n 88 dX5_ofPerson_87 rfl rfl ?_
      refine kG.iload_n 89 dX5_ofPerson_88 rfl rfl ?_
      refine gG.callV 92 dX5_ofPerson_89 lX5_161 vX5_wants (m_wants Γ hc okd kx hkx) rfl rfl ⟨by decide, by decide⟩ rfl ⟨by decide, rfl⟩ ⟨by decide, by decide⟩ (Nat.le_of_ble_eq_true rfl) rfl (fun r89 μ89 q89 hc89 => ?_)
      obtain ⟨rfl, rfl, rfl⟩ := hc89
      refine gG.iret dX5_ofPerson_92 rfl ?_
      refine ⟨?_, h, rfl, fun _ _ => rfl⟩
      unfold s_ofPerson
      rw [if_pos hb2, ex]
      rfl
    by_cases hs11_6 : y = nI 6
    · rw [hs11_6]
      refine kG.tableIn 93 dX5_ofPerson_11 (by decide) (by decide) rfl (by decide) ?_
      refine kG.aload_n 94 dX5_ofPerson_93 rfl rfl ?_
      refine gG.getP 97 dX5_ofPerson_94 fX5_40 ⟨by decide, by decide⟩ rfl rfl rfl rfl ?_
      refine kG.iload_n 98 dX5_ofPerson_97 rfl rfl ?_
      refine gG.zald (n := 6) _ 99 dX5_ofPerson_98 ⟨by decide, by decide⟩ rfl rfl (by omega) (by decide) rfl ?_
      rw [hc.2.2.2.2.2.2.1 kx hkx]
      refine kG.if_eq 106 102 dX5_ofPerson_99 (by decide) rfl (fun h99 => ?_) (fun h99 => ?_)
      · have hz := b2_0.mp h99
        refine kG.iconst (v := nI 0) 107 dX5_ofPerson_106 (by decide) rfl ?_
        refine gG.iret dX5_ofPerson_107 rfl ?_
        refine ⟨?_, h, rfl, fun _ _ => rfl⟩
        unfold s_ofPerson
        rw [if_pos hb2, ex]
        rw [hz]
        rfl
      · have hz := b2_n0.mp h99
        refine kG.iconst (v := nI 1) 103 dX5_ofPerson_102 (by decide) rfl ?_
        refine kG.goto 107 dX5_ofPerson_103 (by decide) ?_
        refine gG.iret dX5_ofPerson_107 rfl ?_
        refine ⟨?_, h, rfl, fun _ _ => rfl⟩
        unfold s_ofPerson
        rw [if_pos hb2, ex]
        rw [hz]
        rfl
    · refine kG.tableOut 108 dX5_ofPerson_11 (ksw_7 hs11_0 hs11_1 hs11_2 hs11_3 hs11_4 hs11_5 hs11_6) (by decide) ?_
      refine kG.bipush (v := (-2)) 110 dX5_ofPerson_108 (by decide) rfl ?_
      refine gG.iret dX5_ofPerson_110 rfl ?_
      refine ⟨?_, h, rfl, fun _ _ => rfl⟩
      unfold s_ofPerson
      rw [if_pos hb2, ex]
      rw [if_neg hs11_0, if_neg hs11_1, if_neg hs11_2, if_neg hs11_3, if_neg hs11_4, if_neg hs11_5, if_neg hs11_6]
  · have hb2 := b2_0.mp g2
    refine kG.iconst (v := (-1)) 9 dX5_ofPerson_8 (by decide) rfl ?_
    refine gG.iret dX5_ofPerson_9 rfl ?_
    exact ⟨by unfold s_ofPerson; rw [if_neg (by rw [hb2]; decide)], h, rfl, fun _ _ => rfl⟩
set_option maxHeartbeats 4000000 in
theorem y_seam (Γ : kGm) {S : AS} {μ : kM} {q : kq4} (ok : okS S) (h : MS S μ) (x : Int32) : gC Γ yX5_seam mX5_seam 2 [.ref 49, .int x] μ q (PMi (s_seam S x) (n_seam S x) μ q) := by
  refine gC.ofG (n := 0) ⟨by decide +kernel, rfl, rfl, by decide⟩ (Nat.le_of_ble_eq_true rfl) ?_
  show gG Γ mX5_seam 2 0 [some (.ref 49), some (.int x), none] [] μ q _
  have okd := ok.1
  have hH4 := ok.1.1
  have hP6 := ok.1.2.1
  have hc := h.1
  have hp := hc.2.2.2.2.2.1
  have hh := hc.2.2.2.2.1
  refine kG.iload_n 1 dX5_seam_0 rfl rfl ?_
  refine kG.iconst (v := nI 1) 2 dX5_seam_1 (by decide) rfl ?_
  refine kG.bipush (v := nI 13) 4 dX5_seam_2 (by decide) rfl ?_
  refine gG.callS 7 dX5_seam_4 lX5_89 vX5_within (m_within Γ x 1 13) rfl rfl ⟨by decide, by decide⟩ (Nat.le_of_ble_eq_true rfl) rfl (fun r4 μ4 q4 hc4 => ?_)
  obtain ⟨rfl, rfl, rfl⟩ := hc4
  refine kG.if_ne 13 10 dX5_seam_7 (by decide) rfl (fun h7 => ?_) (fun h7 => ?_)
  · have hb := b2_n0.mp h7
    obtain ⟨v, v1, v2, rfl, ex⟩ := bt_t (by decide) (by decide) hb
    refine kG.aload_n 14 dX5_seam_13 rfl rfl ?_
    refine gG.getI 17 dX5_seam_14 fX5_96 ⟨by decide, by decide⟩ rfl rfl rfl ?_
    rw [hc.2.2.1]
    refine kG.if_ne 23 20 dX5_seam_17 (by decide) rfl (fun h17 => ?_) (fun h17 => ?_)
    · have hz : ¬ dP (aD S) = 0 := fun z => h17 (by rw [z]; rfl)
      refine kG.aload_n 24 dX5_seam_23 rfl rfl ?_
      refine gG.getI 27 dX5_seam_24 fX5_123 ⟨by decide, by decide⟩ rfl rfl rfl ?_
      rw [hc.1]
      refine kG.istore_n 28 dX5_seam_27 (by decide) rfl rfl ?_
      dsimp only [List.set]
      refine kG.aload_n 29 dX5_seam_28 rfl rfl ?_
      refine kG.iload_n 30 dX5_seam_29 rfl rfl ?_
      refine gG.putI 33 dX5_seam_30 fX5_123 ⟨by decide, by decide⟩ rfl rfl rfl ⟨rfl, rfl⟩ rfl ?_
      refine kG.iload_n 34 dX5_seam_33 rfl rfl ?_
      refine gG.iret dX5_seam_34 rfl ?_
      refine ⟨by unfold s_seam; rw [if_pos hb, if_neg hz], ?_, rfl, fun k hk => uI_off (by omega)⟩
      unfold n_seam
      rw [if_pos ⟨hb, hz⟩, ex]
      exact MS_sn v h
    · have hz : dP (aD S) = 0 := (nI_eq (b := 0) (by omega) (by decide)).mp h17
      refine kG.bipush (v := (-3)) 22 dX5_seam_20 (by decide) rfl ?_
      refine gG.iret dX5_seam_22 rfl ?_
      refine ⟨by unfold s_seam; rw [if_pos hb, if_pos hz], ?_, rfl, fun _ _ => rfl⟩
      unfold n_seam
      rw [if_neg (fun z => z.2 hz)]
      exact h
  · have hb := b2_0.mp h7
    refine kG.bipush (v := (-2)) 12 dX5_seam_10 (by decide) rfl ?_
    refine gG.iret dX5_seam_12 rfl ?_
    refine ⟨by unfold s_seam; rw [if_neg (by rw [hb]; decide)], ?_, rfl, fun _ _ => rfl⟩
    unfold n_seam
    rw [if_neg (by rw [hb]; rintro ⟨z, _⟩; cases z)]
    exact h
set_option maxHeartbeats 4000000 in
theorem y_away (Γ : kGm) {S : AS} {μ : kM} {q : kq4} (ok : okS S) (h : MS S μ) (b : Bool) (x : Int32) : gC Γ yX5_away mX5_away 2 [.ref 49, .int x, .int (b2 b)] μ q (PMi (s_away S x b) (n_away S x b) μ q) := by
  refine gC.ofG (n := 0) ⟨by decide +kernel, rfl, rfl, by decide⟩ (Nat.le_of_ble_eq_true rfl) ?_
  show gG Γ mX5_away 2 0 [some (.ref 49), some (.int x), some (.int (b2 b)), none] [] μ q _
  have okd := ok.1
  have hH4 := ok.1.1
  have hP6 := ok.1.2.1
  have hc := h.1
  have hp := hc.2.2.2.2.2.1
  have hh := hc.2.2.2.2.1
  refine kG.aload_n 1 dX5_away_0 rfl rfl ?_
  refine kG.iload_n 2 dX5_away_1 rfl rfl ?_
  refine gG.callV 5 dX5_away_2 lX5_158 vX5_isPerson (m_isPerson Γ x (dP (aD S)) hc.2.2.1) rfl rfl ⟨by decide, by decide⟩ rfl ⟨by decide, rfl⟩ ⟨by decide, by decide⟩ (Nat.le_of_ble_eq_true rfl) rfl (fun r2 μ2 q2 hc2 => ?_)
  obtain ⟨rfl, rfl, rfl⟩ := hc2
  refine kG.if_ne 10 8 dX5_away_5 (by decide) rfl (fun g2 => ?_) (fun g2 => ?_)
  · have hb2 := b2_n0.mp g2
    obtain ⟨kx, hkx, rfl, ex⟩ := inB_t (by omega) hb2
    have hx := hp kx hkx
    have od := okd.2.2.2 kx hkx
    refine kG.aload_n 11 dX5_away_10 rfl rfl ?_
    refine gG.getP 14 dX5_away_11 fX5_40 ⟨by decide, by decide⟩ rfl rfl rfl rfl ?_
    refine kG.iload_n 15 dX5_away_14 rfl rfl ?_
    refine gG.zald (n := 6) _ 16 dX5_away_15 ⟨by decide, by decide⟩ rfl rfl (by omega) (by decide) rfl ?_
    rw [hc.2.2.2.2.2.2.1 kx hkx]
    refine kG.istore_n 17 dX5_away_16 (by decide) rfl rfl ?_
    dsimp only [List.set]
    refine kG.aload_n 18 dX5_away_17 rfl rfl ?_
    refine gG.getP 21 dX5_away_18 fX5_40 ⟨by decide, by decide⟩ rfl rfl rfl rfl ?_
    refine kG.iload_n 22 dX5_away_21 rfl rfl ?_
    refine kG.iload_n 23 dX5_away_22 rfl rfl ?_
    refine gG.zast (n := 6) _ 24 dX5_away_23 ⟨by decide, by decide⟩ rfl rfl (by omega) (by decide) (b2_bit b) rfl ?_
    refine kG.iload_n 25 dX5_away_24 rfl rfl ?_
    refine kG.iload_n 26 dX5_away_25 rfl rfl ?_
    refine kG.icmp_ne 33 29 dX5_away_26 (by decide) rfl (fun h26 => ?_) (fun h26 => ?_)
    · have hne : ¬ (aA S).testBit kx = b := fun z => h26 (by rw [z])
      refine kG.iconst (v := nI 1) 34 dX5_away_33 (by decide) rfl ?_
      refine gG.iret dX5_away_34 rfl ?_
      refine ⟨by unfold s_away; rw [if_pos hb2, ex, if_neg hne], ?_, rfl, fun k hk => uI_off (by omega)⟩
      unfold n_away
      rw [if_pos ⟨hb2, by rw [ex]; exact hne⟩, ex]
      refine MS_aw h ?_ (fun i hi => ?_)
      · rw [Nat.testBit_xor, Nat.testBit_two_pow_self]
        revert hne
        cases (aA S).testBit kx <;> cases b <;> decide
      · rw [Nat.testBit_xor, Nat.testBit_two_pow, decide_eq_false (fun z => hi z.symm), Bool.xor_false]
    · have hne : (aA S).testBit kx = b := b2_eq.mp h26
      refine kG.iconst (v := nI 0) 30 dX5_away_29 (by decide) rfl ?_
      refine kG.goto 34 dX5_away_30 (by decide) ?_
      refine gG.iret dX5_away_34 rfl ?_
      refine ⟨by unfold s_away; rw [if_pos hb2, ex, if_pos hne], ?_, rfl, fun k hk => uI_off (by omega)⟩
      unfold n_away
      rw [if_neg (fun z => z.2 (by rw [ex]; exact hne))]
      exact MS_aw (S := S) h hne (fun _ _ => rfl)
  · have hb2 := b2_0.mp g2
    refine kG.iconst (v := (-1)) 9 dX5_away_8 (by decide) rfl ?_
    refine gG.iret dX5_away_9 rfl ?_
    refine ⟨by unfold s_away; rw [if_neg (by rw [hb2]; decide)], ?_, rfl, fun _ _ => rfl⟩
    unfold n_away
    first
      | (rw [if_neg (by rw [hb2]; decide)]; exact h)
      | (rw [if_neg (by rw [hb2]; rintro ⟨z, _⟩; cases z)]; exact h)
set_option maxHeartbeats 4000000 in
theorem y_gift (Γ : kGm) {S : AS} {μ : kM} {q : kq4} (ok : okS S) (h : MS S μ) (x : Int32) (y : Int32) (z : Int32) : gC Γ yX5_gift mX5_gift 3 [.ref 49, .int x, .int y, .int z] μ q (PMi (s_gift S x y z) (n_gift S x y z) μ q) := by
  refine gC.ofG (n := 0) ⟨by decide +kernel, rfl, rfl, by decide⟩ (Nat.le_of_ble_eq_true rfl) ?_
  show gG Γ mX5_gift 3 0 [some (.ref 49), some (.int x), some (.int y), some (.int z)] [] μ q _
  have okd := ok.1
  have hH4 := ok.1.1
  have hP6 := ok.1.2.1
  have hc := h.1
  have hp := hc.2.2.2.2.2.1
  have hh := hc.2.2.2.2.1
  refine kG.aload_n 1 dX5_gift_0 rfl rfl ?_
  refine kG.iload_n 2 dX5_gift_1 rfl rfl ?_
  refine gG.callV 5 dX5_gift_2 lX5_155 vX5_isHouse (m_isHouse Γ x (dH (aD S)) hc.2.1) rfl rfl ⟨by decide, by decide⟩ rfl ⟨by decide, rfl⟩ ⟨by decide, by decide⟩ (Nat.le_of_ble_eq_true rfl) rfl (fun r2 μ2 q2 hc2 => ?_)
  obtain ⟨rfl, rfl, rfl⟩ := hc2
  refine kG.if_ne 10 8 dX5_gift_5 (by decide) rfl (fun g2 => ?_) (fun g2 => ?_)
  · have hb2 := b2_n0.mp g2
    obtain ⟨kx, hkx, rfl, ex⟩ := inB_t (by omega) hb2
    have hx := hh kx hkx
    refine kG.iload_n 11 dX5_gift_10 rfl rfl ?_
    refine gG.callS 14 dX5_gift_11 lX5_164 vX5_isWeek (m_isWeek Γ y) rfl rfl ⟨by decide, by decide⟩ (Nat.le_of_ble_eq_true rfl) rfl (fun r11 μ11 q11 hc11 => ?_)
    obtain ⟨rfl, rfl, rfl⟩ := hc11
    refine kG.if_eq 27 17 dX5_gift_14 (by decide) rfl (fun h14 => ?_) (fun h14 => ?_)
    · have hb := b2_0.mp h14
      have hbad : (inB y 10 && bt z 1 99) = false := by rw [hb]; rfl
      refine kG.bipush (v := (-2)) 29 dX5_gift_27 (by decide) rfl ?_
      refine gG.iret dX5_gift_29 rfl ?_
      refine ⟨by unfold s_gift; rw [if_pos hb2, if_neg (by rw [hbad]; decide)], ?_, rfl, fun _ _ => rfl⟩
      unfold n_gift
      rw [if_neg (fun c => by have := c.2.2.1; have h2 := c.2.1; rw [h2, this] at hbad; cases hbad)]
      exact h
    · have hby := b2_n0.mp h14
      refine kG.iload_n 18 dX5_gift_17 rfl rfl ?_
      refine kG.iconst (v := nI 1) 19 dX5_gift_18 (by decide) rfl ?_
      refine kG.bipush (v := nI 99) 21 dX5_gift_19 (by decide) rfl ?_
      refine gG.callS 24 dX5_gift_21 lX5_89 vX5_within (m_within Γ z 1 99) rfl rfl ⟨by decide, by decide⟩ (Nat.le_of_ble_eq_true rfl) rfl (fun r21 μ21 q21 hc21 => ?_)
      obtain ⟨rfl, rfl, rfl⟩ := hc21
      refine kG.if_ne 30 27 dX5_gift_24 (by decide) rfl (fun h24 => ?_) (fun h24 => ?_)
      · have hbz := b2_n0.mp h24
        have hgd : (inB y 10 && bt z 1 99) = true := by rw [hby, hbz]; rfl
        obtain ⟨ky, hky, rfl, ey⟩ := inB_t (by decide) hby
        obtain ⟨kz, hkz1, hkz2, rfl, ez⟩ := bt_t (by decide) (by decide) hbz
        have hg6 := ok.2.2.2.2.2.1.2
        refine kG.aload_n 31 dX5_gift_30 rfl rfl ?_
        refine gG.getI 34 dX5_gift_31 fX5_132 ⟨by decide, by decide⟩ rfl rfl rfl ?_
        rw [hc.2.2.2.1]
        refine kG.bipush (v := nI 6) 36 dX5_gift_34 (by decide) rfl ?_
        refine kG.icmp_ne 42 39 dX5_gift_36 (by decide) rfl (fun h36 => ?_) (fun h36 => ?_)
        · have hg : ¬ (aG S).1 = 6 := fun z => h36 (by rw [z])
          refine kG.aload_n 43 dX5_gift_42 rfl rfl ?_
          refine kG.aload_n 44 dX5_gift_43 rfl rfl ?_
          refine gG.getI 47 dX5_gift_44 fX5_132 ⟨by decide, by decide⟩ rfl rfl rfl ?_
          rw [hc.2.2.2.1]
          refine kG.iload_n 48 dX5_gift_47 rfl rfl ?_
          refine kG.iload_n 49 dX5_gift_48 rfl rfl ?_
          refine kG.iload_n 50 dX5_gift_49 rfl rfl ?_
          refine gG.callV 53 dX5_gift_50 lX5_167 vX5_layGift (m_layGift Γ (aG S).1 (by omega) _ _ _) rfl rfl ⟨by decide, by decide⟩ rfl ⟨by decide, rfl⟩ ⟨by decide, by decide⟩ (Nat.le_of_ble_eq_true rfl) rfl (fun r50 μ50 q50 hc50 => ?_)
          obtain ⟨rfl, rfl, rfl⟩ := hc50
          refine kG.aload_n 54 dX5_gift_53 rfl rfl ?_
          refine kG.dup 55 dX5_gift_54 rfl rfl ?_
          refine gG.getI 58 dX5_gift_55 fX5_132 ⟨by decide, by decide⟩ rfl rfl rfl ?_
          rw [uI_off (by decide), uI_off (by decide), uI_off (by decide), hc.2.2.2.1]
          refine kG.iconst (v := nI 1) 59 dX5_gift_58 (by decide) rfl ?_
          refine kG.iadd 60 dX5_gift_59 rfl ?_
          rw [nI_add]
          refine gG.putI 63 dX5_gift_60 fX5_132 ⟨by decide, by decide⟩ rfl rfl rfl ⟨rfl, rfl⟩ rfl ?_
          refine kG.aload_n 64 dX5_gift_63 rfl rfl ?_
          refine gG.getI 67 dX5_gift_64 fX5_132 ⟨by decide, by decide⟩ rfl rfl rfl ?_
          rw [uI_same]
          refine kG.iconst (v := nI 1) 68 dX5_gift_67 (by decide) rfl ?_
          refine kG.isub 69 dX5_gift_68 rfl ?_
          rw [pk_sub (by omega), Nat.add_sub_cancel]
          refine gG.iret dX5_gift_69 rfl ?_
          refine ⟨by unfold s_gift; rw [if_pos hb2, if_pos hgd, if_neg hg], ?_, rfl, fun k hk => by rw [uI_off (by omega), uI_off (by omega), uI_off (by omega), uI_off (by omega)]⟩
          unfold n_gift
          rw [if_pos ⟨hb2, hby, hbz, hg⟩, ex, ey, ez]
          have g2 : ∀ k, k ≠ 49 → k ≠ 63 → k ≠ 64 → k ≠ 65 → ∀ u v w z : Int32, uI (uI (uI (uI μ21 63 (aG S).1 u) 64 (aG S).1 v) 65 (aG S).1 w) 49 22 z k = μ21 k := fun k a b c d u v w z => by rw [uI_off a, uI_off d, uI_off c, uI_off b]
          have g3 : ∀ j, j ≠ 22 → ∀ u v w z : Int32, uI (uI (uI (uI μ21 63 (aG S).1 u) 64 (aG S).1 v) 65 (aG S).1 w) 49 22 z 49 j = μ21 49 j := fun j hj u v w z => by rw [uI_ne (Or.inr hj), uI_off (by decide), uI_off (by decide), uI_off (by decide)]
          refine ⟨MC_gf (G' := kpAdd (aG S) kx ky kz) hc (fun j hj => g3 j (by omega) _ _ _ _) (fun k a b => g2 k (by omega) (by omega) (by omega) (by omega) _ _ _ _) (uI_same _ _ _ _) (fun i hi => ?_), MR_fr h.2.1 (g3 31 (by decide) _ _ _ _) (fun k a b => g2 k (by omega) (by omega) (by omega) (by omega) _ _ _ _), MH_fr (S := S) h.2.2.1 (fun k a b => g2 k (by omega) (by omega) (by omega) (by omega) _ _ _ _), by rw [g3 1 (by decide)]; exact h.2.2.2.1, by rw [g3 0 (by decide)]; exact h.2.2.2.2⟩
          have hi : i < (aG S).1 + 1 := hi
          have e63 : ∀ u v w z : Int32, uI (uI (uI (uI μ21 63 (aG S).1 u) 64 (aG S).1 v) 65 (aG S).1 w) 49 22 z 63 = uI μ21 63 (aG S).1 u 63 := fun u v w z => by rw [uI_off (by decide), uI_off (by decide), uI_off (by decide)]
          have e64 : ∀ u v w z : Int32, uI (uI (uI (uI μ21 63 (aG S).1 u) 64 (aG S).1 v) 65 (aG S).1 w) 49 22 z 64 i = uI μ21 64 (aG S).1 v 64 i := fun u v w z => by rw [uI_off (by decide), uI_off (by decide)]; by_cases e : i = (aG S).1; rw [e, uI_same, uI_same]; (repeat rw [uI_ne (Or.inr e)])
          have e65 : ∀ u v w z : Int32, uI (uI (uI (uI μ21 63 (aG S).1 u) 64 (aG S).1 v) 65 (aG S).1 w) 49 22 z 65 i = uI μ21 65 (aG S).1 w 65 i := fun u v w z => by rw [uI_off (by decide)]; by_cases e : i = (aG S).1; rw [e, uI_same, uI_same]; (repeat rw [uI_ne (Or.inr e)])
          rw [e63, e64, e65]
          have h8 := hc.2.2.2.2.2.2.2
          exact ⟨fi_add (g := (aG S).2.1) (fun j hj => (h8 j hj).1) (Nat.le_refl _) i hi, fi_add (g := (aG S).2.2.1) (fun j hj => (h8 j hj).2.1) (Nat.le_refl _) i hi, fi_add (g := (aG S).2.2.2) (fun j hj => (h8 j hj).2.2) (Nat.le_refl _) i hi⟩
        · have hg : (aG S).1 = 6 := (nI_eq (by omega) (by decide)).mp h36
          refine kG.bipush (v := (-4)) 41 dX5_gift_39 (by decide) rfl ?_
          refine gG.iret dX5_gift_41 rfl ?_
          refine ⟨by unfold s_gift; rw [if_pos hb2, if_pos hgd, if_pos hg], ?_, rfl, fun _ _ => rfl⟩
          unfold n_gift
          rw [if_neg (fun c => c.2.2.2 hg)]
          exact h
      · have hb := b2_0.mp h24
        have hbad : (inB y 10 && bt z 1 99) = false := by rw [hb, Bool.and_false]
        refine kG.bipush (v := (-2)) 29 dX5_gift_27 (by decide) rfl ?_
        refine gG.iret dX5_gift_29 rfl ?_
        refine ⟨by unfold s_gift; rw [if_pos hb2, if_neg (by rw [hbad]; decide)], ?_, rfl, fun _ _ => rfl⟩
        unfold n_gift
        rw [if_neg (fun c => by have := c.2.2.1; have h2 := c.2.1; rw [h2, this] at hbad; cases hbad)]
        exact h
  · have hb2 := b2_0.mp g2
    refine kG.iconst (v := (-1)) 9 dX5_gift_8 (by decide) rfl ?_
    refine gG.iret dX5_gift_9 rfl ?_
    refine ⟨by unfold s_gift; rw [if_neg (by rw [hb2]; decide)], ?_, rfl, fun _ _ => rfl⟩
    unfold n_gift
    first
      | (rw [if_neg (by rw [hb2]; decide)]; exact h)
      | (rw [if_neg (by rw [hb2]; rintro ⟨z, _⟩; cases z)]; exact h)
set_option maxHeartbeats 4000000 in
theorem y_undo (Γ : kGm) {S : AS} {μ : kM} {q : kq4} (ok : okS S) (h : MS S μ) (x : Int32) : gC Γ yX5_undo mX5_undo 2 [.ref 49, .int x] μ q (PMi (s_undo S x) (n_undo S x) μ q) := by
  refine gC.ofG (n := 0) ⟨by decide +kernel, rfl, rfl, by decide⟩ (Nat.le_of_ble_eq_true rfl) ?_
  show gG Γ mX5_undo 2 0 [some (.ref 49), some (.int x)] [] μ q _
  have okd := ok.1
  have hH4 := ok.1.1
  have hP6 := ok.1.2.1
  have hc := h.1
  have hp := hc.2.2.2.2.2.1
  have hh := hc.2.2.2.2.1
  refine kG.iload_n 1 dX5_undo_0 rfl rfl ?_
  refine kG.iconst (v := nI 0) 2 dX5_undo_1 (by decide) rfl ?_
  refine kG.aload_n 3 dX5_undo_2 rfl rfl ?_
  refine gG.getI 6 dX5_undo_3 fX5_132 ⟨by decide, by decide⟩ rfl rfl rfl ?_
  rw [hc.2.2.2.1]
  refine gG.callS 9 dX5_undo_6 lX5_89 vX5_within (m_within Γ x 0 (aG S).1) rfl rfl ⟨by decide, by decide⟩ (Nat.le_of_ble_eq_true rfl) rfl (fun r6 μ6 q6 hc6 => ?_)
  obtain ⟨rfl, rfl, rfl⟩ := hc6
  refine kG.if_ne 15 12 dX5_undo_9 (by decide) rfl (fun h9 => ?_) (fun h9 => ?_)
  · have hb := b2_n0.mp h9
    have hg6 := ok.2.2.2.2.2.1.2
    obtain ⟨v, v1, v2, rfl, ex⟩ := bt_t (by decide) (by omega) hb
    refine kG.aload_n 16 dX5_undo_15 rfl rfl ?_
    refine kG.dup 17 dX5_undo_16 rfl rfl ?_
    refine gG.getI 20 dX5_undo_17 fX5_132 ⟨by decide, by decide⟩ rfl rfl rfl ?_
    rw [hc.2.2.2.1]
    refine kG.iload_n 21 dX5_undo_20 rfl rfl ?_
    refine kG.isub 22 dX5_undo_21 rfl ?_
    rw [pk_sub v2]
    refine gG.putI 25 dX5_undo_22 fX5_132 ⟨by decide, by decide⟩ rfl rfl rfl ⟨rfl, rfl⟩ rfl ?_
    refine kG.aload_n 26 dX5_undo_25 rfl rfl ?_
    refine gG.getI 29 dX5_undo_26 fX5_132 ⟨by decide, by decide⟩ rfl rfl rfl ?_
    rw [uI_same]
    refine gG.iret dX5_undo_29 rfl ?_
    refine ⟨by unfold s_undo; rw [if_pos hb, ex], ?_, rfl, fun k hk => uI_off (by omega)⟩
    unfold n_undo
    rw [if_pos hb, ex]
    have f1 : ∀ j, j ≠ 22 → ∀ z : Int32, uI μ6 49 22 z 49 j = μ6 49 j := fun j hj z => uI_ne (Or.inr hj)
    have f2 : ∀ k, k ≠ 49 → ∀ z : Int32, uI μ6 49 22 z k = μ6 k := fun k hk z => uI_off hk
    refine ⟨MC_gf (G' := ((aG S).1 - v, (aG S).2)) hc (fun j hj => f1 j (by omega) _) (fun k a b => f2 k (by omega) _) (uI_same _ _ _ _) (fun i hi => ?_), MR_fr h.2.1 (f1 31 (by decide) _) (fun k a b => f2 k (by omega) _), MH_fr (S := S) h.2.2.1 (fun k a b => f2 k (by omega) _), by rw [f1 1 (by decide)]; exact h.2.2.2.1, by rw [f1 0 (by decide)]; exact h.2.2.2.2⟩
    have hi : i < (aG S).1 - v := hi
    rw [f2 63 (by decide), f2 64 (by decide), f2 65 (by decide)]
    exact hc.2.2.2.2.2.2.2 i (by omega)
  · have hb := b2_0.mp h9
    refine kG.bipush (v := (-2)) 14 dX5_undo_12 (by decide) rfl ?_
    refine gG.iret dX5_undo_14 rfl ?_
    refine ⟨by unfold s_undo; rw [if_neg (by rw [hb]; decide)], ?_, rfl, fun _ _ => rfl⟩
    unfold n_undo
    rw [if_neg (by rw [hb]; decide)]
    exact h
set_option maxHeartbeats 4000000 in
theorem y_back (Γ : kGm) {S : AS} {μ : kM} {q : kq4} (ok : okS S) (h : MS S μ) (x : Int32) : gC Γ yX5_back mX5_back 2 [.ref 49, .int x] μ q (PMi (s_back S x) (n_back S x) μ q) := by
  refine gC.ofG (n := 0) ⟨by decide +kernel, rfl, rfl, by decide⟩ (Nat.le_of_ble_eq_true rfl) ?_
  show gG Γ mX5_back 2 0 [some (.ref 49), some (.int x)] [] μ q _
  have okd := ok.1
  have hH4 := ok.1.1
  have hP6 := ok.1.2.1
  have hc := h.1
  have hp := hc.2.2.2.2.2.1
  have hh := hc.2.2.2.2.1
  refine kG.iload_n 1 dX5_back_0 rfl rfl ?_
  refine kG.iconst (v := nI 0) 2 dX5_back_1 (by decide) rfl ?_
  refine kG.aload_n 3 dX5_back_2 rfl rfl ?_
  refine gG.getI 6 dX5_back_3 fX5_135 ⟨by decide, by decide⟩ rfl rfl rfl ?_
  rw [h.2.1.1]
  refine gG.callS 9 dX5_back_6 lX5_89 vX5_within (m_within Γ x 0 (aR S).1) rfl rfl ⟨by decide, by decide⟩ (Nat.le_of_ble_eq_true rfl) rfl (fun r6 μ6 q6 hc6 => ?_)
  obtain ⟨rfl, rfl, rfl⟩ := hc6
  refine kG.if_ne 15 12 dX5_back_9 (by decide) rfl (fun h9 => ?_) (fun h9 => ?_)
  · have hb := b2_n0.mp h9
    have hg6 := ok.2.2.2.2.2.2.1.2
    obtain ⟨v, v1, v2, rfl, ex⟩ := bt_t (by decide) (by omega) hb
    refine kG.aload_n 16 dX5_back_15 rfl rfl ?_
    refine kG.dup 17 dX5_back_16 rfl rfl ?_
    refine gG.getI 20 dX5_back_17 fX5_135 ⟨by decide, by decide⟩ rfl rfl rfl ?_
    rw [h.2.1.1]
    refine kG.iload_n 21 dX5_back_20 rfl rfl ?_
    refine kG.isub 22 dX5_back_21 rfl ?_
    rw [pk_sub v2]
    refine gG.putI 25 dX5_back_22 fX5_135 ⟨by decide, by decide⟩ rfl rfl rfl ⟨rfl, rfl⟩ rfl ?_
    refine kG.aload_n 26 dX5_back_25 rfl rfl ?_
    refine gG.getI 29 dX5_back_26 fX5_135 ⟨by decide, by decide⟩ rfl rfl rfl ?_
    rw [uI_same]
    refine gG.iret dX5_back_29 rfl ?_
    refine ⟨by unfold s_back; rw [if_pos hb, ex], ?_, rfl, fun k hk => uI_off (by omega)⟩
    unfold n_back
    rw [if_pos hb, ex]
    have f1 : ∀ j, j ≠ 31 → ∀ z : Int32, uI μ6 49 31 z 49 j = μ6 49 j := fun j hj z => uI_ne (Or.inr hj)
    have f2 : ∀ k, k ≠ 49 → ∀ z : Int32, uI μ6 49 31 z k = μ6 k := fun k hk z => uI_off hk
    refine ⟨MC_fr hc (fun j hj => f1 j (by omega) _) (fun k a b c d => f2 k (by omega) _), ⟨uI_same _ _ _ _, fun i hi => ?_⟩, MH_fr (S := S) h.2.2.1 (fun k a b => f2 k (by omega) _), by rw [f1 1 (by decide)]; exact h.2.2.2.1, by rw [f1 0 (by decide)]; exact h.2.2.2.2⟩
    have hi : i < (aR S).1 - v := hi
    rw [f2 70 (by decide), f2 71 (by decide), f2 72 (by decide), f2 73 (by decide)]
    exact h.2.1.2 i (by omega)
  · have hb := b2_0.mp h9
    refine kG.bipush (v := (-2)) 14 dX5_back_12 (by decide) rfl ?_
    refine gG.iret dX5_back_14 rfl ?_
    refine ⟨by unfold s_back; rw [if_neg (by rw [hb]; decide)], ?_, rfl, fun _ _ => rfl⟩
    unfold n_back
    rw [if_neg (by rw [hb]; decide)]
    exact h
set_option maxHeartbeats 4000000 in
theorem y_trace (Γ : kGm) {S : AS} {μ : kM} {q : kq4} (ok : okS S) (h : MS S μ) : gC Γ yX5_trace mX5_trace 1 [.ref 49] μ q (PMi (aT S) (S) μ q) := by
  refine gC.ofG (n := 0) ⟨by decide +kernel, rfl, rfl, by decide⟩ (Nat.le_of_ble_eq_true rfl) ?_
  show gG Γ mX5_trace 1 0 [some (.ref 49)] [] μ q _
  have okd := ok.1
  have hH4 := ok.1.1
  have hP6 := ok.1.2.1
  have hc := h.1
  have hp := hc.2.2.2.2.2.1
  have hh := hc.2.2.2.2.1
  refine kG.aload_n 1 dX5_trace_0 rfl rfl ?_
  refine gG.getI 4 dX5_trace_1 fX5_247 ⟨by decide, by decide⟩ rfl rfl rfl ?_
  refine gG.iret dX5_trace_4 rfl ?_
  exact ⟨by rw [h.2.2.2.1], h, rfl, fun _ _ => rfl⟩
set_option maxHeartbeats 4000000 in
theorem y_fault (Γ : kGm) {S : AS} {μ : kM} {q : kq4} (ok : okS S) (h : MS S μ) : gC Γ yX5_fault mX5_fault 1 [.ref 49] μ q (PMi (aF S) (S) μ q) := by
  refine gC.ofG (n := 0) ⟨by decide +kernel, rfl, rfl, by decide⟩ (Nat.le_of_ble_eq_true rfl) ?_
  show gG Γ mX5_fault 1 0 [some (.ref 49)] [] μ q _
  have okd := ok.1
  have hH4 := ok.1.1
  have hP6 := ok.1.2.1
  have hc := h.1
  have hp := hc.2.2.2.2.2.1
  have hh := hc.2.2.2.2.1
  refine kG.aload_n 1 dX5_fault_0 rfl rfl ?_
  refine gG.getI 4 dX5_fault_1 fX5_83 ⟨by decide, by decide⟩ rfl rfl rfl ?_
  refine gG.iret dX5_fault_4 rfl ?_
  exact ⟨by rw [h.2.2.2.2], h, rfl, fun _ _ => rfl⟩
set_option maxHeartbeats 4000000 in
theorem y_many (Γ : kGm) {S : AS} {μ : kM} {q : kq4} (ok : okS S) (h : MS S μ) (x : Int32) : gC Γ yX5_many mX5_many 1 [.ref 49, .int x] μ q (PMi (s_many S x) (S) μ q) := by
  refine gC.ofG (n := 0) ⟨by decide +kernel, rfl, rfl, by decide⟩ (Nat.le_of_ble_eq_true rfl) ?_
  show gG Γ mX5_many 1 0 [some (.ref 49), some (.int x)] [] μ q _
  have okd := ok.1
  have hH4 := ok.1.1
  have hP6 := ok.1.2.1
  have hc := h.1
  have hp := hc.2.2.2.2.2.1
  have hh := hc.2.2.2.2.1
  refine kG.iload_n 1 dX5_many_0 rfl rfl ?_
  by_cases hs1_0 : x = nI 0
  · rw [hs1_0]
    refine kG.tableIn 36 dX5_many_1 (by decide) (by decide) rfl (by decide) ?_
    refine kG.aload_n 37 dX5_many_36 rfl rfl ?_
    refine gG.getI 40 dX5_many_37 fX5_93 ⟨by decide, by decide⟩ rfl rfl rfl ?_
    refine gG.iret dX5_many_40 rfl ?_
    refine ⟨?_, h, rfl, fun _ _ => rfl⟩
    unfold s_many
    first | rw [hc.2.1]; rfl | rw [hc.2.1]
  by_cases hs1_1 : x = nI 1
  · rw [hs1_1]
    refine kG.tableIn 41 dX5_many_1 (by decide) (by decide) rfl (by decide) ?_
    refine kG.aload_n 42 dX5_many_41 rfl rfl ?_
    refine gG.getI 45 dX5_many_42 fX5_96 ⟨by decide, by decide⟩ rfl rfl rfl ?_
    refine gG.iret dX5_many_45 rfl ?_
    refine ⟨?_, h, rfl, fun _ _ => rfl⟩
    unfold s_many
    first | rw [hc.2.2.1]; rfl | rw [hc.2.2.1]
  by_cases hs1_2 : x = nI 2
  · rw [hs1_2]
    refine kG.tableIn 46 dX5_many_1 (by decide) (by decide) rfl (by decide) ?_
    refine kG.aload_n 47 dX5_many_46 rfl rfl ?_
    refine gG.getI 50 dX5_many_47 fX5_123 ⟨by decide, by decide⟩ rfl rfl rfl ?_
    refine gG.iret dX5_many_50 rfl ?_
    refine ⟨?_, h, rfl, fun _ _ => rfl⟩
    unfold s_many
    first | rw [hc.1]; rfl | rw [hc.1]
  by_cases hs1_3 : x = nI 3
  · rw [hs1_3]
    refine kG.tableIn 51 dX5_many_1 (by decide) (by decide) rfl (by decide) ?_
    refine kG.aload_n 52 dX5_many_51 rfl rfl ?_
    refine gG.getI 55 dX5_many_52 fX5_132 ⟨by decide, by decide⟩ rfl rfl rfl ?_
    refine gG.iret dX5_many_55 rfl ?_
    refine ⟨?_, h, rfl, fun _ _ => rfl⟩
    unfold s_many
    first | rw [hc.2.2.2.1]; rfl | rw [hc.2.2.2.1]
  by_cases hs1_4 : x = nI 4
  · rw [hs1_4]
    refine kG.tableIn 56 dX5_many_1 (by decide) (by decide) rfl (by decide) ?_
    refine kG.aload_n 57 dX5_many_56 rfl rfl ?_
    refine gG.getI 60 dX5_many_57 fX5_135 ⟨by decide, by decide⟩ rfl rfl rfl ?_
    refine gG.iret dX5_many_60 rfl ?_
    refine ⟨?_, h, rfl, fun _ _ => rfl⟩
    unfold s_many
    first | rw [h.2.1.1]; rfl | rw [h.2.1.1]
  · refine kG.tableOut 61 dX5_many_1 (ksw_5 hs1_0 hs1_1 hs1_2 hs1_3 hs1_4) (by decide) ?_
    refine kG.bipush (v := (-2)) 63 dX5_many_61 (by decide) rfl ?_
    refine gG.iret dX5_many_63 rfl ?_
    refine ⟨?_, h, rfl, fun _ _ => rfl⟩
    unfold s_many
    first | rw [if_neg hs1_0, if_neg hs1_1, if_neg hs1_2, if_neg hs1_3, if_neg hs1_4]; rfl | rw [if_neg hs1_0, if_neg hs1_1, if_neg hs1_2, if_neg hs1_3, if_neg hs1_4]
