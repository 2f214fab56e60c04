set_option maxHeartbeats 4000000 in
theorem y_cell (Γ : kGm) {S : AS} {μ : kM} {q : kq4} (ok : okS S) (h : MS S μ) (x : Int32) (y : Int32) (z : Int32) : gC Γ yX5_cell mX5_cell 3 [.ref 49, .int x, .int y, .int z] μ q (PMl (s_cell S x y z) (n_cell S x y z) μ q) := by
  refine gC.ofG (n := 0) ⟨by decide +kernel, rfl, rfl, by decide⟩ (Nat.le_of_ble_eq_true rfl) ?_
  show gG Γ mX5_cell 3 0 [some (.ref 49), some (.int x), some (.int y), some (.int z)] [] μ q _
  have okd := ok.1
  have hH4 := ok.1.1
  have hP6 := ok.1.2.1
  have hc := h.1
  have hp := hc.2.2.2.2.2.1
  have hh := hc.2.2.2.2.1
  refine kG.aload_n 1 dX5_cell_0 rfl rfl ?_
  refine kG.iconst (v := nI 0) 2 dX5_cell_1 (by decide) rfl ?_
  refine gG.putI 5 dX5_cell_2 fX5_83 ⟨by decide, by decide⟩ rfl rfl rfl ⟨rfl, rfl⟩ rfl ?_
  have h1 := MS_fa (nI 0) h
  refine kG.iload_n 6 dX5_cell_5 rfl rfl ?_
  refine gG.callS 9 dX5_cell_6 lX5_102 vX5_isSheet (m_isSheet Γ x) rfl rfl ⟨by decide, by decide⟩ (Nat.le_of_ble_eq_true rfl) rfl (fun r6 μ6 q6 hc6 => ?_)
  obtain ⟨rfl, rfl, rfl⟩ := hc6
  refine kG.if_eq 19 12 dX5_cell_9 (by decide) rfl (fun h9 => ?_) (fun h9 => ?_)
  · have hb6 := b2_0.mp h9
    have hlf : laF S x z = some (-1, nI 0) := by unfold laF; rw [if_neg (by rw [hb6]; decide)]
    refine kG.ldc2 22 dX5_cell_19 kX5_87 rfl ?_
    refine gG.lret dX5_cell_22 rfl ?_
    refine ⟨?_, ?_, rfl, fun k hk => uI_off (by omega)⟩
    · unfold s_cell
      rw [hlf]
    · unfold n_cell
      rw [hlf]
      exact h1
  · have hb6 := b2_n0.mp h9
    refine kG.iload_n 13 dX5_cell_12 rfl rfl ?_
    refine gG.callS 16 dX5_cell_13 lX5_106 vX5_isSort (m_isSort Γ z) rfl rfl ⟨by decide, by decide⟩ (Nat.le_of_ble_eq_true rfl) rfl (fun r13 μ13 q13 hc13 => ?_)
    obtain ⟨rfl, rfl, rfl⟩ := hc13
    refine kG.if_ne 23 19 dX5_cell_16 (by decide) rfl (fun h16 => ?_) (fun h16 => ?_)
    · have hb15 := b2_n0.mp h16
      obtain ⟨kx, hkx, rfl, ex⟩ := inB_t (by decide) hb6
      have hl3 := (ok.2.2.2.2.2.2.2 kx hkx).1
      have hn6 := (ok.2.2.2.2.2.2.2 kx hkx).2
      have hs := h.2.2.1 kx hkx
      refine kG.aload_n 24 dX5_cell_23 rfl rfl ?_
      refine gG.getP 27 dX5_cell_24 fX5_9 ⟨by decide, by decide⟩ rfl rfl rfl rfl ?_
      refine kG.iload_n 28 dX5_cell_27 rfl rfl ?_
      refine gG.iald (n := 4) _ 29 dX5_cell_28 ⟨by decide, by decide⟩ rfl rfl (by omega) (by decide) rfl ?_
      rw [uI_off (by decide), hs.1]
      refine kG.bipush (v := (-9)) 31 dX5_cell_29 (by decide) rfl ?_
      refine kG.icmp_eq 50 34 dX5_cell_31 (by decide) rfl (fun h31 => ?_) (fun h31 => ?_)
      · have hn0 : aL S kx = 0 := (so_9 hl3).mp h31
        refine kG.aload_n 51 dX5_cell_50 rfl rfl ?_
        refine gG.getP 54 dX5_cell_51 fX5_9 ⟨by decide, by decide⟩ rfl rfl rfl rfl ?_
        refine kG.iload_n 55 dX5_cell_54 rfl rfl ?_
        refine gG.iald (n := 4) _ 56 dX5_cell_55 ⟨by decide, by decide⟩ rfl rfl (by omega) (by decide) rfl ?_
        rw [uI_off (by decide), hs.1]
        refine kG.bipush (v := (-9)) 58 dX5_cell_56 (by decide) rfl ?_
        refine kG.icmp_ne 67 61 dX5_cell_58 (by decide) rfl (fun h58 => ?_) (fun h58 => ?_)
        · exact absurd ((so_9 hl3).mpr hn0) h58
        · refine kG.aload_n 62 dX5_cell_61 rfl rfl ?_
          refine kG.iconst (v := nI 1) 63 dX5_cell_62 (by decide) rfl ?_
          refine gG.callV 66 dX5_cell_63 lX5_243 vX5_lost (m_lost Γ (nI 1)) rfl rfl ⟨by decide, by decide⟩ rfl ⟨by decide, rfl⟩ ⟨by decide, by decide⟩ (Nat.le_of_ble_eq_true rfl) rfl (fun r63 μ63 q63 hc63 => ?_)
          obtain ⟨rfl, rfl, rfl⟩ := hc63
          have h2 := MS_fa (nI 1) h1
          refine gG.lret dX5_cell_66 rfl ?_
          refine ⟨?_, ?_, rfl, fun k hk => by rw [uI_off (by omega), uI_off (by omega)]⟩
          · unfold s_cell
            rw [show laF S (nI kx) z = some (-11, nI 1) by unfold laF; rw [if_pos hb6, if_pos hb15, ex, if_pos hn0]]
          · unfold n_cell
            rw [show laF S (nI kx) z = some (-11, nI 1) by unfold laF; rw [if_pos hb6, if_pos hb15, ex, if_pos hn0]]
            exact h2
      · have hn0 : ¬ aL S kx = 0 := fun z => h31 ((so_9 hl3).mpr z)
        refine kG.aload_n 35 dX5_cell_34 rfl rfl ?_
        refine gG.getP 38 dX5_cell_35 fX5_9 ⟨by decide, by decide⟩ rfl rfl rfl rfl ?_
        refine kG.iload_n 39 dX5_cell_38 rfl rfl ?_
        refine gG.iald (n := 4) _ 40 dX5_cell_39 ⟨by decide, by decide⟩ rfl rfl (by omega) (by decide) rfl ?_
        rw [uI_off (by decide), hs.1, so_n hn0]
        refine kG.iload_n 41 dX5_cell_40 rfl rfl ?_
        refine kG.icmp_eq 50 44 dX5_cell_41 (by decide) rfl (fun h41 => ?_) (fun h41 => ?_)
        · have hne : nI (aL S kx - 1) = z := h41
          refine kG.aload_n 51 dX5_cell_50 rfl rfl ?_
          refine gG.getP 54 dX5_cell_51 fX5_9 ⟨by decide, by decide⟩ rfl rfl rfl rfl ?_
          refine kG.iload_n 55 dX5_cell_54 rfl rfl ?_
          refine gG.iald (n := 4) _ 56 dX5_cell_55 ⟨by decide, by decide⟩ rfl rfl (by omega) (by decide) rfl ?_
          rw [uI_off (by decide), hs.1]
          refine kG.bipush (v := (-9)) 58 dX5_cell_56 (by decide) rfl ?_
          refine kG.icmp_ne 67 61 dX5_cell_58 (by decide) rfl (fun h58 => ?_) (fun h58 => ?_)
          · have g2 := hs.2 hn0
            refine kG.iload_n 68 dX5_cell_67 rfl rfl ?_
            refine kG.iconst (v := nI 0) 69 dX5_cell_68 (by decide) rfl ?_
            refine kG.aload_n 70 dX5_cell_69 rfl rfl ?_
            refine gG.getP 73 dX5_cell_70 fX5_13 ⟨by decide, by decide⟩ rfl rfl rfl rfl ?_
            refine kG.iload_n 74 dX5_cell_73 rfl rfl ?_
            refine gG.iald (n := 4) _ 75 dX5_cell_74 ⟨by decide, by decide⟩ rfl rfl (by omega) (by decide) rfl ?_
            rw [uI_off (by decide), g2.1]
            refine kG.iconst (v := nI 1) 76 dX5_cell_75 (by decide) rfl ?_
            refine kG.isub 77 dX5_cell_76 rfl ?_
            refine gG.callS 80 dX5_cell_77 lX5_89 vX5_within (m_inR Γ y hn6) rfl rfl ⟨by decide, by decide⟩ (Nat.le_of_ble_eq_true rfl) rfl (fun r77 μ77 q77 hc77 => ?_)
            obtain ⟨rfl, rfl, rfl⟩ := hc77
            refine kG.if_ne 89 83 dX5_cell_80 (by decide) rfl (fun h80 => ?_) (fun h80 => ?_)
            · have hy : inB y (aN S kx) = true := b2_n0.mp h80
              obtain ⟨ky, hky, rfl, ey⟩ := inB_t (by omega) hy
              refine kG.aload_n 90 dX5_cell_89 rfl rfl ?_
              refine gG.getP 93 dX5_cell_90 fX5_16 ⟨by decide, by decide⟩ rfl rfl rfl rfl ?_
              refine kG.bipush (v := nI 60) 95 dX5_cell_93 (by decide) rfl ?_
              refine kG.iload_n 96 dX5_cell_95 rfl rfl ?_
              refine kG.imul 97 dX5_cell_96 rfl ?_
              refine kG.iload_n 98 dX5_cell_97 rfl rfl ?_
              refine kG.iadd 99 dX5_cell_98 rfl ?_
              rw [pk_mul, nI_add]
              refine gG.iald (n := 240) (60 * kx + ky) 100 dX5_cell_99 ⟨by decide, by decide⟩ rfl rfl (by omega) (by decide) rfl ?_
              rw [uI_off (by decide), g2.2 ky hky]
              refine kG.i2l 101 dX5_cell_100 rfl ?_
              refine gG.lret dX5_cell_101 rfl ?_
              refine ⟨?_, ?_, rfl, fun k hk => uI_off (by omega)⟩
              · unfold s_cell
                rw [show laF S (nI kx) z = none by unfold laF; rw [if_pos hb6, if_pos hb15, ex, if_neg hn0, if_pos hne]]
                show _ = some (Value.long (if _ then _ else _))
                rw [ex, ey, if_pos hy]
              · unfold n_cell
                rw [show laF S (nI kx) z = none by unfold laF; rw [if_pos hb6, if_pos hb15, ex, if_neg hn0, if_pos hne]]
                show MS (if _ then _ else _) _
                rw [ex, if_pos hy]
                exact h1
            · have hy : inB y (aN S kx) = false := b2_0.mp h80
              refine kG.aload_n 84 dX5_cell_83 rfl rfl ?_
              refine kG.iconst (v := nI 3) 85 dX5_cell_84 (by decide) rfl ?_
              refine gG.callV 88 dX5_cell_85 lX5_243 vX5_lost (m_lost Γ (nI 3)) rfl rfl ⟨by decide, by decide⟩ rfl ⟨by decide, rfl⟩ ⟨by decide, by decide⟩ (Nat.le_of_ble_eq_true rfl) rfl (fun r85 μ85 q85 hc85 => ?_)
              obtain ⟨rfl, rfl, rfl⟩ := hc85
              have h2 := MS_fa (nI 3) h1
              refine gG.lret dX5_cell_88 rfl ?_
              refine ⟨?_, ?_, rfl, fun k hk => by rw [uI_off (by omega), uI_off (by omega)]⟩
              · unfold s_cell
                rw [show laF S (nI kx) z = none by unfold laF; rw [if_pos hb6, if_pos hb15, ex, if_neg hn0, if_pos hne]]
                show _ = some (Value.long (if _ then _ else _))
                rw [ex, if_neg (by rw [hy]; decide)]
              · unfold n_cell
                rw [show laF S (nI kx) z = none by unfold laF; rw [if_pos hb6, if_pos hb15, ex, if_neg hn0, if_pos hne]]
                show MS (if _ then _ else _) _
                rw [ex, if_neg (by rw [hy]; decide)]
                exact h2
          · exact absurd ((so_9 hl3).mp h58) hn0
        · have hne : ¬ nI (aL S kx - 1) = z := h41
          refine kG.aload_n 45 dX5_cell_44 rfl rfl ?_
          refine kG.iconst (v := nI 2) 46 dX5_cell_45 (by decide) rfl ?_
          refine gG.callV 49 dX5_cell_46 lX5_243 vX5_lost (m_lost Γ (nI 2)) rfl rfl ⟨by decide, by decide⟩ rfl ⟨by decide, rfl⟩ ⟨by decide, by decide⟩ (Nat.le_of_ble_eq_true rfl) rfl (fun r46 μ46 q46 hc46 => ?_)
          obtain ⟨rfl, rfl, rfl⟩ := hc46
          have h2 := MS_fa (nI 2) h1
          refine gG.lret dX5_cell_49 rfl ?_
          refine ⟨?_, ?_, rfl, fun k hk => by rw [uI_off (by omega), uI_off (by omega)]⟩
          · unfold s_cell
            rw [show laF S (nI kx) z = some (-12, nI 2) by unfold laF; rw [if_pos hb6, if_pos hb15, ex, if_neg hn0, if_neg hne]]
          · unfold n_cell
            rw [show laF S (nI kx) z = some (-12, nI 2) by unfold laF; rw [if_pos hb6, if_pos hb15, ex, if_neg hn0, if_neg hne]]
            exact h2
    · have hb15 := b2_0.mp h16
      have hlf : laF S x z = some (-2, nI 0) := by unfold laF; rw [if_pos hb6, if_neg (by rw [hb15]; decide)]
      refine kG.ldc2 22 dX5_cell_19 kX5_87 rfl ?_
      refine gG.lret dX5_cell_22 rfl ?_
      refine ⟨?_, ?_, rfl, fun k hk => uI_off (by omega)⟩
      · unfold s_cell
        rw [hlf]
      · unfold n_cell
        rw [hlf]
        exact h1
