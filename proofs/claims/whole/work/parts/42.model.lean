set_option maxHeartbeats 4000000 in
theorem y_reading (Γ : kGm) {S : AS} {μ : kM} {q : kq4} (ok : okS S) (h : MS S μ) (x : Int32) (y : Int32) (z : Int32) (w : Int32) : gC Γ yX5_reading mX5_reading 3 [.ref 49, .int x, .int y, .int z, .int w] μ q (PMi (s_reading S x y z w) (n_reading S x y z w) μ q) := by
  refine gC.ofG (n := 0) ⟨by decide +kernel, rfl, rfl, by decide⟩ (Nat.le_of_ble_eq_true rfl) ?_
  show gG Γ mX5_reading 3 0 [some (.ref 49), some (.int x), some (.int y), some (.int z), some (.int w)] [] μ q _
  have okd := ok.1
  have hH4 := ok.1.1
  have hP6 := ok.1.2.1
  have hc := h.1
  have hp := hc.2.2.2.2.2.1
  have hh := hc.2.2.2.2.1
  refine kG.aload_n 1 dX5_reading_0 rfl rfl ?_
  refine kG.iload_n 2 dX5_reading_1 rfl rfl ?_
  refine gG.callV 5 dX5_reading_2 lX5_155 vX5_isHouse (m_isHouse Γ x (dH (aD S)) hc.2.1) rfl rfl ⟨by decide, by decide⟩ rfl ⟨by decide, rfl⟩ ⟨by decide, by decide⟩ (Nat.le_of_ble_eq_true rfl) rfl (fun r2 μ2 q2 hc2 => ?_)
  obtain ⟨rfl, rfl, rfl⟩ := hc2
  refine kG.if_ne 10 8 dX5_reading_5 (by decide) rfl (fun g2 => ?_) (fun g2 => ?_)
  · have hb2 := b2_n0.mp g2
    obtain ⟨kx, hkx, rfl, ex⟩ := inB_t (by omega) hb2
    have hx := hh kx hkx
    refine kG.iload_n 11 dX5_reading_10 rfl rfl ?_
    refine gG.callS 14 dX5_reading_11 lX5_164 vX5_isWeek (m_isWeek Γ y) rfl rfl ⟨by decide, by decide⟩ (Nat.le_of_ble_eq_true rfl) rfl (fun r11 μ11 q11 hc11 => ?_)
    obtain ⟨rfl, rfl, rfl⟩ := hc11
    refine kG.if_eq 35 17 dX5_reading_14 (by decide) rfl (fun h14 => ?_) (fun h14 => ?_)
    · have hb := b2_0.mp h14
      have hbad : (inB y 10 && inB z 14 && bt w 0 99) = false := by rw [hb]; rfl
      refine kG.bipush (v := (-2)) 37 dX5_reading_35 (by decide) rfl ?_
      refine gG.iret dX5_reading_37 rfl ?_
      refine ⟨by unfold s_reading; rw [if_pos hb2, if_neg (by rw [hbad]; decide)], ?_, rfl, fun _ _ => rfl⟩
      unfold n_reading
      rw [if_neg (fun c => by obtain ⟨-, c1, c2, c3, -⟩ := c; rw [c1, c2, c3] at hbad; cases hbad)]
      exact h
    · have hby := b2_n0.mp h14
      refine kG.iload_n 18 dX5_reading_17 rfl rfl ?_
      refine gG.callS 21 dX5_reading_18 lX5_197 vX5_isHalf (m_isHalf Γ z) rfl rfl ⟨by decide, by decide⟩ (Nat.le_of_ble_eq_true rfl) rfl (fun r18 μ18 q18 hc18 => ?_)
      obtain ⟨rfl, rfl, rfl⟩ := hc18
      refine kG.if_eq 35 24 dX5_reading_21 (by decide) rfl (fun h21 => ?_) (fun h21 => ?_)
      · have hb := b2_0.mp h21
        have hbad : (inB y 10 && inB z 14 && bt w 0 99) = false := by rw [hb, Bool.and_false]; rfl
        refine kG.bipush (v := (-2)) 37 dX5_reading_35 (by decide) rfl ?_
        refine gG.iret dX5_reading_37 rfl ?_
        refine ⟨by unfold s_reading; rw [if_pos hb2, if_neg (by rw [hbad]; decide)], ?_, rfl, fun _ _ => rfl⟩
        unfold n_reading
        rw [if_neg (fun c => by obtain ⟨-, c1, c2, c3, -⟩ := c; rw [c1, c2, c3] at hbad; cases hbad)]
        exact h
      · have hbz := b2_n0.mp h21
        refine kG.iload 26 dX5_reading_24 rfl rfl ?_
        refine kG.iconst (v := nI 0) 27 dX5_reading_26 (by decide) rfl ?_
        refine kG.bipush (v := nI 99) 29 dX5_reading_27 (by decide) rfl ?_
        refine gG.callS 32 dX5_reading_29 lX5_89 vX5_within (m_within Γ w 0 99) rfl rfl ⟨by decide, by decide⟩ (Nat.le_of_ble_eq_true rfl) rfl (fun r29 μ29 q29 hc29 => ?_)
        obtain ⟨rfl, rfl, rfl⟩ := hc29
        refine kG.if_ne 38 35 dX5_reading_32 (by decide) rfl (fun h32 => ?_) (fun h32 => ?_)
        · have hbw := b2_n0.mp h32
          have hgd : (inB y 10 && inB z 14 && bt w 0 99) = true := by rw [hby, hbz, hbw]; rfl
          obtain ⟨ky, hky, rfl, ey⟩ := inB_t (by decide) hby
          obtain ⟨kz, hkz, rfl, ez⟩ := inB_t (by decide) hbz
          obtain ⟨kw, hkw1, hkw2, rfl, ew⟩ := bt_t (by decide) (by decide) hbw
          have hg6 := ok.2.2.2.2.2.2.1.2
          refine kG.aload_n 39 dX5_reading_38 rfl rfl ?_
          refine gG.getI 42 dX5_reading_39 fX5_135 ⟨by decide, by decide⟩ rfl rfl rfl ?_
          rw [h.2.1.1]
          refine kG.bipush (v := nI 8) 44 dX5_reading_42 (by decide) rfl ?_
          refine kG.icmp_ne 50 47 dX5_reading_44 (by decide) rfl (fun h44 => ?_) (fun h44 => ?_)
          · have hg : ¬ (aR S).1 = 8 := fun z => h44 (by rw [z])
            refine kG.aload_n 51 dX5_reading_50 rfl rfl ?_
            refine gG.getP 54 dX5_reading_51 fX5_71 ⟨by decide, by decide⟩ rfl rfl rfl rfl ?_
            refine kG.aload_n 55 dX5_reading_54 rfl rfl ?_
            refine gG.getI 58 dX5_reading_55 fX5_135 ⟨by decide, by decide⟩ rfl rfl rfl ?_
            rw [h.2.1.1]
            refine kG.iload_n 59 dX5_reading_58 rfl rfl ?_
            refine gG.iast (n := 8) _ 60 dX5_reading_59 ⟨by decide, by decide⟩ rfl rfl (by omega) (by decide) rfl ?_
            refine kG.aload_n 61 dX5_reading_60 rfl rfl ?_
            refine gG.getP 64 dX5_reading_61 fX5_74 ⟨by decide, by decide⟩ rfl rfl rfl rfl ?_
            refine kG.aload_n 65 dX5_reading_64 rfl rfl ?_
            refine gG.getI 68 dX5_reading_65 fX5_135 ⟨by decide, by decide⟩ rfl rfl rfl ?_
            rw [uI_off (by decide), h.2.1.1]
            refine kG.iload_n 69 dX5_reading_68 rfl rfl ?_
            refine gG.iast (n := 8) _ 70 dX5_reading_69 ⟨by decide, by decide⟩ rfl rfl (by omega) (by decide) rfl ?_
            refine kG.aload_n 71 dX5_reading_70 rfl rfl ?_
            refine gG.getP 74 dX5_reading_71 fX5_77 ⟨by decide, by decide⟩ rfl rfl rfl rfl ?_
            refine kG.aload_n 75 dX5_reading_74 rfl rfl ?_
            refine gG.getI 78 dX5_reading_75 fX5_135 ⟨by decide, by decide⟩ rfl rfl rfl ?_
            rw [uI_off (by decide), uI_off (by decide), h.2.1.1]
            refine kG.iload_n 79 dX5_reading_78 rfl rfl ?_
            refine gG.iast (n := 8) _ 80 dX5_reading_79 ⟨by decide, by decide⟩ rfl rfl (by omega) (by decide) rfl ?_
            refine kG.aload_n 81 dX5_reading_80 rfl rfl ?_
            refine gG.getP 84 dX5_reading_81 fX5_80 ⟨by decide, by decide⟩ rfl rfl rfl rfl ?_
            refine kG.aload_n 85 dX5_reading_84 rfl rfl ?_
            refine gG.getI 88 dX5_reading_85 fX5_135 ⟨by decide, by decide⟩ rfl rfl rfl ?_
            rw [uI_off (by decide), uI_off (by decide), uI_off (by decide), h.2.1.1]
            refine kG.iload 90 dX5_reading_88 rfl rfl ?_
            refine gG.iast (n := 8) _ 91 dX5_reading_90 ⟨by decide, by decide⟩ rfl rfl (by omega) (by decide) rfl ?_
            refine kG.aload_n 92 dX5_reading_91 rfl rfl ?_
            refine kG.dup 93 dX5_reading_92 rfl rfl ?_
            refine gG.getI 96 dX5_reading_93 fX5_135 ⟨by decide, by decide⟩ rfl rfl rfl ?_
            rw [uI_off (by decide), uI_off (by decide), uI_off (by decide), uI_off (by decide), h.2.1.1]
            refine kG.iconst (v := nI 1) 97 dX5_reading_96 (by decide) rfl ?_
            refine kG.iadd 98 dX5_reading_97 rfl ?_
            rw [nI_add]
            refine gG.putI 101 dX5_reading_98 fX5_135 ⟨by decide, by decide⟩ rfl rfl rfl ⟨rfl, rfl⟩ rfl ?_
            refine kG.aload_n 102 dX5_reading_101 rfl rfl ?_
            refine gG.getI 105 dX5_reading_102 fX5_135 ⟨by decide, by decide⟩ rfl rfl rfl ?_
            rw [uI_same]
            refine kG.iconst (v := nI 1) 106 dX5_reading_105 (by decide) rfl ?_
            refine kG.isub 107 dX5_reading_106 rfl ?_
            rw [pk_sub (by omega), Nat.add_sub_cancel]
            refine gG.iret dX5_reading_107 rfl ?_
            refine ⟨by unfold s_reading; rw [if_pos hb2, if_pos hgd, if_neg hg], ?_, rfl, fun k hk => by rw [uI_off (by omega), uI_off (by omega), uI_off (by omega), uI_off (by omega), uI_off (by omega)]⟩
            unfold n_reading
            rw [if_pos ⟨hb2, hby, hbz, hbw, hg⟩, ex, ey, ez, ew]
            have gg : ∀ (μ : kM) (u v w x z : Int32), (∀ k, k ≠ 49 → k ≠ 70 → k ≠ 71 → k ≠ 72 → k ≠ 73 → uI (uI (uI (uI (uI μ 70 (aR S).1 u) 71 (aR S).1 v) 72 (aR S).1 w) 73 (aR S).1 x) 49 31 z k = μ k) ∧ (∀ j, j ≠ 31 → uI (uI (uI (uI (uI μ 70 (aR S).1 u) 71 (aR S).1 v) 72 (aR S).1 w) 73 (aR S).1 x) 49 31 z 49 j = μ 49 j) := fun μ u v w x z => ⟨fun k a b c d e => by rw [uI_off a, uI_off e, uI_off d, uI_off c, uI_off b], fun j hj => by rw [uI_ne (Or.inr hj), uI_off (by decide), uI_off (by decide), uI_off (by decide), uI_off (by decide)]⟩
            obtain ⟨g2, g3⟩ := gg _ _ _ _ _ _
            refine ⟨MC_fr hc (fun j hj => g3 j (by omega)) (fun k a b c d => g2 k (by omega) (by omega) (by omega) (by omega) (by omega)), ⟨uI_same _ _ _ _, fun i hi => ?_⟩, MH_fr (S := S) h.2.2.1 (fun k a b => g2 k (by omega) (by omega) (by omega) (by omega) (by omega)), by rw [g3 1 (by decide)]; exact h.2.2.2.1, by rw [g3 0 (by decide)]; exact h.2.2.2.2⟩
            have hi : i < (aR S).1 + 1 := hi
            show _ = nI (fu (aR S).2.1 (aR S).1 kx i) ∧ _ = nI (fu (aR S).2.2.1 (aR S).1 (ky * 14 + kz) i / 14) ∧ _ = nI (fu (aR S).2.2.1 (aR S).1 (ky * 14 + kz) i % 14) ∧ _ = nI (fu (aR S).2.2.2 (aR S).1 kw i)
            by_cases e : i = (aR S).1
            · subst e
              repeat (first | rw [uI_same] | rw [uI_off (by decide)])
              rw [fu_s, fu_s, fu_s, show (ky * 14 + kz) / 14 = ky by omega, show (ky * 14 + kz) % 14 = kz by omega]
              exact ⟨rfl, rfl, rfl, rfl⟩
            · repeat (first | rw [uI_ne (Or.inr e)] | rw [uI_off (by decide)])
              rw [fu_n e, fu_n e, fu_n e]
              exact h.2.1.2 i (by omega)
          · have hg : (aR S).1 = 8 := (nI_eq (by omega) (by decide)).mp h44
            refine kG.bipush (v := (-4)) 49 dX5_reading_47 (by decide) rfl ?_
            refine gG.iret dX5_reading_49 rfl ?_
            refine ⟨by unfold s_reading; rw [if_pos hb2, if_pos hgd, if_pos hg], ?_, rfl, fun _ _ => rfl⟩
            unfold n_reading
            rw [if_neg (fun c => c.2.2.2.2 hg)]
            exact h
        · have hb := b2_0.mp h32
          have hbad : (inB y 10 && inB z 14 && bt w 0 99) = false := by rw [hb, Bool.and_false]
          refine kG.bipush (v := (-2)) 37 dX5_reading_35 (by decide) rfl ?_
          refine gG.iret dX5_reading_37 rfl ?_
          refine ⟨by unfold s_reading; rw [if_pos hb2, if_neg (by rw [hbad]; decide)], ?_, rfl, fun _ _ => rfl⟩
          unfold n_reading
          rw [if_neg (fun c => by obtain ⟨-, c1, c2, c3, -⟩ := c; rw [c1, c2, c3] at hbad; cases hbad)]
          exact h
  · have hb2 := b2_0.mp g2
    refine kG.iconst (v := (-1)) 9 dX5_reading_8 (by decide) rfl ?_
    refine gG.iret dX5_reading_9 rfl ?_
    refine ⟨by unfold s_reading; rw [if_neg (by rw [hb2]; decide)], ?_, rfl, fun _ _ => rfl⟩
    unfold n_reading
    first
      | (rw [if_neg (by rw [hb2]; decide)]; exact h)
      | (rw [if_neg (by rw [hb2]; rintro ⟨z, _⟩; cases z)]; exact h)
set_option maxHeartbeats 4000000 in
theorem y_tell (Γ : kGm) {S : AS} {μ : kM} {q : kq4} (ok : okS S) (h : MS S μ) (x : Int32) : gC Γ yX5_tell mX5_tell 2 [.ref 49, .int x] μ q (PMi (s_tell S x) (n_tell S x) μ q) := by
  refine gC.ofG (n := 0) ⟨by decide +kernel, rfl, rfl, by decide⟩ (Nat.le_of_ble_eq_true rfl) ?_
  show gG Γ mX5_tell 2 0 [some (.ref 49), some (.int x), none] [] μ q _
  have okd := ok.1
  have hH4 := ok.1.1
  have hP6 := ok.1.2.1
  have hc := h.1
  have hp := hc.2.2.2.2.2.1
  have hh := hc.2.2.2.2.1
  refine kG.aload_n 1 dX5_tell_0 rfl rfl ?_
  refine kG.iload_n 2 dX5_tell_1 rfl rfl ?_
  refine gG.callV 5 dX5_tell_2 lX5_158 vX5_isPerson (m_isPerson Γ x (dP (aD S)) hc.2.2.1) rfl rfl ⟨by decide, by decide⟩ rfl ⟨by decide, rfl⟩ ⟨by decide, by decide⟩ (Nat.le_of_ble_eq_true rfl) rfl (fun r2 μ2 q2 hc2 => ?_)
  obtain ⟨rfl, rfl, rfl⟩ := hc2
  refine kG.if_ne 10 8 dX5_tell_5 (by decide) rfl (fun g2 => ?_) (fun g2 => ?_)
  · have hb2 := b2_n0.mp g2
    obtain ⟨kx, hkx, rfl, ex⟩ := inB_t (by omega) hb2
    have hx := hp kx hkx
    have od := okd.2.2.2 kx hkx
    refine kG.aload_n 11 dX5_tell_10 rfl rfl ?_
    refine gG.getP 14 dX5_tell_11 fX5_34 ⟨by decide, by decide⟩ rfl rfl rfl rfl ?_
    refine kG.iload_n 15 dX5_tell_14 rfl rfl ?_
    refine gG.iald (n := 6) _ 16 dX5_tell_15 ⟨by decide, by decide⟩ rfl rfl (by omega) (by decide) rfl ?_
    rw [hx.2.2.2.1]
    refine kG.istore_n 17 dX5_tell_16 (by decide) rfl rfl ?_
    dsimp only [List.set]
    refine kG.aload_n 18 dX5_tell_17 rfl rfl ?_
    refine gG.getP 21 dX5_tell_18 fX5_25 ⟨by decide, by decide⟩ rfl rfl rfl rfl ?_
    refine kG.iload_n 22 dX5_tell_21 rfl rfl ?_
    refine gG.iald (n := 6) _ 23 dX5_tell_22 ⟨by decide, by decide⟩ rfl rfl (by omega) (by decide) rfl ?_
    rw [hx.1]
    by_cases hs23_1 : nI (dkd (aD S) kx) = nI 1
    · rw [hs23_1]
      refine kG.lookup (off := 25) 48 dX5_tell_23 (by decide) (by decide) (by decide) ?_
      have e1 : dkd (aD S) kx = 1 := (nI_eq (by omega) (by decide)).mp hs23_1
      refine kG.aload_n 49 dX5_tell_48 rfl rfl ?_
      refine kG.iconst (v := nI 2) 50 dX5_tell_49 (by decide) rfl ?_
      refine gG.callV 53 dX5_tell_50 lX5_250 vX5_begins (m_begins Γ (nI 2)) rfl rfl ⟨by decide, by decide⟩ rfl ⟨by decide, rfl⟩ ⟨by decide, by decide⟩ (Nat.le_of_ble_eq_true rfl) rfl (fun r50 μ50 q50 hc50 => ?_)
      obtain ⟨rfl, rfl, rfl⟩ := hc50
      rw [h.2.2.2.1]
      have h1 := MS_tc (nI 31 * aT S + nI 2) h
      refine kG.aload_n 54 dX5_tell_53 rfl rfl ?_
      refine kG.iconst (v := nI 1) 55 dX5_tell_54 (by decide) rfl ?_
      refine gG.callV 58 dX5_tell_55 lX5_250 vX5_begins (m_begins Γ (nI 1)) rfl rfl ⟨by decide, by decide⟩ rfl ⟨by decide, rfl⟩ ⟨by decide, by decide⟩ (Nat.le_of_ble_eq_true rfl) rfl (fun r55 μ55 q55 hc55 => ?_)
      obtain ⟨rfl, rfl, rfl⟩ := hc55
      rw [h1.2.2.2.1]
      have h2 := MS_tc (nI 31 * aT (sTr S (nI 31 * aT S + nI 2)) + nI 1) h1
      refine kG.iload_n 59 dX5_tell_58 rfl rfl ?_
      refine kG.bipush (v := nI 100) 61 dX5_tell_59 (by decide) rfl ?_
      refine kG.iadd 62 dX5_tell_61 rfl ?_
      rw [nI_add]
      refine gG.iret dX5_tell_62 rfl ?_
      refine ⟨?_, ?_, rfl, fun k hk => by rw [uI_off (by omega), uI_off (by omega)]⟩
      · unfold s_tell
        rw [if_pos hb2, ex, if_neg (by omega), if_pos e1]
      · unfold n_tell
        rw [if_pos hb2, ex, if_neg (by omega), if_pos e1]
        exact h2
    by_cases hs23_2 : nI (dkd (aD S) kx) = nI 2
    · rw [hs23_2]
      refine kG.lookup (off := 40) 63 dX5_tell_23 (by decide) (by decide) (by decide) ?_
      have e1 : ¬ dkd (aD S) kx = 1 := fun w => hs23_1 (by rw [w])
      have e2 : dkd (aD S) kx = 2 := (nI_eq (by omega) (by decide)).mp hs23_2
      refine kG.aload_n 64 dX5_tell_63 rfl rfl ?_
      refine kG.iconst (v := nI 3) 65 dX5_tell_64 (by decide) rfl ?_
      refine gG.callV 68 dX5_tell_65 lX5_250 vX5_begins (m_begins Γ (nI 3)) rfl rfl ⟨by decide, by decide⟩ rfl ⟨by decide, rfl⟩ ⟨by decide, by decide⟩ (Nat.le_of_ble_eq_true rfl) rfl (fun r65 μ65 q65 hc65 => ?_)
      obtain ⟨rfl, rfl, rfl⟩ := hc65
      rw [h.2.2.2.1]
      have h1 := MS_tc (nI 31 * aT S + nI 3) h
      refine kG.aload_n 69 dX5_tell_68 rfl rfl ?_
      refine kG.iconst (v := nI 2) 70 dX5_tell_69 (by decide) rfl ?_
      refine gG.callV 73 dX5_tell_70 lX5_250 vX5_begins (m_begins Γ (nI 2)) rfl rfl ⟨by decide, by decide⟩ rfl ⟨by decide, rfl⟩ ⟨by decide, by decide⟩ (Nat.le_of_ble_eq_true rfl) rfl (fun r70 μ70 q70 hc70 => ?_)
      obtain ⟨rfl, rfl, rfl⟩ := hc70
      rw [h1.2.2.2.1]
      have h2 := MS_tc (nI 31 * aT (sTr S (nI 31 * aT S + nI 3)) + nI 2) h1
      refine kG.aload_n 74 dX5_tell_73 rfl rfl ?_
      refine kG.iconst (v := nI 1) 75 dX5_tell_74 (by decide) rfl ?_
      refine gG.callV 78 dX5_tell_75 lX5_250 vX5_begins (m_begins Γ (nI 1)) rfl rfl ⟨by decide, by decide⟩ rfl ⟨by decide, rfl⟩ ⟨by decide, by decide⟩ (Nat.le_of_ble_eq_true rfl) rfl (fun r75 μ75 q75 hc75 => ?_)
      obtain ⟨rfl, rfl, rfl⟩ := hc75
      rw [h2.2.2.2.1]
      have h3 := MS_tc (nI 31 * aT (sTr (sTr S (nI 31 * aT S + nI 3)) (nI 31 * aT (sTr S (nI 31 * aT S + nI 3)) + nI 2)) + nI 1) h2
      refine kG.aload_n 79 dX5_tell_78 rfl rfl ?_
      refine kG.iconst (v := nI 1) 80 dX5_tell_79 (by decide) rfl ?_
      refine gG.callV 83 dX5_tell_80 lX5_250 vX5_begins (m_begins Γ (nI 1)) rfl rfl ⟨by decide, by decide⟩ rfl ⟨by decide, rfl⟩ ⟨by decide, by decide⟩ (Nat.le_of_ble_eq_true rfl) rfl (fun r80 μ80 q80 hc80 => ?_)
      obtain ⟨rfl, rfl, rfl⟩ := hc80
      rw [h3.2.2.2.1]
      have h4 := MS_tc (nI 31 * aT (sTr (sTr (sTr S (nI 31 * aT S + nI 3)) (nI 31 * aT (sTr S (nI 31 * aT S + nI 3)) + nI 2)) (nI 31 * aT (sTr (sTr S (nI 31 * aT S + nI 3)) (nI 31 * aT (sTr S (nI 31 * aT S + nI 3)) + nI 2)) + nI 1)) + nI 1) h3
      refine kG.iconst (v := nI 2) 84 dX5_tell_83 (by decide) rfl ?_
      refine kG.iload_n 85 dX5_tell_84 rfl rfl ?_
      refine kG.imul 86 dX5_tell_85 rfl ?_
      refine kG.bipush (v := nI 100) 88 dX5_tell_86 (by decide) rfl ?_
      refine kG.iadd 89 dX5_tell_88 rfl ?_
      rw [pk_mul, nI_add]
      refine gG.iret dX5_tell_89 rfl ?_
      refine ⟨?_, ?_, rfl, fun k hk => by rw [uI_off (by omega), uI_off (by omega), uI_off (by omega), uI_off (by omega)]⟩
      · unfold s_tell
        rw [if_pos hb2, ex, if_neg (by omega), if_neg e1]
      · unfold n_tell
        rw [if_pos hb2, ex, if_neg (by omega), if_neg e1]
        exact h4
    · refine kG.lookup (off := 67) 90 dX5_tell_23 (by decide) (by have e1 := n_toInt (k := 1) (by decide) hs23_1; have e2 := n_toInt (k := 2) (by decide) hs23_2; show Op.lookupswitch.offset [(1, 25), (2, 40)] 67 _ = 67; simp only [Op.lookupswitch.offset_cons, Op.lookupswitch.offset_nil]; rw [if_neg (fun z => e1 z.symm), if_neg (fun z => e2 z.symm)]) (by decide) ?_
      have e1 : ¬ dkd (aD S) kx = 1 := fun w => hs23_1 (by rw [w])
      have e2 : ¬ dkd (aD S) kx = 2 := fun w => hs23_2 (by rw [w])
      refine kG.aload_n 91 dX5_tell_90 rfl rfl ?_
      refine kG.iconst (v := nI 1) 92 dX5_tell_91 (by decide) rfl ?_
      refine gG.callV 95 dX5_tell_92 lX5_250 vX5_begins (m_begins Γ (nI 1)) rfl rfl ⟨by decide, by decide⟩ rfl ⟨by decide, rfl⟩ ⟨by decide, by decide⟩ (Nat.le_of_ble_eq_true rfl) rfl (fun r92 μ92 q92 hc92 => ?_)
      obtain ⟨rfl, rfl, rfl⟩ := hc92
      rw [h.2.2.2.1]
      have h1 := MS_tc (nI 31 * aT S + nI 1) h
      refine kG.iload_n 96 dX5_tell_95 rfl rfl ?_
      refine gG.iret dX5_tell_96 rfl ?_
      refine ⟨?_, ?_, rfl, fun k hk => by rw [uI_off (by omega)]⟩
      · unfold s_tell
        rw [if_pos hb2, ex, if_pos (by omega)]
      · unfold n_tell
        rw [if_pos hb2, ex, if_pos (by omega)]
        exact h1
  · have hb2 := b2_0.mp g2
    refine kG.iconst (v := (-1)) 9 dX5_tell_8 (by decide) rfl ?_
    refine gG.iret dX5_tell_9 rfl ?_
    refine ⟨by unfold s_tell; rw [if_neg (by rw [hb2]; decide)], ?_, rfl, fun _ _ => rfl⟩
    unfold n_tell
    first
      | (rw [if_neg (by rw [hb2]; decide)]; exact h)
      | (rw [if_neg (by rw [hb2]; rintro ⟨z, _⟩; cases z)]; exact h)
set_option maxHeartbeats 4000000 in
theorem y_knock (Γ : kGm) {S : AS} {μ : kM} {q : kq4} (ok : okS S) (h : MS S μ) (x : Int32) : gC Γ yX5_knock mX5_knock 2 [.ref 49, .int x] μ q (PMi (s_knock S x) (n_knock S x) μ q) := by
  refine gC.ofG (n := 0) ⟨by decide +kernel, rfl, rfl, by decide⟩ (Nat.le_of_ble_eq_true rfl) ?_
  show gG Γ mX5_knock 2 0 [some (.ref 49), some (.int x)] [] μ q _
  have okd := ok.1
  have hH4 := ok.1.1
  have hP6 := ok.1.2.1
  have hc := h.1
  have hp := hc.2.2.2.2.2.1
  have hh := hc.2.2.2.2.1
  refine kG.aload_n 1 dX5_knock_0 rfl rfl ?_
  refine kG.iload_n 2 dX5_knock_1 rfl rfl ?_
  refine gG.callV 5 dX5_knock_2 lX5_158 vX5_isPerson (m_isPerson Γ x (dP (aD S)) hc.2.2.1) rfl rfl ⟨by decide, by decide⟩ rfl ⟨by decide, rfl⟩ ⟨by decide, by decide⟩ (Nat.le_of_ble_eq_true rfl) rfl (fun r2 μ2 q2 hc2 => ?_)
  obtain ⟨rfl, rfl, rfl⟩ := hc2
  refine kG.if_ne 10 8 dX5_knock_5 (by decide) rfl (fun g2 => ?_) (fun g2 => ?_)
  · have hb2 := b2_n0.mp g2
    obtain ⟨kx, hkx, rfl, ex⟩ := inB_t (by omega) hb2
    have hx := hp kx hkx
    have od := okd.2.2.2 kx hkx
    refine kG.aload_n 11 dX5_knock_10 rfl rfl ?_
    refine kG.aload_n 12 dX5_knock_11 rfl rfl ?_
    refine gG.getP 15 dX5_knock_12 fX5_25 ⟨by decide, by decide⟩ rfl rfl rfl rfl ?_
    refine kG.iload_n 16 dX5_knock_15 rfl rfl ?_
    refine gG.iald (n := 6) _ 17 dX5_knock_16 ⟨by decide, by decide⟩ rfl rfl (by omega) (by decide) rfl ?_
    rw [hx.1]
    refine kG.iconst (v := nI 2) 18 dX5_knock_17 (by decide) rfl ?_
    refine kG.icmp_ne 25 21 dX5_knock_18 (by decide) rfl (fun h18 => ?_) (fun h18 => ?_)
    · have e2 : ¬ dkd (aD S) kx = 2 := fun w => h18 (by rw [w])
      have eb : (nI 4 : Int32) = nI (if dkd (aD S) kx = 2 then 5 else 4) := by rw [if_neg e2]
      refine kG.iconst (v := nI 4) 26 dX5_knock_25 (by decide) rfl ?_
      refine gG.callV 29 dX5_knock_26 lX5_250 vX5_begins (m_begins Γ _) rfl rfl ⟨by decide, by decide⟩ rfl ⟨by decide, rfl⟩ ⟨by decide, by decide⟩ (Nat.le_of_ble_eq_true rfl) rfl (fun r26 μ26 q26 hc26 => ?_)
      obtain ⟨rfl, rfl, rfl⟩ := hc26
      rw [h.2.2.2.1]
      refine kG.aload_n 30 dX5_knock_29 rfl rfl ?_
      refine gG.getP 33 dX5_knock_30 fX5_25 ⟨by decide, by decide⟩ rfl rfl rfl rfl ?_
      refine kG.iload_n 34 dX5_knock_33 rfl rfl ?_
      refine gG.iald (n := 6) _ 35 dX5_knock_34 ⟨by decide, by decide⟩ rfl rfl (by omega) (by decide) rfl ?_
      rw [uI_off (by decide), hx.1]
      refine kG.iconst (v := nI 2) 36 dX5_knock_35 (by decide) rfl ?_
      refine kG.icmp_ne 44 39 dX5_knock_36 (by decide) rfl (fun h36 => ?_) (fun h36 => ?_)
      · have e3 : ¬ dkd (aD S) kx = 2 := fun w => h36 (by rw [w])
        refine kG.iload_n 45 dX5_knock_44 rfl rfl ?_
        refine gG.iret dX5_knock_45 rfl ?_
        first
          | exact absurd e2 e3
          | exact absurd e3 e2
          | (refine ⟨by unfold s_knock; rw [if_pos hb2, ex, if_pos e3], ?_, rfl, fun k hk => uI_off (by omega)⟩; unfold n_knock; rw [if_pos hb2, ex, if_pos e3]; exact MS_tc _ h)
          | (refine ⟨by unfold s_knock; rw [if_pos hb2, ex, if_neg e3], ?_, rfl, fun k hk => uI_off (by omega)⟩; unfold n_knock; rw [if_pos hb2, ex, if_neg e3]; exact MS_tc _ h)
      · have e3 : dkd (aD S) kx = 2 := (nI_eq (by omega) (by decide)).mp h36
        refine kG.bipush (v := nI 50) 41 dX5_knock_39 (by decide) rfl ?_
        refine kG.goto 45 dX5_knock_41 (by decide) ?_
        refine gG.iret dX5_knock_45 rfl ?_
        first
          | exact absurd e2 e3
          | exact absurd e3 e2
          | (refine ⟨by unfold s_knock; rw [if_pos hb2, ex, if_pos e3], ?_, rfl, fun k hk => uI_off (by omega)⟩; unfold n_knock; rw [if_pos hb2, ex, if_pos e3]; exact MS_tc _ h)
          | (refine ⟨by unfold s_knock; rw [if_pos hb2, ex, if_neg e3], ?_, rfl, fun k hk => uI_off (by omega)⟩; unfold n_knock; rw [if_pos hb2, ex, if_neg e3]; exact MS_tc _ h)
    · have e2 : dkd (aD S) kx = 2 := (nI_eq (by omega) (by decide)).mp h18
      have eb : (nI 5 : Int32) = nI (if dkd (aD S) kx = 2 then 5 else 4) := by rw [if_pos e2]
      refine kG.iconst (v := nI 5) 22 dX5_knock_21 (by decide) rfl ?_
      refine kG.goto 26 dX5_knock_22 (by decide) ?_
      refine gG.callV 29 dX5_knock_26 lX5_250 vX5_begins (m_begins Γ _) rfl rfl ⟨by decide, by decide⟩ rfl ⟨by decide, rfl⟩ ⟨by decide, by decide⟩ (Nat.le_of_ble_eq_true rfl) rfl (fun r26 μ26 q26 hc26 => ?_)
      obtain ⟨rfl, rfl, rfl⟩ := hc26
      rw [h.2.2.2.1]
      refine kG.aload_n 30 dX5_knock_29 rfl rfl ?_
      refine gG.getP 33 dX5_knock_30 fX5_25 ⟨by decide, by decide⟩ rfl rfl rfl rfl ?_
      refine kG.iload_n 34 dX5_knock_33 rfl rfl ?_
      refine gG.iald (n := 6) _ 35 dX5_knock_34 ⟨by decide, by decide⟩ rfl rfl (by omega) (by decide) rfl ?_
      rw [uI_off (by decide), hx.1]
      refine kG.iconst (v := nI 2) 36 dX5_knock_35 (by decide) rfl ?_
      refine kG.icmp_ne 44 39 dX5_knock_36 (by decide) rfl (fun h36 => ?_) (fun h36 => ?_)
      · have e3 : ¬ dkd (aD S) kx = 2 := fun w => h36 (by rw [w])
        refine kG.iload_n 45 dX5_knock_44 rfl rfl ?_
        refine gG.iret dX5_knock_45 rfl ?_
        first
          | exact absurd e2 e3
          | exact absurd e3 e2
          | (refine ⟨by unfold s_knock; rw [if_pos hb2, ex, if_pos e3], ?_, rfl, fun k hk => uI_off (by omega)⟩; unfold n_knock; rw [if_pos hb2, ex, if_pos e3]; exact MS_tc _ h)
          | (refine ⟨by unfold s_knock; rw [if_pos hb2, ex, if_neg e3], ?_, rfl, fun k hk => uI_off (by omega)⟩; unfold n_knock; rw [if_pos hb2, ex, if_neg e3]; exact MS_tc _ h)
      · have e3 : dkd (aD S) kx = 2 := (nI_eq (by omega) (by decide)).mp h36
        refine kG.bipush (v := nI 50) 41 dX5_knock_39 (by decide) rfl ?_
        refine kG.goto 45 dX5_knock_41 (by decide) ?_
        refine gG.iret dX5_knock_45 rfl ?_
        first
          | exact absurd e2 e3
          | exact absurd e3 e2
          | (refine ⟨by unfold s_knock; rw [if_pos hb2, ex, if_pos e3], ?_, rfl, fun k hk => uI_off (by omega)⟩; unfold n_knock; rw [if_pos hb2, ex, if_pos e3]; exact MS_tc _ h)
          | (refine ⟨by unfold s_knock; rw [if_pos hb2, ex, if_neg e3], ?_, rfl, fun k hk => uI_off (by omega)⟩; unfold n_knock; rw [if_pos hb2, ex, if_neg e3]; exact MS_tc _ h)
  · have hb2 := b2_0.mp g2
    refine kG.iconst (v := (-1)) 9 dX5_knock_8 (by decide) rfl ?_
    refine gG.iret dX5_knock_9 rfl ?_
    refine ⟨by unfold s_knock; rw [if_neg (by rw [hb2]; decide)], ?_, rfl, fun _ _ => rfl⟩
    unfold n_knock
    first
      | (rw [if_neg (by rw [hb2]; decide)]; exact h)
      | (rw [if_neg (by rw [hb2]; rintro ⟨z, _⟩; cases z)]; exact h)
set_option maxHeartbeats 4000000 in
theorem y_as (Γ : kGm) {S : AS} {μ : kM} {q : kq4} (ok : okS S) (h : MS S μ) (x : Int32) (y : Int32) : gC Γ yX5_as mX5_as 2 [.ref 49, .int x, .int y] μ q (PMi (s_as S x y) (n_as S x y) μ q) := by
  refine gC.ofG (n := 0) ⟨by decide +kernel, rfl, rfl, by decide⟩ (Nat.le_of_ble_eq_true rfl) ?_
  show gG Γ mX5_as 2 0 [some (.ref 49), some (.int x), some (.int y)] [] μ q _
  have okd := ok.1
  have hH4 := ok.1.1
  have hP6 := ok.1.2.1
  have hc := h.1
  have hp := hc.2.2.2.2.2.1
  have hh := hc.2.2.2.2.1
  refine kG.aload_n 1 dX5_as_0 rfl rfl ?_
  refine kG.iconst (v := nI 0) 2 dX5_as_1 (by decide) rfl ?_
  refine gG.putI 5 dX5_as_2 fX5_83 ⟨by decide, by decide⟩ rfl rfl rfl ⟨rfl, rfl⟩ rfl ?_
  have h1 := MS_fa (nI 0) h
  refine kG.aload_n 6 dX5_as_5 rfl rfl ?_
  refine kG.iload_n 7 dX5_as_6 rfl rfl ?_
  refine gG.callV 10 dX5_as_7 lX5_158 vX5_isPerson (m_isPerson Γ x (dP (aD S)) h1.1.2.2.1) rfl rfl ⟨by decide, by decide⟩ rfl ⟨by decide, rfl⟩ ⟨by decide, by decide⟩ (Nat.le_of_ble_eq_true rfl) rfl (fun r7 μ7 q7 hc7 => ?_)
  obtain ⟨rfl, rfl, rfl⟩ := hc7
  refine kG.if_ne 15 13 dX5_as_10 (by decide) rfl (fun h10 => ?_) (fun h10 => ?_)
  · have hb := b2_n0.mp h10
    refine kG.iload_n 16 dX5_as_15 rfl rfl ?_
    refine kG.iconst (v := nI 0) 17 dX5_as_16 (by decide) rfl ?_
    refine kG.iconst (v := nI 2) 18 dX5_as_17 (by decide) rfl ?_
    refine gG.callS 21 dX5_as_18 lX5_89 vX5_within (m_within Γ y 0 2) rfl rfl ⟨by decide, by decide⟩ (Nat.le_of_ble_eq_true rfl) rfl (fun r18 μ18 q18 hc18 => ?_)
    obtain ⟨rfl, rfl, rfl⟩ := hc18
    refine kG.if_ne 27 24 dX5_as_21 (by decide) rfl (fun h21 => ?_) (fun h21 => ?_)
    · have hy := b2_n0.mp h21
      obtain ⟨kx, hkx, rfl, ex⟩ := inB_t (by omega) hb
      obtain ⟨ky, hky0, hky, rfl, ey⟩ := bt_t (by decide) (by decide) hy
      have od := okd.2.2.2 kx hkx
      refine kG.aload_n 28 dX5_as_27 rfl rfl ?_
      refine gG.getP 31 dX5_as_28 fX5_25 ⟨by decide, by decide⟩ rfl rfl rfl rfl ?_
      refine kG.iload_n 32 dX5_as_31 rfl rfl ?_
      refine gG.iald (n := 6) _ 33 dX5_as_32 ⟨by decide, by decide⟩ rfl rfl (by omega) (by decide) rfl ?_
      rw [uI_off (by decide), (hp kx hkx).1]
      refine kG.iload_n 34 dX5_as_33 rfl rfl ?_
      refine kG.icmp_lt 41 37 dX5_as_34 (by decide) rfl (fun h34 => ?_) (fun h34 => ?_)
      · have e1 : dkd (aD S) kx < ky := (nI_ltI (by omega) (by omega)).mp h34
        refine kG.aload_n 42 dX5_as_41 rfl rfl ?_
        refine kG.iconst (v := nI 2) 43 dX5_as_42 (by decide) rfl ?_
        refine gG.callV 46 dX5_as_43 lX5_113 vX5_fails (m_fails Γ (nI 2)) rfl rfl ⟨by decide, by decide⟩ rfl ⟨by decide, rfl⟩ ⟨by decide, by decide⟩ (Nat.le_of_ble_eq_true rfl) rfl (fun r43 μ43 q43 hc43 => ?_)
        obtain ⟨rfl, rfl, rfl⟩ := hc43
        have h2 := MS_fa (nI 2) h1
        refine gG.iret dX5_as_46 rfl ?_
        first
          | (refine ⟨?_, ?_, rfl, fun k hk => by rw [uI_off (by omega), uI_off (by omega)]⟩; (unfold s_as; rw [if_pos hb, if_pos hy, ex, ey, if_pos e1]; rfl); (unfold n_as; rw [if_pos ⟨hb, hy, by rw [ex, ey]; exact e1⟩]; exact h2))
          | (refine ⟨?_, ?_, rfl, fun k hk => uI_off (by omega)⟩; (unfold s_as; rw [if_pos hb, if_pos hy, ex, ey, if_neg e1]); (unfold n_as; rw [if_neg (fun w => e1 (by have := w.2.2; rw [ex, ey] at this; exact this))]; exact h1))
      · have e1 : ¬ dkd (aD S) kx < ky := fun w => h34 (nI_lt w (by omega))
        refine kG.iconst (v := nI 1) 38 dX5_as_37 (by decide) rfl ?_
        refine kG.goto 46 dX5_as_38 (by decide) ?_
        refine gG.iret dX5_as_46 rfl ?_
        first
          | (refine ⟨?_, ?_, rfl, fun k hk => by rw [uI_off (by omega), uI_off (by omega)]⟩; (unfold s_as; rw [if_pos hb, if_pos hy, ex, ey, if_pos e1]; rfl); (unfold n_as; rw [if_pos ⟨hb, hy, by rw [ex, ey]; exact e1⟩]; exact h2))
          | (refine ⟨?_, ?_, rfl, fun k hk => uI_off (by omega)⟩; (unfold s_as; rw [if_pos hb, if_pos hy, ex, ey, if_neg e1]); (unfold n_as; rw [if_neg (fun w => e1 (by have := w.2.2; rw [ex, ey] at this; exact this))]; exact h1))
    · have hy := b2_0.mp h21
      refine kG.bipush (v := (-2)) 26 dX5_as_24 (by decide) rfl ?_
      refine gG.iret dX5_as_26 rfl ?_
      refine ⟨by unfold s_as; rw [if_pos hb, if_neg (by rw [hy]; decide)], ?_, rfl, fun k hk => uI_off (by omega)⟩
      unfold n_as
      rw [if_neg (by rw [hy]; rintro ⟨_, w, _⟩; cases w)]
      exact h1
  · have hb : inB x (dP (aD S)) = false := b2_0.mp h10
    refine kG.iconst (v := (-1)) 14 dX5_as_13 (by decide) rfl ?_
    refine gG.iret dX5_as_14 rfl ?_
    refine ⟨by unfold s_as; rw [if_neg (by rw [hb]; decide)], ?_, rfl, fun k hk => uI_off (by omega)⟩
    unfold n_as
    rw [if_neg (by rw [hb]; rintro ⟨w, _⟩; cases w)]
    exact h1
