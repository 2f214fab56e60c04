set_option maxHeartbeats 4000000 in
theorem sheet_l (Γ : kGm) {S : AS} (ok : okS S) {μ : kM} {q : kq4} (h1 : MS (sFa S (nI 0)) (uI μ 49 0 (nI 0))) {kx ky kz : Nat} (hkx : kx < 4) (hky : ky < 3) (hkz : kz ≤ 60) : ∀ (m i : Nat) (μ1 : kM), i + m = 60 → (∀ k, k ≠ 52 → μ1 k = (uI (uI (uI μ 49 0 (nI 0)) 50 kx (nI ky)) 51 kx (nI kz)) k) → (∀ j, j < i → μ1 52 (60 * kx + j) = 0) → (∀ x, (x < 60 * kx ∨ 60 * kx + 60 ≤ x) → μ1 52 x = (uI (uI (uI μ 49 0 (nI 0)) 50 kx (nI ky)) 51 kx (nI kz)) 52 x) → gG Γ mX5_sheet 3 57 [some (.ref 49), some (.int (nI kx)), some (.int (nI ky)), some (.int (nI kz)), some (.int (nI i))] [] (μ1) q (PMi (nI 1) (sFa (sSh S (fu (aL S) kx (ky + 1)) (fu (aN S) kx kz) (fu (aC S) kx (fun _ => 0))) (nI 0)) μ q) := by
  intro m
  induction m with
  | zero =>
    intro i μ1 hm g1 g2 g3
    refine kG.iload 59 dX5_sheet_57 rfl rfl ?_
    refine kG.bipush (v := nI 60) 61 dX5_sheet_59 (by decide) rfl ?_
    refine kG.icmp_ge 83 64 dX5_sheet_61 (by decide) rfl (fun h61 => ?_) (fun h61 => ?_)
    · refine kG.iconst (v := nI 1) 84 dX5_sheet_83 (by decide) rfl ?_
      refine gG.iret dX5_sheet_84 rfl ?_
      refine ⟨rfl, ?_, rfl, fun k hk => by rw [g1 k (by omega), uI_off (by omega), uI_off (by omega), uI_off (by omega)]⟩
      refine MS_sh (S := sFa S (nI 0)) (k := kx) (μ' := μ1) h1 (ky + 1) kz (fun _ => 0) (fun s hs => (ok.2.2.2.2.2.2.2 s hs).2) ?_ (fun _ => ⟨?_, fun j hj => g2 j (by omega)⟩) (fun s e => ⟨?_, ?_⟩) (fun s j e hj => ?_) (fun j hj => ?_)
      · rw [g1 50 (by decide), uI_off (by decide), uI_same, so_n (by omega), Nat.add_sub_cancel]
      · rw [g1 51 (by decide), uI_same]
      · rw [g1 50 (by decide), uI_off (by decide), uI_ne (Or.inr e)]
      · rw [g1 51 (by decide), uI_ne (Or.inr e), uI_off (by decide)]
      · rw [g3 _ (by omega), uI_off (by decide), uI_off (by decide)]
      · rw [g1 j (by omega), uI_off (by omega), uI_off (by omega)]
    · exact absurd (nI_le (by omega) (by omega)) h61
  | succ m ih =>
    intro i μ1 hm g1 g2 g3
    refine kG.iload 59 dX5_sheet_57 rfl rfl ?_
    refine kG.bipush (v := nI 60) 61 dX5_sheet_59 (by decide) rfl ?_
    refine kG.icmp_ge 83 64 dX5_sheet_61 (by decide) rfl (fun h61 => ?_) (fun h61 => ?_)
    · exact absurd h61 (nI_ge (by omega) (by omega))
    · refine kG.aload_n 65 dX5_sheet_64 rfl rfl ?_
      refine gG.getP 68 dX5_sheet_65 fX5_16 ⟨by decide, by decide⟩ rfl rfl rfl rfl ?_
      refine kG.bipush (v := nI 60) 70 dX5_sheet_68 (by decide) rfl ?_
      refine kG.iload_n 71 dX5_sheet_70 rfl rfl ?_
      refine kG.imul 72 dX5_sheet_71 rfl ?_
      refine kG.iload 74 dX5_sheet_72 rfl rfl ?_
      refine kG.iadd 75 dX5_sheet_74 rfl ?_
      rw [pk_mul, nI_add]
      refine kG.iconst (v := nI 0) 76 dX5_sheet_75 (by decide) rfl ?_
      refine gG.iast (n := 240) (60 * kx + i) 77 dX5_sheet_76 ⟨by decide, by decide⟩ rfl rfl (by omega) (by decide) rfl ?_
      refine kG.iinc (v := nI (i + 1)) 80 dX5_sheet_77 rfl (nI_1 i) (by decide) rfl rfl ?_
      dsimp only [List.set]
      refine kG.goto 57 dX5_sheet_80 (by decide) ?_
      refine ih (i + 1) _ (by omega) (fun k a => by rw [uI_off a]; exact g1 k a) (fun j hj => ?_) (fun x hx => by rw [uI_ne (Or.inr (by omega))]; exact g3 x hx)
      by_cases e : j = i
      · subst e; rw [uI_same]; rfl
      · rw [uI_ne (Or.inr (by omega))]; exact g2 j (by omega)
set_option maxHeartbeats 4000000 in
theorem y_sheet (Γ : kGm) {S : AS} {μ : kM} {q : kq4} (ok : okS S) (h : MS S μ) (x : Int32) (y : Int32) (z : Int32) : gC Γ yX5_sheet mX5_sheet 3 [.ref 49, .int x, .int y, .int z] μ q (PMi (s_sheet S x y z) (n_sheet S x y z) μ q) := by
  refine gC.ofG (n := 0) ⟨by decide +kernel, rfl, rfl, by decide⟩ (Nat.le_of_ble_eq_true rfl) ?_
  show gG Γ mX5_sheet 3 0 [some (.ref 49), some (.int x), some (.int y), some (.int z), none] [] μ q _
  have okd := ok.1
  have hH4 := ok.1.1
  have hP6 := ok.1.2.1
  have hc := h.1
  have hp := hc.2.2.2.2.2.1
  have hh := hc.2.2.2.2.1
  refine kG.aload_n 1 dX5_sheet_0 rfl rfl ?_
  refine kG.iconst (v := nI 0) 2 dX5_sheet_1 (by decide) rfl ?_
  refine gG.putI 5 dX5_sheet_2 fX5_83 ⟨by decide, by decide⟩ rfl rfl rfl ⟨rfl, rfl⟩ rfl ?_
  have h1 := MS_fa (nI 0) h
  refine kG.iload_n 6 dX5_sheet_5 rfl rfl ?_
  refine gG.callS 9 dX5_sheet_6 lX5_102 vX5_isSheet (m_isSheet Γ x) rfl rfl ⟨by decide, by decide⟩ (Nat.le_of_ble_eq_true rfl) rfl (fun r6 μ6 q6 hc6 => ?_)
  obtain ⟨rfl, rfl, rfl⟩ := hc6
  refine kG.if_ne 14 12 dX5_sheet_9 (by decide) rfl (fun h9 => ?_) (fun h9 => ?_)
  · have hb6 := b2_n0.mp h9
    obtain ⟨kx, hkx, rfl, ex⟩ := inB_t (by decide) hb6
    have hl3 := (ok.2.2.2.2.2.2.2 kx hkx).1
    have hn6 := (ok.2.2.2.2.2.2.2 kx hkx).2
    have hs := h.2.2.1 kx hkx
    refine kG.iload_n 15 dX5_sheet_14 rfl rfl ?_
    refine gG.callS 18 dX5_sheet_15 lX5_106 vX5_isSort (m_isSort Γ y) rfl rfl ⟨by decide, by decide⟩ (Nat.le_of_ble_eq_true rfl) rfl (fun r15 μ15 q15 hc15 => ?_)
    obtain ⟨rfl, rfl, rfl⟩ := hc15
    refine kG.if_eq 27 21 dX5_sheet_18 (by decide) rfl (fun h18 => ?_) (fun h18 => ?_)
    · have hb15 := b2_0.mp h18
      have hbad : (inB y 3 && !decide (nI 60 < z)) = false := by rw [hb15]; rfl
      have hbad2 : ¬ (inB (nI kx) 4 = true ∧ inB y 3 = true ∧ ¬ nI 60 < z) := by rw [hb15]; rintro ⟨_, c, _⟩; cases c
      refine kG.bipush (v := (-2)) 29 dX5_sheet_27 (by decide) rfl ?_
      refine gG.iret dX5_sheet_29 rfl ?_
      refine ⟨?_, ?_, rfl, fun k hk => uI_off (by omega)⟩
      · unfold s_sheet
        rw [if_pos hb6, if_neg (by rw [hbad]; decide)]
      · unfold n_sheet
        rw [if_neg hbad2]
        exact h1
    · have hb15 := b2_n0.mp h18
      refine kG.iload_n 22 dX5_sheet_21 rfl rfl ?_
      refine kG.bipush (v := nI 60) 24 dX5_sheet_22 (by decide) rfl ?_
      refine kG.icmp_le 30 27 dX5_sheet_24 (by decide) rfl (fun h24 => ?_) (fun h24 => ?_)
      · have hz := Int32.not_lt.mpr h24
        have hgd : (inB y 3 && !decide (nI 60 < z)) = true := by rw [hb15, decide_eq_false hz]; rfl
        refine kG.iload_n 31 dX5_sheet_30 rfl rfl ?_
        refine kG.if_ge 40 34 dX5_sheet_31 (by decide) rfl (fun h31 => ?_) (fun h31 => ?_)
        · have hw : ¬ z < 0 := Int32.not_lt.mpr h31
          obtain ⟨ky, hky, rfl, ey⟩ := inB_t (by decide) hb15
          obtain ⟨kz, hkz, rfl⟩ := n_le (n := 60) (by decide) hw hz
          have ez := ixn_n (k := kz) (by omega)
          have eS : n_sheet S (nI kx) (nI ky) (nI kz) = sFa (sSh S (fu (aL S) kx (ky + 1)) (fu (aN S) kx kz) (fu (aC S) kx (fun _ => 0))) (nI 0) := by unfold n_sheet; rw [if_pos ⟨hb6, hb15, hz⟩, if_neg hw, ex, ey, ez]
          have eR : s_sheet S (nI kx) (nI ky) (nI kz) = nI 1 := by unfold s_sheet; rw [if_pos hb6, if_pos hgd, if_neg hw]
          refine kG.aload_n 41 dX5_sheet_40 rfl rfl ?_
          refine gG.getP 44 dX5_sheet_41 fX5_9 ⟨by decide, by decide⟩ rfl rfl rfl rfl ?_
          refine kG.iload_n 45 dX5_sheet_44 rfl rfl ?_
          refine kG.iload_n 46 dX5_sheet_45 rfl rfl ?_
          refine gG.iast (n := 4) _ 47 dX5_sheet_46 ⟨by decide, by decide⟩ rfl rfl (by omega) (by decide) rfl ?_
          refine kG.aload_n 48 dX5_sheet_47 rfl rfl ?_
          refine gG.getP 51 dX5_sheet_48 fX5_13 ⟨by decide, by decide⟩ rfl rfl rfl rfl ?_
          refine kG.iload_n 52 dX5_sheet_51 rfl rfl ?_
          refine kG.iload_n 53 dX5_sheet_52 rfl rfl ?_
          refine gG.iast (n := 4) _ 54 dX5_sheet_53 ⟨by decide, by decide⟩ rfl rfl (by omega) (by decide) rfl ?_
          refine kG.iconst (v := nI 0) 55 dX5_sheet_54 (by decide) rfl ?_
          refine kG.istore 57 dX5_sheet_55 (by decide) rfl rfl ?_
          dsimp only [List.set]
          rw [eS, eR]
          exact sheet_l Γ ok h1 hkx hky hkz 60 0 _ (by omega) (fun _ _ => rfl) (fun j hj => absurd hj (Nat.not_lt_zero _)) (fun _ _ => rfl)
        · have hw : z < 0 := Int32.not_le.mp h31
          refine kG.aload_n 35 dX5_sheet_34 rfl rfl ?_
          refine kG.iconst (v := nI 4) 36 dX5_sheet_35 (by decide) rfl ?_
          refine gG.callV 39 dX5_sheet_36 lX5_113 vX5_fails (m_fails Γ (nI 4)) rfl rfl ⟨by decide, by decide⟩ rfl ⟨by decide, rfl⟩ ⟨by decide, by decide⟩ (Nat.le_of_ble_eq_true rfl) rfl (fun r36 μ36 q36 hc36 => ?_)
          obtain ⟨rfl, rfl, rfl⟩ := hc36
          have h2 := MS_fa (nI 4) h1
          refine gG.iret dX5_sheet_39 rfl ?_
          refine ⟨?_, ?_, rfl, fun k hk => by rw [uI_off (by omega), uI_off (by omega)]⟩
          · unfold s_sheet
            rw [if_pos hb6, if_pos hgd, if_pos hw]
            rfl
          · unfold n_sheet
            rw [if_pos ⟨hb6, hb15, hz⟩, if_pos hw]
            exact h2
      · have hz := Int32.not_le.mp h24
        have hbad : (inB y 3 && !decide (nI 60 < z)) = false := by rw [decide_eq_true hz, show (!true) = false from rfl, Bool.and_false]
        have hbad2 : ¬ (inB (nI kx) 4 = true ∧ inB y 3 = true ∧ ¬ nI 60 < z) := fun c => c.2.2 hz
        refine kG.bipush (v := (-2)) 29 dX5_sheet_27 (by decide) rfl ?_
        refine gG.iret dX5_sheet_29 rfl ?_
        refine ⟨?_, ?_, rfl, fun k hk => uI_off (by omega)⟩
        · unfold s_sheet
          rw [if_pos hb6, if_neg (by rw [hbad]; decide)]
        · unfold n_sheet
          rw [if_neg hbad2]
          exact h1
  · have hb6 := b2_0.mp h9
    refine kG.iconst (v := (-1)) 13 dX5_sheet_12 (by decide) rfl ?_
    refine gG.iret dX5_sheet_13 rfl ?_
    refine ⟨?_, ?_, rfl, fun k hk => uI_off (by omega)⟩
    · unfold s_sheet
      rw [if_neg (by rw [hb6]; decide)]
    · unfold n_sheet
      rw [if_neg (by rw [hb6]; rintro ⟨c, _⟩; cases c)]
      exact h1
