theorem nI_m9 {d : Nat} (h : d < 2 ^ 31) : ¬ nI d = -9 := fun e => nI_pos h (by rw [e]; decide)
set_option maxHeartbeats 4000000 in
theorem c_ho1s (Γ : kGm) {μ : kM} {q : kq4} {t : Nat} (ht : isT t) {sn : Nat} {D : Dt} {x : Int32} (h : PQ 1 1 sn D t μ) (hH : 1 ≤ dH D ∧ dH D ≤ 4) {d : Nat} (hd : dg x = some d) : gC Γ yX2_houseGoesOn mX2_houseGoesOn 3 [.ref t, .int (nI (dH D - 1)), .int x] μ q (SR (st1 1 sn D x) t μ q) := by
  refine gC.ofG (n := 0) ⟨by decide +kernel, rfl, rfl, by decide⟩ (Nat.le_of_ble_eq_true rfl) ?_
  show gG Γ mX2_houseGoesOn 3 0 [some (.ref t), some (.int (nI (dH D - 1))), some (.int x), none] [] μ q _
  obtain ⟨h1, h2, h3, h4, h5, h6⟩ := h
  replace h5 := h5 (by decide)
  have hd9 := (dg_t hd).1
  refine kG.iload_n 1 dX2_houseGoesOn_0 rfl rfl ?_
  refine gG.callS 4 dX2_houseGoesOn_1 lX2_63 vX2_digitOf (c_digitOf Γ x) rfl rfl ⟨by decide, by decide⟩ (Nat.le_of_ble_eq_true rfl) rfl (fun r1 μ1 q1 hc1 => ?_)
  obtain ⟨rfl, rfl, rfl⟩ := hc1
  rw [hd]
  show gG Γ _ _ _ _ (Value.int (nI d) :: _) _ _ _
  refine kG.istore_n 5 dX2_houseGoesOn_4 (by decide) rfl rfl ?_
  dsimp only [List.set]
  refine kG.aload_n 6 dX2_houseGoesOn_5 rfl rfl ?_
  refine gG.getI 9 dX2_houseGoesOn_6 fX2_46 (isT_k ht) (isT_s ht) rfl rfl ?_
  rw [h5]
  refine kG.lookup (off := 27) 36 dX2_houseGoesOn_9 (by decide) (by decide) (by decide) ?_
  refine kG.aload_n 37 dX2_houseGoesOn_36 rfl rfl ?_
  refine gG.getP 40 dX2_houseGoesOn_37 fX2_9 (isT_k ht) (isT_s ht) rfl (PI_T ht (by decide)) rfl ?_
  refine kG.iload_n 41 dX2_houseGoesOn_40 rfl rfl ?_
  refine kG.bipush (v := nI 10) 43 dX2_houseGoesOn_41 (by decide) rfl ?_
  refine kG.iload_n 44 dX2_houseGoesOn_43 rfl rfl ?_
  refine kG.imul 45 dX2_houseGoesOn_44 rfl ?_
  rw [pk_mul]
  refine gG.iast (n := 4) _ 46 dX2_houseGoesOn_45 (arT_k ht (by decide)) (arT_s ht (by decide)) rfl (by omega) (by decide) rfl ?_
  refine kG.iload_n 47 dX2_houseGoesOn_46 rfl rfl ?_
  refine kG.if_lt 54 50 dX2_houseGoesOn_47 (by decide) rfl (fun h47 => ?_) (fun h47 => ?_)
  · exact absurd h47 (nI_pos (by omega))
  · refine kG.iconst (v := nI 1) 51 dX2_houseGoesOn_50 (by decide) rfl ?_
    refine kG.goto 55 dX2_houseGoesOn_51 (by decide) ?_
    refine gG.zret dX2_houseGoesOn_55 rfl rfl ?_
    have eo : st1 1 sn D x = some (1, 2, sn, uCo D (10 * d)) := by
      show (dg x).bind _ = _; rw [hd]; rfl
    rw [eo]
    refine ⟨rfl, rfl, fun k hk => by (repeat (first | rw [uI_same] | rw [uI_ne (Or.inr (by decide))] | rw [uI_off (by omega)])) <;> rfl, fun s' e => ?_⟩
    cases e
    show PQ 1 2 (sn) (uCo D (10 * d)) t _
    exact ⟨by (repeat (first | rw [uI_same] | rw [uI_ne (Or.inr (by decide))] | rw [uI_off (by omega)])) <;> exact h1, by (repeat (first | rw [uI_same] | rw [uI_ne (Or.inr (by decide))] | rw [uI_off (by omega)])) <;> first | exact h2 | rfl, by (repeat (first | rw [uI_same] | rw [uI_ne (Or.inr (by decide))] | rw [uI_off (by omega)])) <;> first | exact h3 | rfl, by (repeat (first | rw [uI_same] | rw [uI_ne (Or.inr (by decide))] | rw [uI_off (by omega)])) <;> first | exact h4 | rfl, fun _ => by (repeat (first | rw [uI_same] | rw [uI_ne (Or.inr (by decide))] | rw [uI_off (by omega)])) <;> first | rfl | (rw [h5]; rfl), fun i (hi : i < dH D) => by
        repeat rw [uI_off (show t + 1 + 0 ≠ t by omega)]
        exact fi_add (g := dco D) (c := t + 1 + 0) (n := dH D - 1) (fun i (hi : i < dH D - 1) => h6.1 i hi) (by omega) i hi, fun i hi => by
        repeat rw [uI_off (by omega)]
        exact h6.2.1 i hi, fun i hi => by
        repeat rw [uI_off (by omega)]
        exact h6.2.2.1 i hi, fun i hi => by
        repeat rw [uI_off (by omega)]
        exact h6.2.2.2.1 i hi, fun i hi => by
        repeat rw [uI_off (by omega)]
        exact h6.2.2.2.2.1 i hi, fun i hi => by
        repeat rw [uI_off (by omega)]
        exact h6.2.2.2.2.2.1 i hi, fun i hi => by
        repeat rw [uI_off (by omega)]
        exact h6.2.2.2.2.2.2 i hi⟩
set_option maxHeartbeats 4000000 in
theorem c_ho2s (Γ : kGm) {μ : kM} {q : kq4} {t : Nat} (ht : isT t) {sn : Nat} {D : Dt} {x : Int32} (h : PQ 1 2 sn D t μ) (hH : 1 ≤ dH D ∧ dH D ≤ 4) {d : Nat} (hd : dg x = some d) : gC Γ yX2_houseGoesOn mX2_houseGoesOn 3 [.ref t, .int (nI (dH D - 1)), .int x] μ q (SR (st1 2 sn D x) t μ q) := by
  refine gC.ofG (n := 0) ⟨by decide +kernel, rfl, rfl, by decide⟩ (Nat.le_of_ble_eq_true rfl) ?_
  show gG Γ mX2_houseGoesOn 3 0 [some (.ref t), some (.int (nI (dH D - 1))), some (.int x), none] [] μ q _
  obtain ⟨h1, h2, h3, h4, h5, h6⟩ := h
  replace h5 := h5 (by decide)
  have hd9 := (dg_t hd).1
  refine kG.iload_n 1 dX2_houseGoesOn_0 rfl rfl ?_
  refine gG.callS 4 dX2_houseGoesOn_1 lX2_63 vX2_digitOf (c_digitOf Γ x) rfl rfl ⟨by decide, by decide⟩ (Nat.le_of_ble_eq_true rfl) rfl (fun r1 μ1 q1 hc1 => ?_)
  obtain ⟨rfl, rfl, rfl⟩ := hc1
  rw [hd]
  show gG Γ _ _ _ _ (Value.int (nI d) :: _) _ _ _
  refine kG.istore_n 5 dX2_houseGoesOn_4 (by decide) rfl rfl ?_
  dsimp only [List.set]
  refine kG.aload_n 6 dX2_houseGoesOn_5 rfl rfl ?_
  refine gG.getI 9 dX2_houseGoesOn_6 fX2_46 (isT_k ht) (isT_s ht) rfl rfl ?_
  rw [h5]
  refine kG.lookup (off := 47) 56 dX2_houseGoesOn_9 (by decide) (by decide) (by decide) ?_
  refine kG.aload_n 57 dX2_houseGoesOn_56 rfl rfl ?_
  refine gG.getP 60 dX2_houseGoesOn_57 fX2_9 (isT_k ht) (isT_s ht) rfl (PI_T ht (by decide)) rfl ?_
  refine kG.iload_n 61 dX2_houseGoesOn_60 rfl rfl ?_
  refine kG.dup2 62 dX2_houseGoesOn_61 rfl rfl rfl ?_
  refine gG.iald (n := 4) _ 63 dX2_houseGoesOn_62 (arT_k ht (by decide)) (arT_s ht (by decide)) rfl (by omega) (by decide) rfl ?_
  rw [h6.1 (dH D - 1) (show dH D - 1 < dH D by omega)]
  refine kG.iload_n 64 dX2_houseGoesOn_63 rfl rfl ?_
  refine kG.iadd 65 dX2_houseGoesOn_64 rfl ?_
  rw [nI_add]
  refine gG.iast (n := 4) _ 66 dX2_houseGoesOn_65 (arT_k ht (by decide)) (arT_s ht (by decide)) rfl (by omega) (by decide) rfl ?_
  refine kG.iload_n 67 dX2_houseGoesOn_66 rfl rfl ?_
  refine kG.if_lt 74 70 dX2_houseGoesOn_67 (by decide) rfl (fun h67 => ?_) (fun h67 => ?_)
  · exact absurd h67 (nI_pos (by omega))
  · refine kG.iconst (v := nI 1) 71 dX2_houseGoesOn_70 (by decide) rfl ?_
    refine kG.goto 75 dX2_houseGoesOn_71 (by decide) ?_
    refine gG.zret dX2_houseGoesOn_75 rfl rfl ?_
    have eo : st1 2 sn D x = some (1, 3, sn, uCo D (dco D (dH D - 1) + d)) := by
      show (dg x).bind _ = _; rw [hd]; rfl
    rw [eo]
    refine ⟨rfl, rfl, fun k hk => by (repeat (first | rw [uI_same] | rw [uI_ne (Or.inr (by decide))] | rw [uI_off (by omega)])) <;> rfl, fun s' e => ?_⟩
    cases e
    show PQ 1 3 (sn) (uCo D (dco D (dH D - 1) + d)) t _
    exact ⟨by (repeat (first | rw [uI_same] | rw [uI_ne (Or.inr (by decide))] | rw [uI_off (by omega)])) <;> exact h1, by (repeat (first | rw [uI_same] | rw [uI_ne (Or.inr (by decide))] | rw [uI_off (by omega)])) <;> first | exact h2 | rfl, by (repeat (first | rw [uI_same] | rw [uI_ne (Or.inr (by decide))] | rw [uI_off (by omega)])) <;> first | exact h3 | rfl, by (repeat (first | rw [uI_same] | rw [uI_ne (Or.inr (by decide))] | rw [uI_off (by omega)])) <;> first | exact h4 | rfl, fun _ => by (repeat (first | rw [uI_same] | rw [uI_ne (Or.inr (by decide))] | rw [uI_off (by omega)])) <;> first | rfl | (rw [h5]; rfl), fun i (hi : i < dH D) => by
        repeat rw [uI_off (show t + 1 + 0 ≠ t by omega)]
        exact fi_add (g := dco D) (c := t + 1 + 0) (n := dH D - 1) (fun i (hi : i < dH D - 1) => h6.1 i (show i < dH D by omega)) (by omega) i hi, fun i hi => by
        repeat rw [uI_off (by omega)]
        exact h6.2.1 i hi, fun i hi => by
        repeat rw [uI_off (by omega)]
        exact h6.2.2.1 i hi, fun i hi => by
        repeat rw [uI_off (by omega)]
        exact h6.2.2.2.1 i hi, fun i hi => by
        repeat rw [uI_off (by omega)]
        exact h6.2.2.2.2.1 i hi, fun i hi => by
        repeat rw [uI_off (by omega)]
        exact h6.2.2.2.2.2.1 i hi, fun i hi => by
        repeat rw [uI_off (by omega)]
        exact h6.2.2.2.2.2.2 i hi⟩
set_option maxHeartbeats 4000000 in
theorem c_ho3s (Γ : kGm) {μ : kM} {q : kq4} {t : Nat} (ht : isT t) {sn : Nat} {D : Dt} {x : Int32} (h : PQ 1 3 sn D t μ) (hH : 1 ≤ dH D ∧ dH D ≤ 4) {d : Nat} (hd : dg x = some d) : gC Γ yX2_houseGoesOn mX2_houseGoesOn 3 [.ref t, .int (nI (dH D - 1)), .int x] μ q (SR (st1 3 sn D x) t μ q) := by
  refine gC.ofG (n := 0) ⟨by decide +kernel, rfl, rfl, by decide⟩ (Nat.le_of_ble_eq_true rfl) ?_
  show gG Γ mX2_houseGoesOn 3 0 [some (.ref t), some (.int (nI (dH D - 1))), some (.int x), none] [] μ q _
  obtain ⟨h1, h2, h3, h4, h5, h6⟩ := h
  replace h5 := h5 (by decide)
  have hd9 := (dg_t hd).1
  refine kG.iload_n 1 dX2_houseGoesOn_0 rfl rfl ?_
  refine gG.callS 4 dX2_houseGoesOn_1 lX2_63 vX2_digitOf (c_digitOf Γ x) rfl rfl ⟨by decide, by decide⟩ (Nat.le_of_ble_eq_true rfl) rfl (fun r1 μ1 q1 hc1 => ?_)
  obtain ⟨rfl, rfl, rfl⟩ := hc1
  rw [hd]
  show gG Γ _ _ _ _ (Value.int (nI d) :: _) _ _ _
  refine kG.istore_n 5 dX2_houseGoesOn_4 (by decide) rfl rfl ?_
  dsimp only [List.set]
  refine kG.aload_n 6 dX2_houseGoesOn_5 rfl rfl ?_
  refine gG.getI 9 dX2_houseGoesOn_6 fX2_46 (isT_k ht) (isT_s ht) rfl rfl ?_
  rw [h5]
  refine kG.lookup (off := 67) 76 dX2_houseGoesOn_9 (by decide) (by decide) (by decide) ?_
  refine kG.aload_n 77 dX2_houseGoesOn_76 rfl rfl ?_
  refine gG.getP 80 dX2_houseGoesOn_77 fX2_15 (isT_k ht) (isT_s ht) rfl (PI_T ht (by decide)) rfl ?_
  refine kG.iload_n 81 dX2_houseGoesOn_80 rfl rfl ?_
  refine kG.iload_n 82 dX2_houseGoesOn_81 rfl rfl ?_
  refine gG.iast (n := 4) _ 83 dX2_houseGoesOn_82 (arT_k ht (by decide)) (arT_s ht (by decide)) rfl (by omega) (by decide) rfl ?_
  refine kG.aload_n 84 dX2_houseGoesOn_83 rfl rfl ?_
  refine kG.iconst (v := nI 3) 85 dX2_houseGoesOn_84 (by decide) rfl ?_
  refine gG.putI 88 dX2_houseGoesOn_85 fX2_43 (isT_k ht) (isT_s ht) rfl rfl ⟨rfl, rfl⟩ rfl ?_
  refine kG.iload_n 89 dX2_houseGoesOn_88 rfl rfl ?_
  refine kG.iconst (v := nI 1) 90 dX2_houseGoesOn_89 (by decide) rfl ?_
  refine kG.icmp_lt 97 93 dX2_houseGoesOn_90 (by decide) rfl (fun h90 => ?_) (fun h90 => ?_)
  · have e1 : ¬ 1 ≤ d := Nat.not_le.mpr ((nI_ltI (by omega) (by decide)).mp h90)
    refine kG.iconst (v := nI 0) 98 dX2_houseGoesOn_97 (by decide) rfl ?_
    refine gG.zret dX2_houseGoesOn_98 rfl rfl ?_
    have eo : st1 3 sn D x = none := by
      show (dg x).bind _ = _; rw [hd]; show oIf _ _ = _; unfold oIf; rw [if_neg e1]
    rw [eo]
    exact ⟨rfl, rfl, fun k hk => by (repeat (first | rw [uI_same] | rw [uI_ne (Or.inr (by decide))] | rw [uI_off (by omega)])) <;> rfl, fun s' e => by cases e⟩
  · have e1 : 1 ≤ d := Nat.not_lt.mp (fun z => h90 (nI_lt z (by decide)))
    refine kG.iconst (v := nI 1) 94 dX2_houseGoesOn_93 (by decide) rfl ?_
    refine kG.goto 98 dX2_houseGoesOn_94 (by decide) ?_
    refine gG.zret dX2_houseGoesOn_98 rfl rfl ?_
    have eo : st1 3 sn D x = some (3, 0, sn, uBe D d) := by
      show (dg x).bind _ = _; rw [hd]; show oIf _ _ = _; unfold oIf; rw [if_pos e1]
    rw [eo]
    refine ⟨rfl, rfl, fun k hk => by (repeat (first | rw [uI_same] | rw [uI_ne (Or.inr (by decide))] | rw [uI_off (by omega)])) <;> rfl, fun s' e => ?_⟩
    cases e
    show PQ 3 0 (sn) (uBe D d) t _
    exact ⟨by (repeat (first | rw [uI_same] | rw [uI_ne (Or.inr (by decide))] | rw [uI_off (by omega)])) <;> exact h1, by (repeat (first | rw [uI_same] | rw [uI_ne (Or.inr (by decide))] | rw [uI_off (by omega)])) <;> first | exact h2 | rfl, by (repeat (first | rw [uI_same] | rw [uI_ne (Or.inr (by decide))] | rw [uI_off (by omega)])) <;> first | exact h3 | rfl, by (repeat (first | rw [uI_same] | rw [uI_ne (Or.inr (by decide))] | rw [uI_off (by omega)])) <;> first | exact h4 | rfl, fun z => absurd rfl z, fun i hi => by
        repeat rw [uI_off (by omega)]
        exact h6.1 i hi, fun i (hi : i < dH D) => by
        repeat rw [uI_off (show t + 1 + 1 ≠ t by omega)]
        exact fi_add (g := dbe D) (c := t + 1 + 1) (n := dH D - 1) (fun i (hi : i < dH D - 1) => h6.2.1 i hi) (by omega) i hi, fun i hi => by
        repeat rw [uI_off (by omega)]
        exact h6.2.2.1 i hi, fun i hi => by
        repeat rw [uI_off (by omega)]
        exact h6.2.2.2.1 i hi, fun i hi => by
        repeat rw [uI_off (by omega)]
        exact h6.2.2.2.2.1 i hi, fun i hi => by
        repeat rw [uI_off (by omega)]
        exact h6.2.2.2.2.2.1 i hi, fun i hi => by
        repeat rw [uI_off (by omega)]
        exact h6.2.2.2.2.2.2 i hi⟩
set_option maxHeartbeats 4000000 in
theorem c_ho1n (Γ : kGm) {μ : kM} {q : kq4} {t : Nat} (ht : isT t) {sn : Nat} {D : Dt} {x : Int32} (h : PQ 1 1 sn D t μ) (hH : 1 ≤ dH D ∧ dH D ≤ 4) (hd : dg x = none) : gC Γ yX2_houseGoesOn mX2_houseGoesOn 3 [.ref t, .int (nI (dH D - 1)), .int x] μ q (SR (st1 1 sn D x) t μ q) := by
  refine gC.ofG (n := 0) ⟨by decide +kernel, rfl, rfl, by decide⟩ (Nat.le_of_ble_eq_true rfl) ?_
  show gG Γ mX2_houseGoesOn 3 0 [some (.ref t), some (.int (nI (dH D - 1))), some (.int x), none] [] μ q _
  obtain ⟨h1, h2, h3, h4, h5, h6⟩ := h
  replace h5 := h5 (by decide)
  refine kG.iload_n 1 dX2_houseGoesOn_0 rfl rfl ?_
  refine gG.callS 4 dX2_houseGoesOn_1 lX2_63 vX2_digitOf (c_digitOf Γ x) rfl rfl ⟨by decide, by decide⟩ (Nat.le_of_ble_eq_true rfl) rfl (fun r1 μ1 q1 hc1 => ?_)
  obtain ⟨rfl, rfl, rfl⟩ := hc1
  rw [hd]
  show gG Γ _ _ _ _ (Value.int (-9) :: _) _ _ _
  refine kG.istore_n 5 dX2_houseGoesOn_4 (by decide) rfl rfl ?_
  dsimp only [List.set]
  refine kG.aload_n 6 dX2_houseGoesOn_5 rfl rfl ?_
  refine gG.getI 9 dX2_houseGoesOn_6 fX2_46 (isT_k ht) (isT_s ht) rfl rfl ?_
  rw [h5]
  refine kG.lookup (off := 27) 36 dX2_houseGoesOn_9 (by decide) (by decide) (by decide) ?_
  refine kG.aload_n 37 dX2_houseGoesOn_36 rfl rfl ?_
  refine gG.getP 40 dX2_houseGoesOn_37 fX2_9 (isT_k ht) (isT_s ht) rfl (PI_T ht (by decide)) rfl ?_
  refine kG.iload_n 41 dX2_houseGoesOn_40 rfl rfl ?_
  refine kG.bipush (v := nI 10) 43 dX2_houseGoesOn_41 (by decide) rfl ?_
  refine kG.iload_n 44 dX2_houseGoesOn_43 rfl rfl ?_
  refine kG.imul 45 dX2_houseGoesOn_44 rfl ?_
  refine gG.iast (n := 4) _ 46 dX2_houseGoesOn_45 (arT_k ht (by decide)) (arT_s ht (by decide)) rfl (by omega) (by decide) rfl ?_
  refine kG.iload_n 47 dX2_houseGoesOn_46 rfl rfl ?_
  refine kG.if_lt 54 50 dX2_houseGoesOn_47 (by decide) rfl (fun h47 => ?_) (fun h47 => ?_)
  · refine kG.iconst (v := nI 0) 55 dX2_houseGoesOn_54 (by decide) rfl ?_
    refine gG.zret dX2_houseGoesOn_55 rfl rfl ?_
    have eo : st1 1 sn D x = none := by
      show (dg x).bind _ = _; rw [hd]; rfl
    rw [eo]
    exact ⟨rfl, rfl, fun k hk => by (repeat (first | rw [uI_same] | rw [uI_ne (Or.inr (by decide))] | rw [uI_off (by omega)])) <;> rfl, fun s' e => by cases e⟩
  · exact absurd (by decide) h47
set_option maxHeartbeats 4000000 in
theorem c_ho2n (Γ : kGm) {μ : kM} {q : kq4} {t : Nat} (ht : isT t) {sn : Nat} {D : Dt} {x : Int32} (h : PQ 1 2 sn D t μ) (hH : 1 ≤ dH D ∧ dH D ≤ 4) (hd : dg x = none) : gC Γ yX2_houseGoesOn mX2_houseGoesOn 3 [.ref t, .int (nI (dH D - 1)), .int x] μ q (SR (st1 2 sn D x) t μ q) := by
  refine gC.ofG (n := 0) ⟨by decide +kernel, rfl, rfl, by decide⟩ (Nat.le_of_ble_eq_true rfl) ?_
  show gG Γ mX2_houseGoesOn 3 0 [some (.ref t), some (.int (nI (dH D - 1))), some (.int x), none] [] μ q _
  obtain ⟨h1, h2, h3, h4, h5, h6⟩ := h
  replace h5 := h5 (by decide)
  refine kG.iload_n 1 dX2_houseGoesOn_0 rfl rfl ?_
  refine gG.callS 4 dX2_houseGoesOn_1 lX2_63 vX2_digitOf (c_digitOf Γ x) rfl rfl ⟨by decide, by decide⟩ (Nat.le_of_ble_eq_true rfl) rfl (fun r1 μ1 q1 hc1 => ?_)
  obtain ⟨rfl, rfl, rfl⟩ := hc1
  rw [hd]
  show gG Γ _ _ _ _ (Value.int (-9) :: _) _ _ _
  refine kG.istore_n 5 dX2_houseGoesOn_4 (by decide) rfl rfl ?_
  dsimp only [List.set]
  refine kG.aload_n 6 dX2_houseGoesOn_5 rfl rfl ?_
  refine gG.getI 9 dX2_houseGoesOn_6 fX2_46 (isT_k ht) (isT_s ht) rfl rfl ?_
  rw [h5]
  refine kG.lookup (off := 47) 56 dX2_houseGoesOn_9 (by decide) (by decide) (by decide) ?_
  refine kG.aload_n 57 dX2_houseGoesOn_56 rfl rfl ?_
  refine gG.getP 60 dX2_houseGoesOn_57 fX2_9 (isT_k ht) (isT_s ht) rfl (PI_T ht (by decide)) rfl ?_
  refine kG.iload_n 61 dX2_houseGoesOn_60 rfl rfl ?_
  refine kG.dup2 62 dX2_houseGoesOn_61 rfl rfl rfl ?_
  refine gG.iald (n := 4) _ 63 dX2_houseGoesOn_62 (arT_k ht (by decide)) (arT_s ht (by decide)) rfl (by omega) (by decide) rfl ?_
  refine kG.iload_n 64 dX2_houseGoesOn_63 rfl rfl ?_
  refine kG.iadd 65 dX2_houseGoesOn_64 rfl ?_
  refine gG.iast (n := 4) _ 66 dX2_houseGoesOn_65 (arT_k ht (by decide)) (arT_s ht (by decide)) rfl (by omega) (by decide) rfl ?_
  refine kG.iload_n 67 dX2_houseGoesOn_66 rfl rfl ?_
  refine kG.if_lt 74 70 dX2_houseGoesOn_67 (by decide) rfl (fun h67 => ?_) (fun h67 => ?_)
  · refine kG.iconst (v := nI 0) 75 dX2_houseGoesOn_74 (by decide) rfl ?_
    refine gG.zret dX2_houseGoesOn_75 rfl rfl ?_
    have eo : st1 2 sn D x = none := by
      show (dg x).bind _ = _; rw [hd]; rfl
    rw [eo]
    exact ⟨rfl, rfl, fun k hk => by (repeat (first | rw [uI_same] | rw [uI_ne (Or.inr (by decide))] | rw [uI_off (by omega)])) <;> rfl, fun s' e => by cases e⟩
  · exact absurd (by decide) h67
set_option maxHeartbeats 4000000 in
theorem c_ho3n (Γ : kGm) {μ : kM} {q : kq4} {t : Nat} (ht : isT t) {sn : Nat} {D : Dt} {x : Int32} (h : PQ 1 3 sn D t μ) (hH : 1 ≤ dH D ∧ dH D ≤ 4) (hd : dg x = none) : gC Γ yX2_houseGoesOn mX2_houseGoesOn 3 [.ref t, .int (nI (dH D - 1)), .int x] μ q (SR (st1 3 sn D x) t μ q) := by
  refine gC.ofG (n := 0) ⟨by decide +kernel, rfl, rfl, by decide⟩ (Nat.le_of_ble_eq_true rfl) ?_
  show gG Γ mX2_houseGoesOn 3 0 [some (.ref t), some (.int (nI (dH D - 1))), some (.int x), none] [] μ q _
  obtain ⟨h1, h2, h3, h4, h5, h6⟩ := h
  replace h5 := h5 (by decide)
  refine kG.iload_n 1 dX2_houseGoesOn_0 rfl rfl ?_
  refine gG.callS 4 dX2_houseGoesOn_1 lX2_63 vX2_digitOf (c_digitOf Γ x) rfl rfl ⟨by decide, by decide⟩ (Nat.le_of_ble_eq_true rfl) rfl (fun r1 μ1 q1 hc1 => ?_)
  obtain ⟨rfl, rfl, rfl⟩ := hc1
  rw [hd]
  show gG Γ _ _ _ _ (Value.int (-9) :: _) _ _ _
  refine kG.istore_n 5 dX2_houseGoesOn_4 (by decide) rfl rfl ?_
  dsimp only [List.set]
  refine kG.aload_n 6 dX2_houseGoesOn_5 rfl rfl ?_
  refine gG.getI 9 dX2_houseGoesOn_6 fX2_46 (isT_k ht) (isT_s ht) rfl rfl ?_
  rw [h5]
  refine kG.lookup (off := 67) 76 dX2_houseGoesOn_9 (by decide) (by decide) (by decide) ?_
  refine kG.aload_n 77 dX2_houseGoesOn_76 rfl rfl ?_
  refine gG.getP 80 dX2_houseGoesOn_77 fX2_15 (isT_k ht) (isT_s ht) rfl (PI_T ht (by decide)) rfl ?_
  refine kG.iload_n 81 dX2_houseGoesOn_80 rfl rfl ?_
  refine kG.iload_n 82 dX2_houseGoesOn_81 rfl rfl ?_
  refine gG.iast (n := 4) _ 83 dX2_houseGoesOn_82 (arT_k ht (by decide)) (arT_s ht (by decide)) rfl (by omega) (by decide) rfl ?_
  refine kG.aload_n 84 dX2_houseGoesOn_83 rfl rfl ?_
  refine kG.iconst (v := nI 3) 85 dX2_houseGoesOn_84 (by decide) rfl ?_
  refine gG.putI 88 dX2_houseGoesOn_85 fX2_43 (isT_k ht) (isT_s ht) rfl rfl ⟨rfl, rfl⟩ rfl ?_
  refine kG.iload_n 89 dX2_houseGoesOn_88 rfl rfl ?_
  refine kG.iconst (v := nI 1) 90 dX2_houseGoesOn_89 (by decide) rfl ?_
  refine kG.icmp_lt 97 93 dX2_houseGoesOn_90 (by decide) rfl (fun h90 => ?_) (fun h90 => ?_)
  · refine kG.iconst (v := nI 0) 98 dX2_houseGoesOn_97 (by decide) rfl ?_
    refine gG.zret dX2_houseGoesOn_98 rfl rfl ?_
    have eo : st1 3 sn D x = none := by
      show (dg x).bind _ = _; rw [hd]; rfl
    rw [eo]
    exact ⟨rfl, rfl, fun k hk => by (repeat (first | rw [uI_same] | rw [uI_ne (Or.inr (by decide))] | rw [uI_off (by omega)])) <;> rfl, fun s' e => by cases e⟩
  · exact absurd (by decide) h90
set_option maxHeartbeats 4000000 in
theorem c_he0 (Γ : kGm) {μ : kM} {q : kq4} {t : Nat} (ht : isT t) {sn : Nat} {D : Dt} {x : Int32} (h : PQ 0 0 sn D t μ) (hs : sn = 0) : gC Γ yX2_headGoesOn mX2_headGoesOn 3 [.ref t, .int x] μ q (SR (stH 0 sn D x) t μ q) := by
  refine gC.ofG (n := 0) ⟨by decide +kernel, rfl, rfl, by decide⟩ (Nat.le_of_ble_eq_true rfl) ?_
  show gG Γ mX2_headGoesOn 3 0 [some (.ref t), some (.int x), none] [] μ q _
  obtain ⟨h1, h2, h3, h4, h5, h6⟩ := h
  replace h5 := h5 (by decide)
  refine kG.iload_n 1 dX2_headGoesOn_0 rfl rfl ?_
  refine gG.callS 4 dX2_headGoesOn_1 lX2_63 vX2_digitOf (c_digitOf Γ x) rfl rfl ⟨by decide, by decide⟩ (Nat.le_of_ble_eq_true rfl) rfl (fun r1 μ1 q1 hc1 => ?_)
  obtain ⟨rfl, rfl, rfl⟩ := hc1
  refine kG.istore_n 5 dX2_headGoesOn_4 (by decide) rfl rfl ?_
  dsimp only [List.set]
  refine kG.aload_n 6 dX2_headGoesOn_5 rfl rfl ?_
  refine gG.getI 9 dX2_headGoesOn_6 fX2_46 (isT_k ht) (isT_s ht) rfl rfl ?_
  rw [h5]
  refine kG.lookup (off := 27) 36 dX2_headGoesOn_9 (by decide) (by decide) (by decide) ?_
  refine kG.iload_n 37 dX2_headGoesOn_36 rfl rfl ?_
  refine kG.bipush (v := nI 117) 39 dX2_headGoesOn_37 (by decide) rfl ?_
  refine kG.icmp_ne 46 42 dX2_headGoesOn_39 (by decide) rfl (fun h39 => ?_) (fun h39 => ?_)
  · have e1 : ¬ x = nI 117 := h39
    refine kG.iconst (v := nI 0) 47 dX2_headGoesOn_46 (by decide) rfl ?_
    refine gG.zret dX2_headGoesOn_47 rfl rfl ?_
    have eo : stH 0 sn D x = none := by
      show oIf _ _ = _; unfold oIf; rw [if_neg e1]
    rw [eo]
    exact ⟨rfl, rfl, fun k hk => by (repeat (first | rw [uI_same] | rw [uI_ne (Or.inr (by decide))] | rw [uI_off (by omega)])) <;> rfl, fun s' e => by cases e⟩
  · have e1 : x = nI 117 := h39
    refine kG.iconst (v := nI 1) 43 dX2_headGoesOn_42 (by decide) rfl ?_
    refine kG.goto 47 dX2_headGoesOn_43 (by decide) ?_
    refine gG.zret dX2_headGoesOn_47 rfl rfl ?_
    have eo : stH 0 sn D x = some (0, 1, 0, D) := by
      show oIf _ _ = _; unfold oIf; rw [if_pos e1]
    rw [eo]
    refine ⟨rfl, rfl, fun k hk => by (repeat (first | rw [uI_same] | rw [uI_ne (Or.inr (by decide))] | rw [uI_off (by omega)])) <;> rfl, fun s' e => ?_⟩
    cases e
    show PQ 0 1 (0) (D) t _
    exact ⟨by (repeat (first | rw [uI_same] | rw [uI_ne (Or.inr (by decide))] | rw [uI_off (by omega)])) <;> first | rfl | exact (h1.trans (congrArg nI hs)), by (repeat (first | rw [uI_same] | rw [uI_ne (Or.inr (by decide))] | rw [uI_off (by omega)])) <;> first | exact h2 | rfl, by (repeat (first | rw [uI_same] | rw [uI_ne (Or.inr (by decide))] | rw [uI_off (by omega)])) <;> first | exact h3 | rfl, by (repeat (first | rw [uI_same] | rw [uI_ne (Or.inr (by decide))] | rw [uI_off (by omega)])) <;> first | exact h4 | rfl, fun _ => by (repeat (first | rw [uI_same] | rw [uI_ne (Or.inr (by decide))] | rw [uI_off (by omega)])) <;> first | rfl | (rw [h5]; rfl), fun i hi => by
        repeat rw [uI_off (by omega)]
        exact h6.1 i hi, fun i hi => by
        repeat rw [uI_off (by omega)]
        exact h6.2.1 i hi, fun i hi => by
        repeat rw [uI_off (by omega)]
        exact h6.2.2.1 i hi, fun i hi => by
        repeat rw [uI_off (by omega)]
        exact h6.2.2.2.1 i hi, fun i hi => by
        repeat rw [uI_off (by omega)]
        exact h6.2.2.2.2.1 i hi, fun i hi => by
        repeat rw [uI_off (by omega)]
        exact h6.2.2.2.2.2.1 i hi, fun i hi => by
        repeat rw [uI_off (by omega)]
        exact h6.2.2.2.2.2.2 i hi⟩
set_option maxHeartbeats 4000000 in
theorem c_he1s (Γ : kGm) {μ : kM} {q : kq4} {t : Nat} (ht : isT t) {sn : Nat} {D : Dt} {x : Int32} (h : PQ 0 1 sn D t μ) {d : Nat} (hd : dg x = some d) : gC Γ yX2_headGoesOn mX2_headGoesOn 3 [.ref t, .int x] μ q (SR (stH 1 sn D x) t μ q) := by
  refine gC.ofG (n := 0) ⟨by decide +kernel, rfl, rfl, by decide⟩ (Nat.le_of_ble_eq_true rfl) ?_
  show gG Γ mX2_headGoesOn 3 0 [some (.ref t), some (.int x), none] [] μ q _
  obtain ⟨h1, h2, h3, h4, h5, h6⟩ := h
  replace h5 := h5 (by decide)
  have hd9 := (dg_t hd).1
  refine kG.iload_n 1 dX2_headGoesOn_0 rfl rfl ?_
  refine gG.callS 4 dX2_headGoesOn_1 lX2_63 vX2_digitOf (c_digitOf Γ x) rfl rfl ⟨by decide, by decide⟩ (Nat.le_of_ble_eq_true rfl) rfl (fun r1 μ1 q1 hc1 => ?_)
  obtain ⟨rfl, rfl, rfl⟩ := hc1
  rw [hd]
  show gG Γ _ _ _ _ (Value.int (nI d) :: _) _ _ _
  refine kG.istore_n 5 dX2_headGoesOn_4 (by decide) rfl rfl ?_
  dsimp only [List.set]
  refine kG.aload_n 6 dX2_headGoesOn_5 rfl rfl ?_
  refine gG.getI 9 dX2_headGoesOn_6 fX2_46 (isT_k ht) (isT_s ht) rfl rfl ?_
  rw [h5]
  refine kG.lookup (off := 39) 48 dX2_headGoesOn_9 (by decide) (by decide) (by decide) ?_
  refine kG.aload_n 49 dX2_headGoesOn_48 rfl rfl ?_
  refine kG.bipush (v := nI 10) 51 dX2_headGoesOn_49 (by decide) rfl ?_
  refine kG.iload_n 52 dX2_headGoesOn_51 rfl rfl ?_
  refine kG.imul 53 dX2_headGoesOn_52 rfl ?_
  rw [pk_mul]
  refine gG.putI 56 dX2_headGoesOn_53 fX2_33 (isT_k ht) (isT_s ht) rfl rfl ⟨rfl, rfl⟩ rfl ?_
  refine kG.iload_n 57 dX2_headGoesOn_56 rfl rfl ?_
  refine kG.iconst (v := nI 0) 58 dX2_headGoesOn_57 (by decide) rfl ?_
  refine kG.iconst (v := nI 1) 59 dX2_headGoesOn_58 (by decide) rfl ?_
  refine gG.callS 62 dX2_headGoesOn_59 lX2_67 vX2_isIn (c_isI Γ (d := d) (a := 0) (b := 1) (by omega) (by decide) (by decide)) rfl rfl ⟨by decide, by decide⟩ (Nat.le_of_ble_eq_true rfl) rfl (fun r59 μ59 q59 hc59 => ?_)
  obtain ⟨rfl, rfl, rfl⟩ := hc59
  refine gG.zret dX2_headGoesOn_62 rfl (b2_bit _) ?_
  by_cases e1 : d ≤ 1
  · rw [decide_eq_true (show 0 ≤ d ∧ d ≤ 1 from ⟨Nat.zero_le _, e1⟩)]
    have eo : stH 1 sn D x = some (0, 2, 10 * d, D) := by
      show (dg x).bind _ = _; rw [hd]; show oIf _ _ = _; unfold oIf; rw [if_pos e1]
    rw [eo]
    refine ⟨rfl, rfl, fun k hk => by (repeat (first | rw [uI_same] | rw [uI_ne (Or.inr (by decide))] | rw [uI_off (by omega)])) <;> rfl, fun s' e => ?_⟩
    cases e
    show PQ 0 2 (10 * d) (D) t _
    exact ⟨by (repeat (first | rw [uI_same] | rw [uI_ne (Or.inr (by decide))] | rw [uI_off (by omega)])) <;> first | rfl | exact rfl, by (repeat (first | rw [uI_same] | rw [uI_ne (Or.inr (by decide))] | rw [uI_off (by omega)])) <;> first | exact h2 | rfl, by (repeat (first | rw [uI_same] | rw [uI_ne (Or.inr (by decide))] | rw [uI_off (by omega)])) <;> first | exact h3 | rfl, by (repeat (first | rw [uI_same] | rw [uI_ne (Or.inr (by decide))] | rw [uI_off (by omega)])) <;> first | exact h4 | rfl, fun _ => by (repeat (first | rw [uI_same] | rw [uI_ne (Or.inr (by decide))] | rw [uI_off (by omega)])) <;> first | rfl | (rw [h5]; rfl), fun i hi => by
        repeat rw [uI_off (by omega)]
        exact h6.1 i hi, fun i hi => by
        repeat rw [uI_off (by omega)]
        exact h6.2.1 i hi, fun i hi => by
        repeat rw [uI_off (by omega)]
        exact h6.2.2.1 i hi, fun i hi => by
        repeat rw [uI_off (by omega)]
        exact h6.2.2.2.1 i hi, fun i hi => by
        repeat rw [uI_off (by omega)]
        exact h6.2.2.2.2.1 i hi, fun i hi => by
        repeat rw [uI_off (by omega)]
        exact h6.2.2.2.2.2.1 i hi, fun i hi => by
        repeat rw [uI_off (by omega)]
        exact h6.2.2.2.2.2.2 i hi⟩
  · rw [decide_eq_false (show ¬ (0 ≤ d ∧ d ≤ 1) from fun z => e1 z.2)]
    have eo : stH 1 sn D x = none := by
      show (dg x).bind _ = _; rw [hd]; show oIf _ _ = _; unfold oIf; rw [if_neg e1]
    rw [eo]
    exact ⟨rfl, rfl, fun k hk => by (repeat (first | rw [uI_same] | rw [uI_ne (Or.inr (by decide))] | rw [uI_off (by omega)])) <;> rfl, fun s' e => by cases e⟩
set_option maxHeartbeats 4000000 in
theorem c_he2s (Γ : kGm) {μ : kM} {q : kq4} {t : Nat} (ht : isT t) {sn : Nat} {D : Dt} {x : Int32} (h : PQ 0 2 sn D t μ) (hs : sn ≤ 10) {d : Nat} (hd : dg x = some d) : gC Γ yX2_headGoesOn mX2_headGoesOn 3 [.ref t, .int x] μ q (SR (stH 2 sn D x) t μ q) := by
  refine gC.ofG (n := 0) ⟨by decide +kernel, rfl, rfl, by decide⟩ (Nat.le_of_ble_eq_true rfl) ?_
  show gG Γ mX2_headGoesOn 3 0 [some (.ref t), some (.int x), none] [] μ q _
  obtain ⟨h1, h2, h3, h4, h5, h6⟩ := h
  replace h5 := h5 (by decide)
  have hd9 := (dg_t hd).1
  refine kG.iload_n 1 dX2_headGoesOn_0 rfl rfl ?_
  refine gG.callS 4 dX2_headGoesOn_1 lX2_63 vX2_digitOf (c_digitOf Γ x) rfl rfl ⟨by decide, by decide⟩ (Nat.le_of_ble_eq_true rfl) rfl (fun r1 μ1 q1 hc1 => ?_)
  obtain ⟨rfl, rfl, rfl⟩ := hc1
  rw [hd]
  show gG Γ _ _ _ _ (Value.int (nI d) :: _) _ _ _
  refine kG.istore_n 5 dX2_headGoesOn_4 (by decide) rfl rfl ?_
  dsimp only [List.set]
  refine kG.aload_n 6 dX2_headGoesOn_5 rfl rfl ?_
  refine gG.getI 9 dX2_headGoesOn_6 fX2_46 (isT_k ht) (isT_s ht) rfl rfl ?_
  rw [h5]
  refine kG.lookup (off := 54) 63 dX2_headGoesOn_9 (by decide) (by decide) (by decide) ?_
  refine kG.aload_n 64 dX2_headGoesOn_63 rfl rfl ?_
  refine kG.dup 65 dX2_headGoesOn_64 rfl rfl ?_
  refine gG.getI 68 dX2_headGoesOn_65 fX2_33 (isT_k ht) (isT_s ht) rfl rfl ?_
  refine kG.iload_n 69 dX2_headGoesOn_68 rfl rfl ?_
  refine kG.iadd 70 dX2_headGoesOn_69 rfl ?_
  rw [h1, nI_add]
  refine gG.putI 73 dX2_headGoesOn_70 fX2_33 (isT_k ht) (isT_s ht) rfl rfl ⟨rfl, rfl⟩ rfl ?_
  refine kG.aload_n 74 dX2_headGoesOn_73 rfl rfl ?_
  refine kG.iconst (v := nI 3) 75 dX2_headGoesOn_74 (by decide) rfl ?_
  refine gG.putI 78 dX2_headGoesOn_75 fX2_43 (isT_k ht) (isT_s ht) rfl rfl ⟨rfl, rfl⟩ rfl ?_
  refine kG.iload_n 79 dX2_headGoesOn_78 rfl rfl ?_
  refine kG.if_lt 99 82 dX2_headGoesOn_79 (by decide) rfl (fun h79 => ?_) (fun h79 => ?_)
  · exact absurd h79 (nI_pos (by omega))
  · refine kG.aload_n 83 dX2_headGoesOn_82 rfl rfl ?_
    refine gG.getI 86 dX2_headGoesOn_83 fX2_33 (isT_k ht) (isT_s ht) rfl rfl ?_
    rw [show (uI (uI _ t 7 (nI (sn + d))) t 10 (nI 3)) t 7 = nI (sn + d) by (repeat (first | rw [uI_same] | rw [uI_ne (Or.inr (by decide))] | rw [uI_off (by omega)]))]
    refine kG.iconst (v := nI 1) 87 dX2_headGoesOn_86 (by decide) rfl ?_
    refine kG.bipush (v := nI 13) 89 dX2_headGoesOn_87 (by decide) rfl ?_
    refine gG.callS 92 dX2_headGoesOn_89 lX2_67 vX2_isIn (c_isI Γ (d := sn + d) (a := 1) (b := 13) (by omega) (by decide) (by decide)) rfl rfl ⟨by decide, by decide⟩ (Nat.le_of_ble_eq_true rfl) rfl (fun r89 μ89 q89 hc89 => ?_)
    obtain ⟨rfl, rfl, rfl⟩ := hc89
    refine kG.if_eq 99 95 dX2_headGoesOn_92 (by decide) rfl (fun h92 => ?_) (fun h92 => ?_)
    · have e1 : ¬ (1 ≤ sn + d ∧ sn + d ≤ 13) := of_decide_eq_false (b2_0.mp h92)
      refine kG.iconst (v := nI 0) 100 dX2_headGoesOn_99 (by decide) rfl ?_
      refine gG.zret dX2_headGoesOn_100 rfl rfl ?_
      have eo : stH 2 sn D x = none := by
        show (dg x).bind _ = _; rw [hd]; show oIf _ _ = _; unfold oIf; rw [if_neg e1]
      rw [eo]
      exact ⟨rfl, rfl, fun k hk => by (repeat (first | rw [uI_same] | rw [uI_ne (Or.inr (by decide))] | rw [uI_off (by omega)])) <;> rfl, fun s' e => by cases e⟩
    · have e1 : 1 ≤ sn + d ∧ sn + d ≤ 13 := of_decide_eq_true (b2_n0.mp h92)
      refine kG.iconst (v := nI 1) 96 dX2_headGoesOn_95 (by decide) rfl ?_
      refine kG.goto 100 dX2_headGoesOn_96 (by decide) ?_
      refine gG.zret dX2_headGoesOn_100 rfl rfl ?_
      have eo : stH 2 sn D x = some (3, 0, sn + d, D) := by
        show (dg x).bind _ = _; rw [hd]; show oIf _ _ = _; unfold oIf; rw [if_pos e1]
      rw [eo]
      refine ⟨rfl, rfl, fun k hk => by (repeat (first | rw [uI_same] | rw [uI_ne (Or.inr (by decide))] | rw [uI_off (by omega)])) <;> rfl, fun s' e => ?_⟩
      cases e
      show PQ 3 0 (sn + d) (D) t _
      exact ⟨by (repeat (first | rw [uI_same] | rw [uI_ne (Or.inr (by decide))] | rw [uI_off (by omega)])) <;> first | rfl | exact rfl, by (repeat (first | rw [uI_same] | rw [uI_ne (Or.inr (by decide))] | rw [uI_off (by omega)])) <;> first | exact h2 | rfl, by (repeat (first | rw [uI_same] | rw [uI_ne (Or.inr (by decide))] | rw [uI_off (by omega)])) <;> first | exact h3 | rfl, by (repeat (first | rw [uI_same] | rw [uI_ne (Or.inr (by decide))] | rw [uI_off (by omega)])) <;> first | exact h4 | rfl, fun z => absurd rfl z, fun i hi => by
          repeat rw [uI_off (by omega)]
          exact h6.1 i hi, fun i hi => by
          repeat rw [uI_off (by omega)]
          exact h6.2.1 i hi, fun i hi => by
          repeat rw [uI_off (by omega)]
          exact h6.2.2.1 i hi, fun i hi => by
          repeat rw [uI_off (by omega)]
          exact h6.2.2.2.1 i hi, fun i hi => by
          repeat rw [uI_off (by omega)]
          exact h6.2.2.2.2.1 i hi, fun i hi => by
          repeat rw [uI_off (by omega)]
          exact h6.2.2.2.2.2.1 i hi, fun i hi => by
          repeat rw [uI_off (by omega)]
          exact h6.2.2.2.2.2.2 i hi⟩
set_option maxHeartbeats 4000000 in
theorem c_he1n (Γ : kGm) {μ : kM} {q : kq4} {t : Nat} (ht : isT t) {sn : Nat} {D : Dt} {x : Int32} (h : PQ 0 1 sn D t μ) (hd : dg x = none) : gC Γ yX2_headGoesOn mX2_headGoesOn 3 [.ref t, .int x] μ q (SR (stH 1 sn D x) t μ q) := by
  refine gC.ofG (n := 0) ⟨by decide +kernel, rfl, rfl, by decide⟩ (Nat.le_of_ble_eq_true rfl) ?_
  show gG Γ mX2_headGoesOn 3 0 [some (.ref t), some (.int x), none] [] μ q _
  obtain ⟨h1, h2, h3, h4, h5, h6⟩ := h
  replace h5 := h5 (by decide)
  refine kG.iload_n 1 dX2_headGoesOn_0 rfl rfl ?_
  refine gG.callS 4 dX2_headGoesOn_1 lX2_63 vX2_digitOf (c_digitOf Γ x) rfl rfl ⟨by decide, by decide⟩ (Nat.le_of_ble_eq_true rfl) rfl (fun r1 μ1 q1 hc1 => ?_)
  obtain ⟨rfl, rfl, rfl⟩ := hc1
  rw [hd]
  show gG Γ _ _ _ _ (Value.int (-9) :: _) _ _ _
  refine kG.istore_n 5 dX2_headGoesOn_4 (by decide) rfl rfl ?_
  dsimp only [List.set]
  refine kG.aload_n 6 dX2_headGoesOn_5 rfl rfl ?_
  refine gG.getI 9 dX2_headGoesOn_6 fX2_46 (isT_k ht) (isT_s ht) rfl rfl ?_
  rw [h5]
  refine kG.lookup (off := 39) 48 dX2_headGoesOn_9 (by decide) (by decide) (by decide) ?_
  refine kG.aload_n 49 dX2_headGoesOn_48 rfl rfl ?_
  refine kG.bipush (v := nI 10) 51 dX2_headGoesOn_49 (by decide) rfl ?_
  refine kG.iload_n 52 dX2_headGoesOn_51 rfl rfl ?_
  refine kG.imul 53 dX2_headGoesOn_52 rfl ?_
  refine gG.putI 56 dX2_headGoesOn_53 fX2_33 (isT_k ht) (isT_s ht) rfl rfl ⟨rfl, rfl⟩ rfl ?_
  refine kG.iload_n 57 dX2_headGoesOn_56 rfl rfl ?_
  refine kG.iconst (v := nI 0) 58 dX2_headGoesOn_57 (by decide) rfl ?_
  refine kG.iconst (v := nI 1) 59 dX2_headGoesOn_58 (by decide) rfl ?_
  refine gG.callS 62 dX2_headGoesOn_59 lX2_67 vX2_isIn (c_isI9 Γ) rfl rfl ⟨by decide, by decide⟩ (Nat.le_of_ble_eq_true rfl) rfl (fun r59 μ59 q59 hc59 => ?_)
  obtain ⟨rfl, rfl, rfl⟩ := hc59
  refine gG.zret dX2_headGoesOn_62 rfl (b2_bit _) ?_
  have eo : stH 1 sn D x = none := by
    show (dg x).bind _ = _; rw [hd]; rfl
  rw [eo]
  exact ⟨rfl, rfl, fun k hk => by (repeat (first | rw [uI_same] | rw [uI_ne (Or.inr (by decide))] | rw [uI_off (by omega)])) <;> rfl, fun s' e => by cases e⟩
set_option maxHeartbeats 4000000 in
theorem c_he2n (Γ : kGm) {μ : kM} {q : kq4} {t : Nat} (ht : isT t) {sn : Nat} {D : Dt} {x : Int32} (h : PQ 0 2 sn D t μ) (hs : sn ≤ 10) (hd : dg x = none) : gC Γ yX2_headGoesOn mX2_headGoesOn 3 [.ref t, .int x] μ q (SR (stH 2 sn D x) t μ q) := by
  refine gC.ofG (n := 0) ⟨by decide +kernel, rfl, rfl, by decide⟩ (Nat.le_of_ble_eq_true rfl) ?_
  show gG Γ mX2_headGoesOn 3 0 [some (.ref t), some (.int x), none] [] μ q _
  obtain ⟨h1, h2, h3, h4, h5, h6⟩ := h
  replace h5 := h5 (by decide)
  refine kG.iload_n 1 dX2_headGoesOn_0 rfl rfl ?_
  refine gG.callS 4 dX2_headGoesOn_1 lX2_63 vX2_digitOf (c_digitOf Γ x) rfl rfl ⟨by decide, by decide⟩ (Nat.le_of_ble_eq_true rfl) rfl (fun r1 μ1 q1 hc1 => ?_)
  obtain ⟨rfl, rfl, rfl⟩ := hc1
  rw [hd]
  show gG Γ _ _ _ _ (Value.int (-9) :: _) _ _ _
  refine kG.istore_n 5 dX2_headGoesOn_4 (by decide) rfl rfl ?_
  dsimp only [List.set]
  refine kG.aload_n 6 dX2_headGoesOn_5 rfl rfl ?_
  refine gG.getI 9 dX2_headGoesOn_6 fX2_46 (isT_k ht) (isT_s ht) rfl rfl ?_
  rw [h5]
  refine kG.lookup (off := 54) 63 dX2_headGoesOn_9 (by decide) (by decide) (by decide) ?_
  refine kG.aload_n 64 dX2_headGoesOn_63 rfl rfl ?_
  refine kG.dup 65 dX2_headGoesOn_64 rfl rfl ?_
  refine gG.getI 68 dX2_headGoesOn_65 fX2_33 (isT_k ht) (isT_s ht) rfl rfl ?_
  refine kG.iload_n 69 dX2_headGoesOn_68 rfl rfl ?_
  refine kG.iadd 70 dX2_headGoesOn_69 rfl ?_
  refine gG.putI 73 dX2_headGoesOn_70 fX2_33 (isT_k ht) (isT_s ht) rfl rfl ⟨rfl, rfl⟩ rfl ?_
  refine kG.aload_n 74 dX2_headGoesOn_73 rfl rfl ?_
  refine kG.iconst (v := nI 3) 75 dX2_headGoesOn_74 (by decide) rfl ?_
  refine gG.putI 78 dX2_headGoesOn_75 fX2_43 (isT_k ht) (isT_s ht) rfl rfl ⟨rfl, rfl⟩ rfl ?_
  refine kG.iload_n 79 dX2_headGoesOn_78 rfl rfl ?_
  refine kG.if_lt 99 82 dX2_headGoesOn_79 (by decide) rfl (fun h79 => ?_) (fun h79 => ?_)
  · refine kG.iconst (v := nI 0) 100 dX2_headGoesOn_99 (by decide) rfl ?_
    refine gG.zret dX2_headGoesOn_100 rfl rfl ?_
    have eo : stH 2 sn D x = none := by
      show (dg x).bind _ = _; rw [hd]; rfl
    rw [eo]
    exact ⟨rfl, rfl, fun k hk => by (repeat (first | rw [uI_same] | rw [uI_ne (Or.inr (by decide))] | rw [uI_off (by omega)])) <;> rfl, fun s' e => by cases e⟩
  · exact absurd (by decide) h79
set_option maxHeartbeats 4000000 in
theorem c_pe1s (Γ : kGm) {μ : kM} {q : kq4} {t : Nat} (ht : isT t) {sn : Nat} {D : Dt} {x : Int32} (h : PQ 2 1 sn D t μ) (hP : 1 ≤ dP D ∧ dP D ≤ 6) (hH : 1 ≤ dH D ∧ dH D ≤ 4) {d : Nat} (hd : kdF x = some d) : gC Γ yX2_personGoesOn mX2_personGoesOn 3 [.ref t, .int (nI (dP D - 1)), .int x] μ q (SR (st2 1 sn D x) t μ q) := by
  refine gC.ofG (n := 0) ⟨by decide +kernel, rfl, rfl, by decide⟩ (Nat.le_of_ble_eq_true rfl) ?_
  show gG Γ mX2_personGoesOn 3 0 [some (.ref t), some (.int (nI (dP D - 1))), some (.int x), none] [] μ q _
  obtain ⟨h1, h2, h3, h4, h5, h6⟩ := h
  replace h5 := h5 (by decide)
  have hd9 := kdF_t hd
  refine kG.iload_n 1 dX2_personGoesOn_0 rfl rfl ?_
  refine gG.callS 4 dX2_personGoesOn_1 lX2_63 vX2_digitOf (c_digitOf Γ x) rfl rfl ⟨by decide, by decide⟩ (Nat.le_of_ble_eq_true rfl) rfl (fun r1 μ1 q1 hc1 => ?_)
  obtain ⟨rfl, rfl, rfl⟩ := hc1
  refine kG.istore_n 5 dX2_personGoesOn_4 (by decide) rfl rfl ?_
  dsimp only [List.set]
  refine kG.aload_n 6 dX2_personGoesOn_5 rfl rfl ?_
  refine gG.getI 9 dX2_personGoesOn_6 fX2_46 (isT_k ht) (isT_s ht) rfl rfl ?_
  rw [h5]
  refine kG.tableIn 40 dX2_personGoesOn_9 (by decide) (by decide) rfl (by decide) ?_
  refine kG.aload_n 41 dX2_personGoesOn_40 rfl rfl ?_
  refine gG.getP 44 dX2_personGoesOn_41 fX2_18 (isT_k ht) (isT_s ht) rfl (PI_T ht (by decide)) rfl ?_
  refine kG.iload_n 45 dX2_personGoesOn_44 rfl rfl ?_
  refine kG.iload_n 46 dX2_personGoesOn_45 rfl rfl ?_
  refine gG.callS 49 dX2_personGoesOn_46 lX2_71 vX2_kindOf (c_kindOf Γ x) rfl rfl ⟨by decide, by decide⟩ (Nat.le_of_ble_eq_true rfl) rfl (fun r46 μ46 q46 hc46 => ?_)
  obtain ⟨rfl, rfl, rfl⟩ := hc46
  rw [hd]
  show gG Γ _ _ _ _ (Value.int (nI d) :: _) _ _ _
  refine gG.iast (n := 6) _ 50 dX2_personGoesOn_49 (arT_k ht (by decide)) (arT_s ht (by decide)) rfl (by omega) (by decide) rfl ?_
  refine kG.aload_n 51 dX2_personGoesOn_50 rfl rfl ?_
  refine gG.getP 54 dX2_personGoesOn_51 fX2_18 (isT_k ht) (isT_s ht) rfl (PI_T ht (by decide)) rfl ?_
  refine kG.iload_n 55 dX2_personGoesOn_54 rfl rfl ?_
  refine gG.iald (n := 6) _ 56 dX2_personGoesOn_55 (arT_k ht (by decide)) (arT_s ht (by decide)) rfl (by omega) (by decide) rfl ?_
  rw [uI_same]
  refine kG.bipush (v := (-9)) 58 dX2_personGoesOn_56 (by decide) rfl ?_
  refine kG.icmp_eq 65 61 dX2_personGoesOn_58 (by decide) rfl (fun h58 => ?_) (fun h58 => ?_)
  · exact absurd h58 (nI_m9 (by omega))
  · refine kG.iconst (v := nI 1) 62 dX2_personGoesOn_61 (by decide) rfl ?_
    refine kG.goto 66 dX2_personGoesOn_62 (by decide) ?_
    refine gG.zret dX2_personGoesOn_66 rfl rfl ?_
    have eo : st2 1 sn D x = some (2, 2, sn, uKd D d) := by
      show (kdF x).bind _ = _; rw [hd]; rfl
    rw [eo]
    refine ⟨rfl, rfl, fun k hk => by (repeat (first | rw [uI_same] | rw [uI_ne (Or.inr (by decide))] | rw [uI_off (by omega)])) <;> rfl, fun s' e => ?_⟩
    cases e
    show PQ 2 2 (sn) (uKd D d) t _
    exact ⟨by (repeat (first | rw [uI_same] | rw [uI_ne (Or.inr (by decide))] | rw [uI_off (by omega)])) <;> exact h1, by (repeat (first | rw [uI_same] | rw [uI_ne (Or.inr (by decide))] | rw [uI_off (by omega)])) <;> first | exact h2 | rfl, by (repeat (first | rw [uI_same] | rw [uI_ne (Or.inr (by decide))] | rw [uI_off (by omega)])) <;> first | exact h3 | rfl, by (repeat (first | rw [uI_same] | rw [uI_ne (Or.inr (by decide))] | rw [uI_off (by omega)])) <;> first | exact h4 | rfl, fun _ => by (repeat (first | rw [uI_same] | rw [uI_ne (Or.inr (by decide))] | rw [uI_off (by omega)])) <;> first | rfl | (rw [h5]; rfl), fun i hi => by
        repeat rw [uI_off (by omega)]
        exact h6.1 i hi, fun i hi => by
        repeat rw [uI_off (by omega)]
        exact h6.2.1 i hi, fun i (hi : i < dP D) => by
        repeat rw [uI_off (show t + 1 + 2 ≠ t by omega)]
        exact fi_add (g := dkd D) (c := t + 1 + 2) (n := dP D - 1) (fun i (hi : i < dP D - 1) => h6.2.2.1 i hi) (by omega) i hi, fun i hi => by
        repeat rw [uI_off (by omega)]
        exact h6.2.2.2.1 i hi, fun i hi => by
        repeat rw [uI_off (by omega)]
        exact h6.2.2.2.2.1 i hi, fun i hi => by
        repeat rw [uI_off (by omega)]
        exact h6.2.2.2.2.2.1 i hi, fun i hi => by
        repeat rw [uI_off (by omega)]
        exact h6.2.2.2.2.2.2 i hi⟩
set_option maxHeartbeats 4000000 in
theorem c_pe2s (Γ : kGm) {μ : kM} {q : kq4} {t : Nat} (ht : isT t) {sn : Nat} {D : Dt} {x : Int32} (h : PQ 2 2 sn D t μ) (hP : 1 ≤ dP D ∧ dP D ≤ 6) (hH : 1 ≤ dH D ∧ dH D ≤ 4) {d : Nat} (hd : dg x = some d) : gC Γ yX2_personGoesOn mX2_personGoesOn 3 [.ref t, .int (nI (dP D - 1)), .int x] μ q (SR (st2 2 sn D x) t μ q) := by
  refine gC.ofG (n := 0) ⟨by decide +kernel, rfl, rfl, by decide⟩ (Nat.le_of_ble_eq_true rfl) ?_
  show gG Γ mX2_personGoesOn 3 0 [some (.ref t), some (.int (nI (dP D - 1))), some (.int x), none] [] μ q _
  obtain ⟨h1, h2, h3, h4, h5, h6⟩ := h
  replace h5 := h5 (by decide)
  have hd9 := (dg_t hd).1
  refine kG.iload_n 1 dX2_personGoesOn_0 rfl rfl ?_
  refine gG.callS 4 dX2_personGoesOn_1 lX2_63 vX2_digitOf (c_digitOf Γ x) rfl rfl ⟨by decide, by decide⟩ (Nat.le_of_ble_eq_true rfl) rfl (fun r1 μ1 q1 hc1 => ?_)
  obtain ⟨rfl, rfl, rfl⟩ := hc1
  rw [hd]
  show gG Γ _ _ _ _ (Value.int (nI d) :: _) _ _ _
  refine kG.istore_n 5 dX2_personGoesOn_4 (by decide) rfl rfl ?_
  dsimp only [List.set]
  refine kG.aload_n 6 dX2_personGoesOn_5 rfl rfl ?_
  refine gG.getI 9 dX2_personGoesOn_6 fX2_46 (isT_k ht) (isT_s ht) rfl rfl ?_
  rw [h5]
  refine kG.tableIn 67 dX2_personGoesOn_9 (by decide) (by decide) rfl (by decide) ?_
  refine kG.aload_n 68 dX2_personGoesOn_67 rfl rfl ?_
  refine gG.getP 71 dX2_personGoesOn_68 fX2_21 (isT_k ht) (isT_s ht) rfl (PI_T ht (by decide)) rfl ?_
  refine kG.iload_n 72 dX2_personGoesOn_71 rfl rfl ?_
  refine kG.iload_n 73 dX2_personGoesOn_72 rfl rfl ?_
  refine gG.iast (n := 6) _ 74 dX2_personGoesOn_73 (arT_k ht (by decide)) (arT_s ht (by decide)) rfl (by omega) (by decide) rfl ?_
  refine kG.iload_n 75 dX2_personGoesOn_74 rfl rfl ?_
  refine kG.iconst (v := nI 0) 76 dX2_personGoesOn_75 (by decide) rfl ?_
  refine kG.iconst (v := nI 1) 77 dX2_personGoesOn_76 (by decide) rfl ?_
  refine gG.callS 80 dX2_personGoesOn_77 lX2_67 vX2_isIn (c_isI Γ (d := d) (a := 0) (b := 1) (by omega) (by decide) (by omega)) rfl rfl ⟨by decide, by decide⟩ (Nat.le_of_ble_eq_true rfl) rfl (fun r77 μ77 q77 hc77 => ?_)
  obtain ⟨rfl, rfl, rfl⟩ := hc77
  refine gG.zret dX2_personGoesOn_80 rfl (b2_bit _) ?_
  by_cases e1 : d ≤ 1
  · rw [decide_eq_true (show 0 ≤ d ∧ d ≤ 1 by omega)]
    have eo : st2 2 sn D x = some (2, 3, sn, uTw D d) := by
      show (dg x).bind _ = _; rw [hd]; show oIf _ _ = _; unfold oIf; rw [if_pos e1]
    rw [eo]
    refine ⟨rfl, rfl, fun k hk => by (repeat (first | rw [uI_same] | rw [uI_ne (Or.inr (by decide))] | rw [uI_off (by omega)])) <;> rfl, fun s' e => ?_⟩
    cases e
    show PQ 2 3 (sn) (uTw D d) t _
    exact ⟨by (repeat (first | rw [uI_same] | rw [uI_ne (Or.inr (by decide))] | rw [uI_off (by omega)])) <;> exact h1, by (repeat (first | rw [uI_same] | rw [uI_ne (Or.inr (by decide))] | rw [uI_off (by omega)])) <;> first | exact h2 | rfl, by (repeat (first | rw [uI_same] | rw [uI_ne (Or.inr (by decide))] | rw [uI_off (by omega)])) <;> first | exact h3 | rfl, by (repeat (first | rw [uI_same] | rw [uI_ne (Or.inr (by decide))] | rw [uI_off (by omega)])) <;> first | exact h4 | rfl, fun _ => by (repeat (first | rw [uI_same] | rw [uI_ne (Or.inr (by decide))] | rw [uI_off (by omega)])) <;> first | rfl | (rw [h5]; rfl), fun i hi => by
        repeat rw [uI_off (by omega)]
        exact h6.1 i hi, fun i hi => by
        repeat rw [uI_off (by omega)]
        exact h6.2.1 i hi, fun i hi => by
        repeat rw [uI_off (by omega)]
        exact h6.2.2.1 i hi, fun i (hi : i < dP D) => by
        repeat rw [uI_off (show t + 1 + 3 ≠ t by omega)]
        exact fi_add (g := dtw D) (c := t + 1 + 3) (n := dP D - 1) (fun i (hi : i < dP D - 1) => h6.2.2.2.1 i hi) (by omega) i hi, fun i hi => by
        repeat rw [uI_off (by omega)]
        exact h6.2.2.2.2.1 i hi, fun i hi => by
        repeat rw [uI_off (by omega)]
        exact h6.2.2.2.2.2.1 i hi, fun i hi => by
        repeat rw [uI_off (by omega)]
        exact h6.2.2.2.2.2.2 i hi⟩
  · rw [decide_eq_false (show ¬ (0 ≤ d ∧ d ≤ 1) by omega)]
    have eo : st2 2 sn D x = none := by
      show (dg x).bind _ = _; rw [hd]; show oIf _ _ = _; unfold oIf; rw [if_neg e1]
    rw [eo]
    exact ⟨rfl, rfl, fun k hk => by (repeat (first | rw [uI_same] | rw [uI_ne (Or.inr (by decide))] | rw [uI_off (by omega)])) <;> rfl, fun s' e => by cases e⟩
set_option maxHeartbeats 4000000 in
theorem c_pe3s (Γ : kGm) {μ : kM} {q : kq4} {t : Nat} (ht : isT t) {sn : Nat} {D : Dt} {x : Int32} (h : PQ 2 3 sn D t μ) (hP : 1 ≤ dP D ∧ dP D ≤ 6) (hH : 1 ≤ dH D ∧ dH D ≤ 4) {d : Nat} (hd : dg x = some d) : gC Γ yX2_personGoesOn mX2_personGoesOn 3 [.ref t, .int (nI (dP D - 1)), .int x] μ q (SR (st2 3 sn D x) t μ q) := by
  refine gC.ofG (n := 0) ⟨by decide +kernel, rfl, rfl, by decide⟩ (Nat.le_of_ble_eq_true rfl) ?_
  show gG Γ mX2_personGoesOn 3 0 [some (.ref t), some (.int (nI (dP D - 1))), some (.int x), none] [] μ q _
  obtain ⟨h1, h2, h3, h4, h5, h6⟩ := h
  replace h5 := h5 (by decide)
  have hd9 := (dg_t hd).1
  refine kG.iload_n 1 dX2_personGoesOn_0 rfl rfl ?_
  refine gG.callS 4 dX2_personGoesOn_1 lX2_63 vX2_digitOf (c_digitOf Γ x) rfl rfl ⟨by decide, by decide⟩ (Nat.le_of_ble_eq_true rfl) rfl (fun r1 μ1 q1 hc1 => ?_)
  obtain ⟨rfl, rfl, rfl⟩ := hc1
  rw [hd]
  show gG Γ _ _ _ _ (Value.int (nI d) :: _) _ _ _
  refine kG.istore_n 5 dX2_personGoesOn_4 (by decide) rfl rfl ?_
  dsimp only [List.set]
  refine kG.aload_n 6 dX2_personGoesOn_5 rfl rfl ?_
  refine gG.getI 9 dX2_personGoesOn_6 fX2_46 (isT_k ht) (isT_s ht) rfl rfl ?_
  rw [h5]
  refine kG.tableIn 81 dX2_personGoesOn_9 (by decide) (by decide) rfl (by decide) ?_
  refine kG.aload_n 82 dX2_personGoesOn_81 rfl rfl ?_
  refine gG.getP 85 dX2_personGoesOn_82 fX2_24 (isT_k ht) (isT_s ht) rfl (PI_T ht (by decide)) rfl ?_
  refine kG.iload_n 86 dX2_personGoesOn_85 rfl rfl ?_
  refine kG.iload_n 87 dX2_personGoesOn_86 rfl rfl ?_
  refine gG.iast (n := 6) _ 88 dX2_personGoesOn_87 (arT_k ht (by decide)) (arT_s ht (by decide)) rfl (by omega) (by decide) rfl ?_
  refine kG.iload_n 89 dX2_personGoesOn_88 rfl rfl ?_
  refine kG.iconst (v := nI 0) 90 dX2_personGoesOn_89 (by decide) rfl ?_
  refine kG.aload_n 91 dX2_personGoesOn_90 rfl rfl ?_
  refine gG.getI 94 dX2_personGoesOn_91 fX2_37 (isT_k ht) (isT_s ht) rfl rfl ?_
  rw [uI_off (by omega), h2]
  refine kG.iconst (v := nI 1) 95 dX2_personGoesOn_94 (by decide) rfl ?_
  refine kG.isub 96 dX2_personGoesOn_95 rfl ?_
  rw [pk_sub (by omega)]
  refine gG.callS 99 dX2_personGoesOn_96 lX2_67 vX2_isIn (c_isI Γ (d := d) (a := 0) (b := dH D - 1) (by omega) (by decide) (by omega)) rfl rfl ⟨by decide, by decide⟩ (Nat.le_of_ble_eq_true rfl) rfl (fun r96 μ96 q96 hc96 => ?_)
  obtain ⟨rfl, rfl, rfl⟩ := hc96
  refine gG.zret dX2_personGoesOn_99 rfl (b2_bit _) ?_
  by_cases e1 : d < dH D
  · rw [decide_eq_true (show 0 ≤ d ∧ d ≤ dH D - 1 by omega)]
    have eo : st2 3 sn D x = some (2, 4, sn, uHo D d) := by
      show (dg x).bind _ = _; rw [hd]; show oIf _ _ = _; unfold oIf; rw [if_pos e1]
    rw [eo]
    refine ⟨rfl, rfl, fun k hk => by (repeat (first | rw [uI_same] | rw [uI_ne (Or.inr (by decide))] | rw [uI_off (by omega)])) <;> rfl, fun s' e => ?_⟩
    cases e
    show PQ 2 4 (sn) (uHo D d) t _
    exact ⟨by (repeat (first | rw [uI_same] | rw [uI_ne (Or.inr (by decide))] | rw [uI_off (by omega)])) <;> exact h1, by (repeat (first | rw [uI_same] | rw [uI_ne (Or.inr (by decide))] | rw [uI_off (by omega)])) <;> first | exact h2 | rfl, by (repeat (first | rw [uI_same] | rw [uI_ne (Or.inr (by decide))] | rw [uI_off (by omega)])) <;> first | exact h3 | rfl, by (repeat (first | rw [uI_same] | rw [uI_ne (Or.inr (by decide))] | rw [uI_off (by omega)])) <;> first | exact h4 | rfl, fun _ => by (repeat (first | rw [uI_same] | rw [uI_ne (Or.inr (by decide))] | rw [uI_off (by omega)])) <;> first | rfl | (rw [h5]; rfl), fun i hi => by
        repeat rw [uI_off (by omega)]
        exact h6.1 i hi, fun i hi => by
        repeat rw [uI_off (by omega)]
        exact h6.2.1 i hi, fun i hi => by
        repeat rw [uI_off (by omega)]
        exact h6.2.2.1 i hi, fun i hi => by
        repeat rw [uI_off (by omega)]
        exact h6.2.2.2.1 i hi, fun i (hi : i < dP D) => by
        repeat rw [uI_off (show t + 1 + 4 ≠ t by omega)]
        exact fi_add (g := dho D) (c := t + 1 + 4) (n := dP D - 1) (fun i (hi : i < dP D - 1) => h6.2.2.2.2.1 i hi) (by omega) i hi, fun i hi => by
        repeat rw [uI_off (by omega)]
        exact h6.2.2.2.2.2.1 i hi, fun i hi => by
        repeat rw [uI_off (by omega)]
        exact h6.2.2.2.2.2.2 i hi⟩
  · rw [decide_eq_false (show ¬ (0 ≤ d ∧ d ≤ dH D - 1) by omega)]
    have eo : st2 3 sn D x = none := by
      show (dg x).bind _ = _; rw [hd]; show oIf _ _ = _; unfold oIf; rw [if_neg e1]
    rw [eo]
    exact ⟨rfl, rfl, fun k hk => by (repeat (first | rw [uI_same] | rw [uI_ne (Or.inr (by decide))] | rw [uI_off (by omega)])) <;> rfl, fun s' e => by cases e⟩
set_option maxHeartbeats 4000000 in
theorem c_pe4s (Γ : kGm) {μ : kM} {q : kq4} {t : Nat} (ht : isT t) {sn : Nat} {D : Dt} {x : Int32} (h : PQ 2 4 sn D t μ) (hP : 1 ≤ dP D ∧ dP D ≤ 6) (hH : 1 ≤ dH D ∧ dH D ≤ 4) {d : Nat} (hd : dg x = some d) : gC Γ yX2_personGoesOn mX2_personGoesOn 3 [.ref t, .int (nI (dP D - 1)), .int x] μ q (SR (st2 4 sn D x) t μ q) := by
  refine gC.ofG (n := 0) ⟨by decide +kernel, rfl, rfl, by decide⟩ (Nat.le_of_ble_eq_true rfl) ?_
  show gG Γ mX2_personGoesOn 3 0 [some (.ref t), some (.int (nI (dP D - 1))), some (.int x), none] [] μ q _
  obtain ⟨h1, h2, h3, h4, h5, h6⟩ := h
  replace h5 := h5 (by decide)
  have hd9 := (dg_t hd).1
  refine kG.iload_n 1 dX2_personGoesOn_0 rfl rfl ?_
  refine gG.callS 4 dX2_personGoesOn_1 lX2_63 vX2_digitOf (c_digitOf Γ x) rfl rfl ⟨by decide, by decide⟩ (Nat.le_of_ble_eq_true rfl) rfl (fun r1 μ1 q1 hc1 => ?_)
  obtain ⟨rfl, rfl, rfl⟩ := hc1
  rw [hd]
  show gG Γ _ _ _ _ (Value.int (nI d) :: _) _ _ _
  refine kG.istore_n 5 dX2_personGoesOn_4 (by decide) rfl rfl ?_
  dsimp only [List.set]
  refine kG.aload_n 6 dX2_personGoesOn_5 rfl rfl ?_
  refine gG.getI 9 dX2_personGoesOn_6 fX2_46 (isT_k ht) (isT_s ht) rfl rfl ?_
  rw [h5]
  refine kG.tableIn 100 dX2_personGoesOn_9 (by decide) (by decide) rfl (by decide) ?_
  refine kG.aload_n 101 dX2_personGoesOn_100 rfl rfl ?_
  refine gG.getP 104 dX2_personGoesOn_101 fX2_27 (isT_k ht) (isT_s ht) rfl (PI_T ht (by decide)) rfl ?_
  refine kG.iload_n 105 dX2_personGoesOn_104 rfl rfl ?_
  refine kG.iload_n 106 dX2_personGoesOn_105 rfl rfl ?_
  refine gG.iast (n := 6) _ 107 dX2_personGoesOn_106 (arT_k ht (by decide)) (arT_s ht (by decide)) rfl (by omega) (by decide) rfl ?_
  refine kG.iload_n 108 dX2_personGoesOn_107 rfl rfl ?_
  refine kG.iconst (v := nI 0) 109 dX2_personGoesOn_108 (by decide) rfl ?_
  refine kG.iconst (v := nI 5) 110 dX2_personGoesOn_109 (by decide) rfl ?_
  refine gG.callS 113 dX2_personGoesOn_110 lX2_67 vX2_isIn (c_isI Γ (d := d) (a := 0) (b := 5) (by omega) (by decide) (by omega)) rfl rfl ⟨by decide, by decide⟩ (Nat.le_of_ble_eq_true rfl) rfl (fun r110 μ110 q110 hc110 => ?_)
  obtain ⟨rfl, rfl, rfl⟩ := hc110
  refine gG.zret dX2_personGoesOn_113 rfl (b2_bit _) ?_
  by_cases e1 : d ≤ 5
  · rw [decide_eq_true (show 0 ≤ d ∧ d ≤ 5 by omega)]
    have eo : st2 4 sn D x = some (2, 5, sn, uBu D d) := by
      show (dg x).bind _ = _; rw [hd]; show oIf _ _ = _; unfold oIf; rw [if_pos e1]
    rw [eo]
    refine ⟨rfl, rfl, fun k hk => by (repeat (first | rw [uI_same] | rw [uI_ne (Or.inr (by decide))] | rw [uI_off (by omega)])) <;> rfl, fun s' e => ?_⟩
    cases e
    show PQ 2 5 (sn) (uBu D d) t _
    exact ⟨by (repeat (first | rw [uI_same] | rw [uI_ne (Or.inr (by decide))] | rw [uI_off (by omega)])) <;> exact h1, by (repeat (first | rw [uI_same] | rw [uI_ne (Or.inr (by decide))] | rw [uI_off (by omega)])) <;> first | exact h2 | rfl, by (repeat (first | rw [uI_same] | rw [uI_ne (Or.inr (by decide))] | rw [uI_off (by omega)])) <;> first | exact h3 | rfl, by (repeat (first | rw [uI_same] | rw [uI_ne (Or.inr (by decide))] | rw [uI_off (by omega)])) <;> first | exact h4 | rfl, fun _ => by (repeat (first | rw [uI_same] | rw [uI_ne (Or.inr (by decide))] | rw [uI_off (by omega)])) <;> first | rfl | (rw [h5]; rfl), fun i hi => by
        repeat rw [uI_off (by omega)]
        exact h6.1 i hi, fun i hi => by
        repeat rw [uI_off (by omega)]
        exact h6.2.1 i hi, fun i hi => by
        repeat rw [uI_off (by omega)]
        exact h6.2.2.1 i hi, fun i hi => by
        repeat rw [uI_off (by omega)]
        exact h6.2.2.2.1 i hi, fun i hi => by
        repeat rw [uI_off (by omega)]
        exact h6.2.2.2.2.1 i hi, fun i (hi : i < dP D) => by
        repeat rw [uI_off (show t + 1 + 5 ≠ t by omega)]
        exact fi_add (g := dbu D) (c := t + 1 + 5) (n := dP D - 1) (fun i (hi : i < dP D - 1) => h6.2.2.2.2.2.1 i hi) (by omega) i hi, fun i hi => by
        repeat rw [uI_off (by omega)]
        exact h6.2.2.2.2.2.2 i hi⟩
  · rw [decide_eq_false (show ¬ (0 ≤ d ∧ d ≤ 5) by omega)]
    have eo : st2 4 sn D x = none := by
      show (dg x).bind _ = _; rw [hd]; show oIf _ _ = _; unfold oIf; rw [if_neg e1]
    rw [eo]
    exact ⟨rfl, rfl, fun k hk => by (repeat (first | rw [uI_same] | rw [uI_ne (Or.inr (by decide))] | rw [uI_off (by omega)])) <;> rfl, fun s' e => by cases e⟩
set_option maxHeartbeats 4000000 in
theorem c_pe5s (Γ : kGm) {μ : kM} {q : kq4} {t : Nat} (ht : isT t) {sn : Nat} {D : Dt} {x : Int32} (h : PQ 2 5 sn D t μ) (hP : 1 ≤ dP D ∧ dP D ≤ 6) (hH : 1 ≤ dH D ∧ dH D ≤ 4) {d : Nat} (hd : dg x = some d) : gC Γ yX2_personGoesOn mX2_personGoesOn 3 [.ref t, .int (nI (dP D - 1)), .int x] μ q (SR (st2 5 sn D x) t μ q) := by
  refine gC.ofG (n := 0) ⟨by decide +kernel, rfl, rfl, by decide⟩ (Nat.le_of_ble_eq_true rfl) ?_
  show gG Γ mX2_personGoesOn 3 0 [some (.ref t), some (.int (nI (dP D - 1))), some (.int x), none] [] μ q _
  obtain ⟨h1, h2, h3, h4, h5, h6⟩ := h
  replace h5 := h5 (by decide)
  have hd9 := (dg_t hd).1
  refine kG.iload_n 1 dX2_personGoesOn_0 rfl rfl ?_
  refine gG.callS 4 dX2_personGoesOn_1 lX2_63 vX2_digitOf (c_digitOf Γ x) rfl rfl ⟨by decide, by decide⟩ (Nat.le_of_ble_eq_true rfl) rfl (fun r1 μ1 q1 hc1 => ?_)
  obtain ⟨rfl, rfl, rfl⟩ := hc1
  rw [hd]
  show gG Γ _ _ _ _ (Value.int (nI d) :: _) _ _ _
  refine kG.istore_n 5 dX2_personGoesOn_4 (by decide) rfl rfl ?_
  dsimp only [List.set]
  refine kG.aload_n 6 dX2_personGoesOn_5 rfl rfl ?_
  refine gG.getI 9 dX2_personGoesOn_6 fX2_46 (isT_k ht) (isT_s ht) rfl rfl ?_
  rw [h5]
  refine kG.tableOut 114 dX2_personGoesOn_9 (by decide) (by decide) ?_
  refine kG.aload_n 115 dX2_personGoesOn_114 rfl rfl ?_
  refine gG.getP 118 dX2_personGoesOn_115 fX2_30 (isT_k ht) (isT_s ht) rfl (PI_T ht (by decide)) rfl ?_
  refine kG.iload_n 119 dX2_personGoesOn_118 rfl rfl ?_
  refine kG.iload_n 120 dX2_personGoesOn_119 rfl rfl ?_
  refine gG.iast (n := 6) _ 121 dX2_personGoesOn_120 (arT_k ht (by decide)) (arT_s ht (by decide)) rfl (by omega) (by decide) rfl ?_
  refine kG.aload_n 122 dX2_personGoesOn_121 rfl rfl ?_
  refine kG.iconst (v := nI 3) 123 dX2_personGoesOn_122 (by decide) rfl ?_
  refine gG.putI 126 dX2_personGoesOn_123 fX2_43 (isT_k ht) (isT_s ht) rfl rfl ⟨rfl, rfl⟩ rfl ?_
  refine kG.iload_n 127 dX2_personGoesOn_126 rfl rfl ?_
  refine kG.if_lt 134 130 dX2_personGoesOn_127 (by decide) rfl (fun h127 => ?_) (fun h127 => ?_)
  · exact absurd h127 (nI_pos (by omega))
  · refine kG.iconst (v := nI 1) 131 dX2_personGoesOn_130 (by decide) rfl ?_
    refine kG.goto 135 dX2_personGoesOn_131 (by decide) ?_
    refine gG.zret dX2_personGoesOn_135 rfl rfl ?_
    have eo : st2 5 sn D x = some (3, 0, sn, uMe D d) := by
      show (dg x).bind _ = _; rw [hd]; rfl
    rw [eo]
    refine ⟨rfl, rfl, fun k hk => by (repeat (first | rw [uI_same] | rw [uI_ne (Or.inr (by decide))] | rw [uI_off (by omega)])) <;> rfl, fun s' e => ?_⟩
    cases e
    show PQ 3 0 (sn) (uMe D d) t _
    exact ⟨by (repeat (first | rw [uI_same] | rw [uI_ne (Or.inr (by decide))] | rw [uI_off (by omega)])) <;> exact h1, by (repeat (first | rw [uI_same] | rw [uI_ne (Or.inr (by decide))] | rw [uI_off (by omega)])) <;> first | exact h2 | rfl, by (repeat (first | rw [uI_same] | rw [uI_ne (Or.inr (by decide))] | rw [uI_off (by omega)])) <;> first | exact h3 | rfl, by (repeat (first | rw [uI_same] | rw [uI_ne (Or.inr (by decide))] | rw [uI_off (by omega)])) <;> first | exact h4 | rfl, fun z => absurd rfl z, fun i hi => by
        repeat rw [uI_off (by omega)]
        exact h6.1 i hi, fun i hi => by
        repeat rw [uI_off (by omega)]
        exact h6.2.1 i hi, fun i hi => by
        repeat rw [uI_off (by omega)]
        exact h6.2.2.1 i hi, fun i hi => by
        repeat rw [uI_off (by omega)]
        exact h6.2.2.2.1 i hi, fun i hi => by
        repeat rw [uI_off (by omega)]
        exact h6.2.2.2.2.1 i hi, fun i hi => by
        repeat rw [uI_off (by omega)]
        exact h6.2.2.2.2.2.1 i hi, fun i (hi : i < dP D) => by
        repeat rw [uI_off (show t + 1 + 6 ≠ t by omega)]
        exact fi_add (g := dme D) (c := t + 1 + 6) (n := dP D - 1) (fun i (hi : i < dP D - 1) => h6.2.2.2.2.2.2 i hi) (by omega) i hi⟩
set_option maxHeartbeats 4000000 in
theorem c_pe1n (Γ : kGm) {μ : kM} {q : kq4} {t : Nat} (ht : isT t) {sn : Nat} {D : Dt} {x : Int32} (h : PQ 2 1 sn D t μ) (hP : 1 ≤ dP D ∧ dP D ≤ 6) (hH : 1 ≤ dH D ∧ dH D ≤ 4) (hd : kdF x = none) : gC Γ yX2_personGoesOn mX2_personGoesOn 3 [.ref t, .int (nI (dP D - 1)), .int x] μ q (SR (st2 1 sn D x) t μ q) := by
  refine gC.ofG (n := 0) ⟨by decide +kernel, rfl, rfl, by decide⟩ (Nat.le_of_ble_eq_true rfl) ?_
  show gG Γ mX2_personGoesOn 3 0 [some (.ref t), some (.int (nI (dP D - 1))), some (.int x), none] [] μ q _
  obtain ⟨h1, h2, h3, h4, h5, h6⟩ := h
  replace h5 := h5 (by decide)
  refine kG.iload_n 1 dX2_personGoesOn_0 rfl rfl ?_
  refine gG.callS 4 dX2_personGoesOn_1 lX2_63 vX2_digitOf (c_digitOf Γ x) rfl rfl ⟨by decide, by decide⟩ (Nat.le_of_ble_eq_true rfl) rfl (fun r1 μ1 q1 hc1 => ?_)
  obtain ⟨rfl, rfl, rfl⟩ := hc1
  refine kG.istore_n 5 dX2_personGoesOn_4 (by decide) rfl rfl ?_
  dsimp only [List.set]
  refine kG.aload_n 6 dX2_personGoesOn_5 rfl rfl ?_
  refine gG.getI 9 dX2_personGoesOn_6 fX2_46 (isT_k ht) (isT_s ht) rfl rfl ?_
  rw [h5]
  refine kG.tableIn 40 dX2_personGoesOn_9 (by decide) (by decide) rfl (by decide) ?_
  refine kG.aload_n 41 dX2_personGoesOn_40 rfl rfl ?_
  refine gG.getP 44 dX2_personGoesOn_41 fX2_18 (isT_k ht) (isT_s ht) rfl (PI_T ht (by decide)) rfl ?_
  refine kG.iload_n 45 dX2_personGoesOn_44 rfl rfl ?_
  refine kG.iload_n 46 dX2_personGoesOn_45 rfl rfl ?_
  refine gG.callS 49 dX2_personGoesOn_46 lX2_71 vX2_kindOf (c_kindOf Γ x) rfl rfl ⟨by decide, by decide⟩ (Nat.le_of_ble_eq_true rfl) rfl (fun r46 μ46 q46 hc46 => ?_)
  obtain ⟨rfl, rfl, rfl⟩ := hc46
  rw [hd]
  show gG Γ _ _ _ _ (Value.int (-9) :: _) _ _ _
  refine gG.iast (n := 6) _ 50 dX2_personGoesOn_49 (arT_k ht (by decide)) (arT_s ht (by decide)) rfl (by omega) (by decide) rfl ?_
  refine kG.aload_n 51 dX2_personGoesOn_50 rfl rfl ?_
  refine gG.getP 54 dX2_personGoesOn_51 fX2_18 (isT_k ht) (isT_s ht) rfl (PI_T ht (by decide)) rfl ?_
  refine kG.iload_n 55 dX2_personGoesOn_54 rfl rfl ?_
  refine gG.iald (n := 6) _ 56 dX2_personGoesOn_55 (arT_k ht (by decide)) (arT_s ht (by decide)) rfl (by omega) (by decide) rfl ?_
  rw [uI_same]
  refine kG.bipush (v := (-9)) 58 dX2_personGoesOn_56 (by decide) rfl ?_
  refine kG.icmp_eq 65 61 dX2_personGoesOn_58 (by decide) rfl (fun h58 => ?_) (fun h58 => ?_)
  · refine kG.iconst (v := nI 0) 66 dX2_personGoesOn_65 (by decide) rfl ?_
    refine gG.zret dX2_personGoesOn_66 rfl rfl ?_
    have eo : st2 1 sn D x = none := by
      show (kdF x).bind _ = _; rw [hd]; rfl
    rw [eo]
    exact ⟨rfl, rfl, fun k hk => by (repeat (first | rw [uI_same] | rw [uI_ne (Or.inr (by decide))] | rw [uI_off (by omega)])) <;> rfl, fun s' e => by cases e⟩
  · exact absurd rfl h58
set_option maxHeartbeats 4000000 in
theorem c_pe2n (Γ : kGm) {μ : kM} {q : kq4} {t : Nat} (ht : isT t) {sn : Nat} {D : Dt} {x : Int32} (h : PQ 2 2 sn D t μ) (hP : 1 ≤ dP D ∧ dP D ≤ 6) (hH : 1 ≤ dH D ∧ dH D ≤ 4) (hd : dg x = none) : gC Γ yX2_personGoesOn mX2_personGoesOn 3 [.ref t, .int (nI (dP D - 1)), .int x] μ q (SR (st2 2 sn D x) t μ q) := by
  refine gC.ofG (n := 0) ⟨by decide +kernel, rfl, rfl, by decide⟩ (Nat.le_of_ble_eq_true rfl) ?_
  show gG Γ mX2_personGoesOn 3 0 [some (.ref t), some (.int (nI (dP D - 1))), some (.int x), none] [] μ q _
  obtain ⟨h1, h2, h3, h4, h5, h6⟩ := h
  replace h5 := h5 (by decide)
  refine kG.iload_n 1 dX2_personGoesOn_0 rfl rfl ?_
  refine gG.callS 4 dX2_personGoesOn_1 lX2_63 vX2_digitOf (c_digitOf Γ x) rfl rfl ⟨by decide, by decide⟩ (Nat.le_of_ble_eq_true rfl) rfl (fun r1 μ1 q1 hc1 => ?_)
  obtain ⟨rfl, rfl, rfl⟩ := hc1
  rw [hd]
  show gG Γ _ _ _ _ (Value.int (-9) :: _) _ _ _
  refine kG.istore_n 5 dX2_personGoesOn_4 (by decide) rfl rfl ?_
  dsimp only [List.set]
  refine kG.aload_n 6 dX2_personGoesOn_5 rfl rfl ?_
  refine gG.getI 9 dX2_personGoesOn_6 fX2_46 (isT_k ht) (isT_s ht) rfl rfl ?_
  rw [h5]
  refine kG.tableIn 67 dX2_personGoesOn_9 (by decide) (by decide) rfl (by decide) ?_
  refine kG.aload_n 68 dX2_personGoesOn_67 rfl rfl ?_
  refine gG.getP 71 dX2_personGoesOn_68 fX2_21 (isT_k ht) (isT_s ht) rfl (PI_T ht (by decide)) rfl ?_
  refine kG.iload_n 72 dX2_personGoesOn_71 rfl rfl ?_
  refine kG.iload_n 73 dX2_personGoesOn_72 rfl rfl ?_
  refine gG.iast (n := 6) _ 74 dX2_personGoesOn_73 (arT_k ht (by decide)) (arT_s ht (by decide)) rfl (by omega) (by decide) rfl ?_
  refine kG.iload_n 75 dX2_personGoesOn_74 rfl rfl ?_
  refine kG.iconst (v := nI 0) 76 dX2_personGoesOn_75 (by decide) rfl ?_
  refine kG.iconst (v := nI 1) 77 dX2_personGoesOn_76 (by decide) rfl ?_
  refine gG.callS 80 dX2_personGoesOn_77 lX2_67 vX2_isIn (c_isI9 Γ) rfl rfl ⟨by decide, by decide⟩ (Nat.le_of_ble_eq_true rfl) rfl (fun r77 μ77 q77 hc77 => ?_)
  obtain ⟨rfl, rfl, rfl⟩ := hc77
  refine gG.zret dX2_personGoesOn_80 rfl (b2_bit _) ?_
  have eo : st2 2 sn D x = none := by
    show (dg x).bind _ = _; rw [hd]; rfl
  rw [eo]
  exact ⟨rfl, rfl, fun k hk => by (repeat (first | rw [uI_same] | rw [uI_ne (Or.inr (by decide))] | rw [uI_off (by omega)])) <;> rfl, fun s' e => by cases e⟩
set_option maxHeartbeats 4000000 in
theorem c_pe3n (Γ : kGm) {μ : kM} {q : kq4} {t : Nat} (ht : isT t) {sn : Nat} {D : Dt} {x : Int32} (h : PQ 2 3 sn D t μ) (hP : 1 ≤ dP D ∧ dP D ≤ 6) (hH : 1 ≤ dH D ∧ dH D ≤ 4) (hd : dg x = none) : gC Γ yX2_personGoesOn mX2_personGoesOn 3 [.ref t, .int (nI (dP D - 1)), .int x] μ q (SR (st2 3 sn D x) t μ q) := by
  refine gC.ofG (n := 0) ⟨by decide +kernel, rfl, rfl, by decide⟩ (Nat.le_of_ble_eq_true rfl) ?_
  show gG Γ mX2_personGoesOn 3 0 [some (.ref t), some (.int (nI (dP D - 1))), some (.int x), none] [] μ q _
  obtain ⟨h1, h2, h3, h4, h5, h6⟩ := h
  replace h5 := h5 (by decide)
  refine kG.iload_n 1 dX2_personGoesOn_0 rfl rfl ?_
  refine gG.callS 4 dX2_personGoesOn_1 lX2_63 vX2_digitOf (c_digitOf Γ x) rfl rfl ⟨by decide, by decide⟩ (Nat.le_of_ble_eq_true rfl) rfl (fun r1 μ1 q1 hc1 => ?_)
  obtain ⟨rfl, rfl, rfl⟩ := hc1
  rw [hd]
  show gG Γ _ _ _ _ (Value.int (-9) :: _) _ _ _
  refine kG.istore_n 5 dX2_personGoesOn_4 (by decide) rfl rfl ?_
  dsimp only [List.set]
  refine kG.aload_n 6 dX2_personGoesOn_5 rfl rfl ?_
  refine gG.getI 9 dX2_personGoesOn_6 fX2_46 (isT_k ht) (isT_s ht) rfl rfl ?_
  rw [h5]
  refine kG.tableIn 81 dX2_personGoesOn_9 (by decide) (by decide) rfl (by decide) ?_
  refine kG.aload_n 82 dX2_personGoesOn_81 rfl rfl ?_
  refine gG.getP 85 dX2_personGoesOn_82 fX2_24 (isT_k ht) (isT_s ht) rfl (PI_T ht (by decide)) rfl ?_
  refine kG.iload_n 86 dX2_personGoesOn_85 rfl rfl ?_
  refine kG.iload_n 87 dX2_personGoesOn_86 rfl rfl ?_
  refine gG.iast (n := 6) _ 88 dX2_personGoesOn_87 (arT_k ht (by decide)) (arT_s ht (by decide)) rfl (by omega) (by decide) rfl ?_
  refine kG.iload_n 89 dX2_personGoesOn_88 rfl rfl ?_
  refine kG.iconst (v := nI 0) 90 dX2_personGoesOn_89 (by decide) rfl ?_
  refine kG.aload_n 91 dX2_personGoesOn_90 rfl rfl ?_
  refine gG.getI 94 dX2_personGoesOn_91 fX2_37 (isT_k ht) (isT_s ht) rfl rfl ?_
  rw [uI_off (by omega), h2]
  refine kG.iconst (v := nI 1) 95 dX2_personGoesOn_94 (by decide) rfl ?_
  refine kG.isub 96 dX2_personGoesOn_95 rfl ?_
  rw [pk_sub (by omega)]
  refine gG.callS 99 dX2_personGoesOn_96 lX2_67 vX2_isIn (c_isI9 Γ) rfl rfl ⟨by decide, by decide⟩ (Nat.le_of_ble_eq_true rfl) rfl (fun r96 μ96 q96 hc96 => ?_)
  obtain ⟨rfl, rfl, rfl⟩ := hc96
  refine gG.zret dX2_personGoesOn_99 rfl (b2_bit _) ?_
  have eo : st2 3 sn D x = none := by
    show (dg x).bind _ = _; rw [hd]; rfl
  rw [eo]
  exact ⟨rfl, rfl, fun k hk => by (repeat (first | rw [uI_same] | rw [uI_ne (Or.inr (by decide))] | rw [uI_off (by omega)])) <;> rfl, fun s' e => by cases e⟩
set_option maxHeartbeats 4000000 in
theorem c_pe4n (Γ : kGm) {μ : kM} {q : kq4} {t : Nat} (ht : isT t) {sn : Nat} {D : Dt} {x : Int32} (h : PQ 2 4 sn D t μ) (hP : 1 ≤ dP D ∧ dP D ≤ 6) (hH : 1 ≤ dH D ∧ dH D ≤ 4) (hd : dg x = none) : gC Γ yX2_personGoesOn mX2_personGoesOn 3 [.ref t, .int (nI (dP D - 1)), .int x] μ q (SR (st2 4 sn D x) t μ q) := by
  refine gC.ofG (n := 0) ⟨by decide +kernel, rfl, rfl, by decide⟩ (Nat.le_of_ble_eq_true rfl) ?_
  show gG Γ mX2_personGoesOn 3 0 [some (.ref t), some (.int (nI (dP D - 1))), some (.int x), none] [] μ q _
  obtain ⟨h1, h2, h3, h4, h5, h6⟩ := h
  replace h5 := h5 (by decide)
  refine kG.iload_n 1 dX2_personGoesOn_0 rfl rfl ?_
  refine gG.callS 4 dX2_personGoesOn_1 lX2_63 vX2_digitOf (c_digitOf Γ x) rfl rfl ⟨by decide, by decide⟩ (Nat.le_of_ble_eq_true rfl) rfl (fun r1 μ1 q1 hc1 => ?_)
  obtain ⟨rfl, rfl, rfl⟩ := hc1
  rw [hd]
  show gG Γ _ _ _ _ (Value.int (-9) :: _) _ _ _
  refine kG.istore_n 5 dX2_personGoesOn_4 (by decide) rfl rfl ?_
  dsimp only [List.set]
  refine kG.aload_n 6 dX2_personGoesOn_5 rfl rfl ?_
  refine gG.getI 9 dX2_personGoesOn_6 fX2_46 (isT_k ht) (isT_s ht) rfl rfl ?_
  rw [h5]
  refine kG.tableIn 100 dX2_personGoesOn_9 (by decide) (by decide) rfl (by decide) ?_
  refine kG.aload_n 101 dX2_personGoesOn_100 rfl rfl ?_
  refine gG.getP 104 dX2_personGoesOn_101 fX2_27 (isT_k ht) (isT_s ht) rfl (PI_T ht (by decide)) rfl ?_
  refine kG.iload_n 105 dX2_personGoesOn_104 rfl rfl ?_
  refine kG.iload_n 106 dX2_personGoesOn_105 rfl rfl ?_
  refine gG.iast (n := 6) _ 107 dX2_personGoesOn_106 (arT_k ht (by decide)) (arT_s ht (by decide)) rfl (by omega) (by decide) rfl ?_
  refine kG.iload_n 108 dX2_personGoesOn_107 rfl rfl ?_
  refine kG.iconst (v := nI 0) 109 dX2_personGoesOn_108 (by decide) rfl ?_
  refine kG.iconst (v := nI 5) 110 dX2_personGoesOn_109 (by decide) rfl ?_
  refine gG.callS 113 dX2_personGoesOn_110 lX2_67 vX2_isIn (c_isI9 Γ) rfl rfl ⟨by decide, by decide⟩ (Nat.le_of_ble_eq_true rfl) rfl (fun r110 μ110 q110 hc110 => ?_)
  obtain ⟨rfl, rfl, rfl⟩ := hc110
  refine gG.zret dX2_personGoesOn_113 rfl (b2_bit _) ?_
  have eo : st2 4 sn D x = none := by
    show (dg x).bind _ = _; rw [hd]; rfl
  rw [eo]
  exact ⟨rfl, rfl, fun k hk => by (repeat (first | rw [uI_same] | rw [uI_ne (Or.inr (by decide))] | rw [uI_off (by omega)])) <;> rfl, fun s' e => by cases e⟩
set_option maxHeartbeats 4000000 in
theorem c_pe5n (Γ : kGm) {μ : kM} {q : kq4} {t : Nat} (ht : isT t) {sn : Nat} {D : Dt} {x : Int32} (h : PQ 2 5 sn D t μ) (hP : 1 ≤ dP D ∧ dP D ≤ 6) (hH : 1 ≤ dH D ∧ dH D ≤ 4) (hd : dg x = none) : gC Γ yX2_personGoesOn mX2_personGoesOn 3 [.ref t, .int (nI (dP D - 1)), .int x] μ q (SR (st2 5 sn D x) t μ q) := by
  refine gC.ofG (n := 0) ⟨by decide +kernel, rfl, rfl, by decide⟩ (Nat.le_of_ble_eq_true rfl) ?_
  show gG Γ mX2_personGoesOn 3 0 [some (.ref t), some (.int (nI (dP D - 1))), some (.int x), none] [] μ q _
  obtain ⟨h1, h2, h3, h4, h5, h6⟩ := h
  replace h5 := h5 (by decide)
  refine kG.iload_n 1 dX2_personGoesOn_0 rfl rfl ?_
  refine gG.callS 4 dX2_personGoesOn_1 lX2_63 vX2_digitOf (c_digitOf Γ x) rfl rfl ⟨by decide, by decide⟩ (Nat.le_of_ble_eq_true rfl) rfl (fun r1 μ1 q1 hc1 => ?_)
  obtain ⟨rfl, rfl, rfl⟩ := hc1
  rw [hd]
  show gG Γ _ _ _ _ (Value.int (-9) :: _) _ _ _
  refine kG.istore_n 5 dX2_personGoesOn_4 (by decide) rfl rfl ?_
  dsimp only [List.set]
  refine kG.aload_n 6 dX2_personGoesOn_5 rfl rfl ?_
  refine gG.getI 9 dX2_personGoesOn_6 fX2_46 (isT_k ht) (isT_s ht) rfl rfl ?_
  rw [h5]
  refine kG.tableOut 114 dX2_personGoesOn_9 (by decide) (by decide) ?_
  refine kG.aload_n 115 dX2_personGoesOn_114 rfl rfl ?_
  refine gG.getP 118 dX2_personGoesOn_115 fX2_30 (isT_k ht) (isT_s ht) rfl (PI_T ht (by decide)) rfl ?_
  refine kG.iload_n 119 dX2_personGoesOn_118 rfl rfl ?_
  refine kG.iload_n 120 dX2_personGoesOn_119 rfl rfl ?_
  refine gG.iast (n := 6) _ 121 dX2_personGoesOn_120 (arT_k ht (by decide)) (arT_s ht (by decide)) rfl (by omega) (by decide) rfl ?_
  refine kG.aload_n 122 dX2_personGoesOn_121 rfl rfl ?_
  refine kG.iconst (v := nI 3) 123 dX2_personGoesOn_122 (by decide) rfl ?_
  refine gG.putI 126 dX2_personGoesOn_123 fX2_43 (isT_k ht) (isT_s ht) rfl rfl ⟨rfl, rfl⟩ rfl ?_
  refine kG.iload_n 127 dX2_personGoesOn_126 rfl rfl ?_
  refine kG.if_lt 134 130 dX2_personGoesOn_127 (by decide) rfl (fun h127 => ?_) (fun h127 => ?_)
  · refine kG.iconst (v := nI 0) 135 dX2_personGoesOn_134 (by decide) rfl ?_
    refine gG.zret dX2_personGoesOn_135 rfl rfl ?_
    have eo : st2 5 sn D x = none := by
      show (dg x).bind _ = _; rw [hd]; rfl
    rw [eo]
    exact ⟨rfl, rfl, fun k hk => by (repeat (first | rw [uI_same] | rw [uI_ne (Or.inr (by decide))] | rw [uI_off (by omega)])) <;> rfl, fun s' e => by cases e⟩
  · exact absurd (by decide) h127
set_option maxHeartbeats 4000000 in
theorem c_opens (Γ : kGm) {μ : kM} {q : kq4} {t : Nat} (ht : isT t) {sn : Nat} {D : Dt} {x : Int32} {l : Nat} (h : PQ 3 l sn D t μ) (hH : dH D ≤ 4) (hP : dP D ≤ 6) : gC Γ yX2_opens mX2_opens 3 [.ref t, .int x] μ q (SR (st3 sn D x) t μ q) := by
  refine gC.ofG (n := 0) ⟨by decide +kernel, rfl, rfl, by decide⟩ (Nat.le_of_ble_eq_true rfl) ?_
  show gG Γ mX2_opens 3 0 [some (.ref t), some (.int x)] [] μ q _
  obtain ⟨h1, h2, h3, h4, h5, h6⟩ := h
  refine kG.aload_n 1 dX2_opens_0 rfl rfl ?_
  refine kG.iconst (v := nI 0) 2 dX2_opens_1 (by decide) rfl ?_
  refine gG.putI 5 dX2_opens_2 fX2_46 (isT_k ht) (isT_s ht) rfl rfl ⟨rfl, rfl⟩ rfl ?_
  refine kG.iload_n 6 dX2_opens_5 rfl rfl ?_
  refine kG.bipush (v := nI 59) 8 dX2_opens_6 (by decide) rfl ?_
  refine kG.icmp_ne 43 11 dX2_opens_8 (by decide) rfl (fun h8 => ?_) (fun h8 => ?_)
  · have n1 : ¬ (x = nI 59 ∧ dP D = 0 ∧ dH D < 4) := fun z => h8 z.1
    refine kG.iload_n 44 dX2_opens_43 rfl rfl ?_
    refine kG.bipush (v := nI 44) 46 dX2_opens_44 (by decide) rfl ?_
    refine kG.icmp_ne 82 49 dX2_opens_46 (by decide) rfl (fun h46 => ?_) (fun h46 => ?_)
    · have n2 : ¬ (x = nI 44 ∧ 0 < dH D ∧ dP D < 6) := fun z => h46 z.1
      refine kG.iconst (v := nI 0) 83 dX2_opens_82 (by decide) rfl ?_
      refine gG.zret dX2_opens_83 rfl rfl ?_
      have eo : st3 sn D x = none := by
        unfold st3; rw [if_neg n1]; unfold oIf; rw [if_neg n2]
      rw [eo]
      exact ⟨rfl, rfl, fun k hk => by (repeat (first | rw [uI_same] | rw [uI_ne (Or.inr (by decide))] | rw [uI_off (by omega)])) <;> rfl, fun s' e => by cases e⟩
    · have c4 : x = nI 44 := h46
      refine kG.aload_n 50 dX2_opens_49 rfl rfl ?_
      refine gG.getI 53 dX2_opens_50 fX2_37 (isT_k ht) (isT_s ht) rfl rfl ?_
      rw [uI_ne (Or.inr (by decide)), h2]
      refine kG.if_le 82 56 dX2_opens_53 (by decide) rfl (fun h53 => ?_) (fun h53 => ?_)
      · have n2 : ¬ (x = nI 44 ∧ 0 < dH D ∧ dP D < 6) := fun z => nI_nle z.2.1 (by omega) h53
        refine kG.iconst (v := nI 0) 83 dX2_opens_82 (by decide) rfl ?_
        refine gG.zret dX2_opens_83 rfl rfl ?_
        have eo : st3 sn D x = none := by
          unfold st3; rw [if_neg n1]; unfold oIf; rw [if_neg n2]
        rw [eo]
        exact ⟨rfl, rfl, fun k hk => by (repeat (first | rw [uI_same] | rw [uI_ne (Or.inr (by decide))] | rw [uI_off (by omega)])) <;> rfl, fun s' e => by cases e⟩
      · have c5 : 0 < dH D := Nat.pos_of_ne_zero (fun z => h53 (by rw [z]; decide))
        refine kG.aload_n 57 dX2_opens_56 rfl rfl ?_
        refine gG.getI 60 dX2_opens_57 fX2_40 (isT_k ht) (isT_s ht) rfl rfl ?_
        rw [uI_ne (Or.inr (by decide)), h3]
        refine kG.bipush (v := nI 6) 62 dX2_opens_60 (by decide) rfl ?_
        refine kG.icmp_ge 82 65 dX2_opens_62 (by decide) rfl (fun h62 => ?_) (fun h62 => ?_)
        · have n2 : ¬ (x = nI 44 ∧ 0 < dH D ∧ dP D < 6) := fun z => absurd h62 (nI_ge z.2.2 (by decide))
          refine kG.iconst (v := nI 0) 83 dX2_opens_82 (by decide) rfl ?_
          refine gG.zret dX2_opens_83 rfl rfl ?_
          have eo : st3 sn D x = none := by
            unfold st3; rw [if_neg n1]; unfold oIf; rw [if_neg n2]
          rw [eo]
          exact ⟨rfl, rfl, fun k hk => by (repeat (first | rw [uI_same] | rw [uI_ne (Or.inr (by decide))] | rw [uI_off (by omega)])) <;> rfl, fun s' e => by cases e⟩
        · have c6 : dP D < 6 := Nat.not_le.mp (fun z => h62 (nI_le z (by omega)))
          refine kG.aload_n 66 dX2_opens_65 rfl rfl ?_
          refine kG.dup 67 dX2_opens_66 rfl rfl ?_
          refine gG.getI 70 dX2_opens_67 fX2_40 (isT_k ht) (isT_s ht) rfl rfl ?_
          rw [uI_ne (Or.inr (by decide)), h3]
          refine kG.iconst (v := nI 1) 71 dX2_opens_70 (by decide) rfl ?_
          refine kG.iadd 72 dX2_opens_71 rfl ?_
          rw [nI_add]
          refine gG.putI 75 dX2_opens_72 fX2_40 (isT_k ht) (isT_s ht) rfl rfl ⟨rfl, rfl⟩ rfl ?_
          refine kG.aload_n 76 dX2_opens_75 rfl rfl ?_
          refine kG.iconst (v := nI 2) 77 dX2_opens_76 (by decide) rfl ?_
          refine gG.putI 80 dX2_opens_77 fX2_43 (isT_k ht) (isT_s ht) rfl rfl ⟨rfl, rfl⟩ rfl ?_
          refine kG.iconst (v := nI 1) 81 dX2_opens_80 (by decide) rfl ?_
          refine gG.zret dX2_opens_81 rfl rfl ?_
          have eo : st3 sn D x = some (2, 1, sn, (D.1, dP D + 1, D.2.2)) := by
            unfold st3; rw [if_neg n1]; unfold oIf; rw [if_pos ⟨c4, c5, c6⟩]
          rw [eo]
          refine ⟨rfl, rfl, fun k hk => by (repeat (first | rw [uI_same] | rw [uI_ne (Or.inr (by decide))] | rw [uI_off (by omega)])) <;> rfl, fun s' e => ?_⟩
          cases e
          show PQ 2 1 (sn) ((D.1, dP D + 1, D.2.2)) t _
          exact ⟨by (repeat (first | rw [uI_same] | rw [uI_ne (Or.inr (by decide))] | rw [uI_off (by omega)])) <;> exact h1, by (repeat (first | rw [uI_same] | rw [uI_ne (Or.inr (by decide))] | rw [uI_off (by omega)])) <;> first | exact h2 | rfl, by (repeat (first | rw [uI_same] | rw [uI_ne (Or.inr (by decide))] | rw [uI_off (by omega)])) <;> first | exact h3 | rfl, by (repeat (first | rw [uI_same] | rw [uI_ne (Or.inr (by decide))] | rw [uI_off (by omega)])) <;> first | exact h4 | rfl, fun _ => by (repeat (first | rw [uI_same] | rw [uI_ne (Or.inr (by decide))] | rw [uI_off (by omega)])) <;> first | rfl | (rw [h5]; rfl), fun i hi => by
              repeat rw [uI_off (by omega)]
              exact h6.1 i hi, fun i hi => by
              repeat rw [uI_off (by omega)]
              exact h6.2.1 i hi, fun i hi => by
              repeat rw [uI_off (by omega)]
              exact h6.2.2.1 i hi, fun i hi => by
              repeat rw [uI_off (by omega)]
              exact h6.2.2.2.1 i hi, fun i hi => by
              repeat rw [uI_off (by omega)]
              exact h6.2.2.2.2.1 i hi, fun i hi => by
              repeat rw [uI_off (by omega)]
              exact h6.2.2.2.2.2.1 i hi, fun i hi => by
              repeat rw [uI_off (by omega)]
              exact h6.2.2.2.2.2.2 i hi⟩
  · have c1 : x = nI 59 := h8
    refine kG.aload_n 12 dX2_opens_11 rfl rfl ?_
    refine gG.getI 15 dX2_opens_12 fX2_40 (isT_k ht) (isT_s ht) rfl rfl ?_
    rw [uI_ne (Or.inr (by decide)), h3]
    refine kG.if_ne 43 18 dX2_opens_15 (by decide) rfl (fun h15 => ?_) (fun h15 => ?_)
    · have n1 : ¬ (x = nI 59 ∧ dP D = 0 ∧ dH D < 4) := fun z => h15 (by rw [z.2.1]; rfl)
      refine kG.iload_n 44 dX2_opens_43 rfl rfl ?_
      refine kG.bipush (v := nI 44) 46 dX2_opens_44 (by decide) rfl ?_
      refine kG.icmp_ne 82 49 dX2_opens_46 (by decide) rfl (fun h46 => ?_) (fun h46 => ?_)
      · have n2 : ¬ (x = nI 44 ∧ 0 < dH D ∧ dP D < 6) := fun z => h46 z.1
        refine kG.iconst (v := nI 0) 83 dX2_opens_82 (by decide) rfl ?_
        refine gG.zret dX2_opens_83 rfl rfl ?_
        have eo : st3 sn D x = none := by
          unfold st3; rw [if_neg n1]; unfold oIf; rw [if_neg n2]
        rw [eo]
        exact ⟨rfl, rfl, fun k hk => by (repeat (first | rw [uI_same] | rw [uI_ne (Or.inr (by decide))] | rw [uI_off (by omega)])) <;> rfl, fun s' e => by cases e⟩
      · have c4 : x = nI 44 := h46
        refine kG.aload_n 50 dX2_opens_49 rfl rfl ?_
        refine gG.getI 53 dX2_opens_50 fX2_37 (isT_k ht) (isT_s ht) rfl rfl ?_
        rw [uI_ne (Or.inr (by decide)), h2]
        refine kG.if_le 82 56 dX2_opens_53 (by decide) rfl (fun h53 => ?_) (fun h53 => ?_)
        · have n2 : ¬ (x = nI 44 ∧ 0 < dH D ∧ dP D < 6) := fun z => nI_nle z.2.1 (by omega) h53
          refine kG.iconst (v := nI 0) 83 dX2_opens_82 (by decide) rfl ?_
          refine gG.zret dX2_opens_83 rfl rfl ?_
          have eo : st3 sn D x = none := by
            unfold st3; rw [if_neg n1]; unfold oIf; rw [if_neg n2]
          rw [eo]
          exact ⟨rfl, rfl, fun k hk => by (repeat (first | rw [uI_same] | rw [uI_ne (Or.inr (by decide))] | rw [uI_off (by omega)])) <;> rfl, fun s' e => by cases e⟩
        · have c5 : 0 < dH D := Nat.pos_of_ne_zero (fun z => h53 (by rw [z]; decide))
          refine kG.aload_n 57 dX2_opens_56 rfl rfl ?_
          refine gG.getI 60 dX2_opens_57 fX2_40 (isT_k ht) (isT_s ht) rfl rfl ?_
          rw [uI_ne (Or.inr (by decide)), h3]
          refine kG.bipush (v := nI 6) 62 dX2_opens_60 (by decide) rfl ?_
          refine kG.icmp_ge 82 65 dX2_opens_62 (by decide) rfl (fun h62 => ?_) (fun h62 => ?_)
          · have n2 : ¬ (x = nI 44 ∧ 0 < dH D ∧ dP D < 6) := fun z => absurd h62 (nI_ge z.2.2 (by decide))
            refine kG.iconst (v := nI 0) 83 dX2_opens_82 (by decide) rfl ?_
            refine gG.zret dX2_opens_83 rfl rfl ?_
            have eo : st3 sn D x = none := by
              unfold st3; rw [if_neg n1]; unfold oIf; rw [if_neg n2]
            rw [eo]
            exact ⟨rfl, rfl, fun k hk => by (repeat (first | rw [uI_same] | rw [uI_ne (Or.inr (by decide))] | rw [uI_off (by omega)])) <;> rfl, fun s' e => by cases e⟩
          · have c6 : dP D < 6 := Nat.not_le.mp (fun z => h62 (nI_le z (by omega)))
            refine kG.aload_n 66 dX2_opens_65 rfl rfl ?_
            refine kG.dup 67 dX2_opens_66 rfl rfl ?_
            refine gG.getI 70 dX2_opens_67 fX2_40 (isT_k ht) (isT_s ht) rfl rfl ?_
            rw [uI_ne (Or.inr (by decide)), h3]
            refine kG.iconst (v := nI 1) 71 dX2_opens_70 (by decide) rfl ?_
            refine kG.iadd 72 dX2_opens_71 rfl ?_
            rw [nI_add]
            refine gG.putI 75 dX2_opens_72 fX2_40 (isT_k ht) (isT_s ht) rfl rfl ⟨rfl, rfl⟩ rfl ?_
            refine kG.aload_n 76 dX2_opens_75 rfl rfl ?_
            refine kG.iconst (v := nI 2) 77 dX2_opens_76 (by decide) rfl ?_
            refine gG.putI 80 dX2_opens_77 fX2_43 (isT_k ht) (isT_s ht) rfl rfl ⟨rfl, rfl⟩ rfl ?_
            refine kG.iconst (v := nI 1) 81 dX2_opens_80 (by decide) rfl ?_
            refine gG.zret dX2_opens_81 rfl rfl ?_
            have eo : st3 sn D x = some (2, 1, sn, (D.1, dP D + 1, D.2.2)) := by
              unfold st3; rw [if_neg n1]; unfold oIf; rw [if_pos ⟨c4, c5, c6⟩]
            rw [eo]
            refine ⟨rfl, rfl, fun k hk => by (repeat (first | rw [uI_same] | rw [uI_ne (Or.inr (by decide))] | rw [uI_off (by omega)])) <;> rfl, fun s' e => ?_⟩
            cases e
            show PQ 2 1 (sn) ((D.1, dP D + 1, D.2.2)) t _
            exact ⟨by (repeat (first | rw [uI_same] | rw [uI_ne (Or.inr (by decide))] | rw [uI_off (by omega)])) <;> exact h1, by (repeat (first | rw [uI_same] | rw [uI_ne (Or.inr (by decide))] | rw [uI_off (by omega)])) <;> first | exact h2 | rfl, by (repeat (first | rw [uI_same] | rw [uI_ne (Or.inr (by decide))] | rw [uI_off (by omega)])) <;> first | exact h3 | rfl, by (repeat (first | rw [uI_same] | rw [uI_ne (Or.inr (by decide))] | rw [uI_off (by omega)])) <;> first | exact h4 | rfl, fun _ => by (repeat (first | rw [uI_same] | rw [uI_ne (Or.inr (by decide))] | rw [uI_off (by omega)])) <;> first | rfl | (rw [h5]; rfl), fun i hi => by
                repeat rw [uI_off (by omega)]
                exact h6.1 i hi, fun i hi => by
                repeat rw [uI_off (by omega)]
                exact h6.2.1 i hi, fun i hi => by
                repeat rw [uI_off (by omega)]
                exact h6.2.2.1 i hi, fun i hi => by
                repeat rw [uI_off (by omega)]
                exact h6.2.2.2.1 i hi, fun i hi => by
                repeat rw [uI_off (by omega)]
                exact h6.2.2.2.2.1 i hi, fun i hi => by
                repeat rw [uI_off (by omega)]
                exact h6.2.2.2.2.2.1 i hi, fun i hi => by
                repeat rw [uI_off (by omega)]
                exact h6.2.2.2.2.2.2 i hi⟩
    · have c2 : dP D = 0 := (nI_eq (b := 0) (by omega) (by decide)).mp h15
      refine kG.aload_n 19 dX2_opens_18 rfl rfl ?_
      refine gG.getI 22 dX2_opens_19 fX2_37 (isT_k ht) (isT_s ht) rfl rfl ?_
      rw [uI_ne (Or.inr (by decide)), h2]
      refine kG.iconst (v := nI 4) 23 dX2_opens_22 (by decide) rfl ?_
      refine kG.icmp_ge 43 26 dX2_opens_23 (by decide) rfl (fun h23 => ?_) (fun h23 => ?_)
      · have n1 : ¬ (x = nI 59 ∧ dP D = 0 ∧ dH D < 4) := fun z => absurd h23 (nI_ge z.2.2 (by decide))
        refine kG.iload_n 44 dX2_opens_43 rfl rfl ?_
        refine kG.bipush (v := nI 44) 46 dX2_opens_44 (by decide) rfl ?_
        refine kG.icmp_ne 82 49 dX2_opens_46 (by decide) rfl (fun h46 => ?_) (fun h46 => ?_)
        · have n2 : ¬ (x = nI 44 ∧ 0 < dH D ∧ dP D < 6) := fun z => h46 z.1
          refine kG.iconst (v := nI 0) 83 dX2_opens_82 (by decide) rfl ?_
          refine gG.zret dX2_opens_83 rfl rfl ?_
          have eo : st3 sn D x = none := by
            unfold st3; rw [if_neg n1]; unfold oIf; rw [if_neg n2]
          rw [eo]
          exact ⟨rfl, rfl, fun k hk => by (repeat (first | rw [uI_same] | rw [uI_ne (Or.inr (by decide))] | rw [uI_off (by omega)])) <;> rfl, fun s' e => by cases e⟩
        · have c4 : x = nI 44 := h46
          refine kG.aload_n 50 dX2_opens_49 rfl rfl ?_
          refine gG.getI 53 dX2_opens_50 fX2_37 (isT_k ht) (isT_s ht) rfl rfl ?_
          rw [uI_ne (Or.inr (by decide)), h2]
          refine kG.if_le 82 56 dX2_opens_53 (by decide) rfl (fun h53 => ?_) (fun h53 => ?_)
          · have n2 : ¬ (x = nI 44 ∧ 0 < dH D ∧ dP D < 6) := fun z => nI_nle z.2.1 (by omega) h53
            refine kG.iconst (v := nI 0) 83 dX2_opens_82 (by decide) rfl ?_
            refine gG.zret dX2_opens_83 rfl rfl ?_
            have eo : st3 sn D x = none := by
              unfold st3; rw [if_neg n1]; unfold oIf; rw [if_neg n2]
            rw [eo]
            exact ⟨rfl, rfl, fun k hk => by (repeat (first | rw [uI_same] | rw [uI_ne (Or.inr (by decide))] | rw [uI_off (by omega)])) <;> rfl, fun s' e => by cases e⟩
          · have c5 : 0 < dH D := Nat.pos_of_ne_zero (fun z => h53 (by rw [z]; decide))
            refine kG.aload_n 57 dX2_opens_56 rfl rfl ?_
            refine gG.getI 60 dX2_opens_57 fX2_40 (isT_k ht) (isT_s ht) rfl rfl ?_
            rw [uI_ne (Or.inr (by decide)), h3]
            refine kG.bipush (v := nI 6) 62 dX2_opens_60 (by decide) rfl ?_
            refine kG.icmp_ge 82 65 dX2_opens_62 (by decide) rfl (fun h62 => ?_) (fun h62 => ?_)
            · have n2 : ¬ (x = nI 44 ∧ 0 < dH D ∧ dP D < 6) := fun z => absurd h62 (nI_ge z.2.2 (by decide))
              refine kG.iconst (v := nI 0) 83 dX2_opens_82 (by decide) rfl ?_
              refine gG.zret dX2_opens_83 rfl rfl ?_
              have eo : st3 sn D x = none := by
                unfold st3; rw [if_neg n1]; unfold oIf; rw [if_neg n2]
              rw [eo]
              exact ⟨rfl, rfl, fun k hk => by (repeat (first | rw [uI_same] | rw [uI_ne (Or.inr (by decide))] | rw [uI_off (by omega)])) <;> rfl, fun s' e => by cases e⟩
            · have c6 : dP D < 6 := Nat.not_le.mp (fun z => h62 (nI_le z (by omega)))
              refine kG.aload_n 66 dX2_opens_65 rfl rfl ?_
              refine kG.dup 67 dX2_opens_66 rfl rfl ?_
              refine gG.getI 70 dX2_opens_67 fX2_40 (isT_k ht) (isT_s ht) rfl rfl ?_
              rw [uI_ne (Or.inr (by decide)), h3]
              refine kG.iconst (v := nI 1) 71 dX2_opens_70 (by decide) rfl ?_
              refine kG.iadd 72 dX2_opens_71 rfl ?_
              rw [nI_add]
              refine gG.putI 75 dX2_opens_72 fX2_40 (isT_k ht) (isT_s ht) rfl rfl ⟨rfl, rfl⟩ rfl ?_
              refine kG.aload_n 76 dX2_opens_75 rfl rfl ?_
              refine kG.iconst (v := nI 2) 77 dX2_opens_76 (by decide) rfl ?_
              refine gG.putI 80 dX2_opens_77 fX2_43 (isT_k ht) (isT_s ht) rfl rfl ⟨rfl, rfl⟩ rfl ?_
              refine kG.iconst (v := nI 1) 81 dX2_opens_80 (by decide) rfl ?_
              refine gG.zret dX2_opens_81 rfl rfl ?_
              have eo : st3 sn D x = some (2, 1, sn, (D.1, dP D + 1, D.2.2)) := by
                unfold st3; rw [if_neg n1]; unfold oIf; rw [if_pos ⟨c4, c5, c6⟩]
              rw [eo]
              refine ⟨rfl, rfl, fun k hk => by (repeat (first | rw [uI_same] | rw [uI_ne (Or.inr (by decide))] | rw [uI_off (by omega)])) <;> rfl, fun s' e => ?_⟩
              cases e
              show PQ 2 1 (sn) ((D.1, dP D + 1, D.2.2)) t _
              exact ⟨by (repeat (first | rw [uI_same] | rw [uI_ne (Or.inr (by decide))] | rw [uI_off (by omega)])) <;> exact h1, by (repeat (first | rw [uI_same] | rw [uI_ne (Or.inr (by decide))] | rw [uI_off (by omega)])) <;> first | exact h2 | rfl, by (repeat (first | rw [uI_same] | rw [uI_ne (Or.inr (by decide))] | rw [uI_off (by omega)])) <;> first | exact h3 | rfl, by (repeat (first | rw [uI_same] | rw [uI_ne (Or.inr (by decide))] | rw [uI_off (by omega)])) <;> first | exact h4 | rfl, fun _ => by (repeat (first | rw [uI_same] | rw [uI_ne (Or.inr (by decide))] | rw [uI_off (by omega)])) <;> first | rfl | (rw [h5]; rfl), fun i hi => by
                  repeat rw [uI_off (by omega)]
                  exact h6.1 i hi, fun i hi => by
                  repeat rw [uI_off (by omega)]
                  exact h6.2.1 i hi, fun i hi => by
                  repeat rw [uI_off (by omega)]
                  exact h6.2.2.1 i hi, fun i hi => by
                  repeat rw [uI_off (by omega)]
                  exact h6.2.2.2.1 i hi, fun i hi => by
                  repeat rw [uI_off (by omega)]
                  exact h6.2.2.2.2.1 i hi, fun i hi => by
                  repeat rw [uI_off (by omega)]
                  exact h6.2.2.2.2.2.1 i hi, fun i hi => by
                  repeat rw [uI_off (by omega)]
                  exact h6.2.2.2.2.2.2 i hi⟩
      · have c3 : dH D < 4 := Nat.not_le.mp (fun z => h23 (nI_le z (by omega)))
        refine kG.aload_n 27 dX2_opens_26 rfl rfl ?_
        refine kG.dup 28 dX2_opens_27 rfl rfl ?_
        refine gG.getI 31 dX2_opens_28 fX2_37 (isT_k ht) (isT_s ht) rfl rfl ?_
        rw [uI_ne (Or.inr (by decide)), h2]
        refine kG.iconst (v := nI 1) 32 dX2_opens_31 (by decide) rfl ?_
        refine kG.iadd 33 dX2_opens_32 rfl ?_
        rw [nI_add]
        refine gG.putI 36 dX2_opens_33 fX2_37 (isT_k ht) (isT_s ht) rfl rfl ⟨rfl, rfl⟩ rfl ?_
        refine kG.aload_n 37 dX2_opens_36 rfl rfl ?_
        refine kG.iconst (v := nI 1) 38 dX2_opens_37 (by decide) rfl ?_
        refine gG.putI 41 dX2_opens_38 fX2_43 (isT_k ht) (isT_s ht) rfl rfl ⟨rfl, rfl⟩ rfl ?_
        refine kG.iconst (v := nI 1) 42 dX2_opens_41 (by decide) rfl ?_
        refine gG.zret dX2_opens_42 rfl rfl ?_
        have eo : st3 sn D x = some (1, 1, sn, (dH D + 1, D.2)) := by
          unfold st3; rw [if_pos ⟨c1, c2, c3⟩]
        rw [eo]
        refine ⟨rfl, rfl, fun k hk => by (repeat (first | rw [uI_same] | rw [uI_ne (Or.inr (by decide))] | rw [uI_off (by omega)])) <;> rfl, fun s' e => ?_⟩
        cases e
        show PQ 1 1 (sn) ((dH D + 1, D.2)) t _
        exact ⟨by (repeat (first | rw [uI_same] | rw [uI_ne (Or.inr (by decide))] | rw [uI_off (by omega)])) <;> exact h1, by (repeat (first | rw [uI_same] | rw [uI_ne (Or.inr (by decide))] | rw [uI_off (by omega)])) <;> first | exact h2 | rfl, by (repeat (first | rw [uI_same] | rw [uI_ne (Or.inr (by decide))] | rw [uI_off (by omega)])) <;> first | exact h3 | rfl, by (repeat (first | rw [uI_same] | rw [uI_ne (Or.inr (by decide))] | rw [uI_off (by omega)])) <;> first | exact h4 | rfl, fun _ => by (repeat (first | rw [uI_same] | rw [uI_ne (Or.inr (by decide))] | rw [uI_off (by omega)])) <;> first | rfl | (rw [h5]; rfl), fun i hi => by
            repeat rw [uI_off (by omega)]
            exact h6.1 i hi, fun i hi => by
            repeat rw [uI_off (by omega)]
            exact h6.2.1 i hi, fun i hi => by
            repeat rw [uI_off (by omega)]
            exact h6.2.2.1 i hi, fun i hi => by
            repeat rw [uI_off (by omega)]
            exact h6.2.2.2.1 i hi, fun i hi => by
            repeat rw [uI_off (by omega)]
            exact h6.2.2.2.2.1 i hi, fun i hi => by
            repeat rw [uI_off (by omega)]
            exact h6.2.2.2.2.2.1 i hi, fun i hi => by
            repeat rw [uI_off (by omega)]
            exact h6.2.2.2.2.2.2 i hi⟩
