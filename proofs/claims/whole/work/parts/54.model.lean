theorem so_9 {l : Nat} (h : l ≤ 3) : soI l = -9 ↔ l = 0 := by
  rcases (by omega : l = 0 ∨ l = 1 ∨ l = 2 ∨ l = 3) with rfl | rfl | rfl | rfl <;> decide
theorem so_n {l : Nat} (h : l ≠ 0) : soI l = nI (l - 1) := by unfold soI; rw [if_neg h]
theorem so_eq {a b : Nat} (ha : a ≤ 3) (hb : b ≤ 3) : soI a = soI b ↔ a = b := by
  rcases (by omega : a = 0 ∨ a = 1 ∨ a = 2 ∨ a = 3) with rfl | rfl | rfl | rfl <;> rcases (by omega : b = 0 ∨ b = 1 ∨ b = 2 ∨ b = 3) with rfl | rfl | rfl | rfl <;> decide
theorem MS_sh {S : AS} {μ μ' : kM} (h : MS S μ) {k : Nat} (l n : Nat) (c : Nat → Int32) (hN : ∀ s, s < 4 → aN S s ≤ 60) (e1 : μ' 50 k = soI l) (e2 : l ≠ 0 → μ' 51 k = nI n ∧ ∀ i, i < n → μ' 52 (60 * k + i) = c i) (f0 : ∀ s, s ≠ k → μ' 50 s = μ 50 s ∧ μ' 51 s = μ 51 s) (f1 : ∀ s i, s ≠ k → i < 60 → μ' 52 (60 * s + i) = μ 52 (60 * s + i)) (f2 : ∀ j, (j < 50 ∨ 52 < j) → μ' j = μ j) : MS (sSh S (fu (aL S) k l) (fu (aN S) k n) (fu (aC S) k c)) μ' := by
  refine ⟨MC_fr h.1 (fun j _ => by rw [f2 49 (by decide)]) (fun j a b _ _ => f2 j (by omega)), MR_fr h.2.1 (by rw [f2 49 (by decide)]) (fun j a b => f2 j (by omega)), fun s hs => ?_, by rw [f2 49 (by decide)]; exact h.2.2.2.1, by rw [f2 49 (by decide)]; exact h.2.2.2.2⟩
  show μ' 50 s = soI (fu (aL S) k l s) ∧ (fu (aL S) k l s ≠ 0 → μ' 51 s = nI (fu (aN S) k n s) ∧ ∀ i, i < fu (aN S) k n s → μ' 52 (60 * s + i) = fu (aC S) k c s i)
  by_cases e : s = k
  · subst e; rw [fu_s, fu_s, fu_s]; exact ⟨e1, e2⟩
  · rw [fu_n e, fu_n e, fu_n e, (f0 s e).1, (f0 s e).2]
    have z := h.2.2.1 s hs
    refine ⟨z.1, fun h0 => ⟨(z.2 h0).1, fun i hi => ?_⟩⟩
    have hn := hN s hs
    rw [f1 s i e (by omega)]
    exact (z.2 h0).2 i hi
set_option maxHeartbeats 4000000 in
theorem y_lose (Γ : kGm) {S : AS} {μ : kM} {q : kq4} (ok : okS S) (h : MS S μ) (x : Int32) : gC Γ yX5_lose mX5_lose 3 [.ref 49, .int x] μ q (PMi (s_lose S x) (n_lose S x) μ q) := by
  refine gC.ofG (n := 0) ⟨by decide +kernel, rfl, rfl, by decide⟩ (Nat.le_of_ble_eq_true rfl) ?_
  show gG Γ mX5_lose 3 0 [some (.ref 49), some (.int x), none] [] μ q _
  have okd := ok.1
  have hH4 := ok.1.1
  have hP6 := ok.1.2.1
  have hc := h.1
  have hp := hc.2.2.2.2.2.1
  have hh := hc.2.2.2.2.1
  refine kG.iload_n 1 dX5_lose_0 rfl rfl ?_
  refine gG.callS 4 dX5_lose_1 lX5_102 vX5_isSheet (m_isSheet Γ x) rfl rfl ⟨by decide, by decide⟩ (Nat.le_of_ble_eq_true rfl) rfl (fun r1 μ1 q1 hc1 => ?_)
  obtain ⟨rfl, rfl, rfl⟩ := hc1
  refine kG.if_ne 9 7 dX5_lose_4 (by decide) rfl (fun h4 => ?_) (fun h4 => ?_)
  · have hb6 := b2_n0.mp h4
    obtain ⟨kx, hkx, rfl, ex⟩ := inB_t (by decide) hb6
    have hl3 := (ok.2.2.2.2.2.2.2 kx hkx).1
    have hn6 := (ok.2.2.2.2.2.2.2 kx hkx).2
    have hs := h.2.2.1 kx hkx
    refine kG.aload_n 10 dX5_lose_9 rfl rfl ?_
    refine gG.getP 13 dX5_lose_10 fX5_9 ⟨by decide, by decide⟩ rfl rfl rfl rfl ?_
    refine kG.iload_n 14 dX5_lose_13 rfl rfl ?_
    refine gG.iald (n := 4) _ 15 dX5_lose_14 ⟨by decide, by decide⟩ rfl rfl (by omega) (by decide) rfl ?_
    rw [hs.1]
    refine kG.bipush (v := (-9)) 17 dX5_lose_15 (by decide) rfl ?_
    refine kG.icmp_ne 24 20 dX5_lose_17 (by decide) rfl (fun h17 => ?_) (fun h17 => ?_)
    · have hn0 : ¬ aL S kx = 0 := fun z => h17 ((so_9 hl3).mpr z)
      have eV : (nI 1 : Int32) = (if aL S kx = 0 then nI 0 else nI 1) := by rw [if_neg hn0]
      refine kG.iconst (v := nI 1) 25 dX5_lose_24 (by decide) rfl ?_
      refine kG.istore_n 26 dX5_lose_25 (by decide) rfl rfl ?_
      dsimp only [List.set]
      refine kG.aload_n 27 dX5_lose_26 rfl rfl ?_
      refine gG.getP 30 dX5_lose_27 fX5_9 ⟨by decide, by decide⟩ rfl rfl rfl rfl ?_
      refine kG.iload_n 31 dX5_lose_30 rfl rfl ?_
      refine kG.bipush (v := (-9)) 33 dX5_lose_31 (by decide) rfl ?_
      refine gG.iast (n := 4) _ 34 dX5_lose_33 ⟨by decide, by decide⟩ rfl rfl (by omega) (by decide) rfl ?_
      refine kG.iload_n 35 dX5_lose_34 rfl rfl ?_
      refine gG.iret dX5_lose_35 rfl ?_
      refine ⟨?_, ?_, rfl, fun k hk => uI_off (by omega)⟩
      · unfold s_lose
        rw [if_pos hb6, ex, ← eV]
      · unfold n_lose
        rw [if_pos hb6, ex]
        have z := MS_sh (k := kx) (μ' := uI μ1 50 kx (-9)) h 0 (aN S kx) (aC S kx) (fun s hs => (ok.2.2.2.2.2.2.2 s hs).2) (uI_same _ _ _ _) (fun c => absurd rfl c) (fun s e => ⟨uI_ne (Or.inr e), by rw [uI_off (by decide)]⟩) (fun s i e _ => by rw [uI_off (by decide)]) (fun j hj => uI_off (by omega))
        rw [fu_id, fu_id] at z
        exact z
    · have hn0 : aL S kx = 0 := (so_9 hl3).mp h17
      have eV : (nI 0 : Int32) = (if aL S kx = 0 then nI 0 else nI 1) := by rw [if_pos hn0]
      refine kG.iconst (v := nI 0) 21 dX5_lose_20 (by decide) rfl ?_
      refine kG.goto 25 dX5_lose_21 (by decide) ?_
      refine kG.istore_n 26 dX5_lose_25 (by decide) rfl rfl ?_
      dsimp only [List.set]
      refine kG.aload_n 27 dX5_lose_26 rfl rfl ?_
      refine gG.getP 30 dX5_lose_27 fX5_9 ⟨by decide, by decide⟩ rfl rfl rfl rfl ?_
      refine kG.iload_n 31 dX5_lose_30 rfl rfl ?_
      refine kG.bipush (v := (-9)) 33 dX5_lose_31 (by decide) rfl ?_
      refine gG.iast (n := 4) _ 34 dX5_lose_33 ⟨by decide, by decide⟩ rfl rfl (by omega) (by decide) rfl ?_
      refine kG.iload_n 35 dX5_lose_34 rfl rfl ?_
      refine gG.iret dX5_lose_35 rfl ?_
      refine ⟨?_, ?_, rfl, fun k hk => uI_off (by omega)⟩
      · unfold s_lose
        rw [if_pos hb6, ex, ← eV]
      · unfold n_lose
        rw [if_pos hb6, ex]
        have z := MS_sh (k := kx) (μ' := uI μ1 50 kx (-9)) h 0 (aN S kx) (aC S kx) (fun s hs => (ok.2.2.2.2.2.2.2 s hs).2) (uI_same _ _ _ _) (fun c => absurd rfl c) (fun s e => ⟨uI_ne (Or.inr e), by rw [uI_off (by decide)]⟩) (fun s i e _ => by rw [uI_off (by decide)]) (fun j hj => uI_off (by omega))
        rw [fu_id, fu_id] at z
        exact z
  · have hb6 := b2_0.mp h4
    refine kG.iconst (v := (-1)) 8 dX5_lose_7 (by decide) rfl ?_
    refine gG.iret dX5_lose_8 rfl ?_
    refine ⟨?_, ?_, rfl, fun _ _ => rfl⟩
    · unfold s_lose
      rw [if_neg (by rw [hb6]; decide)]
    · unfold n_lose
      rw [if_neg (by rw [hb6]; decide)]
      exact h
theorem MS_put {S : AS} {ν : kM} (ok : okS S) (h1 : MS (sFa S (nI 0)) ν) {kx ky : Nat} (hkx : kx < 4) (hn0 : ¬ aL S kx = 0) (hky : ky < aN S kx) {w z : Int32} (eV : w = cutL (aL S kx) z) : MS (sFa (sSh S (aL S) (aN S) (fu (aC S) kx (fu (aC S kx) ky (cutL (aL S kx) z)))) (nI 0)) (uI ν 52 (60 * kx + ky) w) := by
  have z2 := MS_sh (S := sFa S (nI 0)) (k := kx) (μ' := uI ν 52 (60 * kx + ky) w) h1 (aL S kx) (aN S kx) (fu (aC S kx) ky (cutL (aL S kx) z)) (fun s hs => (ok.2.2.2.2.2.2.2 s hs).2) (by rw [uI_off (by decide)]; exact (h1.2.2.1 kx hkx).1) (fun _ => ⟨by rw [uI_off (by decide)]; exact ((h1.2.2.1 kx hkx).2 hn0).1, fun i hi => by
    by_cases e : i = ky
    · subst e; rw [uI_same, fu_s]; exact eV
    · rw [uI_ne (Or.inr (by omega)), fu_n e]; exact ((h1.2.2.1 kx hkx).2 hn0).2 i hi⟩) (fun s e => ⟨by rw [uI_off (by decide)], by rw [uI_off (by decide)]⟩) (fun s i e hi => by rw [uI_ne (Or.inr (by have := (ok.2.2.2.2.2.2.2 kx hkx).2; omega))]) (fun j hj => uI_off (by omega))
  rw [show fu (aL (sFa S (nI 0))) kx (aL S kx) = aL S from fu_id (aL S) kx, show fu (aN (sFa S (nI 0))) kx (aN S kx) = aN S from fu_id (aN S) kx] at z2
  exact z2
set_option maxHeartbeats 4000000 in
theorem m_withinG (Γ : kGm) {μ : kM} {q : kq4} (x a b : Int32) : gC Γ yX5_within mX5_within 1 [.int x, .int a, .int b] μ q (fun r μ' q' => r = some (.int (b2 (decide (¬ x < a ∧ ¬ b < x)))) ∧ μ' = μ ∧ q' = q) := by
  refine gC.ofG (n := 0) ⟨by decide +kernel, rfl, rfl, by decide⟩ (Nat.le_of_ble_eq_true rfl) ?_
  show gG Γ mX5_within 1 0 [some (.int x), some (.int a), some (.int b)] [] μ q _
  refine kG.iload_n 1 dX5_within_0 rfl rfl ?_
  refine kG.iload_n 2 dX5_within_1 rfl rfl ?_
  refine kG.icmp_lt 14 5 dX5_within_2 (by decide) rfl (fun h2 => ?_) (fun h2 => ?_)
  · refine kG.iconst (v := nI 0) 15 dX5_within_14 (by decide) rfl ?_
    refine gG.zret dX5_within_15 rfl rfl ?_
    exact ⟨by simp [b2, *], rfl, rfl⟩
  · refine kG.iload_n 6 dX5_within_5 rfl rfl ?_
    refine kG.iload_n 7 dX5_within_6 rfl rfl ?_
    refine kG.icmp_gt 14 10 dX5_within_7 (by decide) rfl (fun h7 => ?_) (fun h7 => ?_)
    · refine kG.iconst (v := nI 0) 15 dX5_within_14 (by decide) rfl ?_
      refine gG.zret dX5_within_15 rfl rfl ?_
      exact ⟨by simp [b2, *], rfl, rfl⟩
    · refine kG.iconst (v := nI 1) 11 dX5_within_10 (by decide) rfl ?_
      refine kG.goto 15 dX5_within_11 (by decide) ?_
      refine gG.zret dX5_within_15 rfl rfl ?_
      exact ⟨by simp [b2, *], rfl, rfl⟩
theorem m_inR (Γ : kGm) {μ : kM} {q : kq4} (x : Int32) {n : Nat} (hn : n ≤ 60) : gC Γ yX5_within mX5_within 1 [.int x, .int (nI 0), .int (nI n - nI 1)] μ q (fun r μ' q' => r = some (.int (b2 (inB x n))) ∧ μ' = μ ∧ q' = q) := by
  rcases Nat.eq_zero_or_pos n with rfl | h0
  · refine gC.weak (m_withinG Γ x (nI 0) (nI 0 - nI 1)) (fun r μ' q' z => ?_)
    have e : decide (¬ x < nI 0 ∧ ¬ nI 0 - nI 1 < x) = inB x 0 := by
      unfold inB
      rw [Bool.eq_iff_iff, decide_eq_true_iff, decide_eq_true_iff]
      show ¬ x < 0 ∧ ¬ nI 0 - nI 1 < x ↔ ¬ x < 0 ∧ ¬ nI 0 ≤ x
      refine and_congr_right (fun _ => not_congr ?_)
      rw [Int32.lt_iff_toInt_lt, Int32.le_iff_toInt_le, show (nI 0 - nI 1).toInt = -1 by decide, show (nI 0).toInt = 0 by decide]
      omega
    rw [e] at z
    exact z
  · rw [pk_sub h0]
    refine gC.weak (m_within Γ x 0 (n - 1)) (fun r μ' q' z => ?_)
    rw [bt_in (by omega), show n - 1 + 1 = n by omega] at z
    exact z
set_option maxHeartbeats 4000000 in
theorem y_put (Γ : kGm) {S : AS} {μ : kM} {q : kq4} (ok : okS S) (h : MS S μ) (x : Int32) (y : Int32) (z : Int32) : gC Γ yX5_put mX5_put 3 [.ref 49, .int x, .int y, .int z] μ q (PMi (s_put S x y z) (n_put S x y z) μ q) := by
  refine gC.ofG (n := 0) ⟨by decide +kernel, rfl, rfl, by decide⟩ (Nat.le_of_ble_eq_true rfl) ?_
  show gG Γ mX5_put 3 0 [some (.ref 49), some (.int x), some (.int y), some (.int z)] [] μ q _
  have okd := ok.1
  have hH4 := ok.1.1
  have hP6 := ok.1.2.1
  have hc := h.1
  have hp := hc.2.2.2.2.2.1
  have hh := hc.2.2.2.2.1
  refine kG.aload_n 1 dX5_put_0 rfl rfl ?_
  refine kG.iconst (v := nI 0) 2 dX5_put_1 (by decide) rfl ?_
  refine gG.putI 5 dX5_put_2 fX5_83 ⟨by decide, by decide⟩ rfl rfl rfl ⟨rfl, rfl⟩ rfl ?_
  have h1 := MS_fa (nI 0) h
  refine kG.iload_n 6 dX5_put_5 rfl rfl ?_
  refine gG.callS 9 dX5_put_6 lX5_102 vX5_isSheet (m_isSheet Γ x) rfl rfl ⟨by decide, by decide⟩ (Nat.le_of_ble_eq_true rfl) rfl (fun r6 μ6 q6 hc6 => ?_)
  obtain ⟨rfl, rfl, rfl⟩ := hc6
  refine kG.if_ne 14 12 dX5_put_9 (by decide) rfl (fun h9 => ?_) (fun h9 => ?_)
  · have hb6 := b2_n0.mp h9
    obtain ⟨kx, hkx, rfl, ex⟩ := inB_t (by decide) hb6
    have hl3 := (ok.2.2.2.2.2.2.2 kx hkx).1
    have hn6 := (ok.2.2.2.2.2.2.2 kx hkx).2
    have hs := h.2.2.1 kx hkx
    refine kG.aload_n 15 dX5_put_14 rfl rfl ?_
    refine gG.getP 18 dX5_put_15 fX5_9 ⟨by decide, by decide⟩ rfl rfl rfl rfl ?_
    refine kG.iload_n 19 dX5_put_18 rfl rfl ?_
    refine gG.iald (n := 4) _ 20 dX5_put_19 ⟨by decide, by decide⟩ rfl rfl (by omega) (by decide) rfl ?_
    rw [uI_off (by decide), hs.1]
    refine kG.bipush (v := (-9)) 22 dX5_put_20 (by decide) rfl ?_
    refine kG.icmp_ne 31 25 dX5_put_22 (by decide) rfl (fun h22 => ?_) (fun h22 => ?_)
    · have hn0 : ¬ aL S kx = 0 := fun z => h22 ((so_9 hl3).mpr z)
      have g2 := hs.2 hn0
      refine kG.iload_n 32 dX5_put_31 rfl rfl ?_
      refine kG.iconst (v := nI 0) 33 dX5_put_32 (by decide) rfl ?_
      refine kG.aload_n 34 dX5_put_33 rfl rfl ?_
      refine gG.getP 37 dX5_put_34 fX5_13 ⟨by decide, by decide⟩ rfl rfl rfl rfl ?_
      refine kG.iload_n 38 dX5_put_37 rfl rfl ?_
      refine gG.iald (n := 4) _ 39 dX5_put_38 ⟨by decide, by decide⟩ rfl rfl (by omega) (by decide) rfl ?_
      rw [uI_off (by decide), g2.1]
      refine kG.iconst (v := nI 1) 40 dX5_put_39 (by decide) rfl ?_
      refine kG.isub 41 dX5_put_40 rfl ?_
      refine gG.callS 44 dX5_put_41 lX5_89 vX5_within (m_inR Γ y hn6) rfl rfl ⟨by decide, by decide⟩ (Nat.le_of_ble_eq_true rfl) rfl (fun r41 μ41 q41 hc41 => ?_)
      obtain ⟨rfl, rfl, rfl⟩ := hc41
      refine kG.if_ne 53 47 dX5_put_44 (by decide) rfl (fun h44 => ?_) (fun h44 => ?_)
      · have hy : inB y (aN S kx) = true := b2_n0.mp h44
        obtain ⟨ky, hky, rfl, ey⟩ := inB_t (by omega) hy
        refine kG.aload_n 54 dX5_put_53 rfl rfl ?_
        refine gG.getP 57 dX5_put_54 fX5_16 ⟨by decide, by decide⟩ rfl rfl rfl rfl ?_
        refine kG.bipush (v := nI 60) 59 dX5_put_57 (by decide) rfl ?_
        refine kG.iload_n 60 dX5_put_59 rfl rfl ?_
        refine kG.imul 61 dX5_put_60 rfl ?_
        refine kG.iload_n 62 dX5_put_61 rfl rfl ?_
        refine kG.iadd 63 dX5_put_62 rfl ?_
        rw [pk_mul, nI_add]
        refine kG.aload_n 64 dX5_put_63 rfl rfl ?_
        refine gG.getP 67 dX5_put_64 fX5_9 ⟨by decide, by decide⟩ rfl rfl rfl rfl ?_
        refine kG.iload_n 68 dX5_put_67 rfl rfl ?_
        refine gG.iald (n := 4) _ 69 dX5_put_68 ⟨by decide, by decide⟩ rfl rfl (by omega) (by decide) rfl ?_
        rw [uI_off (by decide), hs.1, so_n hn0]
        refine kG.if_ne 77 72 dX5_put_69 (by decide) rfl (fun h69 => ?_) (fun h69 => ?_)
        · have c1 : ¬ aL S kx = 1 := fun z => h69 (by rw [z]; rfl)
          refine kG.aload_n 78 dX5_put_77 rfl rfl ?_
          refine gG.getP 81 dX5_put_78 fX5_9 ⟨by decide, by decide⟩ rfl rfl rfl rfl ?_
          refine kG.iload_n 82 dX5_put_81 rfl rfl ?_
          refine gG.iald (n := 4) _ 83 dX5_put_82 ⟨by decide, by decide⟩ rfl rfl (by omega) (by decide) rfl ?_
          rw [uI_off (by decide), hs.1, so_n hn0]
          refine kG.iconst (v := nI 1) 84 dX5_put_83 (by decide) rfl ?_
          refine kG.icmp_ne 92 87 dX5_put_84 (by decide) rfl (fun h84 => ?_) (fun h84 => ?_)
          · have c2 : ¬ aL S kx = 2 := fun z => h84 (by rw [z])
            have eV : z = cutL (aL S kx) z := by unfold cutL; rw [if_neg c1, if_neg c2]
            refine kG.iload_n 93 dX5_put_92 rfl rfl ?_
            refine gG.iast (n := 240) (60 * kx + ky) 94 dX5_put_93 ⟨by decide, by decide⟩ rfl rfl (by omega) (by decide) rfl ?_
            refine kG.iconst (v := nI 1) 95 dX5_put_94 (by decide) rfl ?_
            refine gG.iret dX5_put_95 rfl ?_
            refine ⟨?_, ?_, rfl, fun k hk => by rw [uI_off (by omega), uI_off (by omega)]⟩
            · unfold s_put
              rw [if_pos hb6, ex, if_neg hn0, if_pos hy]
            · unfold n_put
              rw [if_pos hb6, ex, if_neg hn0, if_pos hy, ey]
              exact MS_put ok h1 hkx hn0 hky eV
          · have c2 : aL S kx = 2 := by have := (nI_eq (by omega) (by decide)).mp h84; omega
            have eV : z.toInt16.toInt32 = cutL (aL S kx) z := by unfold cutL; rw [if_neg c1, if_pos c2]
            refine kG.iload_n 88 dX5_put_87 rfl rfl ?_
            refine kG.i2s 89 dX5_put_88 rfl ?_
            refine kG.goto 93 dX5_put_89 (by decide) ?_
            refine gG.iast (n := 240) (60 * kx + ky) 94 dX5_put_93 ⟨by decide, by decide⟩ rfl rfl (by omega) (by decide) rfl ?_
            refine kG.iconst (v := nI 1) 95 dX5_put_94 (by decide) rfl ?_
            refine gG.iret dX5_put_95 rfl ?_
            refine ⟨?_, ?_, rfl, fun k hk => by rw [uI_off (by omega), uI_off (by omega)]⟩
            · unfold s_put
              rw [if_pos hb6, ex, if_neg hn0, if_pos hy]
            · unfold n_put
              rw [if_pos hb6, ex, if_neg hn0, if_pos hy, ey]
              exact MS_put ok h1 hkx hn0 hky eV
        · have c1 : aL S kx = 1 := by have := (nI_eq (b := 0) (by omega) (by decide)).mp h69; omega
          have eV : z.toInt8.toInt32 = cutL (aL S kx) z := by unfold cutL; rw [if_pos c1]
          refine kG.iload_n 73 dX5_put_72 rfl rfl ?_
          refine kG.i2b 74 dX5_put_73 rfl ?_
          refine kG.goto 93 dX5_put_74 (by decide) ?_
          refine gG.iast (n := 240) (60 * kx + ky) 94 dX5_put_93 ⟨by decide, by decide⟩ rfl rfl (by omega) (by decide) rfl ?_
          refine kG.iconst (v := nI 1) 95 dX5_put_94 (by decide) rfl ?_
          refine gG.iret dX5_put_95 rfl ?_
          refine ⟨?_, ?_, rfl, fun k hk => by rw [uI_off (by omega), uI_off (by omega)]⟩
          · unfold s_put
            rw [if_pos hb6, ex, if_neg hn0, if_pos hy]
          · unfold n_put
            rw [if_pos hb6, ex, if_neg hn0, if_pos hy, ey]
            exact MS_put ok h1 hkx hn0 hky eV
      · have hy : inB y (aN S kx) = false := b2_0.mp h44
        refine kG.aload_n 48 dX5_put_47 rfl rfl ?_
        refine kG.iconst (v := nI 3) 49 dX5_put_48 (by decide) rfl ?_
        refine gG.callV 52 dX5_put_49 lX5_113 vX5_fails (m_fails Γ (nI 3)) rfl rfl ⟨by decide, by decide⟩ rfl ⟨by decide, rfl⟩ ⟨by decide, by decide⟩ (Nat.le_of_ble_eq_true rfl) rfl (fun r49 μ49 q49 hc49 => ?_)
        obtain ⟨rfl, rfl, rfl⟩ := hc49
        have h2 := MS_fa (nI 3) h1
        refine gG.iret dX5_put_52 rfl ?_
        refine ⟨?_, ?_, rfl, fun k hk => by rw [uI_off (by omega), uI_off (by omega)]⟩
        · unfold s_put
          rw [if_pos hb6, ex, if_neg hn0, if_neg (by rw [hy]; decide)]
          rfl
        · unfold n_put
          rw [if_pos hb6, ex, if_neg hn0, if_neg (by rw [hy]; decide)]
          exact h2
    · have hn0 : aL S kx = 0 := (so_9 hl3).mp h22
      refine kG.aload_n 26 dX5_put_25 rfl rfl ?_
      refine kG.iconst (v := nI 1) 27 dX5_put_26 (by decide) rfl ?_
      refine gG.callV 30 dX5_put_27 lX5_113 vX5_fails (m_fails Γ (nI 1)) rfl rfl ⟨by decide, by decide⟩ rfl ⟨by decide, rfl⟩ ⟨by decide, by decide⟩ (Nat.le_of_ble_eq_true rfl) rfl (fun r27 μ27 q27 hc27 => ?_)
      obtain ⟨rfl, rfl, rfl⟩ := hc27
      have h2 := MS_fa (nI 1) h1
      refine gG.iret dX5_put_30 rfl ?_
      refine ⟨?_, ?_, rfl, fun k hk => by rw [uI_off (by omega), uI_off (by omega)]⟩
      · unfold s_put
        rw [if_pos hb6, ex, if_pos hn0]
        rfl
      · unfold n_put
        rw [if_pos hb6, ex, if_pos hn0]
        exact h2
  · have hb6 := b2_0.mp h9
    refine kG.iconst (v := (-1)) 13 dX5_put_12 (by decide) rfl ?_
    refine gG.iret dX5_put_13 rfl ?_
    refine ⟨?_, ?_, rfl, fun k hk => uI_off (by omega)⟩
    · unfold s_put
      rw [if_neg (by rw [hb6]; decide)]
    · unfold n_put
      rw [if_neg (by rw [hb6]; decide)]
      exact h1
