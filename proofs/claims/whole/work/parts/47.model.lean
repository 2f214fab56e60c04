set_option maxHeartbeats 4000000 in
theorem goO (Γ : kGm) {D : Dt} {sn aw : Nat} {G : Kp} {μ : kM} {q : kq4} (h : MC D sn aw G μ) (ok : okD D) (okm : okM D sn G) (lw lh : Nat) (hlw : lw < 10) (hlh : lh < 14) : ∀ (m i : Nat) (μ1 : kM) (x4 : Option Value), i + m = lw + 1 → (FW μ μ1) → (WT D (cM D sn aw G) (if i ≤ lw then 14 * i else 14 * lw + lh + 1) μ1) → gG Γ mX5_goTo 4 68 [some (.ref 49), some (.int (nI lw)), some (.int (nI lh)), some (.int (nI i)), x4] [] (μ1) q (fun r μ' q' => r = none ∧ q' = q ∧ FW μ μ' ∧ WT D (cM D sn aw G) (14 * lw + lh + 1) μ') := by
  intro m
  induction m with
  | zero =>
    intro i μ1 x4 hm h1 h2
    have hH := ok.1
    have hP := ok.2.1
    have hm : MC D sn aw G μ1 := FW_MC h h1
    have okc := okM_c (aw := aw) okm
    refine kG.iload_n 69 dX5_goTo_68 rfl rfl ?_
    refine kG.iload_n 70 dX5_goTo_69 rfl rfl ?_
    refine kG.icmp_gt 118 73 dX5_goTo_70 (by decide) rfl (fun h70 => ?_) (fun h70 => ?_)
    · refine gG.vret dX5_goTo_118 rfl ?_
      refine ⟨rfl, rfl, h1, ?_⟩
      rw [if_neg (by omega)] at h2
      exact h2
    · exact absurd (nI_lt (by omega) (by omega)) h70
  | succ m ih =>
    intro i μ1 x4 hm h1 h2
    have hH := ok.1
    have hP := ok.2.1
    have hm : MC D sn aw G μ1 := FW_MC h h1
    have okc := okM_c (aw := aw) okm
    refine kG.iload_n 69 dX5_goTo_68 rfl rfl ?_
    refine kG.iload_n 70 dX5_goTo_69 rfl rfl ?_
    refine kG.icmp_gt 118 73 dX5_goTo_70 (by decide) rfl (fun h70 => ?_) (fun h70 => ?_)
    · exact absurd h70 (nI_nlt (by omega) (by omega))
    · rw [if_pos (by omega)] at h2
      refine kG.aload_n 74 dX5_goTo_73 rfl rfl ?_
      refine kG.iload_n 75 dX5_goTo_74 rfl rfl ?_
      refine gG.callV 78 dX5_goTo_75 lX5_187 vX5_beginWeek (m_beginWeek Γ hm ok okm.2.2.2.1 okm.2.2.2.2 i (by omega) (smS (cM D sn aw G) (14 * i)).1 (fun x hx => (sm_bd okc (14 * i) x hx).1) h2.1) rfl rfl ⟨by decide, by decide⟩ rfl ⟨by decide, rfl⟩ ⟨by decide, by decide⟩ (Nat.le_of_ble_eq_true rfl) rfl (fun r75 μ75 q75 hc75 => ?_)
      obtain ⟨rfl, rfl, f1, f2⟩ := hc75
      refine kG.iconst (v := nI 0) 79 dX5_goTo_78 (by decide) rfl ?_
      refine kG.istore 81 dX5_goTo_79 (by decide) rfl rfl ?_
      dsimp only [List.set]
      refine goI Γ h ok okm lw lh hlw hlh (week := i) (by omega) (by omega) (fun half μ2 e g1 g2 => ?_) (if i < lw then 14 else lh + 1) 0 _ (by omega) (FW_tr h1 (FW_of (c := 66) (by decide) f1)) ⟨f2, fun x hx => by rw [f1 67 (by decide)]; exact h2.2.1 x hx, fun x hx => by rw [f1 68 (by decide)]; exact h2.2.2.1 x hx, by rw [f1 49 (by decide)]; exact h2.2.2.2.1, fun x hx => by rw [f1 69 (by decide)]; exact h2.2.2.2.2 x hx⟩
      have hne : half ≠ 0 := by split at e <;> omega
      have g2' : WK D (smS (cM D sn aw G) (14 * i + half)).1 (smS (cM D sn aw G) (14 * i + half)).2.1 (fun p => chP (cM D sn aw G) p (14 * i + half)) (smS (cM D sn aw G) (14 * i + half)).2.2 (bkF D (cM D sn aw G) (14 * i + half)) μ2 := by rw [if_neg hne] at g2; exact g2
      refine kG.iinc (v := nI (i + 1)) 115 dX5_goTo_112 rfl (nI_1 i) (by decide) rfl rfl ?_
      dsimp only [List.set]
      refine kG.goto 68 dX5_goTo_115 (by decide) ?_
      refine ih (i + 1) μ2 _ (by omega) g1 ?_
      by_cases c : i < lw
      · rw [if_pos c] at e
        subst e
        rw [if_pos (by omega), show 14 * (i + 1) = 14 * i + 14 by omega]
        exact g2'
      · rw [if_neg c] at e
        subst e
        rw [if_neg (by omega), show lw = i by omega]
        exact g2'
set_option maxHeartbeats 4000000 in
theorem goP (Γ : kGm) {D : Dt} {sn aw : Nat} {G : Kp} {μ : kM} {q : kq4} (h : MC D sn aw G μ) (ok : okD D) (okm : okM D sn G) (lw lh : Nat) (hlw : lw < 10) (hlh : lh < 14) : ∀ (m i : Nat) (μ1 : kM), i + m = dP D → (FW μ μ1) → (∀ x, x < dH D → μ1 66 x = nI 0 ∧ μ1 67 x = nI 0 ∧ μ1 69 x = -9) → (∀ x, x < i → μ1 68 x = nI 0) → gG Γ mX5_goTo 4 40 [some (.ref 49), some (.int (nI lw)), some (.int (nI lh)), some (.int (nI i)), none] [] (μ1) q (fun r μ' q' => r = none ∧ q' = q ∧ FW μ μ' ∧ WT D (cM D sn aw G) (14 * lw + lh + 1) μ') := by
  intro m
  induction m with
  | zero =>
    intro i μ1 hm h1 h2 h3
    have hH := ok.1
    have hP := ok.2.1
    have hm : MC D sn aw G μ1 := FW_MC h h1
    have okc := okM_c (aw := aw) okm
    refine kG.iload_n 41 dX5_goTo_40 rfl rfl ?_
    refine kG.aload_n 42 dX5_goTo_41 rfl rfl ?_
    refine gG.getI 45 dX5_goTo_42 fX5_96 ⟨by decide, by decide⟩ rfl rfl rfl ?_
    rw [hm.2.2.1]
    refine kG.icmp_ge 61 48 dX5_goTo_45 (by decide) rfl (fun h45 => ?_) (fun h45 => ?_)
    · refine kG.aload_n 62 dX5_goTo_61 rfl rfl ?_
      refine kG.iconst (v := nI 0) 63 dX5_goTo_62 (by decide) rfl ?_
      refine gG.putI 66 dX5_goTo_63 fX5_174 ⟨by decide, by decide⟩ rfl rfl rfl ⟨rfl, rfl⟩ rfl ?_
      refine kG.iconst (v := nI 0) 67 dX5_goTo_66 (by decide) rfl ?_
      refine kG.istore_n 68 dX5_goTo_67 (by decide) rfl rfl ?_
      dsimp only [List.set]
      refine goO Γ h ok okm lw lh hlw hlh (lw + 1) 0 _ none (by omega) (FW_tr h1 ⟨fun k a b => uI_off a, fun j a => uI_ne (Or.inr a)⟩) ?_
      rw [if_pos (Nat.zero_le _)]
      refine ⟨fun x hx => ?_, fun x hx => ?_, fun x hx => ?_, uI_same _ _ _ _, fun x hx => ?_⟩
      · rw [uI_off (by decide)]; exact (h2 x hx).1
      · rw [uI_off (by decide)]; exact (h2 x hx).2.1
      · rw [uI_off (by decide)]; exact h3 x (by omega)
      · rw [uI_off (by decide)]; exact (h2 x hx).2.2
    · exact absurd (nI_le (by omega) (by omega)) h45
  | succ m ih =>
    intro i μ1 hm h1 h2 h3
    have hH := ok.1
    have hP := ok.2.1
    have hm : MC D sn aw G μ1 := FW_MC h h1
    have okc := okM_c (aw := aw) okm
    refine kG.iload_n 41 dX5_goTo_40 rfl rfl ?_
    refine kG.aload_n 42 dX5_goTo_41 rfl rfl ?_
    refine gG.getI 45 dX5_goTo_42 fX5_96 ⟨by decide, by decide⟩ rfl rfl rfl ?_
    rw [hm.2.2.1]
    refine kG.icmp_ge 61 48 dX5_goTo_45 (by decide) rfl (fun h45 => ?_) (fun h45 => ?_)
    · exact absurd h45 (nI_ge (by omega) (by omega))
    · refine kG.aload_n 49 dX5_goTo_48 rfl rfl ?_
      refine gG.getP 52 dX5_goTo_49 fX5_65 ⟨by decide, by decide⟩ rfl rfl rfl rfl ?_
      refine kG.iload_n 53 dX5_goTo_52 rfl rfl ?_
      refine kG.iconst (v := nI 0) 54 dX5_goTo_53 (by decide) rfl ?_
      refine gG.iast (n := 6) _ 55 dX5_goTo_54 ⟨by decide, by decide⟩ rfl rfl (by omega) (by decide) rfl ?_
      refine kG.iinc (v := nI (i + 1)) 58 dX5_goTo_55 rfl (nI_1 i) (by decide) rfl rfl ?_
      dsimp only [List.set]
      refine kG.goto 40 dX5_goTo_58 (by decide) ?_
      refine ih (i + 1) _ (by omega) (FW_tr h1 (FW_of (c := 68) (by decide) (fun k a => uI_off a))) (fun x hx => by rw [uI_off (by decide), uI_off (by decide), uI_off (by decide)]; exact h2 x hx) (fun x hx => ?_)
      by_cases e : x = i
      · subst e; rw [uI_same]
      · rw [uI_ne (Or.inr e)]; exact h3 x (by omega)
set_option maxHeartbeats 4000000 in
theorem goQ (Γ : kGm) {D : Dt} {sn aw : Nat} {G : Kp} {μ : kM} {q : kq4} (h : MC D sn aw G μ) (ok : okD D) (okm : okM D sn G) (lw lh : Nat) (hlw : lw < 10) (hlh : lh < 14) : ∀ (m i : Nat) (μ1 : kM), i + m = dH D → (FW μ μ1) → (∀ x, x < i → μ1 66 x = nI 0 ∧ μ1 67 x = nI 0 ∧ μ1 69 x = -9) → gG Γ mX5_goTo 4 2 [some (.ref 49), some (.int (nI lw)), some (.int (nI lh)), some (.int (nI i)), none] [] (μ1) q (fun r μ' q' => r = none ∧ q' = q ∧ FW μ μ' ∧ WT D (cM D sn aw G) (14 * lw + lh + 1) μ') := by
  intro m
  induction m with
  | zero =>
    intro i μ1 hm h1 h2
    have hH := ok.1
    have hP := ok.2.1
    have hm : MC D sn aw G μ1 := FW_MC h h1
    have okc := okM_c (aw := aw) okm
    refine kG.iload_n 3 dX5_goTo_2 rfl rfl ?_
    refine kG.aload_n 4 dX5_goTo_3 rfl rfl ?_
    refine gG.getI 7 dX5_goTo_4 fX5_93 ⟨by decide, by decide⟩ rfl rfl rfl ?_
    rw [hm.2.1]
    refine kG.icmp_ge 38 10 dX5_goTo_7 (by decide) rfl (fun h7 => ?_) (fun h7 => ?_)
    · refine kG.iconst (v := nI 0) 39 dX5_goTo_38 (by decide) rfl ?_
      refine kG.istore_n 40 dX5_goTo_39 (by decide) rfl rfl ?_
      dsimp only [List.set]
      exact goP Γ h ok okm lw lh hlw hlh (dP D) 0 _ (by omega) h1 (fun x hx => h2 x (by omega)) (fun x hx => absurd hx (Nat.not_lt_zero _))
    · exact absurd (nI_le (by omega) (by omega)) h7
  | succ m ih =>
    intro i μ1 hm h1 h2
    have hH := ok.1
    have hP := ok.2.1
    have hm : MC D sn aw G μ1 := FW_MC h h1
    have okc := okM_c (aw := aw) okm
    refine kG.iload_n 3 dX5_goTo_2 rfl rfl ?_
    refine kG.aload_n 4 dX5_goTo_3 rfl rfl ?_
    refine gG.getI 7 dX5_goTo_4 fX5_93 ⟨by decide, by decide⟩ rfl rfl rfl ?_
    rw [hm.2.1]
    refine kG.icmp_ge 38 10 dX5_goTo_7 (by decide) rfl (fun h7 => ?_) (fun h7 => ?_)
    · exact absurd h7 (nI_ge (by omega) (by omega))
    · refine kG.aload_n 11 dX5_goTo_10 rfl rfl ?_
      refine gG.getP 14 dX5_goTo_11 fX5_59 ⟨by decide, by decide⟩ rfl rfl rfl rfl ?_
      refine kG.iload_n 15 dX5_goTo_14 rfl rfl ?_
      refine kG.iconst (v := nI 0) 16 dX5_goTo_15 (by decide) rfl ?_
      refine gG.iast (n := 4) _ 17 dX5_goTo_16 ⟨by decide, by decide⟩ rfl rfl (by omega) (by decide) rfl ?_
      refine kG.aload_n 18 dX5_goTo_17 rfl rfl ?_
      refine gG.getP 21 dX5_goTo_18 fX5_62 ⟨by decide, by decide⟩ rfl rfl rfl rfl ?_
      refine kG.iload_n 22 dX5_goTo_21 rfl rfl ?_
      refine kG.iconst (v := nI 0) 23 dX5_goTo_22 (by decide) rfl ?_
      refine gG.iast (n := 4) _ 24 dX5_goTo_23 ⟨by decide, by decide⟩ rfl rfl (by omega) (by decide) rfl ?_
      refine kG.aload_n 25 dX5_goTo_24 rfl rfl ?_
      refine gG.getP 28 dX5_goTo_25 fX5_68 ⟨by decide, by decide⟩ rfl rfl rfl rfl ?_
      refine kG.iload_n 29 dX5_goTo_28 rfl rfl ?_
      refine kG.bipush (v := (-9)) 31 dX5_goTo_29 (by decide) rfl ?_
      refine gG.iast (n := 4) _ 32 dX5_goTo_31 ⟨by decide, by decide⟩ rfl rfl (by omega) (by decide) rfl ?_
      refine kG.iinc (v := nI (i + 1)) 35 dX5_goTo_32 rfl (nI_1 i) (by decide) rfl rfl ?_
      dsimp only [List.set]
      refine kG.goto 2 dX5_goTo_35 (by decide) ?_
      refine ih (i + 1) _ (by omega) (FW_tr h1 ⟨fun k a b => by rw [uI_off (by omega), uI_off (by omega), uI_off (by omega)], fun j a => by rw [uI_off (by decide), uI_off (by decide), uI_off (by decide)]⟩) (fun x hx => ?_)
      by_cases e : x = i
      · subst e
        repeat (first | rw [uI_same] | rw [uI_off (by decide)])
        exact ⟨rfl, rfl, rfl⟩
      · repeat (first | rw [uI_ne (Or.inr e)] | rw [uI_off (by decide)])
        exact h2 x (by omega)
set_option maxHeartbeats 4000000 in
theorem m_goTo (Γ : kGm) {D : Dt} {sn aw : Nat} {G : Kp} {μ : kM} {q : kq4} (h : MC D sn aw G μ) (ok : okD D) (okm : okM D sn G) (lw lh : Nat) (hlw : lw < 10) (hlh : lh < 14) : gC Γ yX5_goTo mX5_goTo 4 [.ref 49, .int (nI lw), .int (nI lh)] μ q (fun r μ' q' => r = none ∧ q' = q ∧ FW μ μ' ∧ WT D (cM D sn aw G) (14 * lw + lh + 1) μ') := by
  refine gC.ofG (n := 0) ⟨by decide +kernel, rfl, rfl, by decide⟩ (Nat.le_of_ble_eq_true rfl) ?_
  show gG Γ mX5_goTo 4 0 [some (.ref 49), some (.int (nI lw)), some (.int (nI lh)), none, none] [] μ q _
  refine kG.iconst (v := nI 0) 1 dX5_goTo_0 (by decide) rfl ?_
  refine kG.istore_n 2 dX5_goTo_1 (by decide) rfl rfl ?_
  dsimp only [List.set]
  exact goQ Γ h ok okm lw lh hlw hlh (dH D) 0 μ (by omega) ⟨fun _ _ _ => rfl, fun _ _ => rfl⟩ (fun x hx => absurd hx (Nat.not_lt_zero _))
set_option maxHeartbeats 4000000 in
theorem m_goWeeks (Γ : kGm) {D : Dt} {sn aw : Nat} {G : Kp} {μ : kM} {q : kq4} (h : MC D sn aw G μ) (ok : okD D) (okm : okM D sn G) (lw : Nat) (hlw : lw < 10) : gC Γ yX5_goWeeks mX5_goWeeks 5 [.ref 49, .int (nI lw)] μ q (fun r μ' q' => r = none ∧ q' = q ∧ FW μ μ' ∧ WT D (cM D sn aw G) ((lw + 1) * 14) μ') := by
  refine gC.ofG (n := 0) ⟨by decide +kernel, rfl, rfl, by decide⟩ (Nat.le_of_ble_eq_true rfl) ?_
  show gG Γ mX5_goWeeks 5 0 [some (.ref 49), some (.int (nI lw))] [] μ q _
  refine kG.aload_n 1 dX5_goWeeks_0 rfl rfl ?_
  refine kG.iload_n 2 dX5_goWeeks_1 rfl rfl ?_
  refine kG.bipush (v := nI 13) 4 dX5_goWeeks_2 (by decide) rfl ?_
  refine gG.callV 7 dX5_goWeeks_4 lX5_194 vX5_goTo (m_goTo Γ h ok okm lw 13 hlw (by decide)) rfl rfl ⟨by decide, by decide⟩ rfl ⟨by decide, rfl⟩ ⟨by decide, by decide⟩ (Nat.le_of_ble_eq_true rfl) rfl (fun r4 μ4 q4 hc4 => ?_)
  obtain ⟨rfl, rfl, f1, f2⟩ := hc4
  refine gG.vret dX5_goWeeks_7 rfl ?_
  rw [show (lw + 1) * 14 = 14 * lw + 13 + 1 by omega]
  exact ⟨rfl, rfl, f1, f2⟩
set_option maxHeartbeats 4000000 in
theorem allC_loop (Γ : kGm) {D : Dt} {sn aw : Nat} {G : Kp} {μ : kM} {q : kq4} (h : MC D sn aw G μ) (ok : okD D) (ch : Nat → Nat) (w3 : An 68 (dP D) ch μ) : ∀ (m i : Nat), i + m = dP D → gG Γ mX5_allChills 1 4 [some (.ref 49), some (.int (nI (smN ch i))), some (.int (nI i))] [] (μ) q (fun r μ' q' => r = some (.int (nI (smN ch (dP D)))) ∧ μ' = μ ∧ q' = q) := by
  intro m
  induction m with
  | zero =>
    intro i hm
    have hP := ok.2.1
    refine kG.iload_n 5 dX5_allChills_4 rfl rfl ?_
    refine kG.aload_n 6 dX5_allChills_5 rfl rfl ?_
    refine gG.getI 9 dX5_allChills_6 fX5_96 ⟨by decide, by decide⟩ rfl rfl rfl ?_
    rw [h.2.2.1]
    refine kG.icmp_ge 27 12 dX5_allChills_9 (by decide) rfl (fun h9 => ?_) (fun h9 => ?_)
    · refine kG.iload_n 28 dX5_allChills_27 rfl rfl ?_
      refine gG.iret dX5_allChills_28 rfl ?_
      rw [show dP D = i by omega]
      exact ⟨rfl, rfl, rfl⟩
    · exact absurd (nI_le (by omega) (by omega)) h9
  | succ m ih =>
    intro i hm
    have hP := ok.2.1
    refine kG.iload_n 5 dX5_allChills_4 rfl rfl ?_
    refine kG.aload_n 6 dX5_allChills_5 rfl rfl ?_
    refine gG.getI 9 dX5_allChills_6 fX5_96 ⟨by decide, by decide⟩ rfl rfl rfl ?_
    rw [h.2.2.1]
    refine kG.icmp_ge 27 12 dX5_allChills_9 (by decide) rfl (fun h9 => ?_) (fun h9 => ?_)
    · exact absurd h9 (nI_ge (by omega) (by omega))
    · refine kG.iload_n 13 dX5_allChills_12 rfl rfl ?_
      refine kG.aload_n 14 dX5_allChills_13 rfl rfl ?_
      refine gG.getP 17 dX5_allChills_14 fX5_65 ⟨by decide, by decide⟩ rfl rfl rfl rfl ?_
      refine kG.iload_n 18 dX5_allChills_17 rfl rfl ?_
      refine gG.iald (n := 6) _ 19 dX5_allChills_18 ⟨by decide, by decide⟩ rfl rfl (by omega) (by decide) rfl ?_
      rw [w3 i (by omega)]
      refine kG.iadd 20 dX5_allChills_19 rfl ?_
      rw [nI_add]
      refine kG.istore_n 21 dX5_allChills_20 (by decide) rfl rfl ?_
      dsimp only [List.set]
      refine kG.iinc (v := nI (i + 1)) 24 dX5_allChills_21 rfl (nI_1 i) (by decide) rfl rfl ?_
      dsimp only [List.set]
      refine kG.goto 4 dX5_allChills_24 (by decide) ?_
      exact ih (i + 1) (by omega)
set_option maxHeartbeats 4000000 in
theorem m_allChills (Γ : kGm) {D : Dt} {sn aw : Nat} {G : Kp} {μ : kM} {q : kq4} (h : MC D sn aw G μ) (ok : okD D) (ch : Nat → Nat) (w3 : An 68 (dP D) ch μ) : gC Γ yX5_allChills mX5_allChills 1 [.ref 49] μ q (fun r μ' q' => r = some (.int (nI (smN ch (dP D)))) ∧ μ' = μ ∧ q' = q) := by
  refine gC.ofG (n := 0) ⟨by decide +kernel, rfl, rfl, by decide⟩ (Nat.le_of_ble_eq_true rfl) ?_
  show gG Γ mX5_allChills 1 0 [some (.ref 49), none, none] [] μ q _
  refine kG.iconst (v := nI 0) 1 dX5_allChills_0 (by decide) rfl ?_
  refine kG.istore_n 2 dX5_allChills_1 (by decide) rfl rfl ?_
  dsimp only [List.set]
  refine kG.iconst (v := nI 0) 3 dX5_allChills_2 (by decide) rfl ?_
  refine kG.istore_n 4 dX5_allChills_3 (by decide) rfl rfl ?_
  dsimp only [List.set]
  exact allC_loop Γ h ok ch w3 (dP D) 0 (by omega)
set_option maxHeartbeats 4000000 in
theorem m_allNow (Γ : kGm) {D : Dt} {sn aw : Nat} {G : Kp} {μ : kM} {q : kq4} (h : MC D sn aw G μ) (ok : okD D) (okm : okM D sn G) : gC Γ yX5_allNow mX5_allNow 6 [.ref 49] μ q (fun r μ' q' => r = some (.int (nI (allC (cM D sn aw G) 140))) ∧ q' = q ∧ FW μ μ' ∧ WT D (cM D sn aw G) 140 μ') := by
  refine gC.ofG (n := 0) ⟨by decide +kernel, rfl, rfl, by decide⟩ (Nat.le_of_ble_eq_true rfl) ?_
  show gG Γ mX5_allNow 6 0 [some (.ref 49)] [] μ q _
  refine kG.aload_n 1 dX5_allNow_0 rfl rfl ?_
  refine kG.bipush (v := nI 9) 3 dX5_allNow_1 (by decide) rfl ?_
  refine gG.callV 6 dX5_allNow_3 lX5_200 vX5_goWeeks (m_goWeeks Γ h ok okm 9 (by decide)) rfl rfl ⟨by decide, by decide⟩ rfl ⟨by decide, rfl⟩ ⟨by decide, by decide⟩ (Nat.le_of_ble_eq_true rfl) rfl (fun r3 μ3 q3 hc3 => ?_)
  obtain ⟨rfl, rfl, f1, f2⟩ := hc3
  have hm := FW_MC h f1
  refine kG.aload_n 7 dX5_allNow_6 rfl rfl ?_
  refine gG.callV 10 dX5_allNow_7 lX5_203 vX5_allChills (m_allChills Γ hm ok (fun p => chP (cM D sn aw G) p 140) f2.2.2.1) rfl rfl ⟨by decide, by decide⟩ rfl ⟨by decide, rfl⟩ ⟨by decide, by decide⟩ (Nat.le_of_ble_eq_true rfl) rfl (fun r7 μ7 q7 hc7 => ?_)
  obtain ⟨rfl, rfl, rfl⟩ := hc7
  refine gG.iret dX5_allNow_10 rfl ?_
  exact ⟨rfl, rfl, f1, f2⟩
