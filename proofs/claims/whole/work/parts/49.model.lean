set_option maxHeartbeats 4000000 in
theorem so_loop (Γ : kGm) {D : Dt} {sn aw : Nat} {G : Kp} {μ : kM} {q : kq4} (h : MC D sn aw G μ) (ok : okD D) (okm : okM D sn G) {R : Kp} (hR : MR R μ) (okr : ∀ i, i < R.1 → R.2.1 i < dH D ∧ R.2.2.1 i < 140 ∧ R.2.2.2 i ≤ 99) (hr8 : R.1 ≤ 8) : ∀ (m i : Nat) (μ1 : kM), i + m = R.1 → (FW μ μ1) → (rdB (xW (cM D sn aw G)) R i = true) → gG Γ mX5_areSo 5 2 [some (.ref 49), some (.int (nI i))] [] (μ1) q (fun r μ' q' => r = some (.int (b2 (rdB (xW (cM D sn aw G)) R R.1))) ∧ q' = q ∧ FW μ μ') := by
  intro m
  induction m with
  | zero =>
    intro i μ1 hm h1 h2
    have hH := ok.1
    have hm : MC D sn aw G μ1 := FW_MC h h1
    have hR1 : MR R μ1 := MR_fr hR (h1.2 31 (by decide)) (fun k a b => h1.1 k (by omega) (by omega))
    have okc := okM_c (aw := aw) okm
    refine kG.iload_n 3 dX5_areSo_2 rfl rfl ?_
    refine kG.aload_n 4 dX5_areSo_3 rfl rfl ?_
    refine gG.getI 7 dX5_areSo_4 fX5_135 ⟨by decide, by decide⟩ rfl rfl rfl ?_
    rw [hR1.1]
    refine kG.icmp_ge 54 10 dX5_areSo_7 (by decide) rfl (fun h7 => ?_) (fun h7 => ?_)
    · refine kG.iconst (v := nI 1) 55 dX5_areSo_54 (by decide) rfl ?_
      refine gG.zret dX5_areSo_55 rfl rfl ?_
      rw [show R.1 = i by omega, h2]
      exact ⟨rfl, rfl, h1⟩
    · exact absurd (nI_le (by omega) (by omega)) h7
  | succ m ih =>
    intro i μ1 hm h1 h2
    have hH := ok.1
    have hm : MC D sn aw G μ1 := FW_MC h h1
    have hR1 : MR R μ1 := MR_fr hR (h1.2 31 (by decide)) (fun k a b => h1.1 k (by omega) (by omega))
    have okc := okM_c (aw := aw) okm
    refine kG.iload_n 3 dX5_areSo_2 rfl rfl ?_
    refine kG.aload_n 4 dX5_areSo_3 rfl rfl ?_
    refine gG.getI 7 dX5_areSo_4 fX5_135 ⟨by decide, by decide⟩ rfl rfl rfl ?_
    rw [hR1.1]
    obtain ⟨r1, r2, r3, r4⟩ := hR1.2 i (by omega)
    obtain ⟨o1, o2, o3⟩ := okr i (by omega)
    refine kG.icmp_ge 54 10 dX5_areSo_7 (by decide) rfl (fun h7 => ?_) (fun h7 => ?_)
    · exact absurd h7 (nI_ge (by omega) (by omega))
    · refine kG.aload_n 11 dX5_areSo_10 rfl rfl ?_
      refine kG.aload_n 12 dX5_areSo_11 rfl rfl ?_
      refine gG.getP 15 dX5_areSo_12 fX5_74 ⟨by decide, by decide⟩ rfl rfl rfl rfl ?_
      refine kG.iload_n 16 dX5_areSo_15 rfl rfl ?_
      refine gG.iald (n := 8) _ 17 dX5_areSo_16 ⟨by decide, by decide⟩ rfl rfl (by omega) (by decide) rfl ?_
      rw [r2]
      refine kG.aload_n 18 dX5_areSo_17 rfl rfl ?_
      refine gG.getP 21 dX5_areSo_18 fX5_77 ⟨by decide, by decide⟩ rfl rfl rfl rfl ?_
      refine kG.iload_n 22 dX5_areSo_21 rfl rfl ?_
      refine gG.iald (n := 8) _ 23 dX5_areSo_22 ⟨by decide, by decide⟩ rfl rfl (by omega) (by decide) rfl ?_
      rw [r3]
      refine gG.callV 26 dX5_areSo_23 lX5_194 vX5_goTo (m_goTo Γ hm ok okm (R.2.2.1 i / 14) (R.2.2.1 i % 14) (by omega) (by omega)) rfl rfl ⟨by decide, by decide⟩ rfl ⟨by decide, rfl⟩ ⟨by decide, by decide⟩ (Nat.le_of_ble_eq_true rfl) rfl (fun r23 μ23 q23 hc23 => ?_)
      obtain ⟨rfl, rfl, f1, f2⟩ := hc23
      rw [show 14 * (R.2.2.1 i / 14) + R.2.2.1 i % 14 + 1 = R.2.2.1 i + 1 by omega] at f2
      have hbd := (sm_bd okc (R.2.2.1 i + 1) (R.2.1 i) o1).2
      refine kG.aload_n 27 dX5_areSo_26 rfl rfl ?_
      refine gG.getP 30 dX5_areSo_27 fX5_62 ⟨by decide, by decide⟩ rfl rfl rfl rfl ?_
      refine kG.aload_n 31 dX5_areSo_30 rfl rfl ?_
      refine gG.getP 34 dX5_areSo_31 fX5_71 ⟨by decide, by decide⟩ rfl rfl rfl rfl ?_
      refine kG.iload_n 35 dX5_areSo_34 rfl rfl ?_
      refine gG.iald (n := 8) _ 36 dX5_areSo_35 ⟨by decide, by decide⟩ rfl rfl (by omega) (by decide) rfl ?_
      rw [f1.1 70 (by decide) (by decide), r1]
      refine gG.iald (n := 4) _ 37 dX5_areSo_36 ⟨by decide, by decide⟩ rfl rfl (by omega) (by decide) rfl ?_
      rw [show _ = nI (xW (cM D sn aw G) (R.2.1 i) (R.2.2.1 i)) from f2.2.1 (R.2.1 i) o1]
      refine kG.aload_n 38 dX5_areSo_37 rfl rfl ?_
      refine gG.getP 41 dX5_areSo_38 fX5_80 ⟨by decide, by decide⟩ rfl rfl rfl rfl ?_
      refine kG.iload_n 42 dX5_areSo_41 rfl rfl ?_
      refine gG.iald (n := 8) _ 43 dX5_areSo_42 ⟨by decide, by decide⟩ rfl rfl (by omega) (by decide) rfl ?_
      rw [f1.1 73 (by decide) (by decide), r4]
      refine kG.icmp_eq 48 46 dX5_areSo_43 (by decide) rfl (fun h43 => ?_) (fun h43 => ?_)
      · have e : xW (cM D sn aw G) (R.2.1 i) (R.2.2.1 i) = R.2.2.2 i := (nI_eq (by show (smS _ _).2.1 _ < _; omega) (by omega)).mp h43
        refine kG.iinc (v := nI (i + 1)) 51 dX5_areSo_48 rfl (nI_1 i) (by decide) rfl rfl ?_
        dsimp only [List.set]
        refine kG.goto 2 dX5_areSo_51 (by decide) ?_
        exact ih (i + 1) _ (by omega) (FW_tr h1 f1) (by simp [rdB, h2, e])
      · have e : ¬ xW (cM D sn aw G) (R.2.1 i) (R.2.2.1 i) = R.2.2.2 i := fun z => h43 (by rw [z])
        refine kG.iconst (v := nI 0) 47 dX5_areSo_46 (by decide) rfl ?_
        refine gG.zret dX5_areSo_47 rfl rfl ?_
        exact ⟨by rw [rdB_f e R.1 (by omega)]; rfl, rfl, FW_tr h1 f1⟩
set_option maxHeartbeats 4000000 in
theorem m_areSo (Γ : kGm) {D : Dt} {sn aw : Nat} {G : Kp} {μ : kM} {q : kq4} (h : MC D sn aw G μ) (ok : okD D) (okm : okM D sn G) {R : Kp} (hR : MR R μ) (okr : ∀ i, i < R.1 → R.2.1 i < dH D ∧ R.2.2.1 i < 140 ∧ R.2.2.2 i ≤ 99) (hr8 : R.1 ≤ 8) : gC Γ yX5_areSo mX5_areSo 5 [.ref 49] μ q (fun r μ' q' => r = some (.int (b2 (rdB (xW (cM D sn aw G)) R R.1))) ∧ q' = q ∧ FW μ μ') := by
  refine gC.ofG (n := 0) ⟨by decide +kernel, rfl, rfl, by decide⟩ (Nat.le_of_ble_eq_true rfl) ?_
  show gG Γ mX5_areSo 5 0 [some (.ref 49), none] [] μ q _
  refine kG.iconst (v := nI 0) 1 dX5_areSo_0 (by decide) rfl ?_
  refine kG.istore_n 2 dX5_areSo_1 (by decide) rfl rfl ?_
  dsimp only [List.set]
  exact so_loop Γ h ok okm hR okr hr8 R.1 0 μ (by omega) ⟨fun _ _ _ => rfl, fun _ _ => rfl⟩ rfl
set_option maxHeartbeats 4000000 in
theorem gone_l (Γ : kGm) {S : AS} (ok : okS S) (hP : 0 < dP (aD S)) (μ0 : kM) (q0 : kq4) : ∀ (m i : Nat) (μ1 : kM) (q : kq4) (x3 : Option Value), i + m = dP (aD S) → (q = q0) → (MC (aD S) (aS S) (aA S) (aG S) μ1) → (ME S μ1) → (∀ k, k < 49 → μ1 k = μ0 k) → gG Γ mX5_gone 6 14 [some (.ref 49), some (.int (nI (mk (fun p => rdS S (cfA S (aA S ||| 2 ^ p))) i))), some (.int (nI i)), x3] [] (μ1) q (PMi (s_gone S) S μ0 q0) := by
  intro m
  induction m with
  | zero =>
    intro i μ1 q x3 hm hq hm h3 h4
    have okr := ok.2.2.2.2.2.2.1.1
    have hr8 := ok.2.2.2.2.2.2.1.2
    have okd := ok.1
    have hH4 := ok.1.1
    have hP6 := ok.1.2.1
    have okm := okM_S ok hP
    refine kG.iload_n 15 dX5_gone_14 rfl rfl ?_
    refine kG.aload_n 16 dX5_gone_15 rfl rfl ?_
    refine gG.getI 19 dX5_gone_16 fX5_96 ⟨by decide, by decide⟩ rfl rfl rfl ?_
    rw [hm.2.2.1]
    refine kG.icmp_ge 66 22 dX5_gone_19 (by decide) rfl (fun h19 => ?_) (fun h19 => ?_)
    · refine kG.iload_n 67 dX5_gone_66 rfl rfl ?_
      refine gG.iret dX5_gone_67 rfl ?_
      refine ⟨?_, ⟨hm, h3⟩, hq, h4⟩
      unfold s_gone
      rw [if_neg (by omega), show dP (aD S) = i by omega]
    · exact absurd (nI_le (by omega) (by omega)) h19
  | succ m ih =>
    intro i μ1 q x3 hm hq hm h3 h4
    have okr := ok.2.2.2.2.2.2.1.1
    have hr8 := ok.2.2.2.2.2.2.1.2
    have okd := ok.1
    have hH4 := ok.1.1
    have hP6 := ok.1.2.1
    have okm := okM_S ok hP
    refine kG.iload_n 15 dX5_gone_14 rfl rfl ?_
    refine kG.aload_n 16 dX5_gone_15 rfl rfl ?_
    refine gG.getI 19 dX5_gone_16 fX5_96 ⟨by decide, by decide⟩ rfl rfl rfl ?_
    rw [hm.2.2.1]
    refine kG.icmp_ge 66 22 dX5_gone_19 (by decide) rfl (fun h19 => ?_) (fun h19 => ?_)
    · exact absurd h19 (nI_ge (by omega) (by omega))
    · refine kG.aload_n 23 dX5_gone_22 rfl rfl ?_
      refine gG.getP 26 dX5_gone_23 fX5_40 ⟨by decide, by decide⟩ rfl rfl rfl rfl ?_
      refine kG.iload_n 27 dX5_gone_26 rfl rfl ?_
      refine gG.zald (n := 6) _ 28 dX5_gone_27 ⟨by decide, by decide⟩ rfl rfl (by omega) (by decide) rfl ?_
      rw [hm.2.2.2.2.2.2.1 i (by omega)]
      refine kG.istore_n 29 dX5_gone_28 (by decide) rfl rfl ?_
      dsimp only [List.set]
      refine kG.aload_n 30 dX5_gone_29 rfl rfl ?_
      refine gG.getP 33 dX5_gone_30 fX5_40 ⟨by decide, by decide⟩ rfl rfl rfl rfl ?_
      refine kG.iload_n 34 dX5_gone_33 rfl rfl ?_
      refine kG.iconst (v := nI 1) 35 dX5_gone_34 (by decide) rfl ?_
      refine gG.zast (n := 6) _ 36 dX5_gone_35 ⟨by decide, by decide⟩ rfl rfl (by omega) (by decide) rfl rfl ?_
      have hm2 : MC (aD S) (aS S) (aA S ||| 2 ^ i) (aG S) (uI μ1 60 i (b2 true)) := MC_aw hm (by rw [Nat.testBit_or, Nat.testBit_two_pow_self, Bool.or_true]) (fun j hj => by rw [Nat.testBit_or, Nat.testBit_two_pow, decide_eq_false (fun z => hj z.symm), Bool.or_false])
      have he2 : ME S (uI μ1 60 i (b2 true)) := ME_fr h3 (fun j _ => by rw [uI_off (show 49 ≠ 60 by decide)]) (fun k hk => uI_off (by omega))
      refine kG.iload_n 37 dX5_gone_36 rfl rfl ?_
      refine kG.aload_n 38 dX5_gone_37 rfl rfl ?_
      refine gG.callV 41 dX5_gone_38 lX5_239 vX5_areSo (m_areSo Γ hm2 okd okm he2.1 okr hr8) rfl rfl ⟨by decide, by decide⟩ rfl ⟨by decide, rfl⟩ ⟨by decide, by decide⟩ (Nat.le_of_ble_eq_true rfl) rfl (fun r38 μ38 q38 hc38 => ?_)
      obtain ⟨rfl, rfl, f1⟩ := hc38
      have hm3 := FW_MC hm2 f1
      have he3 := ME_FW he2 f1
      refine kG.if_eq 50 44 dX5_gone_41 (by decide) rfl (fun h41 => ?_) (fun h41 => ?_)
      · have hb : (fun p => rdS S (cfA S (aA S ||| 2 ^ p))) i = false := b2_0.mp h41
        refine kG.iconst (v := nI 0) 51 dX5_gone_50 (by decide) rfl ?_
        refine kG.ior 52 dX5_gone_51 rfl ?_
        first | rw [n_shl (by omega), n_or, ← mk_t (f := (fun p => rdS S (cfA S (aA S ||| 2 ^ p)))) hb] | rw [show nI (mk (fun p => rdS S (cfA S (aA S ||| 2 ^ p))) i) ||| nI 0 = nI (mk (fun p => rdS S (cfA S (aA S ||| 2 ^ p))) (i + 1)) by rw [n_or, Nat.or_zero, ← mk_f (f := (fun p => rdS S (cfA S (aA S ||| 2 ^ p)))) hb]]
        refine kG.istore_n 53 dX5_gone_52 (by decide) rfl rfl ?_
        dsimp only [List.set]
        refine kG.aload_n 54 dX5_gone_53 rfl rfl ?_
        refine gG.getP 57 dX5_gone_54 fX5_40 ⟨by decide, by decide⟩ rfl rfl rfl rfl ?_
        refine kG.iload_n 58 dX5_gone_57 rfl rfl ?_
        refine kG.iload_n 59 dX5_gone_58 rfl rfl ?_
        refine gG.zast (n := 6) _ 60 dX5_gone_59 ⟨by decide, by decide⟩ rfl rfl (by omega) (by decide) (b2_bit _) rfl ?_
        have hm4 : MC (aD S) (aS S) (aA S) (aG S) (uI μ38 60 i (b2 ((aA S).testBit i))) := MC_aw hm3 rfl (fun j hj => by rw [Nat.testBit_or, Nat.testBit_two_pow, decide_eq_false (fun z => hj z.symm), Bool.or_false])
        refine kG.iinc (v := nI (i + 1)) 63 dX5_gone_60 rfl (nI_1 i) (by decide) rfl rfl ?_
        dsimp only [List.set]
        refine kG.goto 14 dX5_gone_63 (by decide) ?_
        exact ih (i + 1) _ _ _ (by omega) hq hm4 (ME_fr he3 (fun j _ => by rw [uI_off (show 49 ≠ 60 by decide)]) (fun k hk => uI_off (by omega))) (fun k hk => by rw [uI_off (by omega), FW_lo f1 k hk, uI_off (by omega)]; exact h4 k hk)
      · have hb : (fun p => rdS S (cfA S (aA S ||| 2 ^ p))) i = true := b2_n0.mp h41
        refine kG.iconst (v := nI 1) 45 dX5_gone_44 (by decide) rfl ?_
        refine kG.iload_n 46 dX5_gone_45 rfl rfl ?_
        refine kG.ishl 47 dX5_gone_46 rfl ?_
        refine kG.goto 51 dX5_gone_47 (by decide) ?_
        refine kG.ior 52 dX5_gone_51 rfl ?_
        first | rw [n_shl (by omega), n_or, ← mk_t (f := (fun p => rdS S (cfA S (aA S ||| 2 ^ p)))) hb] | rw [show nI (mk (fun p => rdS S (cfA S (aA S ||| 2 ^ p))) i) ||| nI 0 = nI (mk (fun p => rdS S (cfA S (aA S ||| 2 ^ p))) (i + 1)) by rw [n_or, Nat.or_zero, ← mk_f (f := (fun p => rdS S (cfA S (aA S ||| 2 ^ p)))) hb]]
        refine kG.istore_n 53 dX5_gone_52 (by decide) rfl rfl ?_
        dsimp only [List.set]
        refine kG.aload_n 54 dX5_gone_53 rfl rfl ?_
        refine gG.getP 57 dX5_gone_54 fX5_40 ⟨by decide, by decide⟩ rfl rfl rfl rfl ?_
        refine kG.iload_n 58 dX5_gone_57 rfl rfl ?_
        refine kG.iload_n 59 dX5_gone_58 rfl rfl ?_
        refine gG.zast (n := 6) _ 60 dX5_gone_59 ⟨by decide, by decide⟩ rfl rfl (by omega) (by decide) (b2_bit _) rfl ?_
        have hm4 : MC (aD S) (aS S) (aA S) (aG S) (uI μ38 60 i (b2 ((aA S).testBit i))) := MC_aw hm3 rfl (fun j hj => by rw [Nat.testBit_or, Nat.testBit_two_pow, decide_eq_false (fun z => hj z.symm), Bool.or_false])
        refine kG.iinc (v := nI (i + 1)) 63 dX5_gone_60 rfl (nI_1 i) (by decide) rfl rfl ?_
        dsimp only [List.set]
        refine kG.goto 14 dX5_gone_63 (by decide) ?_
        exact ih (i + 1) _ _ _ (by omega) hq hm4 (ME_fr he3 (fun j _ => by rw [uI_off (show 49 ≠ 60 by decide)]) (fun k hk => uI_off (by omega))) (fun k hk => by rw [uI_off (by omega), FW_lo f1 k hk, uI_off (by omega)]; exact h4 k hk)
set_option maxHeartbeats 4000000 in
theorem y_gone (Γ : kGm) {S : AS} {μ : kM} {q : kq4} (ok : okS S) (h : MS S μ) : gC Γ yX5_gone mX5_gone 6 [.ref 49] μ q (PMi (s_gone S) (S) μ q) := by
  refine gC.ofG (n := 0) ⟨by decide +kernel, rfl, rfl, by decide⟩ (Nat.le_of_ble_eq_true rfl) ?_
  show gG Γ mX5_gone 6 0 [some (.ref 49), none, none, none] [] μ q _
  have okd := ok.1
  have hH4 := ok.1.1
  have hP6 := ok.1.2.1
  have hc := h.1
  have hp := hc.2.2.2.2.2.1
  have hh := hc.2.2.2.2.1
  refine kG.aload_n 1 dX5_gone_0 rfl rfl ?_
  refine gG.getI 4 dX5_gone_1 fX5_96 ⟨by decide, by decide⟩ rfl rfl rfl ?_
  rw [hc.2.2.1]
  refine kG.if_ne 10 7 dX5_gone_4 (by decide) rfl (fun h4 => ?_) (fun h4 => ?_)
  · have hz : ¬ dP (aD S) = 0 := fun z => h4 (by rw [z]; rfl)
    refine kG.iconst (v := nI 0) 11 dX5_gone_10 (by decide) rfl ?_
    refine kG.istore_n 12 dX5_gone_11 (by decide) rfl rfl ?_
    dsimp only [List.set]
    refine kG.iconst (v := nI 0) 13 dX5_gone_12 (by decide) rfl ?_
    refine kG.istore_n 14 dX5_gone_13 (by decide) rfl rfl ?_
    dsimp only [List.set]
    exact gone_l Γ ok (by omega) _ _ (dP (aD S)) 0 _ _ none (by omega) rfl hc h.2 (fun _ _ => rfl)
  · have hz : dP (aD S) = 0 := (nI_eq (b := 0) (by omega) (by decide)).mp h4
    refine kG.bipush (v := (-3)) 9 dX5_gone_7 (by decide) rfl ?_
    refine gG.iret dX5_gone_9 rfl ?_
    exact ⟨by unfold s_gone; rw [if_pos hz], h, rfl, fun _ _ => rfl⟩
