set_option maxHeartbeats 4000000 in
theorem m_lessWear (Γ : kGm) {S : AS} {μ : kM} {q : kq4} (ok : okS S) (h : MS S μ) (p wk : Nat) (hp_ : p < dP (aD S)) (hwk : wk < 10) : gC Γ yX5_lessWear mX5_lessWear 7 [.ref 49, .int (nI p), .int (nI wk)] μ q (PMi (nI (lwN S p ((wk + 1) * 14))) S μ q) := by
  refine gC.ofG (n := 0) ⟨by decide +kernel, rfl, rfl, by decide⟩ (Nat.le_of_ble_eq_true rfl) ?_
  show gG Γ mX5_lessWear 7 0 [some (.ref 49), some (.int (nI p)), some (.int (nI wk)), none, none, none] [] μ q _
  have okd := ok.1
  have hH4 := ok.1.1
  have hP6 := ok.1.2.1
  have hc := h.1
  have hp := hc.2.2.2.2.2.1
  have hh := hc.2.2.2.2.1
  have hP : 0 < dP (aD S) := by omega
  have okm := okM_S ok hP
  have hb1 : (wtC (dH (aD S)) (cfS S) ((wk + 1) * 14)) ≤ 90 * dH (aD S) := smN_le (b := 90) (dH (aD S)) (fun i hi => (sm_bd (okM_c (aw := aA S) okm) ((wk + 1) * 14) i hi).2)
  have hb2 : (wtC (dH (aD S)) (cfA S (aA S ||| 2 ^ p)) ((wk + 1) * 14)) ≤ 90 * dH (aD S) := smN_le (b := 90) (dH (aD S)) (fun i hi => (sm_bd (okM_c (aw := aA S ||| 2 ^ p) okm) ((wk + 1) * 14) i hi).2)
  refine kG.aload_n 1 dX5_lessWear_0 rfl rfl ?_
  refine kG.iload_n 2 dX5_lessWear_1 rfl rfl ?_
  refine gG.callV 5 dX5_lessWear_2 lX5_222 vX5_allWear (m_allWear Γ hc okd okm wk hwk) rfl rfl ⟨by decide, by decide⟩ rfl ⟨by decide, rfl⟩ ⟨by decide, by decide⟩ (Nat.le_of_ble_eq_true rfl) rfl (fun r2 μ2 q2 hc2 => ?_)
  obtain ⟨rfl, rfl, f1⟩ := hc2
  have hm1 := FW_MC hc f1
  rw [show wtC (dH (aD S)) (cM (aD S) (aS S) (aA S) (aG S)) ((wk + 1) * 14) = (wtC (dH (aD S)) (cfS S) ((wk + 1) * 14)) from rfl]
  refine kG.istore_n 6 dX5_lessWear_5 (by decide) rfl rfl ?_
  dsimp only [List.set]
  refine kG.aload_n 7 dX5_lessWear_6 rfl rfl ?_
  refine gG.getP 10 dX5_lessWear_7 fX5_40 ⟨by decide, by decide⟩ rfl rfl rfl rfl ?_
  refine kG.iload_n 11 dX5_lessWear_10 rfl rfl ?_
  refine gG.zald (n := 6) _ 12 dX5_lessWear_11 ⟨by decide, by decide⟩ rfl rfl (by omega) (by decide) rfl ?_
  rw [hm1.2.2.2.2.2.2.1 p hp_]
  refine kG.istore 14 dX5_lessWear_12 (by decide) rfl rfl ?_
  dsimp only [List.set]
  refine kG.aload_n 15 dX5_lessWear_14 rfl rfl ?_
  refine gG.getP 18 dX5_lessWear_15 fX5_40 ⟨by decide, by decide⟩ rfl rfl rfl rfl ?_
  refine kG.iload_n 19 dX5_lessWear_18 rfl rfl ?_
  refine kG.iconst (v := nI 1) 20 dX5_lessWear_19 (by decide) rfl ?_
  refine gG.zast (n := 6) _ 21 dX5_lessWear_20 ⟨by decide, by decide⟩ rfl rfl (by omega) (by decide) rfl rfl ?_
  have hm2 : MC (aD S) (aS S) (aA S ||| 2 ^ p) (aG S) (uI μ2 60 p (b2 true)) := MC_aw hm1 (by rw [Nat.testBit_or, Nat.testBit_two_pow_self, Bool.or_true]) (fun j hj => by rw [Nat.testBit_or, Nat.testBit_two_pow, decide_eq_false (fun z => hj z.symm), Bool.or_false])
  refine kG.aload_n 22 dX5_lessWear_21 rfl rfl ?_
  refine kG.iload_n 23 dX5_lessWear_22 rfl rfl ?_
  refine gG.callV 26 dX5_lessWear_23 lX5_222 vX5_allWear (m_allWear Γ hm2 okd okm wk hwk) rfl rfl ⟨by decide, by decide⟩ rfl ⟨by decide, rfl⟩ ⟨by decide, by decide⟩ (Nat.le_of_ble_eq_true rfl) rfl (fun r23 μ23 q23 hc23 => ?_)
  obtain ⟨rfl, rfl, f3⟩ := hc23
  have hm3 := FW_MC hm2 f3
  rw [show wtC (dH (aD S)) (cM (aD S) (aS S) (aA S ||| 2 ^ p) (aG S)) ((wk + 1) * 14) = (wtC (dH (aD S)) (cfA S (aA S ||| 2 ^ p)) ((wk + 1) * 14)) from rfl]
  refine kG.istore 28 dX5_lessWear_26 (by decide) rfl rfl ?_
  dsimp only [List.set]
  refine kG.aload_n 29 dX5_lessWear_28 rfl rfl ?_
  refine gG.getP 32 dX5_lessWear_29 fX5_40 ⟨by decide, by decide⟩ rfl rfl rfl rfl ?_
  refine kG.iload_n 33 dX5_lessWear_32 rfl rfl ?_
  refine kG.iload 35 dX5_lessWear_33 rfl rfl ?_
  refine gG.zast (n := 6) _ 36 dX5_lessWear_35 ⟨by decide, by decide⟩ rfl rfl (by omega) (by decide) (b2_bit _) rfl ?_
  have hm4 : MC (aD S) (aS S) (aA S) (aG S) (uI μ23 60 p (b2 ((aA S).testBit p))) := MC_aw hm3 rfl (fun j hj => by rw [Nat.testBit_or, Nat.testBit_two_pow, decide_eq_false (fun z => hj z.symm), Bool.or_false])
  refine kG.iload_n 37 dX5_lessWear_36 rfl rfl ?_
  refine kG.iload 39 dX5_lessWear_37 rfl rfl ?_
  refine kG.icmp_le 49 42 dX5_lessWear_39 (by decide) rfl (fun h39 => ?_) (fun h39 => ?_)
  · have c1 : (wtC (dH (aD S)) (cfS S) ((wk + 1) * 14)) ≤ (wtC (dH (aD S)) (cfA S (aA S ||| 2 ^ p)) ((wk + 1) * 14)) := (nI_leI (by omega) (by omega)).mp h39
    have eV : (nI 0 : Int32) = nI (lwN S p ((wk + 1) * 14)) := congrArg nI (show 0 = (wtC (dH (aD S)) (cfS S) ((wk + 1) * 14)) - (wtC (dH (aD S)) (cfA S (aA S ||| 2 ^ p)) ((wk + 1) * 14)) by omega)
    refine kG.iconst (v := nI 0) 50 dX5_lessWear_49 (by decide) rfl ?_
    refine gG.iret dX5_lessWear_50 rfl ?_
    refine ⟨by rw [eV], ⟨hm4, (ME_fr (ME_FW (ME_fr (ME_FW h.2 f1) (fun j _ => by rw [uI_off (show 49 ≠ 60 by decide)]) (fun k hk => uI_off (by omega))) f3) (fun j _ => by rw [uI_off (show 49 ≠ 60 by decide)]) (fun k hk => uI_off (by omega)))⟩, rfl, fun k hk => by rw [uI_off (by omega), FW_lo f3 k hk, uI_off (by omega), FW_lo f1 k hk]⟩
  · have c1 : ¬ (wtC (dH (aD S)) (cfS S) ((wk + 1) * 14)) ≤ (wtC (dH (aD S)) (cfA S (aA S ||| 2 ^ p)) ((wk + 1) * 14)) := fun z => h39 (nI_le z (by omega))
    have eV : nI ((wtC (dH (aD S)) (cfS S) ((wk + 1) * 14)) - (wtC (dH (aD S)) (cfA S (aA S ||| 2 ^ p)) ((wk + 1) * 14))) = nI (lwN S p ((wk + 1) * 14)) := rfl
    refine kG.iload_n 43 dX5_lessWear_42 rfl rfl ?_
    refine kG.iload 45 dX5_lessWear_43 rfl rfl ?_
    refine kG.isub 46 dX5_lessWear_45 rfl ?_
    rw [pk_sub (by omega)]
    refine kG.goto 50 dX5_lessWear_46 (by decide) ?_
    refine gG.iret dX5_lessWear_50 rfl ?_
    refine ⟨by rw [eV], ⟨hm4, (ME_fr (ME_FW (ME_fr (ME_FW h.2 f1) (fun j _ => by rw [uI_off (show 49 ≠ 60 by decide)]) (fun k hk => uI_off (by omega))) f3) (fun j _ => by rw [uI_off (show 49 ≠ 60 by decide)]) (fun k hk => uI_off (by omega)))⟩, rfl, fun k hk => by rw [uI_off (by omega), FW_lo f3 k hk, uI_off (by omega), FW_lo f1 k hk]⟩
set_option maxHeartbeats 4000000 in
theorem iw_l (Γ : kGm) {D : Dt} {sn aw : Nat} {G : Kp} {μ : kM} {q : kq4} (h : MC D sn aw G μ) (ok : okD D) (hh : Nat) (hhb : hh < 4) {μ0 : kM} (f1 : FW μ0 μ) (w3 : An 68 (dP D) (fun p => chP (cM D sn aw G) p 14) μ) : ∀ (m i : Nat), i + m = dP D → (∀ j, j < i → (fun p => decide (dho D p = hh) && !decide (chP (cM D sn aw G) p 14 = 0)) j = false) → gG Γ mX5_isWarmIn 6 7 [some (.ref 49), some (.int (nI hh)), some (.int (nI i))] [] (μ) q (fun r μ' q' => r = some (.int (b2 (decide (cnt (fun p => decide (dho D p = hh) && !decide (chP (cM D sn aw G) p 14 = 0)) (dP D) = 0)))) ∧ q' = q ∧ FW μ0 μ') := by
  intro m
  induction m with
  | zero =>
    intro i hm hn
    have hP := ok.2.1
    have hH := ok.1
    refine kG.iload_n 8 dX5_isWarmIn_7 rfl rfl ?_
    refine kG.aload_n 9 dX5_isWarmIn_8 rfl rfl ?_
    refine gG.getI 12 dX5_isWarmIn_9 fX5_96 ⟨by decide, by decide⟩ rfl rfl rfl ?_
    rw [h.2.2.1]
    refine kG.icmp_ge 42 15 dX5_isWarmIn_12 (by decide) rfl (fun h12 => ?_) (fun h12 => ?_)
    · refine kG.iconst (v := nI 1) 43 dX5_isWarmIn_42 (by decide) rfl ?_
      refine gG.zret dX5_isWarmIn_43 rfl rfl ?_
      exact ⟨by rw [decide_eq_true (cnt_0.mpr (fun j hj => hn j (by omega)))]; rfl, rfl, f1⟩
    · exact absurd (nI_le (by omega) (by omega)) h12
  | succ m ih =>
    intro i hm hn
    have hP := ok.2.1
    have hH := ok.1
    refine kG.iload_n 8 dX5_isWarmIn_7 rfl rfl ?_
    refine kG.aload_n 9 dX5_isWarmIn_8 rfl rfl ?_
    refine gG.getI 12 dX5_isWarmIn_9 fX5_96 ⟨by decide, by decide⟩ rfl rfl rfl ?_
    rw [h.2.2.1]
    have hch := chP_le (cM D sn aw G) i 14
    obtain ⟨k1, k2, k3, k4, k5⟩ := ok.2.2.2 i (by omega)
    refine kG.icmp_ge 42 15 dX5_isWarmIn_12 (by decide) rfl (fun h12 => ?_) (fun h12 => ?_)
    · exact absurd h12 (nI_ge (by omega) (by omega))
    · refine kG.aload_n 16 dX5_isWarmIn_15 rfl rfl ?_
      refine gG.getP 19 dX5_isWarmIn_16 fX5_31 ⟨by decide, by decide⟩ rfl rfl rfl rfl ?_
      refine kG.iload_n 20 dX5_isWarmIn_19 rfl rfl ?_
      refine gG.iald (n := 6) _ 21 dX5_isWarmIn_20 ⟨by decide, by decide⟩ rfl rfl (by omega) (by decide) rfl ?_
      rw [(h.2.2.2.2.2.1 i (by omega)).2.2.1]
      refine kG.iload_n 22 dX5_isWarmIn_21 rfl rfl ?_
      refine kG.icmp_ne 36 25 dX5_isWarmIn_22 (by decide) rfl (fun h22 => ?_) (fun h22 => ?_)
      · have c1 : ¬ dho D i = hh := fun z => h22 (by rw [z])
        have hb : (fun p => decide (dho D p = hh) && !decide (chP (cM D sn aw G) p 14 = 0)) i = false := by
          show (decide (dho D i = hh) && _) = false
          rw [decide_eq_false c1]; rfl
        refine kG.iinc (v := nI (i + 1)) 39 dX5_isWarmIn_36 rfl (nI_1 i) (by decide) rfl rfl ?_
        dsimp only [List.set]
        refine kG.goto 7 dX5_isWarmIn_39 (by decide) ?_
        refine ih (i + 1) (by omega) (fun j hj => ?_)
        by_cases e : j = i
        · subst e; exact hb
        · exact hn j (by omega)
      · have c1 : dho D i = hh := (nI_eq (by omega) (by omega)).mp h22
        refine kG.aload_n 26 dX5_isWarmIn_25 rfl rfl ?_
        refine gG.getP 29 dX5_isWarmIn_26 fX5_65 ⟨by decide, by decide⟩ rfl rfl rfl rfl ?_
        refine kG.iload_n 30 dX5_isWarmIn_29 rfl rfl ?_
        refine gG.iald (n := 6) _ 31 dX5_isWarmIn_30 ⟨by decide, by decide⟩ rfl rfl (by omega) (by decide) rfl ?_
        rw [show μ 68 i = nI (chP (cM D sn aw G) i 14) from w3 i (by omega)]
        refine kG.if_le 36 34 dX5_isWarmIn_31 (by decide) rfl (fun h31 => ?_) (fun h31 => ?_)
        · have c2 : chP (cM D sn aw G) i 14 = 0 := Nat.eq_zero_of_not_pos (fun z => nI_nle z (by omega) h31)
          have hb : (fun p => decide (dho D p = hh) && !decide (chP (cM D sn aw G) p 14 = 0)) i = false := by
            show (_ && !decide (chP (cM D sn aw G) i 14 = 0)) = false
            rw [decide_eq_true c2, show (!true) = false from rfl, Bool.and_false]
          refine kG.iinc (v := nI (i + 1)) 39 dX5_isWarmIn_36 rfl (nI_1 i) (by decide) rfl rfl ?_
          dsimp only [List.set]
          refine kG.goto 7 dX5_isWarmIn_39 (by decide) ?_
          refine ih (i + 1) (by omega) (fun j hj => ?_)
          by_cases e : j = i
          · subst e; exact hb
          · exact hn j (by omega)
        · have c2 : ¬ chP (cM D sn aw G) i 14 = 0 := fun z => h31 (by rw [z]; decide)
          have hb : (fun p => decide (dho D p = hh) && !decide (chP (cM D sn aw G) p 14 = 0)) i = true := by
            show (decide (dho D i = hh) && !decide (chP (cM D sn aw G) i 14 = 0)) = true
            rw [decide_eq_true c1, decide_eq_false c2]; rfl
          refine kG.iconst (v := nI 0) 35 dX5_isWarmIn_34 (by decide) rfl ?_
          refine gG.zret dX5_isWarmIn_35 rfl rfl ?_
          refine ⟨?_, rfl, f1⟩
          rw [decide_eq_false]
          · rfl
          · intro z
            have z2 := cnt_0.mp z i (by omega)
            exact absurd (hb.symm.trans z2) (by decide)
set_option maxHeartbeats 4000000 in
theorem m_isWarmIn (Γ : kGm) {D : Dt} {sn aw : Nat} {G : Kp} {μ : kM} {q : kq4} (h : MC D sn aw G μ) (ok : okD D) (okm : okM D sn G) (hh : Nat) (hhb : hh < 4) : gC Γ yX5_isWarmIn mX5_isWarmIn 6 [.ref 49, .int (nI hh)] μ q (fun r μ' q' => r = some (.int (b2 (decide (cnt (fun p => decide (dho D p = hh) && !decide (chP (cM D sn aw G) p 14 = 0)) (dP D) = 0)))) ∧ q' = q ∧ FW μ μ') := by
  refine gC.ofG (n := 0) ⟨by decide +kernel, rfl, rfl, by decide⟩ (Nat.le_of_ble_eq_true rfl) ?_
  show gG Γ mX5_isWarmIn 6 0 [some (.ref 49), some (.int (nI hh)), none] [] μ q _
  refine kG.aload_n 1 dX5_isWarmIn_0 rfl rfl ?_
  refine kG.iconst (v := nI 0) 2 dX5_isWarmIn_1 (by decide) rfl ?_
  refine gG.callV 5 dX5_isWarmIn_2 lX5_200 vX5_goWeeks (m_goWeeks Γ h ok okm 0 (by decide)) rfl rfl ⟨by decide, by decide⟩ rfl ⟨by decide, rfl⟩ ⟨by decide, by decide⟩ (Nat.le_of_ble_eq_true rfl) rfl (fun r2 μ2 q2 hc2 => ?_)
  obtain ⟨rfl, rfl, f1, f2⟩ := hc2
  have hm := FW_MC h f1
  refine kG.iconst (v := nI 0) 6 dX5_isWarmIn_5 (by decide) rfl ?_
  refine kG.istore_n 7 dX5_isWarmIn_6 (by decide) rfl rfl ?_
  dsimp only [List.set]
  exact iw_l Γ hm ok hh hhb f1 f2.2.2.1 (dP D) 0 (by omega) (fun j hj => absurd hj (Nat.not_lt_zero _))
theorem wmN_lt {f : Nat → Bool} : ∀ {n b : Nat}, wmN f n = some b → b < n
  | 0, b, h => by cases h
  | n + 1, b, h => by
    rw [wmN] at h
    have key : ∀ c : Bool, (if c = true then some n else wmN f n) = some b → b < n + 1 := fun c z => by
      cases c
      · have := wmN_lt (f := f) (n := n) (b := b) (by simpa using z); omega
      · simp at z; omega
    exact key _ h
theorem few_n {o : Option Nat} (h : o = none) : few o = 6 := by rw [h]; rfl
set_option maxHeartbeats 4000000 in
theorem warm_l (Γ : kGm) {S : AS} (ok : okS S) {kx : Nat} (hkx : kx < dP (aD S)) (μ0 : kM) (q0 : kq4) : ∀ (m i : Nat) (μ1 : kM) (q : kq4) (a0 : Nat), i + m = 2 ^ dP (aD S) → (q = q0) → (MC (aD S) (aS S) a0 (aG S) μ1) → (ME S μ1) → (∀ k, k < 49 → μ1 k = μ0 k) → gG Γ mX5_warm 6 21 [some (.ref 49), some (.int (nI kx)), some (.int (nI (aA S))), some (.int (opI (wmN (wmF S kx) i))), some (.int (nI i))] [] (μ1) q (PMi (s_warm S (nI kx)) S μ0 q0) := by
  intro m
  induction m with
  | zero =>
    intro i μ1 q a0 hm hq hm h3 h4
    have hP : 0 < dP (aD S) := by omega
    have okd := ok.1
    have hH4 := ok.1.1
    have hP6 := ok.1.2.1
    have okm := okM_S ok hP
    have h64 := full_64 ok
    have h1p : 1 ≤ 2 ^ dP (aD S) := Nat.one_le_two_pow
    have ha := aA_64 ok
    refine kG.iload 23 dX5_warm_21 rfl rfl ?_
    refine kG.iconst (v := nI 1) 24 dX5_warm_23 (by decide) rfl ?_
    refine kG.aload_n 25 dX5_warm_24 rfl rfl ?_
    refine gG.getI 28 dX5_warm_25 fX5_96 ⟨by decide, by decide⟩ rfl rfl rfl ?_
    rw [hm.2.2.1]
    refine kG.ishl 29 dX5_warm_28 rfl ?_
    rw [n_shl (by omega)]
    refine kG.icmp_ge 97 32 dX5_warm_29 (by decide) rfl (fun h29 => ?_) (fun h29 => ?_)
    · refine kG.aload_n 98 dX5_warm_97 rfl rfl ?_
      refine kG.iload_n 99 dX5_warm_98 rfl rfl ?_
      refine gG.callV 102 dX5_warm_99 lX5_216 vX5_layAway (m_layAway Γ hm okd (aA S) (by omega)) rfl rfl ⟨by decide, by decide⟩ rfl ⟨by decide, rfl⟩ ⟨by decide, by decide⟩ (Nat.le_of_ble_eq_true rfl) rfl (fun r99 μ99 q99 hc99 => ?_)
      obtain ⟨rfl, rfl, l1, l2⟩ := hc99
      refine kG.iload_n 103 dX5_warm_102 rfl rfl ?_
      refine gG.iret dX5_warm_103 rfl ?_
      refine ⟨?_, ⟨l2, ME_60 h3 l1⟩, hq, fun k hk => by rw [l1 k (by omega)]; exact h4 k hk⟩
      unfold s_warm
      rw [if_pos (inB_n (by omega) hkx), ixn_n (by omega), show 2 ^ dP (aD S) = i by omega]
    · exact absurd (nI_le (by omega) (by omega)) h29
  | succ m ih =>
    intro i μ1 q a0 hm hq hm h3 h4
    have hP : 0 < dP (aD S) := by omega
    have okd := ok.1
    have hH4 := ok.1.1
    have hP6 := ok.1.2.1
    have okm := okM_S ok hP
    have h64 := full_64 ok
    have h1p : 1 ≤ 2 ^ dP (aD S) := Nat.one_le_two_pow
    have ha := aA_64 ok
    have ho : aA S ||| i < 64 := Nat.or_lt_two_pow (n := 6) ha (by omega)
    have hpi := pcn_le i
    refine kG.iload 23 dX5_warm_21 rfl rfl ?_
    refine kG.iconst (v := nI 1) 24 dX5_warm_23 (by decide) rfl ?_
    refine kG.aload_n 25 dX5_warm_24 rfl rfl ?_
    refine gG.getI 28 dX5_warm_25 fX5_96 ⟨by decide, by decide⟩ rfl rfl rfl ?_
    rw [hm.2.2.1]
    refine kG.ishl 29 dX5_warm_28 rfl ?_
    rw [n_shl (by omega)]
    refine kG.icmp_ge 97 32 dX5_warm_29 (by decide) rfl (fun h29 => ?_) (fun h29 => ?_)
    · exact absurd h29 (nI_ge (by omega) (by omega))
    · refine kG.iload 34 dX5_warm_32 rfl rfl ?_
      refine kG.iload_n 35 dX5_warm_34 rfl rfl ?_
      refine kG.iconst (v := nI 1) 36 dX5_warm_35 (by decide) rfl ?_
      refine kG.iload_n 37 dX5_warm_36 rfl rfl ?_
      refine kG.ishl 38 dX5_warm_37 rfl ?_
      rw [n_shl (by omega)]
      refine kG.ior 39 dX5_warm_38 rfl ?_
      rw [n_or]
      refine kG.iand 40 dX5_warm_39 rfl ?_
      rw [n_and]
      refine kG.if_ne 91 43 dX5_warm_40 (by decide) rfl (fun h40 => ?_) (fun h40 => ?_)
      · have e1 : ¬ i &&& (aA S ||| 2 ^ kx) = 0 := fun z => h40 (by rw [z]; rfl)
        have eW := wmN_f (f := (wmF S kx)) (s := i) (by unfold wmF; rw [decide_eq_false e1]; rfl)
        have eV := congrArg opI eW.symm
        refine kG.iinc (v := nI (i + 1)) 94 dX5_warm_91 rfl (nI_1 i) (by decide) rfl rfl ?_
        dsimp only [List.set]
        refine kG.goto 21 dX5_warm_94 (by decide) ?_
        first
          | (refine kG.sub (kLe_s rfl (kLe_s rfl (kLe_s rfl (kLe_s (v := .int (opI (wmN (wmF S kx) (i + 1)))) (congrArg (fun z => some (Value.int z)) eV) (kLe_s rfl kLe_0))))) (ih (i + 1) _ _ _ (by omega) hq hm3 he3 (fun k hk => by rw [FW_lo f3 k hk, l1 k (by omega)]; exact h4 k hk)); done)
          | (refine kG.sub (kLe_s rfl (kLe_s rfl (kLe_s rfl (kLe_s (v := .int (opI (wmN (wmF S kx) (i + 1)))) (congrArg (fun z => some (Value.int z)) eV) (kLe_s rfl kLe_0))))) (ih (i + 1) _ _ _ (by omega) hq hm h3 h4); done)
      · have e1 : i &&& (aA S ||| 2 ^ kx) = 0 := (nI_eq (b := 0) (by have : i &&& (aA S ||| 2 ^ kx) ≤ i := Nat.and_le_left; omega) (by decide)).mp h40
        have hp5 : pcn i ≤ 5 := pcn_5 (p := kx) (by omega) (and_0.mp e1 kx (by rw [tb_or_pow]; simp))
        refine kG.iload_n 44 dX5_warm_43 rfl rfl ?_
        refine kG.bipush (v := (-9)) 46 dX5_warm_44 (by decide) rfl ?_
        refine kG.icmp_eq 61 49 dX5_warm_46 (by decide) rfl (fun h46 => ?_) (fun h46 => ?_)
        · have hnn : wmN (wmF S kx) i = none := by
            cases hb : wmN (wmF S kx) i with
            | none => rfl
            | some b => rw [hb] at h46; exact absurd h46 (nI_m9 (by have := wmN_lt hb; omega))
          have e2 : pcn i < few (wmN (wmF S kx) i) := by rw [few_n hnn]; omega
          have eS : opI (wmN (wmF S kx) i) = opI (wmN (wmF S kx) i) := rfl
          refine kG.aload_n 62 dX5_warm_61 rfl rfl ?_
          refine kG.iload_n 63 dX5_warm_62 rfl rfl ?_
          refine kG.iload 65 dX5_warm_63 rfl rfl ?_
          refine kG.ior 66 dX5_warm_65 rfl ?_
          rw [n_or]
          refine gG.callV 69 dX5_warm_66 lX5_216 vX5_layAway (m_layAway Γ hm okd (aA S ||| i) (by omega)) rfl rfl ⟨by decide, by decide⟩ rfl ⟨by decide, rfl⟩ ⟨by decide, by decide⟩ (Nat.le_of_ble_eq_true rfl) rfl (fun r66 μ66 q66 hc66 => ?_)
          obtain ⟨rfl, rfl, l1, l2⟩ := hc66
          have le2 : ME S _ := ME_60 h3 l1
          refine kG.aload_n 70 dX5_warm_69 rfl rfl ?_
          refine kG.bipush (v := nI 9) 72 dX5_warm_70 (by decide) rfl ?_
          refine gG.callV 75 dX5_warm_72 lX5_200 vX5_goWeeks (m_goWeeks Γ l2 okd okm 9 (by decide)) rfl rfl ⟨by decide, by decide⟩ rfl ⟨by decide, rfl⟩ ⟨by decide, by decide⟩ (Nat.le_of_ble_eq_true rfl) rfl (fun r72 μ72 q72 hc72 => ?_)
          obtain ⟨rfl, rfl, f3, f4⟩ := hc72
          have hm3 := FW_MC l2 f3
          have he3 := ME_FW le2 f3
          have hcl := chP_le (cfA S (aA S ||| i)) kx 140
          refine kG.aload_n 76 dX5_warm_75 rfl rfl ?_
          refine gG.getP 79 dX5_warm_76 fX5_65 ⟨by decide, by decide⟩ rfl rfl rfl rfl ?_
          refine kG.iload_n 80 dX5_warm_79 rfl rfl ?_
          refine gG.iald (n := 6) _ 81 dX5_warm_80 ⟨by decide, by decide⟩ rfl rfl (by omega) (by decide) rfl ?_
          rw [show _ = nI (chP (cfA S (aA S ||| i)) kx 140) from f4.2.2.1 kx hkx]
          refine kG.if_ne 89 84 dX5_warm_81 (by decide) rfl (fun h81 => ?_) (fun h81 => ?_)
          · have e3 : ¬ chP (cfA S (aA S ||| i)) kx 140 = 0 := fun z => h81 (by rw [z]; rfl)
            have eW := wmN_f (f := (wmF S kx)) (s := i) (by unfold wmF; rw [decide_eq_true e1]; exact decide_eq_false e3)
            have eV := eS.trans (congrArg opI eW.symm)
            refine kG.iload_n 90 dX5_warm_89 rfl rfl ?_
            refine kG.istore_n 91 dX5_warm_90 (by decide) rfl rfl ?_
            dsimp only [List.set]
            refine kG.iinc (v := nI (i + 1)) 94 dX5_warm_91 rfl (nI_1 i) (by decide) rfl rfl ?_
            dsimp only [List.set]
            refine kG.goto 21 dX5_warm_94 (by decide) ?_
            first
              | (refine kG.sub (kLe_s rfl (kLe_s rfl (kLe_s rfl (kLe_s (v := .int (opI (wmN (wmF S kx) (i + 1)))) (congrArg (fun z => some (Value.int z)) eV) (kLe_s rfl kLe_0))))) (ih (i + 1) _ _ _ (by omega) hq hm3 he3 (fun k hk => by rw [FW_lo f3 k hk, l1 k (by omega)]; exact h4 k hk)); done)
              | (refine kG.sub (kLe_s rfl (kLe_s rfl (kLe_s rfl (kLe_s (v := .int (opI (wmN (wmF S kx) (i + 1)))) (congrArg (fun z => some (Value.int z)) eV) (kLe_s rfl kLe_0))))) (ih (i + 1) _ _ _ (by omega) hq hm h3 h4); done)
          · have e3 : chP (cfA S (aA S ||| i)) kx 140 = 0 := (nI_eq (b := 0) (by omega) (by decide)).mp h81
            have eW := wmN_s (f := (wmF S kx)) (s := i) (by unfold wmF; rw [decide_eq_true e1]; exact decide_eq_true e3) e2
            have eV : nI i = opI (wmN (wmF S kx) (i + 1)) := by rw [eW]; rfl
            refine kG.iload 86 dX5_warm_84 rfl rfl ?_
            refine kG.goto 90 dX5_warm_86 (by decide) ?_
            refine kG.istore_n 91 dX5_warm_90 (by decide) rfl rfl ?_
            dsimp only [List.set]
            refine kG.iinc (v := nI (i + 1)) 94 dX5_warm_91 rfl (nI_1 i) (by decide) rfl rfl ?_
            dsimp only [List.set]
            refine kG.goto 21 dX5_warm_94 (by decide) ?_
            first
              | (refine kG.sub (kLe_s rfl (kLe_s rfl (kLe_s rfl (kLe_s (v := .int (opI (wmN (wmF S kx) (i + 1)))) (congrArg (fun z => some (Value.int z)) eV) (kLe_s rfl kLe_0))))) (ih (i + 1) _ _ _ (by omega) hq hm3 he3 (fun k hk => by rw [FW_lo f3 k hk, l1 k (by omega)]; exact h4 k hk)); done)
              | (refine kG.sub (kLe_s rfl (kLe_s rfl (kLe_s rfl (kLe_s (v := .int (opI (wmN (wmF S kx) (i + 1)))) (congrArg (fun z => some (Value.int z)) eV) (kLe_s rfl kLe_0))))) (ih (i + 1) _ _ _ (by omega) hq hm h3 h4); done)
        · obtain ⟨b, hb⟩ : ∃ b, wmN (wmF S kx) i = some b := by
            cases hb : wmN (wmF S kx) i with
            | none => rw [hb] at h46; exact absurd rfl h46
            | some b => exact ⟨b, rfl⟩
          have hbl := wmN_lt hb
          rw [hb]
          have hpb := pcn_le b
          have eS : opI (some b) = opI (wmN (wmF S kx) i) := by rw [hb]
          refine kG.iload 51 dX5_warm_49 rfl rfl ?_
          refine gG.callS 54 dX5_warm_51 lX5_213 vX5_size (m_size Γ 6 i (by omega) (by decide)) rfl rfl ⟨by decide, by decide⟩ (Nat.le_of_ble_eq_true rfl) rfl (fun r51 μ51 q51 hc51 => ?_)
          obtain ⟨rfl, rfl, rfl⟩ := hc51
          refine kG.iload_n 55 dX5_warm_54 rfl rfl ?_
          refine gG.callS 58 dX5_warm_55 lX5_213 vX5_size (m_size Γ 6 b (by omega) (by decide)) rfl rfl ⟨by decide, by decide⟩ (Nat.le_of_ble_eq_true rfl) rfl (fun r55 μ55 q55 hc55 => ?_)
          obtain ⟨rfl, rfl, rfl⟩ := hc55
          rw [show cnt b.testBit 6 = pcn b from rfl, show cnt i.testBit 6 = pcn i from rfl]
          refine kG.icmp_ge 91 61 dX5_warm_58 (by decide) rfl (fun h58 => ?_) (fun h58 => ?_)
          · have e2 := (nI_leI (by omega) (by omega)).mp h58
            have eW := wmN_n (f := (wmF S kx)) hp5 (by rw [hb]; exact e2)
            have eV := eS.trans (congrArg opI eW.symm)
            refine kG.iinc (v := nI (i + 1)) 94 dX5_warm_91 rfl (nI_1 i) (by decide) rfl rfl ?_
            dsimp only [List.set]
            refine kG.goto 21 dX5_warm_94 (by decide) ?_
            first
              | (refine kG.sub (kLe_s rfl (kLe_s rfl (kLe_s rfl (kLe_s (v := .int (opI (wmN (wmF S kx) (i + 1)))) (congrArg (fun z => some (Value.int z)) eV) (kLe_s rfl kLe_0))))) (ih (i + 1) _ _ _ (by omega) hq hm3 he3 (fun k hk => by rw [FW_lo f3 k hk, l1 k (by omega)]; exact h4 k hk)); done)
              | (refine kG.sub (kLe_s rfl (kLe_s rfl (kLe_s rfl (kLe_s (v := .int (opI (wmN (wmF S kx) (i + 1)))) (congrArg (fun z => some (Value.int z)) eV) (kLe_s rfl kLe_0))))) (ih (i + 1) _ _ _ (by omega) hq hm h3 h4); done)
          · have e2 : pcn i < few (wmN (wmF S kx) i) := by rw [hb]; exact Nat.not_le.mp (fun z => h58 (nI_le z (by omega)))
            refine kG.aload_n 62 dX5_warm_61 rfl rfl ?_
            refine kG.iload_n 63 dX5_warm_62 rfl rfl ?_
            refine kG.iload 65 dX5_warm_63 rfl rfl ?_
            refine kG.ior 66 dX5_warm_65 rfl ?_
            rw [n_or]
            refine gG.callV 69 dX5_warm_66 lX5_216 vX5_layAway (m_layAway Γ hm okd (aA S ||| i) (by omega)) rfl rfl ⟨by decide, by decide⟩ rfl ⟨by decide, rfl⟩ ⟨by decide, by decide⟩ (Nat.le_of_ble_eq_true rfl) rfl (fun r66 μ66 q66 hc66 => ?_)
            obtain ⟨rfl, rfl, l1, l2⟩ := hc66
            have le2 : ME S _ := ME_60 h3 l1
            refine kG.aload_n 70 dX5_warm_69 rfl rfl ?_
            refine kG.bipush (v := nI 9) 72 dX5_warm_70 (by decide) rfl ?_
            refine gG.callV 75 dX5_warm_72 lX5_200 vX5_goWeeks (m_goWeeks Γ l2 okd okm 9 (by decide)) rfl rfl ⟨by decide, by decide⟩ rfl ⟨by decide, rfl⟩ ⟨by decide, by decide⟩ (Nat.le_of_ble_eq_true rfl) rfl (fun r72 μ72 q72 hc72 => ?_)
            obtain ⟨rfl, rfl, f3, f4⟩ := hc72
            have hm3 := FW_MC l2 f3
            have he3 := ME_FW le2 f3
            have hcl := chP_le (cfA S (aA S ||| i)) kx 140
            refine kG.aload_n 76 dX5_warm_75 rfl rfl ?_
            refine gG.getP 79 dX5_warm_76 fX5_65 ⟨by decide, by decide⟩ rfl rfl rfl rfl ?_
            refine kG.iload_n 80 dX5_warm_79 rfl rfl ?_
            refine gG.iald (n := 6) _ 81 dX5_warm_80 ⟨by decide, by decide⟩ rfl rfl (by omega) (by decide) rfl ?_
            rw [show _ = nI (chP (cfA S (aA S ||| i)) kx 140) from f4.2.2.1 kx hkx]
            refine kG.if_ne 89 84 dX5_warm_81 (by decide) rfl (fun h81 => ?_) (fun h81 => ?_)
            · have e3 : ¬ chP (cfA S (aA S ||| i)) kx 140 = 0 := fun z => h81 (by rw [z]; rfl)
              have eW := wmN_f (f := (wmF S kx)) (s := i) (by unfold wmF; rw [decide_eq_true e1]; exact decide_eq_false e3)
              have eV := eS.trans (congrArg opI eW.symm)
              refine kG.iload_n 90 dX5_warm_89 rfl rfl ?_
              refine kG.istore_n 91 dX5_warm_90 (by decide) rfl rfl ?_
              dsimp only [List.set]
              refine kG.iinc (v := nI (i + 1)) 94 dX5_warm_91 rfl (nI_1 i) (by decide) rfl rfl ?_
              dsimp only [List.set]
              refine kG.goto 21 dX5_warm_94 (by decide) ?_
              first
                | (refine kG.sub (kLe_s rfl (kLe_s rfl (kLe_s rfl (kLe_s (v := .int (opI (wmN (wmF S kx) (i + 1)))) (congrArg (fun z => some (Value.int z)) eV) (kLe_s rfl kLe_0))))) (ih (i + 1) _ _ _ (by omega) hq hm3 he3 (fun k hk => by rw [FW_lo f3 k hk, l1 k (by omega)]; exact h4 k hk)); done)
                | (refine kG.sub (kLe_s rfl (kLe_s rfl (kLe_s rfl (kLe_s (v := .int (opI (wmN (wmF S kx) (i + 1)))) (congrArg (fun z => some (Value.int z)) eV) (kLe_s rfl kLe_0))))) (ih (i + 1) _ _ _ (by omega) hq hm h3 h4); done)
            · have e3 : chP (cfA S (aA S ||| i)) kx 140 = 0 := (nI_eq (b := 0) (by omega) (by decide)).mp h81
              have eW := wmN_s (f := (wmF S kx)) (s := i) (by unfold wmF; rw [decide_eq_true e1]; exact decide_eq_true e3) e2
              have eV : nI i = opI (wmN (wmF S kx) (i + 1)) := by rw [eW]; rfl
              refine kG.iload 86 dX5_warm_84 rfl rfl ?_
              refine kG.goto 90 dX5_warm_86 (by decide) ?_
              refine kG.istore_n 91 dX5_warm_90 (by decide) rfl rfl ?_
              dsimp only [List.set]
              refine kG.iinc (v := nI (i + 1)) 94 dX5_warm_91 rfl (nI_1 i) (by decide) rfl rfl ?_
              dsimp only [List.set]
              refine kG.goto 21 dX5_warm_94 (by decide) ?_
              first
                | (refine kG.sub (kLe_s rfl (kLe_s rfl (kLe_s rfl (kLe_s (v := .int (opI (wmN (wmF S kx) (i + 1)))) (congrArg (fun z => some (Value.int z)) eV) (kLe_s rfl kLe_0))))) (ih (i + 1) _ _ _ (by omega) hq hm3 he3 (fun k hk => by rw [FW_lo f3 k hk, l1 k (by omega)]; exact h4 k hk)); done)
                | (refine kG.sub (kLe_s rfl (kLe_s rfl (kLe_s rfl (kLe_s (v := .int (opI (wmN (wmF S kx) (i + 1)))) (congrArg (fun z => some (Value.int z)) eV) (kLe_s rfl kLe_0))))) (ih (i + 1) _ _ _ (by omega) hq hm h3 h4); done)
set_option maxHeartbeats 4000000 in
theorem y_warm (Γ : kGm) {S : AS} {μ : kM} {q : kq4} (ok : okS S) (h : MS S μ) (x : Int32) : gC Γ yX5_warm mX5_warm 6 [.ref 49, .int x] μ q (PMi (s_warm S x) (S) μ q) := by
  refine gC.ofG (n := 0) ⟨by decide +kernel, rfl, rfl, by decide⟩ (Nat.le_of_ble_eq_true rfl) ?_
  show gG Γ mX5_warm 6 0 [some (.ref 49), some (.int x), none, none, none] [] μ q _
  have okd := ok.1
  have hH4 := ok.1.1
  have hP6 := ok.1.2.1
  have hc := h.1
  have hp := hc.2.2.2.2.2.1
  have hh := hc.2.2.2.2.1
  refine kG.aload_n 1 dX5_warm_0 rfl rfl ?_
  refine kG.iload_n 2 dX5_warm_1 rfl rfl ?_
  refine gG.callV 5 dX5_warm_2 lX5_158 vX5_isPerson (m_isPerson Γ x (dP (aD S)) hc.2.2.1) rfl rfl ⟨by decide, by decide⟩ rfl ⟨by decide, rfl⟩ ⟨by decide, by decide⟩ (Nat.le_of_ble_eq_true rfl) rfl (fun r2 μ2 q2 hc2 => ?_)
  obtain ⟨rfl, rfl, rfl⟩ := hc2
  refine kG.if_ne 10 8 dX5_warm_5 (by decide) rfl (fun g2 => ?_) (fun g2 => ?_)
  · have hb2 := b2_n0.mp g2
    obtain ⟨kx, hkx, rfl, ex⟩ := inB_t (by omega) hb2
    have hx := hp kx hkx
    have od := okd.2.2.2 kx hkx
    refine kG.aload_n 11 dX5_warm_10 rfl rfl ?_
    refine gG.callV 14 dX5_warm_11 lX5_210 vX5_awayNow (m_awayNow Γ hc okd ok.2.2.2.2.1) rfl rfl ⟨by decide, by decide⟩ rfl ⟨by decide, rfl⟩ ⟨by decide, by decide⟩ (Nat.le_of_ble_eq_true rfl) rfl (fun r11 μ11 q11 hc11 => ?_)
    obtain ⟨rfl, rfl, rfl⟩ := hc11
    refine kG.istore_n 15 dX5_warm_14 (by decide) rfl rfl ?_
    dsimp only [List.set]
    refine kG.bipush (v := (-9)) 17 dX5_warm_15 (by decide) rfl ?_
    refine kG.istore_n 18 dX5_warm_17 (by decide) rfl rfl ?_
    dsimp only [List.set]
    refine kG.iconst (v := nI 0) 19 dX5_warm_18 (by decide) rfl ?_
    refine kG.istore 21 dX5_warm_19 (by decide) rfl rfl ?_
    dsimp only [List.set]
    exact warm_l Γ ok hkx _ _ (2 ^ dP (aD S)) 0 _ _ _ (by omega) rfl hc h.2 (fun _ _ => rfl)
  · have hb2 := b2_0.mp g2
    refine kG.iconst (v := (-1)) 9 dX5_warm_8 (by decide) rfl ?_
    refine gG.iret dX5_warm_9 rfl ?_
    exact ⟨by unfold s_warm; rw [if_neg (by rw [hb2]; decide)], h, rfl, fun _ _ => rfl⟩
