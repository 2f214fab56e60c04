theorem l_shl : ∀ p, p < 7 → (1 : Int64) <<< ((nI p).toInt64 &&& 63) = lN (2 ^ p) := by decide +kernel
theorem l_01 {a : Nat} {z : Int32} (h : bt z 0 1 = true) : z.toInt64 = shN a 0 (decide (z = nI 0)) := by
  obtain ⟨k, h1, h2, rfl, -⟩ := bt_t (by decide) (by decide) h
  rcases (by omega : k = 0 ∨ k = 1) with rfl | rfl
  · rfl
  · rfl
set_option maxHeartbeats 4000000 in
theorem modds_l (Γ : kGm) {S : AS} (ok : okS S) (hP : 0 < dP (aD S)) {ky : Nat} (hky : ky < 10) {z : Int32} (hz : bt z 0 1 = true) (μ0 : kM) (q0 : kq4) : ∀ (m i : Nat) (μ1 : kM) (q : kq4) (a0 : Nat), i + m = 2 ^ dP (aD S) → (q = q0) → (MC (aD S) (aS S) a0 (aG S) μ1) → (ME S μ1) → (∀ k, k < 49 → μ1 k = μ0 k) → gG Γ mX5_odds 6 38 [some (.ref 49), some (.int (nI ky)), some (.int z), some (.int (nI (aA S))), some (.int (nI (cnt (odF S ((ky + 1) * 14)) i))), some (.int (nI i))] [] (μ1) q (PMl (s_odds S (nI ky) z) S μ0 q0) := by
  intro m
  induction m with
  | zero =>
    intro i μ1 q a0 hm hq hm h3 h4
    have okd := ok.1
    have hH4 := ok.1.1
    have hP6 := ok.1.2.1
    have okm := okM_S ok hP
    have h64 := full_64 ok
    have h1p : 1 ≤ 2 ^ dP (aD S) := Nat.one_le_two_pow
    have ha := aA_64 ok
    have hcl := cnt_le (odF S ((ky + 1) * 14)) i
    refine kG.iload 40 dX5_odds_38 rfl rfl ?_
    refine kG.iconst (v := nI 1) 41 dX5_odds_40 (by decide) rfl ?_
    refine kG.aload_n 42 dX5_odds_41 rfl rfl ?_
    refine gG.getI 45 dX5_odds_42 fX5_96 ⟨by decide, by decide⟩ rfl rfl rfl ?_
    rw [hm.2.2.1]
    refine kG.ishl 46 dX5_odds_45 rfl ?_
    rw [n_shl (by omega)]
    refine kG.icmp_ge 83 49 dX5_odds_46 (by decide) rfl (fun h46 => ?_) (fun h46 => ?_)
    · refine kG.aload_n 84 dX5_odds_83 rfl rfl ?_
      refine kG.iload_n 85 dX5_odds_84 rfl rfl ?_
      refine gG.callV 88 dX5_odds_85 lX5_216 vX5_layAway (m_layAway Γ hm okd (aA S) (by omega)) rfl rfl ⟨by decide, by decide⟩ rfl ⟨by decide, rfl⟩ ⟨by decide, by decide⟩ (Nat.le_of_ble_eq_true rfl) rfl (fun r85 μ85 q85 hc85 => ?_)
      obtain ⟨rfl, rfl, l1, l2⟩ := hc85
      refine kG.iload 90 dX5_odds_88 rfl rfl ?_
      refine kG.i2l 91 dX5_odds_90 rfl ?_
      rw [nI_l (by omega)]
      refine kG.lconst (v := 1) 92 dX5_odds_91 (by decide) rfl ?_
      refine kG.aload_n 93 dX5_odds_92 rfl rfl ?_
      refine gG.getI 96 dX5_odds_93 fX5_96 ⟨by decide, by decide⟩ rfl rfl rfl ?_
      rw [l2.2.2.1]
      refine kG.lshl 97 dX5_odds_96 rfl ?_
      rw [l_shl (dP (aD S)) (by omega)]
      refine kG.iload_n 98 dX5_odds_97 rfl rfl ?_
      refine gG.callS 101 dX5_odds_98 lX5_229 vX5_inLeastTerms (m_inLeast Γ (u := cnt (odF S ((ky + 1) * 14)) i) (d := 2 ^ dP (aD S)) (by omega) (by omega) (by omega) z) rfl rfl ⟨by decide, by decide⟩ (Nat.le_of_ble_eq_true rfl) rfl (fun r98 μ98 q98 hc98 => ?_)
      obtain ⟨rfl, rfl, rfl⟩ := hc98
      refine gG.lret dX5_odds_101 rfl ?_
      refine ⟨?_, ⟨l2, ME_60 h3 l1⟩, hq, fun k hk => by rw [l1 k (by omega)]; exact h4 k hk⟩
      unfold s_odds
      rw [inB_n (by omega) hky, hz, decide_eq_false (show ¬ dP (aD S) = 0 by omega), if_pos (by decide), ixn_n (by omega), show i = 2 ^ dP (aD S) by omega]
    · exact absurd (nI_le (by omega) (by omega)) h46
  | succ m ih =>
    intro i μ1 q a0 hm hq hm h3 h4
    have okd := ok.1
    have hH4 := ok.1.1
    have hP6 := ok.1.2.1
    have okm := okM_S ok hP
    have h64 := full_64 ok
    have h1p : 1 ≤ 2 ^ dP (aD S) := Nat.one_le_two_pow
    have ha := aA_64 ok
    refine kG.iload 40 dX5_odds_38 rfl rfl ?_
    refine kG.iconst (v := nI 1) 41 dX5_odds_40 (by decide) rfl ?_
    refine kG.aload_n 42 dX5_odds_41 rfl rfl ?_
    refine gG.getI 45 dX5_odds_42 fX5_96 ⟨by decide, by decide⟩ rfl rfl rfl ?_
    rw [hm.2.2.1]
    refine kG.ishl 46 dX5_odds_45 rfl ?_
    rw [n_shl (by omega)]
    refine kG.icmp_ge 83 49 dX5_odds_46 (by decide) rfl (fun h46 => ?_) (fun h46 => ?_)
    · exact absurd h46 (nI_ge (by omega) (by omega))
    · refine kG.aload_n 50 dX5_odds_49 rfl rfl ?_
      refine kG.iload 52 dX5_odds_50 rfl rfl ?_
      refine gG.callV 55 dX5_odds_52 lX5_216 vX5_layAway (m_layAway Γ hm okd i (by omega)) rfl rfl ⟨by decide, by decide⟩ rfl ⟨by decide, rfl⟩ ⟨by decide, by decide⟩ (Nat.le_of_ble_eq_true rfl) rfl (fun r52 μ52 q52 hc52 => ?_)
      obtain ⟨rfl, rfl, l1, l2⟩ := hc52
      have le2 : ME S _ := ME_60 h3 l1
      refine kG.aload_n 56 dX5_odds_55 rfl rfl ?_
      refine kG.iload_n 57 dX5_odds_56 rfl rfl ?_
      refine gG.callV 60 dX5_odds_57 lX5_200 vX5_goWeeks (m_goWeeks Γ l2 okd okm ky hky) rfl rfl ⟨by decide, by decide⟩ rfl ⟨by decide, rfl⟩ ⟨by decide, by decide⟩ (Nat.le_of_ble_eq_true rfl) rfl (fun r57 μ57 q57 hc57 => ?_)
      obtain ⟨rfl, rfl, f3, f4⟩ := hc57
      have hm3 := FW_MC l2 f3
      have he3 := ME_FW le2 f3
      have hal : allC (cfA S i) ((ky + 1) * 14) ≤ ((ky + 1) * 14) * dP (aD S) := smN_le (X := fun p => chP (cfA S i) p ((ky + 1) * 14)) (b := ((ky + 1) * 14)) (dP (aD S)) (fun p _ => chP_le (cfA S i) p ((ky + 1) * 14))
      refine kG.iload 62 dX5_odds_60 rfl rfl ?_
      refine kG.aload_n 63 dX5_odds_62 rfl rfl ?_
      refine gG.callV 66 dX5_odds_63 lX5_203 vX5_allChills (m_allChills Γ hm3 okd _ f4.2.2.1) rfl rfl ⟨by decide, by decide⟩ rfl ⟨by decide, rfl⟩ ⟨by decide, by decide⟩ (Nat.le_of_ble_eq_true rfl) rfl (fun r63 μ63 q63 hc63 => ?_)
      obtain ⟨rfl, rfl, rfl⟩ := hc63
      rw [show smN (fun p => chP (cM (aD S) (aS S) i (aG S)) p ((ky + 1) * 14)) (dP (aD S)) = allC (cfA S i) ((ky + 1) * 14) from rfl]
      refine kG.if_ne 73 69 dX5_odds_66 (by decide) rfl (fun h66 => ?_) (fun h66 => ?_)
      · have hb : (odF S ((ky + 1) * 14)) i = false := decide_eq_false (fun z => h66 (by rw [z]; rfl))
        refine kG.iconst (v := nI 0) 74 dX5_odds_73 (by decide) rfl ?_
        refine kG.iadd 75 dX5_odds_74 rfl ?_
        rw [nI_add]
        refine kG.istore 77 dX5_odds_75 (by decide) rfl rfl ?_
        dsimp only [List.set]
        refine kG.iinc (v := nI (i + 1)) 80 dX5_odds_77 rfl (nI_1 i) (by decide) rfl rfl ?_
        dsimp only [List.set]
        refine kG.goto 38 dX5_odds_80 (by decide) ?_
        refine kG.sub (kLe_s rfl (kLe_s rfl (kLe_s rfl (kLe_s rfl (kLe_s (v := .int (nI (cnt (odF S ((ky + 1) * 14)) (i + 1)))) (by rw [cnt, hb]; rfl) (kLe_s rfl kLe_0)))))) (ih (i + 1) _ _ _ (by omega) hq hm3 he3 (fun k hk => by rw [FW_lo f3 k hk, l1 k (by omega)]; exact h4 k hk))
      · have hb : (odF S ((ky + 1) * 14)) i = true := decide_eq_true ((nI_eq (b := 0) (by have : ky + 1 ≤ 10 := hky; have := Nat.mul_le_mul (Nat.mul_le_mul_right 14 this) hP6; omega) (by decide)).mp h66)
        refine kG.iconst (v := nI 1) 70 dX5_odds_69 (by decide) rfl ?_
        refine kG.goto 74 dX5_odds_70 (by decide) ?_
        refine kG.iadd 75 dX5_odds_74 rfl ?_
        rw [nI_add]
        refine kG.istore 77 dX5_odds_75 (by decide) rfl rfl ?_
        dsimp only [List.set]
        refine kG.iinc (v := nI (i + 1)) 80 dX5_odds_77 rfl (nI_1 i) (by decide) rfl rfl ?_
        dsimp only [List.set]
        refine kG.goto 38 dX5_odds_80 (by decide) ?_
        refine kG.sub (kLe_s rfl (kLe_s rfl (kLe_s rfl (kLe_s rfl (kLe_s (v := .int (nI (cnt (odF S ((ky + 1) * 14)) (i + 1)))) (by rw [cnt, hb]; rfl) (kLe_s rfl kLe_0)))))) (ih (i + 1) _ _ _ (by omega) hq hm3 he3 (fun k hk => by rw [FW_lo f3 k hk, l1 k (by omega)]; exact h4 k hk))
set_option maxHeartbeats 4000000 in
theorem y_odds (Γ : kGm) {S : AS} {μ : kM} {q : kq4} (ok : okS S) (h : MS S μ) (y : Int32) (z : Int32) : gC Γ yX5_odds mX5_odds 6 [.ref 49, .int y, .int z] μ q (PMl (s_odds S y z) (S) μ q) := by
  refine gC.ofG (n := 0) ⟨by decide +kernel, rfl, rfl, by decide⟩ (Nat.le_of_ble_eq_true rfl) ?_
  show gG Γ mX5_odds 6 0 [some (.ref 49), some (.int y), some (.int z), none, none, none] [] μ q _
  have okd := ok.1
  have hH4 := ok.1.1
  have hP6 := ok.1.2.1
  have hc := h.1
  have hp := hc.2.2.2.2.2.1
  have hh := hc.2.2.2.2.1
  refine kG.iload_n 1 dX5_odds_0 rfl rfl ?_
  refine gG.callS 4 dX5_odds_1 lX5_164 vX5_isWeek (m_isWeek Γ y) rfl rfl ⟨by decide, by decide⟩ (Nat.le_of_ble_eq_true rfl) rfl (fun r1 μ1 q1 hc1 => ?_)
  obtain ⟨rfl, rfl, rfl⟩ := hc1
  refine kG.if_eq 23 7 dX5_odds_4 (by decide) rfl (fun h4 => ?_) (fun h4 => ?_)
  · have hb := b2_0.mp h4
    have hb : (inB y 10 && bt z 0 1 && !decide (dP (aD S) = 0)) = false := by rw [hb]; rfl
    refine kG.ldc2 26 dX5_odds_23 kX5_87 rfl ?_
    refine gG.lret dX5_odds_26 rfl ?_
    refine ⟨?_, h, rfl, fun _ _ => rfl⟩
    unfold s_odds
    rw [if_neg (by rw [hb]; decide)]
  · have hb2 := b2_n0.mp h4
    refine kG.iload_n 8 dX5_odds_7 rfl rfl ?_
    refine kG.iconst (v := nI 0) 9 dX5_odds_8 (by decide) rfl ?_
    refine kG.iconst (v := nI 1) 10 dX5_odds_9 (by decide) rfl ?_
    refine gG.callS 13 dX5_odds_10 lX5_89 vX5_within (m_within Γ z 0 1) rfl rfl ⟨by decide, by decide⟩ (Nat.le_of_ble_eq_true rfl) rfl (fun r10 μ10 q10 hc10 => ?_)
    obtain ⟨rfl, rfl, rfl⟩ := hc10
    refine kG.if_eq 23 16 dX5_odds_13 (by decide) rfl (fun h13 => ?_) (fun h13 => ?_)
    · have hb := b2_0.mp h13
      have hb : (inB y 10 && bt z 0 1 && !decide (dP (aD S) = 0)) = false := by rw [hb, Bool.and_false]; rfl
      refine kG.ldc2 26 dX5_odds_23 kX5_87 rfl ?_
      refine gG.lret dX5_odds_26 rfl ?_
      refine ⟨?_, h, rfl, fun _ _ => rfl⟩
      unfold s_odds
      rw [if_neg (by rw [hb]; decide)]
    · have hz := b2_n0.mp h13
      refine kG.aload_n 17 dX5_odds_16 rfl rfl ?_
      refine gG.getI 20 dX5_odds_17 fX5_96 ⟨by decide, by decide⟩ rfl rfl rfl ?_
      rw [hc.2.2.1]
      refine kG.if_ne 27 23 dX5_odds_20 (by decide) rfl (fun h20 => ?_) (fun h20 => ?_)
      · have hP : 0 < dP (aD S) := Nat.pos_of_ne_zero (fun z => h20 (by rw [z]; rfl))
        obtain ⟨ky, hky, rfl, ey⟩ := inB_t (by decide) hb2
        refine kG.aload_n 28 dX5_odds_27 rfl rfl ?_
        refine gG.callV 31 dX5_odds_28 lX5_210 vX5_awayNow (m_awayNow Γ hc okd ok.2.2.2.2.1) rfl rfl ⟨by decide, by decide⟩ rfl ⟨by decide, rfl⟩ ⟨by decide, by decide⟩ (Nat.le_of_ble_eq_true rfl) rfl (fun r28 μ28 q28 hc28 => ?_)
        obtain ⟨rfl, rfl, rfl⟩ := hc28
        refine kG.istore_n 32 dX5_odds_31 (by decide) rfl rfl ?_
        dsimp only [List.set]
        refine kG.iconst (v := nI 0) 33 dX5_odds_32 (by decide) rfl ?_
        refine kG.istore 35 dX5_odds_33 (by decide) rfl rfl ?_
        dsimp only [List.set]
        refine kG.iconst (v := nI 0) 36 dX5_odds_35 (by decide) rfl ?_
        refine kG.istore 38 dX5_odds_36 (by decide) rfl rfl ?_
        dsimp only [List.set]
        exact modds_l Γ ok hP hky hz _ _ (2 ^ dP (aD S)) 0 _ _ _ (by omega) rfl hc h.2 (fun _ _ => rfl)
      · have hb : dP (aD S) = 0 := (nI_eq (b := 0) (by omega) (by decide)).mp h20
        have hb : (inB y 10 && bt z 0 1 && !decide (dP (aD S) = 0)) = false := by rw [decide_eq_true hb, show (!true) = false from rfl, Bool.and_false]
        refine kG.ldc2 26 dX5_odds_23 kX5_87 rfl ?_
        refine gG.lret dX5_odds_26 rfl ?_
        refine ⟨?_, h, rfl, fun _ _ => rfl⟩
        unfold s_odds
        rw [if_neg (by rw [hb]; decide)]
set_option maxHeartbeats 4000000 in
theorem mpays_l (Γ : kGm) {S : AS} (ok : okS S) {kx ky : Nat} (hkx : kx < dP (aD S)) (hky : ky < 10) {z : Int32} (hz : bt z 0 1 = true) (μ0 : kM) (q0 : kq4) : ∀ (m i : Nat) (μ1 : kM) (q : kq4), i + m = dP (aD S) → (MS S μ1) → (q = q0) → (∀ k, k < 49 → μ1 k = μ0 k) → gG Γ mX5_pays 8 34 [some (.ref 49), some (.int (nI kx)), some (.int (nI ky)), some (.int z), some (.long (lN (smN (fun p => lwN S p ((ky + 1) * 14)) i))), none, some (.int (nI i))] [] (μ1) q (PMl (s_pays S (nI kx) (nI ky) z) S μ0 q0) := by
  intro m
  induction m with
  | zero =>
    intro i μ1 q hm h hq h4
    have hP6 := ok.1.2.1
    have hP : 0 < dP (aD S) := by omega
    have hb1 := smN_le (X := (fun p => lwN S p ((ky + 1) * 14))) (b := 360) i (fun p _ => lw_le ok hP)
    refine kG.iload 36 dX5_pays_34 rfl rfl ?_
    refine kG.aload_n 37 dX5_pays_36 rfl rfl ?_
    refine gG.getI 40 dX5_pays_37 fX5_96 ⟨by decide, by decide⟩ rfl rfl rfl ?_
    rw [h.1.2.2.1]
    refine kG.icmp_ge 62 43 dX5_pays_40 (by decide) rfl (fun h40 => ?_) (fun h40 => ?_)
    · refine kG.lload 64 dX5_pays_62 rfl rfl ?_
      refine kG.lconst (v := 0) 65 dX5_pays_64 (by decide) rfl ?_
      refine kG.lcmp 66 dX5_pays_65 rfl ?_
      refine kG.if_ne 74 69 dX5_pays_66 (by decide) rfl (fun h66 => ?_) (fun h66 => ?_)
      · have hs : ¬ smN (fun p => lwN S p ((ky + 1) * 14)) i = 0 := fun z => h66 ((cmp_0 (by omega)).mpr z)
        refine kG.aload_n 75 dX5_pays_74 rfl rfl ?_
        refine kG.iload_n 76 dX5_pays_75 rfl rfl ?_
        refine kG.iload_n 77 dX5_pays_76 rfl rfl ?_
        refine gG.callV 80 dX5_pays_77 lX5_225 vX5_lessWear (m_lessWear Γ ok h kx ky hkx hky) rfl rfl ⟨by decide, by decide⟩ rfl ⟨by decide, rfl⟩ ⟨by decide, by decide⟩ (Nat.le_of_ble_eq_true rfl) rfl (fun r77 μ77 q77 hc77 => ?_)
        obtain ⟨rfl, c2, c3, c4⟩ := hc77
        have hb2 := lw_le ok (p := kx) (T := ((ky + 1) * 14)) hP
        refine kG.i2l 81 dX5_pays_80 rfl ?_
        rw [nI_l (by omega)]
        refine kG.lload 83 dX5_pays_81 rfl rfl ?_
        refine kG.iload_n 84 dX5_pays_83 rfl rfl ?_
        refine gG.callS 87 dX5_pays_84 lX5_229 vX5_inLeastTerms (m_inLeast Γ (u := lwN S kx ((ky + 1) * 14)) (d := smN (fun p => lwN S p ((ky + 1) * 14)) i) (by omega) (by omega) (by omega) z) rfl rfl ⟨by decide, by decide⟩ (Nat.le_of_ble_eq_true rfl) rfl (fun r84 μ84 q84 hc84 => ?_)
        obtain ⟨rfl, rfl, rfl⟩ := hc84
        refine gG.lret dX5_pays_87 rfl ?_
        refine ⟨?_, c2, c3.trans hq, fun k hk => by rw [c4 k hk]; exact h4 k hk⟩
        unfold s_pays
        rw [inB_n (by omega) hkx, inB_n (by omega) hky, hz, if_pos (by decide), ixn_n (by omega), ixn_n (by omega), show dP (aD S) = i by omega]
      · have hs : smN (fun p => lwN S p ((ky + 1) * 14)) i = 0 := (cmp_0 (by omega)).mp h66
        refine kG.iload_n 70 dX5_pays_69 rfl rfl ?_
        refine kG.i2l 71 dX5_pays_70 rfl ?_
        refine kG.goto 87 dX5_pays_71 (by decide) ?_
        refine gG.lret dX5_pays_87 rfl ?_
        refine ⟨?_, h, hq, h4⟩
        unfold s_pays
        rw [inB_n (by omega) hkx, inB_n (by omega) hky, hz, if_pos (by decide), ixn_n (by omega), ixn_n (by omega), show dP (aD S) = i by omega, hs, ← l_01 hz]
    · exact absurd (nI_le (by omega) (by omega)) h40
  | succ m ih =>
    intro i μ1 q hm h hq h4
    have hP6 := ok.1.2.1
    have hP : 0 < dP (aD S) := by omega
    have hb1 := smN_le (X := (fun p => lwN S p ((ky + 1) * 14))) (b := 360) i (fun p _ => lw_le ok hP)
    refine kG.iload 36 dX5_pays_34 rfl rfl ?_
    refine kG.aload_n 37 dX5_pays_36 rfl rfl ?_
    refine gG.getI 40 dX5_pays_37 fX5_96 ⟨by decide, by decide⟩ rfl rfl rfl ?_
    rw [h.1.2.2.1]
    refine kG.icmp_ge 62 43 dX5_pays_40 (by decide) rfl (fun h40 => ?_) (fun h40 => ?_)
    · exact absurd h40 (nI_ge (by omega) (by omega))
    · refine kG.lload 45 dX5_pays_43 rfl rfl ?_
      refine kG.aload_n 46 dX5_pays_45 rfl rfl ?_
      refine kG.iload 48 dX5_pays_46 rfl rfl ?_
      refine kG.iload_n 49 dX5_pays_48 rfl rfl ?_
      refine gG.callV 52 dX5_pays_49 lX5_225 vX5_lessWear (m_lessWear Γ ok h i ky (by omega) hky) rfl rfl ⟨by decide, by decide⟩ rfl ⟨by decide, rfl⟩ ⟨by decide, by decide⟩ (Nat.le_of_ble_eq_true rfl) rfl (fun r49 μ49 q49 hc49 => ?_)
      obtain ⟨rfl, c2, c3, c4⟩ := hc49
      have hb2 := lw_le ok (p := i) (T := ((ky + 1) * 14)) hP
      refine kG.i2l 53 dX5_pays_52 rfl ?_
      rw [nI_l (by omega)]
      refine kG.ladd 54 dX5_pays_53 rfl ?_
      rw [lN_add]
      refine kG.lstore 56 dX5_pays_54 (by decide) rfl rfl ?_
      dsimp only [List.set]
      refine kG.iinc (v := nI (i + 1)) 59 dX5_pays_56 rfl (nI_1 i) (by decide) rfl rfl ?_
      dsimp only [List.set]
      refine kG.goto 34 dX5_pays_59 (by decide) ?_
      exact ih (i + 1) _ _ (by omega) c2 (c3.trans hq) (fun k hk => by rw [c4 k hk]; exact h4 k hk)
set_option maxHeartbeats 4000000 in
theorem y_pays (Γ : kGm) {S : AS} {μ : kM} {q : kq4} (ok : okS S) (h : MS S μ) (x : Int32) (y : Int32) (z : Int32) : gC Γ yX5_pays mX5_pays 8 [.ref 49, .int x, .int y, .int z] μ q (PMl (s_pays S x y z) (S) μ q) := by
  refine gC.ofG (n := 0) ⟨by decide +kernel, rfl, rfl, by decide⟩ (Nat.le_of_ble_eq_true rfl) ?_
  show gG Γ mX5_pays 8 0 [some (.ref 49), some (.int x), some (.int y), some (.int z), none, none, none] [] μ q _
  have okd := ok.1
  have hH4 := ok.1.1
  have hP6 := ok.1.2.1
  have hc := h.1
  have hp := hc.2.2.2.2.2.1
  have hh := hc.2.2.2.2.1
  refine kG.aload_n 1 dX5_pays_0 rfl rfl ?_
  refine kG.iload_n 2 dX5_pays_1 rfl rfl ?_
  refine gG.callV 5 dX5_pays_2 lX5_158 vX5_isPerson (m_isPerson Γ x (dP (aD S)) hc.2.2.1) rfl rfl ⟨by decide, by decide⟩ rfl ⟨by decide, rfl⟩ ⟨by decide, by decide⟩ (Nat.le_of_ble_eq_true rfl) rfl (fun r2 μ2 q2 hc2 => ?_)
  obtain ⟨rfl, rfl, rfl⟩ := hc2
  refine kG.if_eq 24 8 dX5_pays_5 (by decide) rfl (fun h5 => ?_) (fun h5 => ?_)
  · have hb := b2_0.mp h5
    have hb : (inB x (dP (aD S)) && inB y 10 && bt z 0 1) = false := by rw [hb]; rfl
    refine kG.ldc2 27 dX5_pays_24 kX5_87 rfl ?_
    refine gG.lret dX5_pays_27 rfl ?_
    refine ⟨?_, h, rfl, fun _ _ => rfl⟩
    unfold s_pays
    rw [if_neg (by rw [hb]; decide)]
  · have hb2 := b2_n0.mp h5
    refine kG.iload_n 9 dX5_pays_8 rfl rfl ?_
    refine gG.callS 12 dX5_pays_9 lX5_164 vX5_isWeek (m_isWeek Γ y) rfl rfl ⟨by decide, by decide⟩ (Nat.le_of_ble_eq_true rfl) rfl (fun r9 μ9 q9 hc9 => ?_)
    obtain ⟨rfl, rfl, rfl⟩ := hc9
    refine kG.if_eq 24 15 dX5_pays_12 (by decide) rfl (fun h12 => ?_) (fun h12 => ?_)
    · have hb := b2_0.mp h12
      have hb : (inB x (dP (aD S)) && inB y 10 && bt z 0 1) = false := by rw [hb, Bool.and_false]; rfl
      refine kG.ldc2 27 dX5_pays_24 kX5_87 rfl ?_
      refine gG.lret dX5_pays_27 rfl ?_
      refine ⟨?_, h, rfl, fun _ _ => rfl⟩
      unfold s_pays
      rw [if_neg (by rw [hb]; decide)]
    · have hb9 := b2_n0.mp h12
      refine kG.iload_n 16 dX5_pays_15 rfl rfl ?_
      refine kG.iconst (v := nI 0) 17 dX5_pays_16 (by decide) rfl ?_
      refine kG.iconst (v := nI 1) 18 dX5_pays_17 (by decide) rfl ?_
      refine gG.callS 21 dX5_pays_18 lX5_89 vX5_within (m_within Γ z 0 1) rfl rfl ⟨by decide, by decide⟩ (Nat.le_of_ble_eq_true rfl) rfl (fun r18 μ18 q18 hc18 => ?_)
      obtain ⟨rfl, rfl, rfl⟩ := hc18
      refine kG.if_ne 28 24 dX5_pays_21 (by decide) rfl (fun h21 => ?_) (fun h21 => ?_)
      · have hz := b2_n0.mp h21
        obtain ⟨kx, hkx, rfl, ex⟩ := inB_t (by omega) hb2
        obtain ⟨ky, hky, rfl, ey⟩ := inB_t (by decide) hb9
        refine kG.lconst (v := 0) 29 dX5_pays_28 (by decide) rfl ?_
        refine kG.lstore 31 dX5_pays_29 (by decide) rfl rfl ?_
        dsimp only [List.set]
        refine kG.iconst (v := nI 0) 32 dX5_pays_31 (by decide) rfl ?_
        refine kG.istore 34 dX5_pays_32 (by decide) rfl rfl ?_
        dsimp only [List.set]
        exact mpays_l Γ ok hkx hky hz _ _ (dP (aD S)) 0 _ _ (by omega) h rfl (fun _ _ => rfl)
      · have hb := b2_0.mp h21
        have hb : (inB x (dP (aD S)) && inB y 10 && bt z 0 1) = false := by rw [hb, Bool.and_false]
        refine kG.ldc2 27 dX5_pays_24 kX5_87 rfl ?_
        refine gG.lret dX5_pays_27 rfl ?_
        refine ⟨?_, h, rfl, fun _ _ => rfl⟩
        unfold s_pays
        rw [if_neg (by rw [hb]; decide)]
