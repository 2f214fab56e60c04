theorem ME_sn {S : AS} {μ : kM} {v : Int32} (h : ME S μ) : ME S (uI μ 49 5 v) := ME_fr h (fun j hj => uI_ne (Or.inr (by omega))) (fun k hk => uI_off (by omega))
theorem okM_v {D : Dt} {sn v : Nat} {G : Kp} (h : okM D sn G) (hv : 1 ≤ v ∧ v ≤ 13) : okM D v G := ⟨h.1, hv.1, hv.2, h.2.2.2⟩
def dK (D : Dt) (p k : Nat) : Dt := (D.1, D.2.1, D.2.2.1, D.2.2.2.1, fu (dkd D) p k, D.2.2.2.2.2)
theorem dK_id (D : Dt) (p : Nat) : dK D p (dkd D p) = D := by unfold dK; rw [fu_id]
theorem okM_k {D : Dt} {sn p k : Nat} {G : Kp} (h : okM D sn G) (hk : k ≤ 2) : okM (dK D p k) sn G := by
  refine ⟨⟨h.1.1, h.1.2.1, h.1.2.2.1, fun i hi => ?_⟩, h.2⟩
  have z := h.1.2.2.2 i hi
  refine ⟨?_, z.2⟩
  show fu (dkd D) p k i ≤ 2
  by_cases e : i = p
  · subst e; rw [fu_s]; exact hk
  · rw [fu_n e]; exact z.1
theorem cM_k {D : Dt} {sn aw p k : Nat} {G : Kp} : cM (dK D p k) sn aw G = cfW D sn (fu (waS D) p (wan k (dbu D p))) aw G 9 0 := by
  have e : waS (dK D p k) = fu (waS D) p (wan k (dbu D p)) := by
    funext i
    show wan (fu (dkd D) p k i) (dbu D i) = _
    by_cases e : i = p
    · subst e; rw [fu_s, fu_s]
    · rw [fu_n e, fu_n e]; rfl
  unfold cM
  rw [e]
  rfl
theorem MC_kd {D : Dt} {sn aw p a k : Nat} {G : Kp} {μ : kM} (h : MC (dK D p a) sn aw G μ) : MC (dK D p k) sn aw G (uI μ 55 p (nI k)) := by
  have f2 : ∀ j, j ≠ 55 → uI μ 55 p (nI k) j = μ j := fun j hj => uI_off hj
  obtain ⟨h1, h2, h3, h4, h5, h6, h7, h8⟩ := h
  refine ⟨by rw [f2 49 (by decide)]; exact h1, by rw [f2 49 (by decide)]; exact h2, by rw [f2 49 (by decide)]; exact h3, by rw [f2 49 (by decide)]; exact h4, ?_, fun i hi => ?_, ?_, ?_⟩
  · rw [f2 53 (by decide), f2 54 (by decide)]; exact h5
  · have z := h6 i hi
    rw [f2 56 (by decide), f2 57 (by decide), f2 58 (by decide), f2 59 (by decide)]
    refine ⟨?_, z.2⟩
    show uI μ 55 p (nI k) 55 i = nI (fu (dkd D) p k i)
    by_cases e : i = p
    · subst e; rw [uI_same, fu_s]
    · rw [uI_ne (Or.inr e), fu_n e]
      have z1 : μ 55 i = nI (fu (dkd D) p a i) := z.1
      rw [fu_n e] at z1
      exact z1
  · rw [f2 60 (by decide)]; exact h7
  · rw [f2 63 (by decide), f2 64 (by decide), f2 65 (by decide)]; exact h8
set_option maxHeartbeats 4000000 in
theorem seams_l (Γ : kGm) {S : AS} (ok : okS S) (hP : 0 < dP (aD S)) (μ0 : kM) (q0 : kq4) : ∀ (m i : Nat) (μ1 : kM) (q : kq4) (s0 : Nat), i + m = 13 → (q = q0) → (MC (aD S) s0 (aA S) (aG S) μ1) → (ME S μ1) → (∀ k, k < 49 → μ1 k = μ0 k) → gG Γ mX5_seams 6 19 [some (.ref 49), some (.int (nI (aS S))), some (.int (nI (mk (fun v => decide (1 ≤ v) && rdS S (cfV S v)) (i + 1)))), some (.int (nI (i + 1)))] [] (μ1) q (PMi (s_seams S) S μ0 q0) := by
  intro m
  induction m with
  | zero =>
    intro i μ1 q s0 hm hq hm h3 h4
    have okr := ok.2.2.2.2.2.2.1.1
    have hr8 := ok.2.2.2.2.2.2.1.2
    have okd := ok.1
    have hH4 := ok.1.1
    have hP6 := ok.1.2.1
    have okm := okM_S ok hP
    refine kG.iload_n 20 dX5_seams_19 rfl rfl ?_
    refine kG.bipush (v := nI 13) 22 dX5_seams_20 (by decide) rfl ?_
    refine kG.icmp_gt 53 25 dX5_seams_22 (by decide) rfl (fun h22 => ?_) (fun h22 => ?_)
    · refine kG.aload_n 54 dX5_seams_53 rfl rfl ?_
      refine kG.iload_n 55 dX5_seams_54 rfl rfl ?_
      refine gG.putI 58 dX5_seams_55 fX5_123 ⟨by decide, by decide⟩ rfl rfl rfl ⟨rfl, rfl⟩ rfl ?_
      refine kG.iload_n 59 dX5_seams_58 rfl rfl ?_
      refine gG.iret dX5_seams_59 rfl ?_
      refine ⟨?_, ⟨MC_sn (aS S) hm, ME_sn h3⟩, hq, fun k hk => by rw [uI_off (by omega)]; exact h4 k hk⟩
      unfold s_seams
      rw [if_neg (by omega), show (14 : Nat) = i + 1 by omega]
    · exact absurd (nI_lt (by omega) (by omega)) h22
  | succ m ih =>
    intro i μ1 q s0 hm hq hm h3 h4
    have okr := ok.2.2.2.2.2.2.1.1
    have hr8 := ok.2.2.2.2.2.2.1.2
    have okd := ok.1
    have hH4 := ok.1.1
    have hP6 := ok.1.2.1
    have okm := okM_S ok hP
    refine kG.iload_n 20 dX5_seams_19 rfl rfl ?_
    refine kG.bipush (v := nI 13) 22 dX5_seams_20 (by decide) rfl ?_
    refine kG.icmp_gt 53 25 dX5_seams_22 (by decide) rfl (fun h22 => ?_) (fun h22 => ?_)
    · exact absurd h22 (nI_nlt (by omega) (by omega))
    · refine kG.aload_n 26 dX5_seams_25 rfl rfl ?_
      refine kG.iload_n 27 dX5_seams_26 rfl rfl ?_
      refine gG.putI 30 dX5_seams_27 fX5_123 ⟨by decide, by decide⟩ rfl rfl rfl ⟨rfl, rfl⟩ rfl ?_
      have hm2 := MC_sn (i + 1) hm
      have he2 : ME S (uI μ1 49 5 (nI (i + 1))) := ME_sn h3
      refine kG.iload_n 31 dX5_seams_30 rfl rfl ?_
      refine kG.aload_n 32 dX5_seams_31 rfl rfl ?_
      refine gG.callV 35 dX5_seams_32 lX5_239 vX5_areSo (m_areSo Γ hm2 okd (okM_v okm (by omega)) he2.1 okr hr8) rfl rfl ⟨by decide, by decide⟩ rfl ⟨by decide, rfl⟩ ⟨by decide, by decide⟩ (Nat.le_of_ble_eq_true rfl) rfl (fun r32 μ32 q32 hc32 => ?_)
      obtain ⟨rfl, rfl, f1⟩ := hc32
      have hm3 := FW_MC hm2 f1
      have he3 := ME_FW he2 f1
      refine kG.if_eq 44 38 dX5_seams_35 (by decide) rfl (fun h35 => ?_) (fun h35 => ?_)
      · have hb : (fun v => decide (1 ≤ v) && rdS S (cfV S v)) (i + 1) = false := by
          show (decide (1 ≤ i + 1) && rdS S (cfV S (i + 1))) = false
          rw [decide_eq_true (show 1 ≤ i + 1 by omega), Bool.true_and]
          exact b2_0.mp h35
        refine kG.iconst (v := nI 0) 45 dX5_seams_44 (by decide) rfl ?_
        refine kG.ior 46 dX5_seams_45 rfl ?_
        first | rw [n_shl (by omega), n_or, ← mk_t (f := (fun v => decide (1 ≤ v) && rdS S (cfV S v))) hb] | rw [show nI (mk (fun v => decide (1 ≤ v) && rdS S (cfV S v)) (i + 1)) ||| nI 0 = nI (mk (fun v => decide (1 ≤ v) && rdS S (cfV S v)) ((i + 1) + 1)) by rw [n_or, Nat.or_zero, ← mk_f (f := (fun v => decide (1 ≤ v) && rdS S (cfV S v))) hb]]
        refine kG.istore_n 47 dX5_seams_46 (by decide) rfl rfl ?_
        dsimp only [List.set]
        refine kG.iinc (v := nI (i + 1 + 1)) 50 dX5_seams_47 rfl (nI_1 (i + 1)) (by decide) rfl rfl ?_
        dsimp only [List.set]
        refine kG.goto 19 dX5_seams_50 (by decide) ?_
        exact ih (i + 1) _ _ _ (by omega) hq hm3 he3 (fun k hk => by rw [FW_lo f1 k hk, uI_off (by omega)]; exact h4 k hk)
      · have hb : (fun v => decide (1 ≤ v) && rdS S (cfV S v)) (i + 1) = true := by
          show (decide (1 ≤ i + 1) && rdS S (cfV S (i + 1))) = true
          rw [decide_eq_true (show 1 ≤ i + 1 by omega), Bool.true_and]
          exact b2_n0.mp h35
        refine kG.iconst (v := nI 1) 39 dX5_seams_38 (by decide) rfl ?_
        refine kG.iload_n 40 dX5_seams_39 rfl rfl ?_
        refine kG.ishl 41 dX5_seams_40 rfl ?_
        refine kG.goto 45 dX5_seams_41 (by decide) ?_
        refine kG.ior 46 dX5_seams_45 rfl ?_
        first | rw [n_shl (by omega), n_or, ← mk_t (f := (fun v => decide (1 ≤ v) && rdS S (cfV S v))) hb] | rw [show nI (mk (fun v => decide (1 ≤ v) && rdS S (cfV S v)) (i + 1)) ||| nI 0 = nI (mk (fun v => decide (1 ≤ v) && rdS S (cfV S v)) ((i + 1) + 1)) by rw [n_or, Nat.or_zero, ← mk_f (f := (fun v => decide (1 ≤ v) && rdS S (cfV S v))) hb]]
        refine kG.istore_n 47 dX5_seams_46 (by decide) rfl rfl ?_
        dsimp only [List.set]
        refine kG.iinc (v := nI (i + 1 + 1)) 50 dX5_seams_47 rfl (nI_1 (i + 1)) (by decide) rfl rfl ?_
        dsimp only [List.set]
        refine kG.goto 19 dX5_seams_50 (by decide) ?_
        exact ih (i + 1) _ _ _ (by omega) hq hm3 he3 (fun k hk => by rw [FW_lo f1 k hk, uI_off (by omega)]; exact h4 k hk)
set_option maxHeartbeats 4000000 in
theorem y_seams (Γ : kGm) {S : AS} {μ : kM} {q : kq4} (ok : okS S) (h : MS S μ) : gC Γ yX5_seams mX5_seams 6 [.ref 49] μ q (PMi (s_seams S) (S) μ q) := by
  refine gC.ofG (n := 0) ⟨by decide +kernel, rfl, rfl, by decide⟩ (Nat.le_of_ble_eq_true rfl) ?_
  show gG Γ mX5_seams 6 0 [some (.ref 49), none, none, none] [] μ q _
  have okd := ok.1
  have hH4 := ok.1.1
  have hP6 := ok.1.2.1
  have hc := h.1
  have hp := hc.2.2.2.2.2.1
  have hh := hc.2.2.2.2.1
  refine kG.aload_n 1 dX5_seams_0 rfl rfl ?_
  refine gG.getI 4 dX5_seams_1 fX5_96 ⟨by decide, by decide⟩ rfl rfl rfl ?_
  rw [hc.2.2.1]
  refine kG.if_ne 10 7 dX5_seams_4 (by decide) rfl (fun h4 => ?_) (fun h4 => ?_)
  · have hz : ¬ dP (aD S) = 0 := fun z => h4 (by rw [z]; rfl)
    refine kG.aload_n 11 dX5_seams_10 rfl rfl ?_
    refine gG.getI 14 dX5_seams_11 fX5_123 ⟨by decide, by decide⟩ rfl rfl rfl ?_
    rw [hc.1]
    refine kG.istore_n 15 dX5_seams_14 (by decide) rfl rfl ?_
    dsimp only [List.set]
    refine kG.iconst (v := nI 0) 16 dX5_seams_15 (by decide) rfl ?_
    refine kG.istore_n 17 dX5_seams_16 (by decide) rfl rfl ?_
    dsimp only [List.set]
    refine kG.iconst (v := nI 1) 18 dX5_seams_17 (by decide) rfl ?_
    refine kG.istore_n 19 dX5_seams_18 (by decide) rfl rfl ?_
    dsimp only [List.set]
    exact seams_l Γ ok (by omega) _ _ 13 0 _ _ _ (by omega) rfl hc h.2 (fun _ _ => rfl)
  · have hz : dP (aD S) = 0 := (nI_eq (b := 0) (by omega) (by decide)).mp h4
    refine kG.bipush (v := (-3)) 9 dX5_seams_7 (by decide) rfl ?_
    refine gG.iret dX5_seams_9 rfl ?_
    exact ⟨by unfold s_seams; rw [if_pos hz], h, rfl, fun _ _ => rfl⟩
set_option maxHeartbeats 4000000 in
theorem kinds_l (Γ : kGm) {S : AS} (ok : okS S) {kx : Nat} (hkx : kx < dP (aD S)) (μ0 : kM) (q0 : kq4) : ∀ (m i : Nat) (μ1 : kM) (q : kq4) (k0 : Nat), i + m = 3 → (q = q0) → (MC (dK (aD S) kx k0) (aS S) (aA S) (aG S) μ1) → (ME S μ1) → (∀ k, k < 49 → μ1 k = μ0 k) → gG Γ mX5_kinds 6 22 [some (.ref 49), some (.int (nI kx)), some (.int (nI (dkd (aD S) kx))), some (.int (nI (mk (fun k => rdS S (cfK S kx k)) i))), some (.int (nI i))] [] (μ1) q (PMi (s_kinds S (nI kx)) S μ0 q0) := by
  intro m
  induction m with
  | zero =>
    intro i μ1 q k0 hm hq hm h3 h4
    have hP : 0 < dP (aD S) := by omega
    have okr := ok.2.2.2.2.2.2.1.1
    have hr8 := ok.2.2.2.2.2.2.1.2
    have okd := ok.1
    have hH4 := ok.1.1
    have hP6 := ok.1.2.1
    have okm := okM_S ok hP
    refine kG.iload 24 dX5_kinds_22 rfl rfl ?_
    refine kG.iconst (v := nI 3) 25 dX5_kinds_24 (by decide) rfl ?_
    refine kG.icmp_ge 60 28 dX5_kinds_25 (by decide) rfl (fun h25 => ?_) (fun h25 => ?_)
    · refine kG.aload_n 61 dX5_kinds_60 rfl rfl ?_
      refine gG.getP 64 dX5_kinds_61 fX5_25 ⟨by decide, by decide⟩ rfl rfl rfl rfl ?_
      refine kG.iload_n 65 dX5_kinds_64 rfl rfl ?_
      refine kG.iload_n 66 dX5_kinds_65 rfl rfl ?_
      refine gG.iast (n := 6) _ 67 dX5_kinds_66 ⟨by decide, by decide⟩ rfl rfl (by omega) (by decide) rfl ?_
      have hm4 : MC (dK (aD S) kx (dkd (aD S) kx)) (aS S) (aA S) (aG S) (uI μ1 55 kx (nI (dkd (aD S) kx))) := MC_kd hm
      rw [dK_id] at hm4
      refine kG.iload_n 68 dX5_kinds_67 rfl rfl ?_
      refine gG.iret dX5_kinds_68 rfl ?_
      refine ⟨?_, ⟨hm4, ME_fr h3 (fun j _ => by rw [uI_off (show 49 ≠ 55 by decide)]) (fun k hk => uI_off (by omega))⟩, hq, fun k hk => by rw [uI_off (by omega)]; exact h4 k hk⟩
      unfold s_kinds
      rw [if_pos (inB_n (by omega) hkx), ixn_n (by omega), show (3 : Nat) = i by omega]
    · exact absurd (nI_le (by omega) (by omega)) h25
  | succ m ih =>
    intro i μ1 q k0 hm hq hm h3 h4
    have hP : 0 < dP (aD S) := by omega
    have okr := ok.2.2.2.2.2.2.1.1
    have hr8 := ok.2.2.2.2.2.2.1.2
    have okd := ok.1
    have hH4 := ok.1.1
    have hP6 := ok.1.2.1
    have okm := okM_S ok hP
    refine kG.iload 24 dX5_kinds_22 rfl rfl ?_
    refine kG.iconst (v := nI 3) 25 dX5_kinds_24 (by decide) rfl ?_
    refine kG.icmp_ge 60 28 dX5_kinds_25 (by decide) rfl (fun h25 => ?_) (fun h25 => ?_)
    · exact absurd h25 (nI_ge (by omega) (by omega))
    · refine kG.aload_n 29 dX5_kinds_28 rfl rfl ?_
      refine gG.getP 32 dX5_kinds_29 fX5_25 ⟨by decide, by decide⟩ rfl rfl rfl rfl ?_
      refine kG.iload_n 33 dX5_kinds_32 rfl rfl ?_
      refine kG.iload 35 dX5_kinds_33 rfl rfl ?_
      refine gG.iast (n := 6) _ 36 dX5_kinds_35 ⟨by decide, by decide⟩ rfl rfl (by omega) (by decide) rfl ?_
      have hm2 : MC (dK (aD S) kx i) (aS S) (aA S) (aG S) (uI μ1 55 kx (nI i)) := MC_kd hm
      have he2 : ME S (uI μ1 55 kx (nI i)) := ME_fr h3 (fun j _ => by rw [uI_off (show 49 ≠ 55 by decide)]) (fun k hk => uI_off (by omega))
      have okm2 : okM (dK (aD S) kx i) (aS S) (aG S) := okM_k okm (by omega)
      refine kG.iload_n 37 dX5_kinds_36 rfl rfl ?_
      refine kG.aload_n 38 dX5_kinds_37 rfl rfl ?_
      refine gG.callV 41 dX5_kinds_38 lX5_239 vX5_areSo (m_areSo Γ hm2 okm2.1 okm2 he2.1 okr hr8) rfl rfl ⟨by decide, by decide⟩ rfl ⟨by decide, rfl⟩ ⟨by decide, by decide⟩ (Nat.le_of_ble_eq_true rfl) rfl (fun r38 μ38 q38 hc38 => ?_)
      obtain ⟨rfl, rfl, f1⟩ := hc38
      rw [cM_k]
      have hm3 := FW_MC hm2 f1
      have he3 := ME_FW he2 f1
      refine kG.if_eq 51 44 dX5_kinds_41 (by decide) rfl (fun h41 => ?_) (fun h41 => ?_)
      · have hb : (fun k => rdS S (cfK S kx k)) i = false := b2_0.mp h41
        refine kG.iconst (v := nI 0) 52 dX5_kinds_51 (by decide) rfl ?_
        refine kG.ior 53 dX5_kinds_52 rfl ?_
        first | rw [n_shl (by omega), n_or, ← mk_t (f := (fun k => rdS S (cfK S kx k))) hb] | rw [show nI (mk (fun k => rdS S (cfK S kx k)) i) ||| nI 0 = nI (mk (fun k => rdS S (cfK S kx k)) (i + 1)) by rw [n_or, Nat.or_zero, ← mk_f (f := (fun k => rdS S (cfK S kx k))) hb]]
        refine kG.istore_n 54 dX5_kinds_53 (by decide) rfl rfl ?_
        dsimp only [List.set]
        refine kG.iinc (v := nI (i + 1)) 57 dX5_kinds_54 rfl (nI_1 i) (by decide) rfl rfl ?_
        dsimp only [List.set]
        refine kG.goto 22 dX5_kinds_57 (by decide) ?_
        exact ih (i + 1) _ _ _ (by omega) hq hm3 he3 (fun k hk => by rw [FW_lo f1 k hk, uI_off (by omega)]; exact h4 k hk)
      · have hb : (fun k => rdS S (cfK S kx k)) i = true := b2_n0.mp h41
        refine kG.iconst (v := nI 1) 45 dX5_kinds_44 (by decide) rfl ?_
        refine kG.iload 47 dX5_kinds_45 rfl rfl ?_
        refine kG.ishl 48 dX5_kinds_47 rfl ?_
        refine kG.goto 52 dX5_kinds_48 (by decide) ?_
        refine kG.ior 53 dX5_kinds_52 rfl ?_
        first | rw [n_shl (by omega), n_or, ← mk_t (f := (fun k => rdS S (cfK S kx k))) hb] | rw [show nI (mk (fun k => rdS S (cfK S kx k)) i) ||| nI 0 = nI (mk (fun k => rdS S (cfK S kx k)) (i + 1)) by rw [n_or, Nat.or_zero, ← mk_f (f := (fun k => rdS S (cfK S kx k))) hb]]
        refine kG.istore_n 54 dX5_kinds_53 (by decide) rfl rfl ?_
        dsimp only [List.set]
        refine kG.iinc (v := nI (i + 1)) 57 dX5_kinds_54 rfl (nI_1 i) (by decide) rfl rfl ?_
        dsimp only [List.set]
        refine kG.goto 22 dX5_kinds_57 (by decide) ?_
        exact ih (i + 1) _ _ _ (by omega) hq hm3 he3 (fun k hk => by rw [FW_lo f1 k hk, uI_off (by omega)]; exact h4 k hk)
set_option maxHeartbeats 4000000 in
theorem y_kinds (Γ : kGm) {S : AS} {μ : kM} {q : kq4} (ok : okS S) (h : MS S μ) (x : Int32) : gC Γ yX5_kinds mX5_kinds 6 [.ref 49, .int x] μ q (PMi (s_kinds S x) (S) μ q) := by
  refine gC.ofG (n := 0) ⟨by decide +kernel, rfl, rfl, by decide⟩ (Nat.le_of_ble_eq_true rfl) ?_
  show gG Γ mX5_kinds 6 0 [some (.ref 49), some (.int x), none, none, none] [] μ q _
  have okd := ok.1
  have hH4 := ok.1.1
  have hP6 := ok.1.2.1
  have hc := h.1
  have hp := hc.2.2.2.2.2.1
  have hh := hc.2.2.2.2.1
  refine kG.aload_n 1 dX5_kinds_0 rfl rfl ?_
  refine kG.iload_n 2 dX5_kinds_1 rfl rfl ?_
  refine gG.callV 5 dX5_kinds_2 lX5_158 vX5_isPerson (m_isPerson Γ x (dP (aD S)) hc.2.2.1) rfl rfl ⟨by decide, by decide⟩ rfl ⟨by decide, rfl⟩ ⟨by decide, by decide⟩ (Nat.le_of_ble_eq_true rfl) rfl (fun r2 μ2 q2 hc2 => ?_)
  obtain ⟨rfl, rfl, rfl⟩ := hc2
  refine kG.if_ne 10 8 dX5_kinds_5 (by decide) rfl (fun g2 => ?_) (fun g2 => ?_)
  · have hb2 := b2_n0.mp g2
    obtain ⟨kx, hkx, rfl, ex⟩ := inB_t (by omega) hb2
    have hx := hp kx hkx
    have od := okd.2.2.2 kx hkx
    refine kG.aload_n 11 dX5_kinds_10 rfl rfl ?_
    refine gG.getP 14 dX5_kinds_11 fX5_25 ⟨by decide, by decide⟩ rfl rfl rfl rfl ?_
    refine kG.iload_n 15 dX5_kinds_14 rfl rfl ?_
    refine gG.iald (n := 6) _ 16 dX5_kinds_15 ⟨by decide, by decide⟩ rfl rfl (by omega) (by decide) rfl ?_
    rw [hx.1]
    refine kG.istore_n 17 dX5_kinds_16 (by decide) rfl rfl ?_
    dsimp only [List.set]
    refine kG.iconst (v := nI 0) 18 dX5_kinds_17 (by decide) rfl ?_
    refine kG.istore_n 19 dX5_kinds_18 (by decide) rfl rfl ?_
    dsimp only [List.set]
    refine kG.iconst (v := nI 0) 20 dX5_kinds_19 (by decide) rfl ?_
    refine kG.istore 22 dX5_kinds_20 (by decide) rfl rfl ?_
    dsimp only [List.set]
    exact kinds_l Γ ok hkx _ _ 3 0 _ _ (dkd (aD S) kx) (by omega) rfl (by rw [dK_id]; exact hc) h.2 (fun _ _ => rfl)
  · have hb2 := b2_0.mp g2
    refine kG.iconst (v := (-1)) 9 dX5_kinds_8 (by decide) rfl ?_
    refine gG.iret dX5_kinds_9 rfl ?_
    exact ⟨by unfold s_kinds; rw [if_neg (by rw [hb2]; decide)], h, rfl, fun _ _ => rfl⟩
def bI (n : Nat) : Int32 := if n = 0 then -9 else nI n
theorem bI_0 {n : Nat} (h : n < 2 ^ 31) : bI n = -9 ↔ n = 0 := by
  unfold bI
  by_cases e : n = 0
  · rw [if_pos e]; exact ⟨fun _ => e, fun _ => rfl⟩
  · rw [if_neg e]; exact ⟨fun z => absurd z (nI_m9 h), fun z => absurd z e⟩
theorem bs_pos (f : Nat → Nat) : ∀ n, 0 < n → (bsN f n).1 ≠ 0
  | 0, h => absurd h (Nat.lt_irrefl _)
  | n + 1, _ => by
    unfold bsN
    split
    · exact Nat.succ_ne_zero _
    · rename_i z; exact fun w => z (Or.inl w)
set_option maxHeartbeats 4000000 in
theorem best_l (Γ : kGm) {S : AS} (ok : okS S) (hP : 0 < dP (aD S)) {x : Int32} (hx : bt x 0 1 = true) (μ0 : kM) (q0 : kq4) : ∀ (m i : Nat) (μ1 : kM) (q : kq4) (s0 : Nat) (x6 : Option Value), i + m = 13 → (q = q0) → (MC (aD S) s0 (aA S) (aG S) μ1) → (ME S μ1) → (∀ k, k < 49 → μ1 k = μ0 k) → gG Γ mX5_best 7 36 [some (.ref 49), some (.int x), some (.int (nI (aS S))), some (.int (bI (bsN (bsF S) i).1)), some (.int (nI (bsN (bsF S) i).2)), some (.int (nI (i + 1))), x6] [] (μ1) q (PMi (s_best S x) S μ0 q0) := by
  intro m
  induction m with
  | zero =>
    intro i μ1 q s0 x6 hm hq hm h3 h4
    have okr := ok.2.2.2.2.2.2.1.1
    have hr8 := ok.2.2.2.2.2.2.1.2
    have okd := ok.1
    have hH4 := ok.1.1
    have hP6 := ok.1.2.1
    have okm := okM_S ok hP
    have hb1 := bsN_le (bsF S) i
    have hb2 := bsN_b (f := bsF S) (b := 6 * 140) (fun v => allC_le (c := cfV S v) hP6) i
    have hb3 : bsF S (i + 1) ≤ 6 * 140 := allC_le (c := cfV S (i + 1)) hP6
    refine kG.iload 38 dX5_best_36 rfl rfl ?_
    refine kG.bipush (v := nI 13) 40 dX5_best_38 (by decide) rfl ?_
    refine kG.icmp_gt 81 43 dX5_best_40 (by decide) rfl (fun h40 => ?_) (fun h40 => ?_)
    · refine kG.aload_n 82 dX5_best_81 rfl rfl ?_
      refine kG.iload_n 83 dX5_best_82 rfl rfl ?_
      refine gG.putI 86 dX5_best_83 fX5_123 ⟨by decide, by decide⟩ rfl rfl rfl ⟨rfl, rfl⟩ rfl ?_
      refine kG.iload_n 87 dX5_best_86 rfl rfl ?_
      refine kG.if_ne 94 90 dX5_best_87 (by decide) rfl (fun h87 => ?_) (fun h87 => ?_)
      · have hx0 : ¬ x = nI 0 := h87
        refine kG.iload 96 dX5_best_94 rfl rfl ?_
        refine gG.iret dX5_best_96 rfl ?_
        refine ⟨?_, ⟨MC_sn (aS S) hm, ME_sn h3⟩, hq, fun k hk => by rw [uI_off (by omega)]; exact h4 k hk⟩
        have hbz := bs_pos (bsF S) i (by omega)
        unfold s_best
        rw [if_pos hx, if_neg (by omega), show (13 : Nat) = i by omega]
        first | (rw [if_pos hx0]; unfold bI; rw [if_neg hbz]) | rw [if_neg hx0]
      · have hx0 : x = nI 0 := h87
        refine kG.iload_n 91 dX5_best_90 rfl rfl ?_
        refine kG.goto 96 dX5_best_91 (by decide) ?_
        refine gG.iret dX5_best_96 rfl ?_
        refine ⟨?_, ⟨MC_sn (aS S) hm, ME_sn h3⟩, hq, fun k hk => by rw [uI_off (by omega)]; exact h4 k hk⟩
        have hbz := bs_pos (bsF S) i (by omega)
        unfold s_best
        rw [if_pos hx, if_neg (by omega), show (13 : Nat) = i by omega]
        first | (rw [if_pos hx0]; unfold bI; rw [if_neg hbz]) | rw [if_neg hx0]
    · exact absurd (nI_lt (by omega) (by omega)) h40
  | succ m ih =>
    intro i μ1 q s0 x6 hm hq hm h3 h4
    have okr := ok.2.2.2.2.2.2.1.1
    have hr8 := ok.2.2.2.2.2.2.1.2
    have okd := ok.1
    have hH4 := ok.1.1
    have hP6 := ok.1.2.1
    have okm := okM_S ok hP
    have hb1 := bsN_le (bsF S) i
    have hb2 := bsN_b (f := bsF S) (b := 6 * 140) (fun v => allC_le (c := cfV S v) hP6) i
    have hb3 : bsF S (i + 1) ≤ 6 * 140 := allC_le (c := cfV S (i + 1)) hP6
    refine kG.iload 38 dX5_best_36 rfl rfl ?_
    refine kG.bipush (v := nI 13) 40 dX5_best_38 (by decide) rfl ?_
    refine kG.icmp_gt 81 43 dX5_best_40 (by decide) rfl (fun h40 => ?_) (fun h40 => ?_)
    · exact absurd h40 (nI_nlt (by omega) (by omega))
    · refine kG.aload_n 44 dX5_best_43 rfl rfl ?_
      refine kG.iload 46 dX5_best_44 rfl rfl ?_
      refine gG.putI 49 dX5_best_46 fX5_123 ⟨by decide, by decide⟩ rfl rfl rfl ⟨rfl, rfl⟩ rfl ?_
      have hm2 := MC_sn (i + 1) hm
      have he2 : ME S (uI μ1 49 5 (nI (i + 1))) := ME_sn h3
      refine kG.aload_n 50 dX5_best_49 rfl rfl ?_
      refine gG.callV 53 dX5_best_50 lX5_207 vX5_allNow (m_allNow Γ hm2 okd (okM_v okm (by omega))) rfl rfl ⟨by decide, by decide⟩ rfl ⟨by decide, rfl⟩ ⟨by decide, by decide⟩ (Nat.le_of_ble_eq_true rfl) rfl (fun r50 μ50 q50 hc50 => ?_)
      obtain ⟨rfl, rfl, f1, -⟩ := hc50
      rw [show allC (cM (aD S) (i + 1) (aA S) (aG S)) 140 = bsF S (i + 1) from rfl]
      have hm3 := FW_MC hm2 f1
      have he3 := ME_FW he2 f1
      refine kG.istore 55 dX5_best_53 (by decide) rfl rfl ?_
      dsimp only [List.set]
      refine kG.iload_n 56 dX5_best_55 rfl rfl ?_
      refine kG.bipush (v := (-9)) 58 dX5_best_56 (by decide) rfl ?_
      refine kG.icmp_eq 68 61 dX5_best_58 (by decide) rfl (fun h58 => ?_) (fun h58 => ?_)
      · have e0 := (bI_0 (by omega)).mp h58
        have eB : bsN (bsF S) (i + 1) = (i + 1, bsF S (i + 1)) := by rw [bsN, if_pos (Or.inl e0)]
        refine kG.iload 70 dX5_best_68 rfl rfl ?_
        refine kG.istore_n 71 dX5_best_70 (by decide) rfl rfl ?_
        dsimp only [List.set]
        refine kG.iload 73 dX5_best_71 rfl rfl ?_
        refine kG.istore 75 dX5_best_73 (by decide) rfl rfl ?_
        dsimp only [List.set]
        refine kG.iinc (v := nI (i + 1 + 1)) 78 dX5_best_75 rfl (nI_1 (i + 1)) (by decide) rfl rfl ?_
        dsimp only [List.set]
        refine kG.goto 36 dX5_best_78 (by decide) ?_
        first
          | (refine kG.sub (kLe_s rfl (kLe_s rfl (kLe_s rfl (kLe_s (v := .int (bI (bsN (bsF S) (i + 1)).1)) (by rw [eB]; unfold bI; rw [if_neg (Nat.succ_ne_zero _)]) (kLe_s (v := .int (nI (bsN (bsF S) (i + 1)).2)) (by rw [eB]) (kLe_s rfl (kLe_s rfl kLe_0))))))) (ih (i + 1) _ _ _ (some (.int (nI (bsF S (i + 1))))) (by omega) hq hm3 he3 (fun k hk => by rw [FW_lo f1 k hk, uI_off (by omega)]; exact h4 k hk)); done)
          | (refine kG.sub (kLe_s rfl (kLe_s rfl (kLe_s rfl (kLe_s (v := .int (bI (bsN (bsF S) (i + 1)).1)) (by rw [eB]) (kLe_s (v := .int (nI (bsN (bsF S) (i + 1)).2)) (by rw [eB]) (kLe_s rfl (kLe_s rfl kLe_0))))))) (ih (i + 1) _ _ _ (some (.int (nI (bsF S (i + 1))))) (by omega) hq hm3 he3 (fun k hk => by rw [FW_lo f1 k hk, uI_off (by omega)]; exact h4 k hk)); done)
      · have e0 : ¬ (bsN (bsF S) i).1 = 0 := fun z => h58 ((bI_0 (by omega)).mpr z)
        refine kG.iload 63 dX5_best_61 rfl rfl ?_
        refine kG.iload 65 dX5_best_63 rfl rfl ?_
        refine kG.icmp_ge 75 68 dX5_best_65 (by decide) rfl (fun h65 => ?_) (fun h65 => ?_)
        · have e1 := (nI_leI (by omega) (by omega)).mp h65
          have eB : bsN (bsF S) (i + 1) = bsN (bsF S) i := by rw [bsN, if_neg (by rintro (z | z) <;> omega)]
          refine kG.iinc (v := nI (i + 1 + 1)) 78 dX5_best_75 rfl (nI_1 (i + 1)) (by decide) rfl rfl ?_
          dsimp only [List.set]
          refine kG.goto 36 dX5_best_78 (by decide) ?_
          first
            | (refine kG.sub (kLe_s rfl (kLe_s rfl (kLe_s rfl (kLe_s (v := .int (bI (bsN (bsF S) (i + 1)).1)) (by rw [eB]; unfold bI; rw [if_neg (Nat.succ_ne_zero _)]) (kLe_s (v := .int (nI (bsN (bsF S) (i + 1)).2)) (by rw [eB]) (kLe_s rfl (kLe_s rfl kLe_0))))))) (ih (i + 1) _ _ _ (some (.int (nI (bsF S (i + 1))))) (by omega) hq hm3 he3 (fun k hk => by rw [FW_lo f1 k hk, uI_off (by omega)]; exact h4 k hk)); done)
            | (refine kG.sub (kLe_s rfl (kLe_s rfl (kLe_s rfl (kLe_s (v := .int (bI (bsN (bsF S) (i + 1)).1)) (by rw [eB]) (kLe_s (v := .int (nI (bsN (bsF S) (i + 1)).2)) (by rw [eB]) (kLe_s rfl (kLe_s rfl kLe_0))))))) (ih (i + 1) _ _ _ (some (.int (nI (bsF S (i + 1))))) (by omega) hq hm3 he3 (fun k hk => by rw [FW_lo f1 k hk, uI_off (by omega)]; exact h4 k hk)); done)
        · have e1 : bsF S (i + 1) < (bsN (bsF S) i).2 := Nat.not_le.mp fun z => h65 (nI_le z (by omega))
          have eB : bsN (bsF S) (i + 1) = (i + 1, bsF S (i + 1)) := by rw [bsN, if_pos (Or.inr e1)]
          refine kG.iload 70 dX5_best_68 rfl rfl ?_
          refine kG.istore_n 71 dX5_best_70 (by decide) rfl rfl ?_
          dsimp only [List.set]
          refine kG.iload 73 dX5_best_71 rfl rfl ?_
          refine kG.istore 75 dX5_best_73 (by decide) rfl rfl ?_
          dsimp only [List.set]
          refine kG.iinc (v := nI (i + 1 + 1)) 78 dX5_best_75 rfl (nI_1 (i + 1)) (by decide) rfl rfl ?_
          dsimp only [List.set]
          refine kG.goto 36 dX5_best_78 (by decide) ?_
          first
            | (refine kG.sub (kLe_s rfl (kLe_s rfl (kLe_s rfl (kLe_s (v := .int (bI (bsN (bsF S) (i + 1)).1)) (by rw [eB]; unfold bI; rw [if_neg (Nat.succ_ne_zero _)]) (kLe_s (v := .int (nI (bsN (bsF S) (i + 1)).2)) (by rw [eB]) (kLe_s rfl (kLe_s rfl kLe_0))))))) (ih (i + 1) _ _ _ (some (.int (nI (bsF S (i + 1))))) (by omega) hq hm3 he3 (fun k hk => by rw [FW_lo f1 k hk, uI_off (by omega)]; exact h4 k hk)); done)
            | (refine kG.sub (kLe_s rfl (kLe_s rfl (kLe_s rfl (kLe_s (v := .int (bI (bsN (bsF S) (i + 1)).1)) (by rw [eB]) (kLe_s (v := .int (nI (bsN (bsF S) (i + 1)).2)) (by rw [eB]) (kLe_s rfl (kLe_s rfl kLe_0))))))) (ih (i + 1) _ _ _ (some (.int (nI (bsF S (i + 1))))) (by omega) hq hm3 he3 (fun k hk => by rw [FW_lo f1 k hk, uI_off (by omega)]; exact h4 k hk)); done)
set_option maxHeartbeats 4000000 in
theorem y_best (Γ : kGm) {S : AS} {μ : kM} {q : kq4} (ok : okS S) (h : MS S μ) (x : Int32) : gC Γ yX5_best mX5_best 7 [.ref 49, .int x] μ q (PMi (s_best S x) (S) μ q) := by
  refine gC.ofG (n := 0) ⟨by decide +kernel, rfl, rfl, by decide⟩ (Nat.le_of_ble_eq_true rfl) ?_
  show gG Γ mX5_best 7 0 [some (.ref 49), some (.int x), none, none, none, none, none] [] μ q _
  have okd := ok.1
  have hH4 := ok.1.1
  have hP6 := ok.1.2.1
  have hc := h.1
  have hp := hc.2.2.2.2.2.1
  have hh := hc.2.2.2.2.1
  refine kG.iload_n 1 dX5_best_0 rfl rfl ?_
  refine kG.iconst (v := nI 0) 2 dX5_best_1 (by decide) rfl ?_
  refine kG.iconst (v := nI 1) 3 dX5_best_2 (by decide) rfl ?_
  refine gG.callS 6 dX5_best_3 lX5_89 vX5_within (m_within Γ x 0 1) rfl rfl ⟨by decide, by decide⟩ (Nat.le_of_ble_eq_true rfl) rfl (fun r3 μ3 q3 hc3 => ?_)
  obtain ⟨rfl, rfl, rfl⟩ := hc3
  refine kG.if_ne 12 9 dX5_best_6 (by decide) rfl (fun h6 => ?_) (fun h6 => ?_)
  · have hb := b2_n0.mp h6
    refine kG.aload_n 13 dX5_best_12 rfl rfl ?_
    refine gG.getI 16 dX5_best_13 fX5_96 ⟨by decide, by decide⟩ rfl rfl rfl ?_
    rw [hc.2.2.1]
    refine kG.if_ne 22 19 dX5_best_16 (by decide) rfl (fun h16 => ?_) (fun h16 => ?_)
    · have hz : ¬ dP (aD S) = 0 := fun z => h16 (by rw [z]; rfl)
      refine kG.aload_n 23 dX5_best_22 rfl rfl ?_
      refine gG.getI 26 dX5_best_23 fX5_123 ⟨by decide, by decide⟩ rfl rfl rfl ?_
      rw [hc.1]
      refine kG.istore_n 27 dX5_best_26 (by decide) rfl rfl ?_
      dsimp only [List.set]
      refine kG.bipush (v := (-9)) 29 dX5_best_27 (by decide) rfl ?_
      refine kG.istore_n 30 dX5_best_29 (by decide) rfl rfl ?_
      dsimp only [List.set]
      refine kG.iconst (v := nI 0) 31 dX5_best_30 (by decide) rfl ?_
      refine kG.istore 33 dX5_best_31 (by decide) rfl rfl ?_
      dsimp only [List.set]
      refine kG.iconst (v := nI 1) 34 dX5_best_33 (by decide) rfl ?_
      refine kG.istore 36 dX5_best_34 (by decide) rfl rfl ?_
      dsimp only [List.set]
      exact best_l Γ ok (by omega) hb _ _ 13 0 _ _ _ none (by omega) rfl hc h.2 (fun _ _ => rfl)
    · have hz : dP (aD S) = 0 := (nI_eq (b := 0) (by omega) (by decide)).mp h16
      refine kG.bipush (v := (-3)) 21 dX5_best_19 (by decide) rfl ?_
      refine gG.iret dX5_best_21 rfl ?_
      exact ⟨by unfold s_best; rw [if_pos hb, if_pos hz], h, rfl, fun _ _ => rfl⟩
  · have hb := b2_0.mp h6
    refine kG.bipush (v := (-2)) 11 dX5_best_9 (by decide) rfl ?_
    refine gG.iret dX5_best_11 rfl ?_
    exact ⟨by unfold s_best; rw [if_neg (by rw [hb]; decide)], h, rfl, fun _ _ => rfl⟩
