theorem n9 {x : Int32} (h : x = -9) : ∀ h', h' < 4 → (nI h' = x ↔ h' = 9) := by
  subst h
  intro h' hh
  match h', hh with
  | 0, _ => decide
  | 1, _ => decide
  | 2, _ => decide
  | 3, _ => decide
theorem CS_LVp {S : AS} {μ μ' : kM} {q : kq4} {w a : Nat} (hw : isW w) (h : CS S μ q) (f : ∀ k, k ≠ w → k ≠ w + 1 + 5 → μ' k = μ k) (e : μ' w 8 = nI a ∧ μ' w 9 = μ q.1 7 ∧ μ' w 10 = -9 ∧ μ' w 11 = nI 0) (e6 : An (w + 1 + 5) (dP (aD S)) (fun p => wan (dkd (aD S) p) (dbu (aD S) p)) μ') : LVp (aD S) w (aS S) a (waS (aD S)) (aG S) 9 0 q.1 μ' := by
  have ht := h.2.1.1
  refine ⟨TD_fr h.2.2.1.1 (fun k _ b => by have := TW_lt ht hw b; exact f k (by omega) (by omega)), KD_fr h.2.2.2.1.1 (fun k a b => f k (by rcases hw with rfl | rfl <;> omega) (by rcases hw with rfl | rfl <;> omega)), e.1, by rw [e.2.1]; exact h.2.2.1.2.1, n9 e.2.2.1, e.2.2.2, e6⟩
/-- the trial is made ready -/
theorem c_prepT (Γ : kGm) {S : AS} {μ : kM} {q : kq4} (h : CS S μ q) (a : Nat) : gC Γ yX3_prepare mX3_prepare 2 [.ref 34, .ref q.1, .int (nI a)] μ q (fun r μ' q' => r = none ∧ q' = stq q 34 q.1 ∧ CS S μ' q' ∧ LVp (aD S) 34 (aS S) a (waS (aD S)) (aG S) 9 0 q.1 μ' ∧ ∀ k, (k < 34 ∨ 40 < k) → μ' k = μ k) := by
  refine gC.weak (c_prepare Γ (Or.inr rfl) h.2.1.1 h.2.2.1.1 h.1.1 (nI a)) (fun r μ' q' z => ?_)
  obtain ⟨z1, z2, z3, z4, z5⟩ := z
  have f : ∀ k, (k < 34 ∨ 40 < k) → μ' k = μ k := fun k hk => z3 k (by omega) (by omega)
  subst z2
  exact ⟨z1, rfl, CS_tr h (cQ_st h.2.1 h.2.1.1).1 ⟨rfl, rfl⟩ f, CS_LVp (Or.inr rfl) h z3 z4 z5, f⟩
/-- and run -/
theorem c_liveT (Γ : kGm) {S : AS} {μ : kM} {q : kq4} (h : CS S μ q) (et : q.2.2.2 = q.1) {sn a : Nat} {wa : Nat → Nat} {mh mw : Nat} (hp : LVp (aD S) 34 sn a wa (aG S) mh mw q.1 μ) (hsn : 1 ≤ sn ∧ sn ≤ 13) (ha : a < 64) (hwa : ∀ p, p < dP (aD S) → wa p ≤ 12) (hmw : mw ≤ 99) (n Z : Nat) (hn : n ≤ 10) (hZ : Z < 64) : gC Γ yX3_live mX3_live 3 [.ref 34, .int (nI n), .int (nI Z)] μ q (fun r μ' q' => r = some (.int (b2 (wmB (cfW (aD S) sn wa a (aG S) mh mw) Z (n * 14)))) ∧ q' = q ∧ CS S μ' q' ∧ (wmB (cfW (aD S) sn wa a (aG S) mh mw) Z (n * 14) = true → LVd (cfW (aD S) sn wa a (aG S) mh mw) 34 (dH (aD S)) (n * 14) μ') ∧ ∀ k, (k < 34 ∨ 40 < k) → μ' k = μ k) := by
  have e : tq q 34 = q.1 := et
  refine gC.weak (c_live Γ (Or.inr rfl) (by rw [e]; exact h.2.1.1) h.1.1 (by rw [e]; exact hp) hsn ha hwa h.1.2.2.2.2.2.1.1 h.1.2.2.2.2.2.1.2 hmw n Z hn hZ) (fun r μ' q' z => ?_)
  obtain ⟨z1, z2, z3, z4⟩ := z
  have f : ∀ k, (k < 34 ∨ 40 < k) → μ' k = μ k := fun k hk => z3 k (by omega)
  subst z2
  exact ⟨z1, rfl, CS_tr h h.2.1 ⟨rfl, rfl⟩ f, z4, f⟩
theorem LVd_off {c : Cf} {w H T : Nat} {μ μ' : kM} (h : LVd c w H T μ) (f : ∀ k, w < k → k ≤ w + 6 → μ' k = μ k) : LVd c w H T μ' := LVd_fr h (f _ (by omega) (by omega)) (f _ (by omega) (by omega)) (f _ (by omega) (by omega))
theorem aA_64 {S : AS} (h : okS S) : aA S < 64 := Nat.lt_of_lt_of_le h.2.2.2.2.1 (by have := h.1.2.1; exact Nat.pow_le_pow_right (by decide) this)
set_option maxHeartbeats 4000000 in
theorem c_fresh (Γ : kGm) {S : AS} {μ : kM} {q : kq4} (h : CS S μ q) (hP : 0 < dP (aD S)) : gC Γ yX4_freshWeeks mX4_freshWeeks 4 [.ref 1] μ q (fun r μ' q' => r = some (.ref 27) ∧ CS S μ' q' ∧ q'.1 = q.1 ∧ q'.2.2.2 = q.2.2.2 ∧ q'.2.2.1 = q'.1 ∧ LVd (cfS S) 27 (dH (aD S)) 140 μ' ∧ ∀ k, k ≠ 1 → (k < 27 ∨ 33 < k) → μ' k = μ k) := by
  refine gC.ofG (n := 0) ⟨by decide +kernel, rfl, rfl, by decide⟩ (Nat.le_of_ble_eq_true rfl) ?_
  show gG Γ mX4_freshWeeks 4 0 [some (.ref 1)] [] μ q _
  have ht := h.2.1.1
  have hsn := h.1.2.2.1 hP
  refine kG.aload_n 1 dX4_freshWeeks_0 rfl rfl ?_
  refine gG.getI 4 dX4_freshWeeks_1 fX4_55 ⟨by decide, by decide⟩ rfl rfl rfl ?_
  refine kG.if_ne 38 7 dX4_freshWeeks_4 (by decide) rfl (fun h4 => ?_) (fun h4 => ?_)
  · have hL : q.2.2.1 = q.1 ∧ LVd (cfS S) 27 (dH (aD S)) 140 μ := by
      rcases h.2.2.2.2.2.2 with z | z
      · exact absurd (by rw [z]; rfl) h4
      · exact z.2
    refine kG.aload_n 39 dX4_freshWeeks_38 rfl rfl ?_
    refine gG.getP 42 dX4_freshWeeks_39 fX4_44 ⟨by decide, by decide⟩ rfl rfl rfl rfl ?_
    refine gG.aret dX4_freshWeeks_42 rfl ?_
    first
      | exact ⟨rfl, h, rfl, rfl, hL.1, hL.2, fun _ _ _ => rfl⟩
      | (have f3 : ∀ k, k ≠ 1 → (k < 27 ∨ 33 < k) → uI μ29 1 8 (nI 1) k = μ k := fun k a b => by rw [uI_off a]; exact f2 k b
         have f1 : ∀ j, j ≠ 8 → uI μ29 1 8 (nI 1) 1 j = μ 1 j := fun j hj => by rw [uI_ne (Or.inr hj), f2 1 (by omega)]
         have l4 : LVd (cfS S) 27 (dH (aD S)) 140 (uI μ29 1 8 (nI 1)) := LVd_off l3 (fun k a b => uI_off (by omega))
         refine ⟨rfl, ⟨h.1, (cQ_st h.2.1 ht).2, cD_fr h.2.2.1 rfl (f1 7 (by decide)) (fun k a b => f3 k (by rcases ht with z | z <;> omega) (by rcases ht with z | z <;> omega)), cG_fr h.2.2.2.1 (fun k a b => f3 k (by omega) (by omega)), cSh_fr h.2.2.2.2.1 (fun k a b => f3 k (by omega) (by omega)), ⟨by rw [f1 9 (by decide)]; exact h.2.2.2.2.2.1.1, by rw [f1 10 (by decide)]; exact h.2.2.2.2.2.1.2⟩, Or.inr ⟨uI_same _ _ _ _, rfl, l4⟩⟩, rfl, rfl, rfl, l4, f3⟩)
  · have e0 : μ 1 8 = nI 0 := h4
    refine kG.aload_n 8 dX4_freshWeeks_7 rfl rfl ?_
    refine gG.getP 11 dX4_freshWeeks_8 fX4_44 ⟨by decide, by decide⟩ rfl rfl rfl rfl ?_
    refine kG.aload_n 12 dX4_freshWeeks_11 rfl rfl ?_
    refine gG.getP 15 dX4_freshWeeks_12 fX4_32 ⟨by decide, by decide⟩ rfl rfl rfl rfl ?_
    refine kG.aload_n 16 dX4_freshWeeks_15 rfl rfl ?_
    refine gG.getI 19 dX4_freshWeeks_16 fX4_51 ⟨by decide, by decide⟩ rfl rfl rfl ?_
    rw [h.2.2.1.2.2]
    refine gG.callV 22 dX4_freshWeeks_19 lX4_160 vX3_prepare (c_prepare Γ (Or.inl rfl) ht h.2.2.1.1 h.1.1 (nI (aA S))) rfl rfl ⟨by decide, by decide⟩ rfl ⟨by decide, rfl⟩ ⟨by decide, by decide⟩ (Nat.le_of_ble_eq_true rfl) rfl (fun r19 μ19 q19 hc19 => ?_)
    obtain ⟨rfl, rfl, g1, g2, g3⟩ := hc19
    have hp := CS_LVp (Or.inl rfl) h g1 g2 g3
    have hsz : (none : Option Value).toList ++ ([] : List Value) = [] := rfl
    refine kG.aload_n 23 dX4_freshWeeks_22 rfl rfl ?_
    refine gG.getP 26 dX4_freshWeeks_23 fX4_44 ⟨by decide, by decide⟩ rfl rfl rfl rfl ?_
    refine kG.bipush (v := nI 10) 28 dX4_freshWeeks_26 (by decide) rfl ?_
    refine kG.iconst (v := nI 0) 29 dX4_freshWeeks_28 (by decide) rfl ?_
    refine gG.callV 32 dX4_freshWeeks_29 lX4_165 vX3_live (c_live Γ (q := stq q 27 q.1) (Or.inl rfl) (show isT q.1 from ht) h.1.1 hp hsn (aA_64 h.1) (waS_le h.1.1) h.1.2.2.2.2.2.1.1 h.1.2.2.2.2.2.1.2 (by decide) 10 0 (by decide) (by decide)) rfl rfl ⟨by decide, by decide⟩ rfl ⟨by decide, rfl⟩ ⟨by decide, by decide⟩ (Nat.le_of_ble_eq_true rfl) rfl (fun r29 μ29 q29 hc29 => ?_)
    obtain ⟨rfl, rfl, l1, l2⟩ := hc29
    have l3 := l2 (wmB_0 _ _)
    have f2 : ∀ k, (k < 27 ∨ 33 < k) → μ29 k = μ k := fun k hk => by rw [l1 k (by omega), g1 k (by omega) (by omega)]
    refine kG.pop 33 dX4_freshWeeks_32 rfl rfl ?_
    refine kG.aload_n 34 dX4_freshWeeks_33 rfl rfl ?_
    refine kG.iconst (v := nI 1) 35 dX4_freshWeeks_34 (by decide) rfl ?_
    refine gG.putI 38 dX4_freshWeeks_35 fX4_55 ⟨by decide, by decide⟩ rfl rfl rfl ⟨by decide, by decide⟩ rfl ?_
    refine kG.aload_n 39 dX4_freshWeeks_38 rfl rfl ?_
    refine gG.getP 42 dX4_freshWeeks_39 fX4_44 ⟨by decide, by decide⟩ rfl rfl rfl rfl ?_
    refine gG.aret dX4_freshWeeks_42 rfl ?_
    first
      | exact ⟨rfl, h, rfl, rfl, hL.1, hL.2, fun _ _ _ => rfl⟩
      | (have f3 : ∀ k, k ≠ 1 → (k < 27 ∨ 33 < k) → uI μ29 1 8 (nI 1) k = μ k := fun k a b => by rw [uI_off a]; exact f2 k b
         have f1 : ∀ j, j ≠ 8 → uI μ29 1 8 (nI 1) 1 j = μ 1 j := fun j hj => by rw [uI_ne (Or.inr hj), f2 1 (by omega)]
         have l4 : LVd (cfS S) 27 (dH (aD S)) 140 (uI μ29 1 8 (nI 1)) := LVd_off l3 (fun k a b => uI_off (by omega))
         refine ⟨rfl, ⟨h.1, (cQ_st h.2.1 ht).2, cD_fr h.2.2.1 rfl (f1 7 (by decide)) (fun k a b => f3 k (by rcases ht with z | z <;> omega) (by rcases ht with z | z <;> omega)), cG_fr h.2.2.2.1 (fun k a b => f3 k (by omega) (by omega)), cSh_fr h.2.2.2.2.1 (fun k a b => f3 k (by omega) (by omega)), ⟨by rw [f1 9 (by decide)]; exact h.2.2.2.2.2.1.1, by rw [f1 10 (by decide)]; exact h.2.2.2.2.2.1.2⟩, Or.inr ⟨uI_same _ _ _ _, rfl, l4⟩⟩, rfl, rfl, rfl, l4, f3⟩)
theorem c_every (Γ : kGm) {S : AS} {μ : kM} {q : kq4} (h : CS S μ q) : gC Γ yX4_everybody mX4_everybody 1 [.ref 1] μ q (fun r μ' q' => r = some (.int (nI (2 ^ dP (aD S) - 1))) ∧ μ' = μ ∧ q' = q) := c_everybody Γ h.2.1.1 (dP (aD S)) h.1.1.2.1 h.2.2.1.1.2.1
theorem full_64 {S : AS} (h : okS S) : 2 ^ dP (aD S) - 1 < 64 := by
  have : 2 ^ dP (aD S) ≤ 2 ^ 6 := Nat.pow_le_pow_right (by decide) h.1.2.1
  omega
set_option maxHeartbeats 4000000 in
theorem c_whoIsIn (Γ : kGm) {S : AS} {μ : kM} {q : kq4} (h : CS S μ q) (a : Nat) (ha : a < 2 ^ 30) : gC Γ yX4_whoIsIn mX4_whoIsIn 2 [.ref 1, .int (nI a)] μ q (fun r μ' q' => r = some (.int (nI (wo (mk (fun p => decide (dtw (aD S) p = if a < aS S then 0 else 1)) (dP (aD S))) (aA S)))) ∧ μ' = μ ∧ q' = q) := by
  refine gC.ofG (n := 0) ⟨by decide +kernel, rfl, rfl, by decide⟩ (Nat.le_of_ble_eq_true rfl) ?_
  show gG Γ mX4_whoIsIn 2 0 [some (.ref 1), some (.int (nI a))] [] μ q _
  have hs13 := h.1.2.2.2.1
  refine kG.aload_n 1 dX4_whoIsIn_0 rfl rfl ?_
  refine gG.getP 4 dX4_whoIsIn_1 fX4_32 ⟨by decide, by decide⟩ rfl rfl rfl rfl ?_
  refine kG.iload_n 5 dX4_whoIsIn_4 rfl rfl ?_
  refine kG.aload_n 6 dX4_whoIsIn_5 rfl rfl ?_
  refine gG.getP 9 dX4_whoIsIn_6 fX4_32 ⟨by decide, by decide⟩ rfl rfl rfl rfl ?_
  refine gG.getI 12 dX4_whoIsIn_9 fX4_116 (isT_k h.2.1.1) (isT_s h.2.1.1) rfl rfl ?_
  rw [h.2.2.1.2.1]
  refine gG.callV 15 dX4_whoIsIn_12 lX4_267 vX2_townIn (c_townIn Γ h.2.1.1 h.2.2.1.1 h.1.1 a (aS S) ha (by omega)) rfl rfl (isT_k h.2.1.1) (isT_s h.2.1.1) ⟨by decide, rfl⟩ ⟨by decide, by decide⟩ (Nat.le_of_ble_eq_true rfl) rfl (fun r12 μ12 q12 hc12 => ?_)
  obtain ⟨rfl, rfl, rfl⟩ := hc12
  refine kG.aload_n 16 dX4_whoIsIn_15 rfl rfl ?_
  refine gG.getI 19 dX4_whoIsIn_16 fX4_51 ⟨by decide, by decide⟩ rfl rfl rfl ?_
  refine kG.iconst (v := (-1)) 20 dX4_whoIsIn_19 (by decide) rfl ?_
  refine kG.ixor 21 dX4_whoIsIn_20 rfl ?_
  rw [h.2.2.1.2.2]
  refine kG.iand 22 dX4_whoIsIn_21 rfl ?_
  rw [n_wo]
  refine gG.iret dX4_whoIsIn_22 rfl ?_
  exact ⟨rfl, rfl, rfl⟩
set_option maxHeartbeats 4000000 in
theorem c_areSo (Γ : kGm) {S : AS} {μ : kM} {q : kq4} (h : CS S μ q) (et : q.2.2.2 = q.1) {sn a : Nat} {wa : Nat → Nat} {mh mw : Nat} (hp : LVp (aD S) 34 sn a wa (aG S) mh mw q.1 μ) (hsn : 1 ≤ sn ∧ sn ≤ 13) (ha : a < 64) (hwa : ∀ p, p < dP (aD S) → wa p ≤ 12) (hmw : mw ≤ 99) : gC Γ yX4_readingsAreSoInTrial mX4_readingsAreSoInTrial 4 [.ref 1] μ q (fun r μ' q' => r = some (.int (b2 (rdB (xW (cfW (aD S) sn wa a (aG S) mh mw)) (aR S) (aR S).1))) ∧ q' = q ∧ CS S μ' q' ∧ ∀ k, (k < 34 ∨ 40 < k) → μ' k = μ k) := by
  refine gC.ofG (n := 0) ⟨by decide +kernel, rfl, rfl, by decide⟩ (Nat.le_of_ble_eq_true rfl) ?_
  show gG Γ mX4_readingsAreSoInTrial 4 0 [some (.ref 1)] [] μ q _
  refine kG.aload_n 1 dX4_readingsAreSoInTrial_0 rfl rfl ?_
  refine gG.getP 4 dX4_readingsAreSoInTrial_1 fX4_48 ⟨by decide, by decide⟩ rfl rfl rfl rfl ?_
  refine kG.bipush (v := nI 10) 6 dX4_readingsAreSoInTrial_4 (by decide) rfl ?_
  refine kG.iconst (v := nI 0) 7 dX4_readingsAreSoInTrial_6 (by decide) rfl ?_
  refine gG.callV 10 dX4_readingsAreSoInTrial_7 lX4_165 vX3_live (c_liveT Γ h et hp hsn ha hwa hmw 10 0 (by decide) (by decide)) rfl rfl ⟨by decide, by decide⟩ rfl ⟨by decide, rfl⟩ ⟨by decide, by decide⟩ (Nat.le_of_ble_eq_true rfl) rfl (fun r7 μ7 q7 hc7 => ?_)
  obtain ⟨rfl, rfl, l1, l2, l3⟩ := hc7
  have l4 := l2 (wmB_0 _ _)
  have okc := cfW_ok (aw := a) (mh := mh) h.1.1 hsn hwa h.1.2.2.2.2.2.1.1 (by have := h.1.2.2.2.2.2.1.2; omega) hmw
  have okr := h.1.2.2.2.2.2.2.1
  have hH4 := h.1.1.1
  refine kG.pop 11 dX4_readingsAreSoInTrial_10 rfl rfl ?_
  refine kG.aload_n 12 dX4_readingsAreSoInTrial_11 rfl rfl ?_
  refine gG.getP 15 dX4_readingsAreSoInTrial_12 fX4_26 ⟨by decide, by decide⟩ rfl rfl rfl rfl ?_
  refine kG.aload_n 16 dX4_readingsAreSoInTrial_15 rfl rfl ?_
  refine gG.getP 19 dX4_readingsAreSoInTrial_16 fX4_48 ⟨by decide, by decide⟩ rfl rfl rfl rfl ?_
  refine gG.callV 22 dX4_readingsAreSoInTrial_19 lX4_285 vX0_areWearOf (c_areWearOf Γ (Or.inr rfl) l1.2.2.2.1.2.2.1 okr.2 (Or.inr rfl) (fun i hi => by obtain ⟨o1, o2, o3⟩ := okr.1 i hi; exact ⟨by omega, o2, o3⟩) (xW (cfW (aD S) sn wa a (aG S) mh mw)) (fun i hi => by obtain ⟨o1, o2, o3⟩ := okr.1 i hi; exact ⟨(l4.2 _ o1 _ o2).2, by have := (sm_bd okc ((aR S).2.2.1 i + 1) _ o1).2; exact Nat.lt_of_le_of_lt this (by decide)⟩)) rfl rfl ⟨by decide, by decide⟩ rfl ⟨by decide, rfl⟩ ⟨by decide, by decide⟩ (Nat.le_of_ble_eq_true rfl) rfl (fun r19 μ19 q19 hc19 => ?_)
  obtain ⟨rfl, rfl, rfl⟩ := hc19
  refine gG.zret dX4_readingsAreSoInTrial_22 rfl (b2_bit _) ?_
  exact ⟨rfl, rfl, l1, l3⟩
