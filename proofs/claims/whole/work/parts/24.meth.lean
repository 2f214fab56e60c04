theorem KD_add {G : Kp} {k h w a : Nat} {μ : kM} (H : KD G k μ) : KD (kpAdd G h w a) k (uI (uI (uI (uI μ (k + 1) G.1 (nI h)) (k + 2) G.1 (nI w)) (k + 3) G.1 (nI a)) k 4 (nI (G.1 + 1))) := by
  refine ⟨uI_same _ _ _ _, fun i hi => ?_⟩
  have hi : i < G.1 + 1 := hi
  have e1 : ∀ x y z v : Int32, (uI (uI (uI (uI μ (k + 1) G.1 x) (k + 2) G.1 y) (k + 3) G.1 z) k 4 v) (k + 1) i = uI μ (k + 1) G.1 x (k + 1) i := fun x y z v => by rw [uI_off (show k + 1 ≠ k by omega), uI_off (show k + 1 ≠ k + 3 by omega), uI_off (show k + 1 ≠ k + 2 by omega)]
  have e2 : ∀ x y z v : Int32, (uI (uI (uI (uI μ (k + 1) G.1 x) (k + 2) G.1 y) (k + 3) G.1 z) k 4 v) (k + 2) i = uI (uI μ (k + 1) G.1 x) (k + 2) G.1 y (k + 2) i := fun x y z v => by rw [uI_off (show k + 2 ≠ k by omega), uI_off (show k + 2 ≠ k + 3 by omega)]
  have e3 : ∀ x y z v : Int32, (uI (uI (uI (uI μ (k + 1) G.1 x) (k + 2) G.1 y) (k + 3) G.1 z) k 4 v) (k + 3) i = uI (uI (uI μ (k + 1) G.1 x) (k + 2) G.1 y) (k + 3) G.1 z (k + 3) i := fun x y z v => by rw [uI_off (show k + 3 ≠ k by omega)]
  simp only [kpAdd]
  rw [e1, e2, e3]
  by_cases e : i = G.1
  · subst e
    rw [uI_same, uI_same, uI_same, fu_s, fu_s, fu_s]
    exact ⟨rfl, rfl, rfl⟩
  · rw [fu_n e, fu_n e, fu_n e]
    have e4 : ∀ (μ : kM) (k a : Nat) (v : Int32), uI μ k G.1 v a i = μ a i := fun _ _ _ _ => uI_ne (Or.inr e)
    simp only [e4]
    exact H.2 i (by omega)
theorem wan_eq (k b : Nat) : (if k = 0 then nI b else if k = 1 then nI b + nI 1 else nI 2 * (nI b + nI 1)) = nI (wan k b) := by
  rw [nI_add, pk_mul]
  unfold wan
  split
  · rfl
  · split <;> rfl
theorem KD_cut {G : Kp} {k i : Nat} {μ : kM} (H : KD G k μ) : KD (G.1 - i, G.2) k (uI μ k 4 (nI (G.1 - i))) := by
  refine ⟨uI_same _ _ _ _, fun j hj => ?_⟩
  have hj : j < G.1 - i := hj
  rw [uI_off (by omega), uI_off (by omega), uI_off (by omega)]
  exact H.2 j (by omega)
theorem CS_fa {S : AS} {μ : kM} {q : kq4} (f : Int32) (h : CS S μ q) : CS (sFa S f) (uI μ 1 10 f) q := by
  have ht := h.2.1.1
  have f1 : ∀ k, k ≠ 1 → uI μ 1 10 f k = μ k := fun k hk => uI_off hk
  have f2 : ∀ j, j ≠ 10 → uI μ 1 10 f 1 j = μ 1 j := fun j hj => uI_ne (Or.inr hj)
  exact ⟨h.1, h.2.1, cD_fr (S := S) h.2.2.1 rfl (f2 7 (by decide)) (fun k a b => f1 k (by rcases ht with z | z <;> omega)), cG_fr (S := S) h.2.2.2.1 (fun k a b => f1 k (by omega)), cSh_fr (S := S) h.2.2.2.2.1 (fun k a b => f1 k (by omega)), ⟨by rw [f2 9 (by decide)]; exact h.2.2.2.2.2.1.1, uI_same _ _ _ _⟩, cFr_fr (S := S) h.2.2.2.2.2.2 ⟨rfl, rfl⟩ (f2 8 (by decide)) (fun k a b => f1 k (by omega))⟩
theorem CS_tc {S : AS} {μ : kM} {q : kq4} (f : Int32) (h : CS S μ q) : CS (sTr S f) (uI μ 1 9 f) q := by
  have ht := h.2.1.1
  have f1 : ∀ k, k ≠ 1 → uI μ 1 9 f k = μ k := fun k hk => uI_off hk
  have f2 : ∀ j, j ≠ 9 → uI μ 1 9 f 1 j = μ 1 j := fun j hj => uI_ne (Or.inr hj)
  exact ⟨h.1, h.2.1, cD_fr (S := S) h.2.2.1 rfl (f2 7 (by decide)) (fun k a b => f1 k (by rcases ht with z | z <;> omega)), cG_fr (S := S) h.2.2.2.1 (fun k a b => f1 k (by omega)), cSh_fr (S := S) h.2.2.2.2.1 (fun k a b => f1 k (by omega)), ⟨uI_same _ _ _ _, by rw [f2 10 (by decide)]; exact h.2.2.2.2.2.1.2⟩, cFr_fr (S := S) h.2.2.2.2.2.2 ⟨rfl, rfl⟩ (f2 8 (by decide)) (fun k a b => f1 k (by omega))⟩
/-- what real noted counts no more -/
theorem CS_st {S : AS} {μ : kM} {q : kq4} (h : CS S μ q) : CS S (uI μ 1 8 (nI 0)) q := by
  have ht := h.2.1.1
  have f1 : ∀ k, k ≠ 1 → uI μ 1 8 (nI 0) k = μ k := fun k hk => uI_off hk
  have f2 : ∀ j, j ≠ 8 → uI μ 1 8 (nI 0) 1 j = μ 1 j := fun j hj => uI_ne (Or.inr hj)
  exact ⟨h.1, h.2.1, cD_fr h.2.2.1 rfl (f2 7 (by decide)) (fun k a b => f1 k (by rcases ht with z | z <;> omega)), cG_fr h.2.2.2.1 (fun k a b => f1 k (by omega)), cSh_fr h.2.2.2.2.1 (fun k a b => f1 k (by omega)), ⟨by rw [f2 9 (by decide)]; exact h.2.2.2.2.2.1.1, by rw [f2 10 (by decide)]; exact h.2.2.2.2.2.1.2⟩, Or.inl (uI_same _ _ _ _)⟩
theorem CS_sn {S : AS} {μ : kM} {q : kq4} {v : Nat} (hv : 1 ≤ v ∧ v ≤ 13) (h : CS S μ q) : CS (sSn S v) (uI (uI μ q.1 7 (nI v)) 1 8 (nI 0)) q := by
  have ht := h.2.1.1
  have t1 : q.1 ≠ 1 := by rcases ht with z | z <;> omega
  have f1 : ∀ k, k ≠ 1 → k ≠ q.1 → uI (uI μ q.1 7 (nI v)) 1 8 (nI 0) k = μ k := fun k a b => by rw [uI_off a, uI_off b]
  have f2 : ∀ j, j ≠ 8 → uI (uI μ q.1 7 (nI v)) 1 8 (nI 0) 1 j = μ 1 j := fun j hj => by rw [uI_ne (Or.inr hj), uI_off (fun z => t1 z.symm)]
  have f3 : ∀ j, j ≠ 7 → uI (uI μ q.1 7 (nI v)) 1 8 (nI 0) q.1 j = μ q.1 j := fun j hj => by rw [uI_off t1, uI_ne (Or.inr hj)]
  obtain ⟨d1, d2, d3, d4⟩ := h.2.2.1.1
  have fT : ∀ j, j < 7 → uI (uI μ q.1 7 (nI v)) 1 8 (nI 0) (q.1 + 1 + j) = μ (q.1 + 1 + j) := fun j hj => f1 _ (by rcases ht with z | z <;> omega) (by omega)
  refine ⟨⟨h.1.1, h.1.2.1, fun _ => hv, hv.2, h.1.2.2.2.2⟩, h.2.1, ⟨⟨by rw [f3 8 (by decide)]; exact d1, by rw [f3 9 (by decide)]; exact d2, fun i hi => by rw [fT 0 (by decide), fT 1 (by decide)]; exact d3 i hi, fun i hi => by rw [fT 2 (by decide), fT 3 (by decide), fT 4 (by decide), fT 5 (by decide), fT 6 (by decide)]; exact d4 i hi⟩, by rw [uI_off t1, uI_same]; rfl, by rw [f2 7 (by decide)]; exact h.2.2.1.2.2⟩, cG_fr (S := S) h.2.2.2.1 (fun k a b => f1 k (by omega) (by rcases ht with z | z <;> omega)), cSh_fr (S := S) h.2.2.2.2.1 (fun k a b => f1 k (by omega) (by rcases ht with z | z <;> omega)), ⟨by rw [f2 9 (by decide)]; exact h.2.2.2.2.2.1.1, by rw [f2 10 (by decide)]; exact h.2.2.2.2.2.1.2⟩, Or.inl (uI_same _ _ _ _)⟩
theorem CS_aw {S : AS} {μ : kM} {q : kq4} {v : Nat} (hv : v < 2 ^ dP (aD S)) (h : CS S μ q) : CS (sAw S v) (uI (uI μ 1 7 (nI v)) 1 8 (nI 0)) q := by
  have ht := h.2.1.1
  have f1 : ∀ k, k ≠ 1 → uI (uI μ 1 7 (nI v)) 1 8 (nI 0) k = μ k := fun k a => by rw [uI_off a, uI_off a]
  have f2 : ∀ j, j ≠ 8 → j ≠ 7 → uI (uI μ 1 7 (nI v)) 1 8 (nI 0) 1 j = μ 1 j := fun j a b => by rw [uI_ne (Or.inr a), uI_ne (Or.inr b)]
  refine ⟨⟨h.1.1, h.1.2.1, h.1.2.2.1, h.1.2.2.2.1, hv, h.1.2.2.2.2.2⟩, h.2.1, ⟨TD_fr h.2.2.1.1 (fun k a b => f1 k (by rcases ht with z | z <;> omega)), by rw [f1 q.1 (by rcases ht with z | z <;> omega)]; exact h.2.2.1.2.1, by rw [uI_ne (Or.inr (by decide)), uI_same]; rfl⟩, cG_fr (S := S) h.2.2.2.1 (fun k a b => f1 k (by omega)), cSh_fr (S := S) h.2.2.2.2.1 (fun k a b => f1 k (by omega)), ⟨by rw [f2 9 (by decide) (by decide)]; exact h.2.2.2.2.2.1.1, by rw [f2 10 (by decide) (by decide)]; exact h.2.2.2.2.2.1.2⟩, Or.inl (uI_same _ _ _ _)⟩
/-- other gifts -/
theorem CS_gf {S : AS} {μ μ' : kM} {q : kq4} {G : Kp} (h : CS S μ q) (hG : okG G ∧ G.1 ≤ 6) (e0 : μ 1 8 = nI 0) (hk : KD G 3 μ') (h30 : μ' 3 0 = μ 3 0) (f : ∀ k, (k < 3 ∨ 6 < k) → μ' k = μ k) : CS (sGf S G) μ' q := by
  have ht := h.2.1.1
  exact ⟨⟨h.1.1, h.1.2.1, h.1.2.2.1, h.1.2.2.2.1, h.1.2.2.2.2.1, hG, h.1.2.2.2.2.2.2⟩, h.2.1, ⟨TD_fr h.2.2.1.1 (fun k a b => f k (by rcases ht with z | z <;> omega)), by rw [f q.1 (by rcases ht with z | z <;> omega)]; exact h.2.2.1.2.1, by rw [f 1 (by omega)]; exact h.2.2.1.2.2⟩, ⟨hk, by rw [h30]; exact h.2.2.2.1.2.1, KD_fr h.2.2.2.1.2.2.1 (fun k a b => f k (by omega)), by rw [f 7 (by omega)]; exact h.2.2.2.1.2.2.2⟩, cSh_fr (S := S) h.2.2.2.2.1 (fun k a b => f k (by omega)), ⟨by rw [f 1 (by omega)]; exact h.2.2.2.2.2.1.1, by rw [f 1 (by omega)]; exact h.2.2.2.2.2.1.2⟩, Or.inl (by rw [f 1 (by omega)]; exact e0)⟩
/-- other readings -/
theorem CS_rd {S : AS} {μ μ' : kM} {q : kq4} {G : Kp} (h : CS S μ q) (hG : (∀ i, i < G.1 → G.2.1 i < dH (aD S) ∧ G.2.2.1 i < 140 ∧ G.2.2.2 i ≤ 99) ∧ G.1 ≤ 8) (hk : KD G 7 μ') (h30 : μ' 7 0 = μ 7 0) (f : ∀ k, (k < 7 ∨ 10 < k) → μ' k = μ k) : CS (sRd S G) μ' q := by
  have ht := h.2.1.1
  exact ⟨⟨h.1.1, h.1.2.1, h.1.2.2.1, h.1.2.2.2.1, h.1.2.2.2.2.1, h.1.2.2.2.2.2.1, hG, h.1.2.2.2.2.2.2.2⟩, h.2.1, ⟨TD_fr h.2.2.1.1 (fun k a b => f k (by rcases ht with z | z <;> omega)), by rw [f q.1 (by rcases ht with z | z <;> omega)]; exact h.2.2.1.2.1, by rw [f 1 (by omega)]; exact h.2.2.1.2.2⟩, ⟨KD_fr h.2.2.2.1.1 (fun k a b => f k (by omega)), by rw [f 3 (by omega)]; exact h.2.2.2.1.2.1, hk, by rw [h30]; exact h.2.2.2.1.2.2.2⟩, cSh_fr (S := S) h.2.2.2.2.1 (fun k a b => f k (by omega)), ⟨by rw [f 1 (by omega)]; exact h.2.2.2.2.2.1.1, by rw [f 1 (by omega)]; exact h.2.2.2.2.2.1.2⟩, cFr_fr (S := S) h.2.2.2.2.2.2 ⟨rfl, rfl⟩ (by rw [f 1 (by omega)]) (fun k a b => f k (by omega))⟩
theorem okG_add {G : Kp} {h w a : Nat} (hG : okG G) (hh : h < 4) (hw : w < 1000) (ha : a ≤ 99) : okG (kpAdd G h w a) := fun i hi => by
  have hi : i < G.1 + 1 := hi
  simp only [kpAdd]
  by_cases e : i = G.1
  · subst e; rw [fu_s, fu_s, fu_s]; exact ⟨hh, hw, ha⟩
  · rw [fu_n e, fu_n e, fu_n e]; exact hG i (by omega)
theorem okR_add {G : Kp} {H h w a : Nat} (hG : ∀ i, i < G.1 → G.2.1 i < H ∧ G.2.2.1 i < 140 ∧ G.2.2.2 i ≤ 99) (hh : h < H) (hw : w < 140) (ha : a ≤ 99) : ∀ i, i < (kpAdd G h w a).1 → (kpAdd G h w a).2.1 i < H ∧ (kpAdd G h w a).2.2.1 i < 140 ∧ (kpAdd G h w a).2.2.2 i ≤ 99 := fun i hi => by
  have hi : i < G.1 + 1 := hi
  simp only [kpAdd]
  by_cases e : i = G.1
  · subst e; rw [fu_s, fu_s, fu_s]; exact ⟨hh, hw, ha⟩
  · rw [fu_n e, fu_n e, fu_n e]; exact hG i (by omega)
theorem hP0 {S : AS} (h : okS S) {k : Nat} (hk : k < dH (aD S)) : 0 < dP (aD S) := by
  have := h.2.1
  omega
theorem HP {S : AS} {μ : kM} {q : kq4} (h : CS S μ q) : μ q.1 8 = 0 ↔ dP (aD S) = 0 := by
  have h4 := h.1.1.1
  rw [h.2.2.1.1.1, ← h.1.2.1]
  exact nI_eq (b := 0) (by omega) (by decide)
set_option maxHeartbeats 4000000 in
theorem x_ofHouse (Γ : kGm) {S : AS} {μ : kM} {q : kq4} (h : CS S μ q) (x : Int32) (y : Int32) : gC Γ yX4_ofHouse mX4_ofHouse 2 [.ref 1, .int x, .int y] μ q (PCi (s_ofHouse S x y) (S) μ) := by
  refine gC.ofG (n := 0) ⟨by decide +kernel, rfl, rfl, by decide⟩ (Nat.le_of_ble_eq_true rfl) ?_
  show gG Γ mX4_ofHouse 2 0 [some (.ref 1), some (.int x), some (.int y)] [] μ q _
  have ht := h.2.1.1
  have hD := h.2.2.1.1
  have okd := h.1.1
  have hH4 := h.1.1.1
  have hP6 := h.1.1.2.1
  refine kG.aload_n 1 dX4_ofHouse_0 rfl rfl ?_
  refine kG.iload_n 2 dX4_ofHouse_1 rfl rfl ?_
  refine gG.callV 5 dX4_ofHouse_2 lX4_80 vX4_isHouse (c_isH Γ h x) rfl rfl ⟨by decide, by decide⟩ rfl ⟨by decide, rfl⟩ ⟨by decide, by decide⟩ (Nat.le_of_ble_eq_true rfl) rfl (fun r2 μ2 q2 hc2 => ?_)
  obtain ⟨rfl, rfl, rfl⟩ := hc2
  refine kG.if_ne 10 8 dX4_ofHouse_5 (by decide) rfl (fun g2 => ?_) (fun g2 => ?_)
  · have hb2 := b2_n0.mp g2
    obtain ⟨kx, hkx, rfl, ex⟩ := inB_t (by omega) hb2
    refine kG.iload_n 11 dX4_ofHouse_10 rfl rfl ?_
    by_cases hs11_0 : y = nI 0
    · rw [hs11_0]
      refine kG.lookup (off := 25) 36 dX4_ofHouse_11 (by decide) (by decide) (by decide) ?_
      refine kG.aload_n 37 dX4_ofHouse_36 rfl rfl ?_
      refine gG.getP 40 dX4_ofHouse_37 fX4_32 ⟨by decide, by decide⟩ rfl rfl rfl rfl ?_
      refine gG.getP 43 dX4_ofHouse_40 fX4_84 (isT_k h.2.1.1) (isT_s h.2.1.1) rfl (PI_T h.2.1.1 (by decide)) rfl ?_
      refine kG.iload_n 44 dX4_ofHouse_43 rfl rfl ?_
      refine gG.iald (n := 4) _ 45 dX4_ofHouse_44 (arT_k h.2.1.1 (by decide)) (arT_s h.2.1.1 (by decide)) rfl (by omega) (by decide) rfl ?_
      rw [(hD.2.2.1 kx hkx).1]
      refine gG.iret dX4_ofHouse_45 rfl ?_
      refine ⟨?_, h, fun _ _ => rfl⟩
      unfold s_ofHouse
      rw [if_pos hb2, ex]
      rfl
    by_cases hs11_1 : y = nI 1
    · rw [hs11_1]
      refine kG.lookup (off := 35) 46 dX4_ofHouse_11 (by decide) (by decide) (by decide) ?_
      refine kG.aload_n 47 dX4_ofHouse_46 rfl rfl ?_
      refine gG.getP 50 dX4_ofHouse_47 fX4_32 ⟨by decide, by decide⟩ rfl rfl rfl rfl ?_
      refine gG.getP 53 dX4_ofHouse_50 fX4_88 (isT_k h.2.1.1) (isT_s h.2.1.1) rfl (PI_T h.2.1.1 (by decide)) rfl ?_
      refine kG.iload_n 54 dX4_ofHouse_53 rfl rfl ?_
      refine gG.iald (n := 4) _ 55 dX4_ofHouse_54 (arT_k h.2.1.1 (by decide)) (arT_s h.2.1.1 (by decide)) rfl (by omega) (by decide) rfl ?_
      rw [(hD.2.2.1 kx hkx).2]
      refine gG.iret dX4_ofHouse_55 rfl ?_
      refine ⟨?_, h, fun _ _ => rfl⟩
      unfold s_ofHouse
      rw [if_pos hb2, ex]
      rfl
    · refine kG.lookup (off := 45) 56 dX4_ofHouse_11 (by decide) (by have e0 := n_toInt (k := 0) (by decide) hs11_0; have e1 := n_toInt (k := 1) (by decide) hs11_1; show Op.lookupswitch.offset [(0, 25), (1, 35)] 45 _ = 45; simp only [Op.lookupswitch.offset_cons, Op.lookupswitch.offset_nil]; rw [if_neg (fun z => e0 z.symm), if_neg (fun z => e1 z.symm)]) (by decide) ?_
      refine kG.bipush (v := (-2)) 58 dX4_ofHouse_56 (by decide) rfl ?_
      refine gG.iret dX4_ofHouse_58 rfl ?_
      refine ⟨?_, h, fun _ _ => rfl⟩
      unfold s_ofHouse
      rw [if_pos hb2, ex]
      rw [if_neg hs11_0, if_neg hs11_1]
  · have hb2 := b2_0.mp g2
    refine kG.iconst (v := (-1)) 9 dX4_ofHouse_8 (by decide) rfl ?_
    refine gG.iret dX4_ofHouse_9 rfl ?_
    exact ⟨by unfold s_ofHouse; rw [if_neg (by rw [hb2]; decide)], h, fun _ _ => rfl⟩
set_option maxHeartbeats 4000000 in
theorem x_ofPerson (Γ : kGm) {S : AS} {μ : kM} {q : kq4} (h : CS S μ q) (x : Int32) (y : Int32) : gC Γ yX4_ofPerson mX4_ofPerson 2 [.ref 1, .int x, .int y] μ q (PCi (s_ofPerson S x y) (S) μ) := by
  refine gC.ofG (n := 0) ⟨by decide +kernel, rfl, rfl, by decide⟩ (Nat.le_of_ble_eq_true rfl) ?_
  show gG Γ mX4_ofPerson 2 0 [some (.ref 1), some (.int x), some (.int y)] [] μ q _
  have ht := h.2.1.1
  have hD := h.2.2.1.1
  have okd := h.1.1
  have hH4 := h.1.1.1
  have hP6 := h.1.1.2.1
  refine kG.aload_n 1 dX4_ofPerson_0 rfl rfl ?_
  refine kG.iload_n 2 dX4_ofPerson_1 rfl rfl ?_
  refine gG.callV 5 dX4_ofPerson_2 lX4_91 vX4_isPerson (c_isP Γ h x) rfl rfl ⟨by decide, by decide⟩ rfl ⟨by decide, rfl⟩ ⟨by decide, by decide⟩ (Nat.le_of_ble_eq_true rfl) rfl (fun r2 μ2 q2 hc2 => ?_)
  obtain ⟨rfl, rfl, rfl⟩ := hc2
  refine kG.if_ne 10 8 dX4_ofPerson_5 (by decide) rfl (fun g2 => ?_) (fun g2 => ?_)
  · have hb2 := b2_n0.mp g2
    obtain ⟨kx, hkx, rfl, ex⟩ := inB_t (by omega) hb2
    refine kG.iload_n 11 dX4_ofPerson_10 rfl rfl ?_
    by_cases hs11_0 : y = nI 0
    · rw [hs11_0]
      refine kG.tableIn 52 dX4_ofPerson_11 (by decide) (by decide) rfl (by decide) ?_
      refine kG.aload_n 53 dX4_ofPerson_52 rfl rfl ?_
      refine gG.getP 56 dX4_ofPerson_53 fX4_32 ⟨by decide, by decide⟩ rfl rfl rfl rfl ?_
      refine gG.getP 59 dX4_ofPerson_56 fX4_94 (isT_k h.2.1.1) (isT_s h.2.1.1) rfl (PI_T h.2.1.1 (by decide)) rfl ?_
      refine kG.iload_n 60 dX4_ofPerson_59 rfl rfl ?_
      refine gG.iald (n := 6) _ 61 dX4_ofPerson_60 (arT_k h.2.1.1 (by decide)) (arT_s h.2.1.1 (by decide)) rfl (by omega) (by decide) rfl ?_
      rw [(hD.2.2.2 kx hkx).1]
      refine gG.iret dX4_ofPerson_61 rfl ?_
      refine ⟨?_, h, fun _ _ => rfl⟩
      unfold s_ofPerson
      rw [if_pos hb2, ex]
      rfl
    by_cases hs11_1 : y = nI 1
    · rw [hs11_1]
      refine kG.tableIn 62 dX4_ofPerson_11 (by decide) (by decide) rfl (by decide) ?_
      refine kG.aload_n 63 dX4_ofPerson_62 rfl rfl ?_
      refine gG.getP 66 dX4_ofPerson_63 fX4_32 ⟨by decide, by decide⟩ rfl rfl rfl rfl ?_
      refine gG.getP 69 dX4_ofPerson_66 fX4_97 (isT_k h.2.1.1) (isT_s h.2.1.1) rfl (PI_T h.2.1.1 (by decide)) rfl ?_
      refine kG.iload_n 70 dX4_ofPerson_69 rfl rfl ?_
      refine gG.iald (n := 6) _ 71 dX4_ofPerson_70 (arT_k h.2.1.1 (by decide)) (arT_s h.2.1.1 (by decide)) rfl (by omega) (by decide) rfl ?_
      rw [(hD.2.2.2 kx hkx).2.1]
      refine gG.iret dX4_ofPerson_71 rfl ?_
      refine ⟨?_, h, fun _ _ => rfl⟩
      unfold s_ofPerson
      rw [if_pos hb2, ex]
      rfl
    by_cases hs11_2 : y = nI 2
    · rw [hs11_2]
      refine kG.tableIn 72 dX4_ofPerson_11 (by decide) (by decide) rfl (by decide) ?_
      refine kG.aload_n 73 dX4_ofPerson_72 rfl rfl ?_
      refine gG.getP 76 dX4_ofPerson_73 fX4_32 ⟨by decide, by decide⟩ rfl rfl rfl rfl ?_
      refine gG.getP 79 dX4_ofPerson_76 fX4_100 (isT_k h.2.1.1) (isT_s h.2.1.1) rfl (PI_T h.2.1.1 (by decide)) rfl ?_
      refine kG.iload_n 80 dX4_ofPerson_79 rfl rfl ?_
      refine gG.iald (n := 6) _ 81 dX4_ofPerson_80 (arT_k h.2.1.1 (by decide)) (arT_s h.2.1.1 (by decide)) rfl (by omega) (by decide) rfl ?_
      rw [(hD.2.2.2 kx hkx).2.2.1]
      refine gG.iret dX4_ofPerson_81 rfl ?_
      refine ⟨?_, h, fun _ _ => rfl⟩
      unfold s_ofPerson
      rw [if_pos hb2, ex]
      rfl
    by_cases hs11_3 : y = nI 3
    · rw [hs11_3]
      refine kG.tableIn 82 dX4_ofPerson_11 (by decide) (by decide) rfl (by decide) ?_
      refine kG.aload_n 83 dX4_ofPerson_82 rfl rfl ?_
      refine gG.getP 86 dX4_ofPerson_83 fX4_32 ⟨by decide, by decide⟩ rfl rfl rfl rfl ?_
      refine gG.getP 89 dX4_ofPerson_86 fX4_103 (isT_k h.2.1.1) (isT_s h.2.1.1) rfl (PI_T h.2.1.1 (by decide)) rfl ?_
      refine kG.iload_n 90 dX4_ofPerson_89 rfl rfl ?_
      refine gG.iald (n := 6) _ 91 dX4_ofPerson_90 (arT_k h.2.1.1 (by decide)) (arT_s h.2.1.1 (by decide)) rfl (by omega) (by decide) rfl ?_
      rw [(hD.2.2.2 kx hkx).2.2.2.1]
      refine gG.iret dX4_ofPerson_91 rfl ?_
      refine ⟨?_, h, fun _ _ => rfl⟩
      unfold s_ofPerson
      rw [if_pos hb2, ex]
      rfl
    by_cases hs11_4 : y = nI 4
    · rw [hs11_4]
      refine kG.tableIn 92 dX4_ofPerson_11 (by decide) (by decide) rfl (by decide) ?_
      refine kG.aload_n 93 dX4_ofPerson_92 rfl rfl ?_
      refine gG.getP 96 dX4_ofPerson_93 fX4_32 ⟨by decide, by decide⟩ rfl rfl rfl rfl ?_
      refine gG.getP 99 dX4_ofPerson_96 fX4_106 (isT_k h.2.1.1) (isT_s h.2.1.1) rfl (PI_T h.2.1.1 (by decide)) rfl ?_
      refine kG.iload_n 100 dX4_ofPerson_99 rfl rfl ?_
      refine gG.iald (n := 6) _ 101 dX4_ofPerson_100 (arT_k h.2.1.1 (by decide)) (arT_s h.2.1.1 (by decide)) rfl (by omega) (by decide) rfl ?_
      rw [(hD.2.2.2 kx hkx).2.2.2.2]
      refine gG.iret dX4_ofPerson_101 rfl ?_
      refine ⟨?_, h, fun _ _ => rfl⟩
      unfold s_ofPerson
      rw [if_pos hb2, ex]
      rfl
    by_cases hs11_5 : y = nI 5
    · rw [hs11_5]
      refine kG.tableIn 102 dX4_ofPerson_11 (by decide) (by decide) rfl (by decide) ?_
      refine kG.aload_n 103 dX4_ofPerson_102 rfl rfl ?_
      refine gG.getP 106 dX4_ofPerson_103 fX4_32 ⟨by decide, by decide⟩ rfl rfl rfl rfl ?_
      refine gG.getP 109 dX4_ofPerson_106 fX4_94 (isT_k h.2.1.1) (isT_s h.2.1.1) rfl (PI_T h.2.1.1 (by decide)) rfl ?_
      refine kG.iload_n 110 dX4_ofPerson_109 rfl rfl ?_
      refine gG.iald (n := 6) _ 111 dX4_ofPerson_110 (arT_k h.2.1.1 (by decide)) (arT_s h.2.1.1 (by decide)) rfl (by omega) (by decide) rfl ?_
      rw [(hD.2.2.2 kx hkx).1]
      refine kG.aload_n 112 dX4_ofPerson_111 rfl rfl ?_
      refine gG.getP 115 dX4_ofPerson_112 fX4_32 ⟨by decide, by decide⟩ rfl rfl rfl rfl ?_
      refine gG.getP 118 dX4_ofPerson_115 fX4_103 (isT_k h.2.1.1) (isT_s h.2.1.1) rfl (PI_T h.2.1.1 (by decide)) rfl ?_
      refine kG.iload_n 119 dX4_ofPerson_118 rfl rfl ?_
      refine gG.iald (n := 6) _ 120 dX4_ofPerson_119 (arT_k h.2.1.1 (by decide)) (arT_s h.2.1.1 (by decide)) rfl (by omega) (by decide) rfl ?_
      rw [(hD.2.2.2 kx hkx).2.2.2.1]
      refine gG.callS 123 dX4_ofPerson_120 lX4_109 vX4_wantsOf (c_wantsOf Γ (dkd (aD S) kx) _ (okd.2.2.2 kx hkx).1) rfl rfl ⟨by decide, by decide⟩ (Nat.le_of_ble_eq_true rfl) rfl (fun r120 μ120 q120 hc120 => ?_)
      obtain ⟨rfl, rfl, rfl⟩ := hc120
      refine gG.iret dX4_ofPerson_123 rfl ?_
      refine ⟨?_, h, fun _ _ => rfl⟩
      unfold s_ofPerson
      rw [if_pos hb2, ex]
      rw [wan_eq]
      rfl
    by_cases hs11_6 : y = nI 6
    · rw [hs11_6]
      refine kG.tableIn 124 dX4_ofPerson_11 (by decide) (by decide) rfl (by decide) ?_
      refine kG.aload_n 125 dX4_ofPerson_124 rfl rfl ?_
      refine kG.iload_n 126 dX4_ofPerson_125 rfl rfl ?_
      refine gG.callV 129 dX4_ofPerson_126 lX4_113 vX4_isAway (c_isAway Γ (aA S) kx (by have := aA_64 h.1; omega) (by omega) h.2.2.1.2.2) rfl rfl ⟨by decide, by decide⟩ rfl ⟨by decide, rfl⟩ ⟨by decide, by decide⟩ (Nat.le_of_ble_eq_true rfl) rfl (fun r126 μ126 q126 hc126 => ?_)
      obtain ⟨rfl, rfl, rfl⟩ := hc126
      refine kG.if_eq 136 132 dX4_ofPerson_129 (by decide) rfl (fun h129 => ?_) (fun h129 => ?_)
      · have hz := b2_0.mp h129
        refine kG.iconst (v := nI 0) 137 dX4_ofPerson_136 (by decide) rfl ?_
        refine gG.iret dX4_ofPerson_137 rfl ?_
        refine ⟨?_, h, fun _ _ => rfl⟩
        unfold s_ofPerson
        rw [if_pos hb2, ex]
        rw [hz]
        rfl
      · have hz := b2_n0.mp h129
        refine kG.iconst (v := nI 1) 133 dX4_ofPerson_132 (by decide) rfl ?_
        refine kG.goto 137 dX4_ofPerson_133 (by decide) ?_
        refine gG.iret dX4_ofPerson_137 rfl ?_
        refine ⟨?_, h, fun _ _ => rfl⟩
        unfold s_ofPerson
        rw [if_pos hb2, ex]
        rw [hz]
        rfl
    · refine kG.tableOut 138 dX4_ofPerson_11 (ksw_7 hs11_0 hs11_1 hs11_2 hs11_3 hs11_4 hs11_5 hs11_6) (by decide) ?_
      refine kG.bipush (v := (-2)) 140 dX4_ofPerson_138 (by decide) rfl ?_
      refine gG.iret dX4_ofPerson_140 rfl ?_
      refine ⟨?_, h, fun _ _ => rfl⟩
      unfold s_ofPerson
      rw [if_pos hb2, ex]
      rw [if_neg hs11_0, if_neg hs11_1, if_neg hs11_2, if_neg hs11_3, if_neg hs11_4, if_neg hs11_5, if_neg hs11_6]
  · have hb2 := b2_0.mp g2
    refine kG.iconst (v := (-1)) 9 dX4_ofPerson_8 (by decide) rfl ?_
    refine gG.iret dX4_ofPerson_9 rfl ?_
    exact ⟨by unfold s_ofPerson; rw [if_neg (by rw [hb2]; decide)], h, fun _ _ => rfl⟩
set_option maxHeartbeats 4000000 in
theorem x_seam (Γ : kGm) {S : AS} {μ : kM} {q : kq4} (h : CS S μ q) (x : Int32) : gC Γ yX4_seam mX4_seam 1 [.ref 1, .int x] μ q (PCi (s_seam S x) (n_seam S x) μ) := by
  refine gC.ofG (n := 0) ⟨by decide +kernel, rfl, rfl, by decide⟩ (Nat.le_of_ble_eq_true rfl) ?_
  show gG Γ mX4_seam 1 0 [some (.ref 1), some (.int x), none] [] μ q _
  have ht := h.2.1.1
  have hD := h.2.2.1.1
  have okd := h.1.1
  have hH4 := h.1.1.1
  have hP6 := h.1.1.2.1
  refine kG.iload_n 1 dX4_seam_0 rfl rfl ?_
  refine kG.iconst (v := nI 1) 2 dX4_seam_1 (by decide) rfl ?_
  refine kG.icmp_lt 11 5 dX4_seam_2 (by decide) rfl (fun h2 => ?_) (fun h2 => ?_)
  · have hb : bt x 1 13 = false := decide_eq_false (fun z => z.1 h2)
    refine kG.bipush (v := (-2)) 13 dX4_seam_11 (by decide) rfl ?_
    refine gG.iret dX4_seam_13 rfl ?_
    refine ⟨by unfold s_seam; rw [hb]; rfl, ?_, fun _ _ => rfl⟩
    unfold n_seam
    rw [if_neg (by rw [hb]; rintro ⟨z, _⟩; cases z)]
    exact h
  · refine kG.iload_n 6 dX4_seam_5 rfl rfl ?_
    refine kG.bipush (v := nI 14) 8 dX4_seam_6 (by decide) rfl ?_
    refine kG.icmp_lt 14 11 dX4_seam_8 (by decide) rfl (fun h8 => ?_) (fun h8 => ?_)
    · have hb : bt x 1 13 = true := decide_eq_true ⟨h2, lt14.mp h8⟩
      obtain ⟨v, v1, v2, rfl, ex⟩ := bt_t (by decide) (by decide) hb
      refine kG.aload_n 15 dX4_seam_14 rfl rfl ?_
      refine gG.getP 18 dX4_seam_15 fX4_32 ⟨by decide, by decide⟩ rfl rfl rfl rfl ?_
      refine gG.getI 21 dX4_seam_18 fX4_77 (isT_k h.2.1.1) (isT_s h.2.1.1) rfl rfl ?_
      refine kG.if_ne 27 24 dX4_seam_21 (by decide) rfl (fun h21 => ?_) (fun h21 => ?_)
      · have hz : dP (aD S) ≠ 0 := fun z => h21 ((HP h).mpr z)
        refine kG.aload_n 28 dX4_seam_27 rfl rfl ?_
        refine gG.getP 31 dX4_seam_28 fX4_32 ⟨by decide, by decide⟩ rfl rfl rfl rfl ?_
        refine gG.getI 34 dX4_seam_31 fX4_116 (isT_k h.2.1.1) (isT_s h.2.1.1) rfl rfl ?_
        rw [h.2.2.1.2.1]
        refine kG.istore_n 35 dX4_seam_34 (by decide) rfl rfl ?_
        dsimp only [List.set]
        refine kG.aload_n 36 dX4_seam_35 rfl rfl ?_
        refine gG.getP 39 dX4_seam_36 fX4_32 ⟨by decide, by decide⟩ rfl rfl rfl rfl ?_
        refine kG.iload_n 40 dX4_seam_39 rfl rfl ?_
        refine gG.putI 43 dX4_seam_40 fX4_116 (isT_k h.2.1.1) (isT_s h.2.1.1) rfl rfl ⟨rfl, rfl⟩ rfl ?_
        refine kG.aload_n 44 dX4_seam_43 rfl rfl ?_
        refine kG.iconst (v := nI 0) 45 dX4_seam_44 (by decide) rfl ?_
        refine gG.putI 48 dX4_seam_45 fX4_55 ⟨by decide, by decide⟩ rfl rfl rfl ⟨by decide, by decide⟩ rfl ?_
        refine kG.iload_n 49 dX4_seam_48 rfl rfl ?_
        refine gG.iret dX4_seam_49 rfl ?_
        refine ⟨by unfold s_seam; rw [if_pos hb, if_neg hz], ?_, fun k hk => by rw [uI_off (by omega), uI_off (by rcases ht with z | z <;> omega)]⟩
        unfold n_seam
        rw [if_pos ⟨hb, hz⟩, ex]
        exact CS_sn ⟨v1, v2⟩ h
      · have hz := (HP h).mp h21
        refine kG.bipush (v := (-3)) 26 dX4_seam_24 (by decide) rfl ?_
        refine gG.iret dX4_seam_26 rfl ?_
        refine ⟨by unfold s_seam; rw [if_pos hb, if_pos hz], ?_, fun _ _ => rfl⟩
        unfold n_seam
        rw [if_neg (fun z => z.2 hz)]
        exact h
    · have hb : bt x 1 13 = false := decide_eq_false (fun z => h8 (lt14.mpr z.2))
      refine kG.bipush (v := (-2)) 13 dX4_seam_11 (by decide) rfl ?_
      refine gG.iret dX4_seam_13 rfl ?_
      refine ⟨by unfold s_seam; rw [hb]; rfl, ?_, fun _ _ => rfl⟩
      unfold n_seam
      rw [if_neg (by rw [hb]; rintro ⟨z, _⟩; cases z)]
      exact h
set_option maxHeartbeats 4000000 in
theorem x_away (Γ : kGm) {S : AS} {μ : kM} {q : kq4} (h : CS S μ q) (x : Int32) (b : Bool) : gC Γ yX4_away mX4_away 2 [.ref 1, .int x, .int (b2 b)] μ q (PCi (s_away S x b) (n_away S x b) μ) := by
  refine gC.ofG (n := 0) ⟨by decide +kernel, rfl, rfl, by decide⟩ (Nat.le_of_ble_eq_true rfl) ?_
  show gG Γ mX4_away 2 0 [some (.ref 1), some (.int x), some (.int (b2 b))] [] μ q _
  have ht := h.2.1.1
  have hD := h.2.2.1.1
  have okd := h.1.1
  have hH4 := h.1.1.1
  have hP6 := h.1.1.2.1
  refine kG.aload_n 1 dX4_away_0 rfl rfl ?_
  refine kG.iload_n 2 dX4_away_1 rfl rfl ?_
  refine gG.callV 5 dX4_away_2 lX4_91 vX4_isPerson (c_isP Γ h x) rfl rfl ⟨by decide, by decide⟩ rfl ⟨by decide, rfl⟩ ⟨by decide, by decide⟩ (Nat.le_of_ble_eq_true rfl) rfl (fun r2 μ2 q2 hc2 => ?_)
  obtain ⟨rfl, rfl, rfl⟩ := hc2
  refine kG.if_ne 10 8 dX4_away_5 (by decide) rfl (fun g2 => ?_) (fun g2 => ?_)
  · have hb2 := b2_n0.mp g2
    obtain ⟨kx, hkx, rfl, ex⟩ := inB_t (by omega) hb2
    refine kG.aload_n 11 dX4_away_10 rfl rfl ?_
    refine kG.iload_n 12 dX4_away_11 rfl rfl ?_
    refine gG.callV 15 dX4_away_12 lX4_113 vX4_isAway (c_isAway Γ (aA S) kx (by have := aA_64 h.1; omega) (by omega) h.2.2.1.2.2) rfl rfl ⟨by decide, by decide⟩ rfl ⟨by decide, rfl⟩ ⟨by decide, by decide⟩ (Nat.le_of_ble_eq_true rfl) rfl (fun r12 μ12 q12 hc12 => ?_)
    obtain ⟨rfl, rfl, rfl⟩ := hc12
    refine kG.iload_n 16 dX4_away_15 rfl rfl ?_
    refine kG.icmp_ne 21 19 dX4_away_16 (by decide) rfl (fun h16 => ?_) (fun h16 => ?_)
    · have hz : ¬ (aA S).testBit kx = b := fun z => h16 (by rw [z])
      refine kG.aload_n 22 dX4_away_21 rfl rfl ?_
      refine kG.dup 23 dX4_away_22 rfl rfl ?_
      refine gG.getI 26 dX4_away_23 fX4_51 ⟨by decide, by decide⟩ rfl rfl rfl ?_
      refine kG.iconst (v := nI 1) 27 dX4_away_26 (by decide) rfl ?_
      refine kG.iload_n 28 dX4_away_27 rfl rfl ?_
      refine kG.ishl 29 dX4_away_28 rfl ?_
      rw [h.2.2.1.2.2, n_shl (by omega)]
      refine kG.ixor 30 dX4_away_29 rfl ?_
      rw [n_xor]
      refine gG.putI 33 dX4_away_30 fX4_51 ⟨by decide, by decide⟩ rfl rfl rfl ⟨rfl, rfl⟩ rfl ?_
      refine kG.aload_n 34 dX4_away_33 rfl rfl ?_
      refine kG.iconst (v := nI 0) 35 dX4_away_34 (by decide) rfl ?_
      refine gG.putI 38 dX4_away_35 fX4_55 ⟨by decide, by decide⟩ rfl rfl rfl ⟨by decide, by decide⟩ rfl ?_
      refine kG.iconst (v := nI 1) 39 dX4_away_38 (by decide) rfl ?_
      refine gG.iret dX4_away_39 rfl ?_
      refine ⟨by unfold s_away; rw [if_pos hb2, ex, if_neg hz], ?_, fun k hk => by rw [uI_off (by omega), uI_off (by omega)]⟩
      unfold n_away
      rw [ex, if_pos ⟨hb2, hz⟩]
      exact CS_aw (Nat.xor_lt_two_pow h.1.2.2.2.2.1 (Nat.pow_lt_pow_right (by decide) hkx)) h
    · have hz : (aA S).testBit kx = b := b2_eq.mp h16
      refine kG.iconst (v := nI 0) 20 dX4_away_19 (by decide) rfl ?_
      refine gG.iret dX4_away_20 rfl ?_
      refine ⟨by unfold s_away; rw [if_pos hb2, ex, if_pos hz], ?_, fun _ _ => rfl⟩
      unfold n_away
      rw [ex, if_neg (fun z => z.2 hz)]
      exact h
  · have hb2 := b2_0.mp g2
    refine kG.iconst (v := (-1)) 9 dX4_away_8 (by decide) rfl ?_
    refine gG.iret dX4_away_9 rfl ?_
    refine ⟨by unfold s_away; rw [if_neg (by rw [hb2]; decide)], ?_, fun _ _ => rfl⟩
    unfold n_away
    rw [if_neg (by rw [hb2]; rintro ⟨z, _⟩; cases z)]
    exact h
set_option maxHeartbeats 4000000 in
theorem x_gift (Γ : kGm) {S : AS} {μ : kM} {q : kq4} (h : CS S μ q) (x : Int32) (y : Int32) (z : Int32) : gC Γ yX4_gift mX4_gift 2 [.ref 1, .int x, .int y, .int z] μ q (PCi (s_gift S x y z) (n_gift S x y z) μ) := by
  refine gC.ofG (n := 0) ⟨by decide +kernel, rfl, rfl, by decide⟩ (Nat.le_of_ble_eq_true rfl) ?_
  show gG Γ mX4_gift 2 0 [some (.ref 1), some (.int x), some (.int y), some (.int z)] [] μ q _
  have ht := h.2.1.1
  have hD := h.2.2.1.1
  have okd := h.1.1
  have hH4 := h.1.1.1
  have hP6 := h.1.1.2.1
  refine kG.aload_n 1 dX4_gift_0 rfl rfl ?_
  refine kG.iload_n 2 dX4_gift_1 rfl rfl ?_
  refine gG.callV 5 dX4_gift_2 lX4_80 vX4_isHouse (c_isH Γ h x) rfl rfl ⟨by decide, by decide⟩ rfl ⟨by decide, rfl⟩ ⟨by decide, by decide⟩ (Nat.le_of_ble_eq_true rfl) rfl (fun r2 μ2 q2 hc2 => ?_)
  obtain ⟨rfl, rfl, rfl⟩ := hc2
  refine kG.if_ne 10 8 dX4_gift_5 (by decide) rfl (fun g2 => ?_) (fun g2 => ?_)
  · have hb2 := b2_n0.mp g2
    obtain ⟨kx, hkx, rfl, ex⟩ := inB_t (by omega) hb2
    refine kG.iload_n 11 dX4_gift_10 rfl rfl ?_
    refine gG.callS 14 dX4_gift_11 lX4_119 vX4_isWeek (c_isWk Γ y) rfl rfl ⟨by decide, by decide⟩ (Nat.le_of_ble_eq_true rfl) rfl (fun r11 μ11 q11 hc11 => ?_)
    obtain ⟨rfl, rfl, rfl⟩ := hc11
    refine kG.if_eq 28 17 dX4_gift_14 (by decide) rfl (fun h14 => ?_) (fun h14 => ?_)
    · have hw := b2_0.mp h14
      have hbad : (inB y 10 && bt z 1 99) = false := by rw [hw]; rfl
      refine kG.bipush (v := (-2)) 30 dX4_gift_28 (by decide) rfl ?_
      refine gG.iret dX4_gift_30 rfl ?_
      refine ⟨by unfold s_gift; rw [if_pos hb2, if_neg (by rw [hbad]; decide)], ?_, fun _ _ => rfl⟩
      unfold n_gift
      rw [if_neg (fun z => by rw [z.2.1, z.2.2.1] at hbad; cases hbad)]
      exact h
    · have hw := b2_n0.mp h14
      obtain ⟨ky, hky, rfl, ey⟩ := inB_t (by decide) hw
      refine kG.iload_n 18 dX4_gift_17 rfl rfl ?_
      refine kG.iconst (v := nI 1) 19 dX4_gift_18 (by decide) rfl ?_
      refine kG.icmp_lt 28 22 dX4_gift_19 (by decide) rfl (fun h19 => ?_) (fun h19 => ?_)
      · have hbad : (inB (nI ky) 10 && bt z 1 99) = false := by rw [show bt z 1 99 = false from decide_eq_false (fun w => w.1 h19), Bool.and_false]
        refine kG.bipush (v := (-2)) 30 dX4_gift_28 (by decide) rfl ?_
        refine gG.iret dX4_gift_30 rfl ?_
        refine ⟨by unfold s_gift; rw [if_pos hb2, if_neg (by rw [hbad]; decide)], ?_, fun _ _ => rfl⟩
        unfold n_gift
        rw [if_neg (fun z => by rw [z.2.1, z.2.2.1] at hbad; cases hbad)]
        exact h
      · refine kG.iload_n 23 dX4_gift_22 rfl rfl ?_
        refine kG.bipush (v := nI 99) 25 dX4_gift_23 (by decide) rfl ?_
        refine kG.icmp_le 31 28 dX4_gift_25 (by decide) rfl (fun h25 => ?_) (fun h25 => ?_)
        · have hz : bt z 1 99 = true := decide_eq_true ⟨h19, Int32.not_lt.mpr h25⟩
          obtain ⟨kz, z1, z2, rfl, ez⟩ := bt_t (by decide) (by decide) hz
          refine kG.aload_n 32 dX4_gift_31 rfl rfl ?_
          refine kG.iconst (v := nI 0) 33 dX4_gift_32 (by decide) rfl ?_
          refine gG.putI 36 dX4_gift_33 fX4_55 ⟨by decide, by decide⟩ rfl rfl rfl ⟨by decide, by decide⟩ rfl ?_
          have h0 := CS_st h
          refine kG.aload_n 37 dX4_gift_36 rfl rfl ?_
          refine gG.getP 40 dX4_gift_37 fX4_22 ⟨by decide, by decide⟩ rfl rfl rfl rfl ?_
          refine kG.iload_n 41 dX4_gift_40 rfl rfl ?_
          refine kG.iload_n 42 dX4_gift_41 rfl rfl ?_
          refine kG.iload_n 43 dX4_gift_42 rfl rfl ?_
          refine gG.callV 46 dX4_gift_43 lX4_122 vX0_keep (c_keep Γ (Or.inl rfl) h0.2.2.2.1.1 h0.2.2.2.1.2.1 h.1.2.2.2.2.2.1.2 (nI kx) (nI ky) (nI kz)) rfl rfl ⟨by decide, by decide⟩ rfl ⟨by decide, rfl⟩ ⟨by decide, by decide⟩ (Nat.le_of_ble_eq_true rfl) rfl (fun r43 μ43 q43 hc43 => ?_)
          change (((aG S).1 = 6 ∧ _ ∧ _ ∧ _) ∨ ((aG S).1 < 6 ∧ _ ∧ _ ∧ _)) at hc43
          rcases hc43 with ⟨g1, rfl, rfl, rfl⟩ | ⟨g1, rfl, rfl, rfl⟩ <;>
          (refine gG.iret dX4_gift_46 rfl ?_
           first | exact ⟨by unfold s_gift; rw [if_pos hb2, if_pos (by rw [hw, hz]; rfl), if_pos g1], by unfold n_gift; rw [if_neg (fun z => z.2.2.2 g1)]; exact h0, fun k hk => by rw [uI_off (by omega)]⟩ | exact ⟨by unfold s_gift; rw [if_pos hb2, if_pos (by rw [hw, hz]; rfl), if_neg (fun z : (aG S).1 = 6 => absurd g1 (by rw [z]; decide))], by unfold n_gift; rw [if_pos ⟨hb2, hw, hz, fun z => absurd g1 (by rw [z]; decide)⟩, ex, ey, ez]; exact CS_gf h0 ⟨okG_add h.1.2.2.2.2.2.1.1 (by omega) (by omega) z2, g1⟩ (uI_same _ _ _ _) (KD_add h0.2.2.2.1.1) (by rw [uI_ne (Or.inr (by decide)), uI_off (by decide), uI_off (by decide), uI_off (by decide)]) (fun k hk => by rw [uI_off (by omega), uI_off (by omega), uI_off (by omega), uI_off (by omega)]), fun k hk => by rw [uI_off (by omega), uI_off (by omega), uI_off (by omega), uI_off (by omega), uI_off (by omega)]⟩)
        · have hbad : (inB (nI ky) 10 && bt z 1 99) = false := by rw [show bt z 1 99 = false from decide_eq_false (fun w => h25 (Int32.not_lt.mp w.2)), Bool.and_false]
          refine kG.bipush (v := (-2)) 30 dX4_gift_28 (by decide) rfl ?_
          refine gG.iret dX4_gift_30 rfl ?_
          refine ⟨by unfold s_gift; rw [if_pos hb2, if_neg (by rw [hbad]; decide)], ?_, fun _ _ => rfl⟩
          unfold n_gift
          rw [if_neg (fun z => by rw [z.2.1, z.2.2.1] at hbad; cases hbad)]
          exact h
  · have hb2 := b2_0.mp g2
    refine kG.iconst (v := (-1)) 9 dX4_gift_8 (by decide) rfl ?_
    refine gG.iret dX4_gift_9 rfl ?_
    refine ⟨by unfold s_gift; rw [if_neg (by rw [hb2]; decide)], ?_, fun _ _ => rfl⟩
    unfold n_gift
    rw [if_neg (by rw [hb2]; rintro ⟨z, _⟩; cases z)]
    exact h
set_option maxHeartbeats 4000000 in
theorem x_undo (Γ : kGm) {S : AS} {μ : kM} {q : kq4} (h : CS S μ q) (x : Int32) : gC Γ yX4_undo mX4_undo 2 [.ref 1, .int x] μ q (PCi (s_undo S x) (n_undo S x) μ) := by
  refine gC.ofG (n := 0) ⟨by decide +kernel, rfl, rfl, by decide⟩ (Nat.le_of_ble_eq_true rfl) ?_
  show gG Γ mX4_undo 2 0 [some (.ref 1), some (.int x)] [] μ q _
  have ht := h.2.1.1
  have hD := h.2.2.1.1
  have okd := h.1.1
  have hH4 := h.1.1.1
  have hP6 := h.1.1.2.1
  refine kG.aload_n 1 dX4_undo_0 rfl rfl ?_
  refine kG.iconst (v := nI 0) 2 dX4_undo_1 (by decide) rfl ?_
  refine gG.putI 5 dX4_undo_2 fX4_55 ⟨by decide, by decide⟩ rfl rfl rfl ⟨by decide, by decide⟩ rfl ?_
  have h0 := CS_st h
  have h6 := h.1.2.2.2.2.2.1.2
  refine kG.aload_n 6 dX4_undo_5 rfl rfl ?_
  refine gG.getP 9 dX4_undo_6 fX4_22 ⟨by decide, by decide⟩ rfl rfl rfl rfl ?_
  refine kG.iload_n 10 dX4_undo_9 rfl rfl ?_
  refine gG.callV 13 dX4_undo_10 lX4_126 vX0_takeBack (c_takeBack Γ (Or.inl rfl) h0.2.2.2.1.1 h.1.2.2.2.2.2.1.2 x) rfl rfl ⟨by decide, by decide⟩ rfl ⟨by decide, rfl⟩ ⟨by decide, by decide⟩ (Nat.le_of_ble_eq_true rfl) rfl (fun r10 μ10 q10 hc10 => ?_)
  rcases hc10 with ⟨g1, rfl, rfl, rfl⟩ | ⟨i, g1, rfl, rfl, rfl, rfl⟩ <;>
  (refine gG.iret dX4_undo_13 rfl ?_
   first | exact ⟨by unfold s_undo; rw [if_neg (by rw [show bt x 0 (aG S).1 = false from decide_eq_false (fun z => g1.elim z.1 z.2)]; decide)], by unfold n_undo; rw [if_neg (by rw [show bt x 0 (aG S).1 = false from decide_eq_false (fun z => g1.elim z.1 z.2)]; decide)]; exact h0, fun k hk => by rw [uI_off (by omega)]⟩ | exact ⟨by unfold s_undo; rw [if_pos (bt_n (by omega) (Nat.zero_le _) g1), ixn_n (by omega)], by unfold n_undo; rw [if_pos (bt_n (by omega) (Nat.zero_le _) g1), ixn_n (by omega)]; exact CS_gf h0 ⟨(fun i hi => h.1.2.2.2.2.2.1.1 i (Nat.lt_of_lt_of_le hi (Nat.sub_le _ _))), Nat.le_trans (Nat.sub_le _ _) h.1.2.2.2.2.2.1.2⟩ (uI_same _ _ _ _) (KD_cut h0.2.2.2.1.1) (uI_ne (Or.inr (by decide))) (fun k hk => uI_off (by omega)), fun k hk => by rw [uI_off (by omega), uI_off (by omega)]⟩)
set_option maxHeartbeats 4000000 in
theorem x_reading (Γ : kGm) {S : AS} {μ : kM} {q : kq4} (h : CS S μ q) (x : Int32) (y : Int32) (z : Int32) (v : Int32) : gC Γ yX4_reading mX4_reading 3 [.ref 1, .int x, .int y, .int z, .int v] μ q (PCi (s_reading S x y z v) (n_reading S x y z v) μ) := by
  refine gC.ofG (n := 0) ⟨by decide +kernel, rfl, rfl, by decide⟩ (Nat.le_of_ble_eq_true rfl) ?_
  show gG Γ mX4_reading 3 0 [some (.ref 1), some (.int x), some (.int y), some (.int z), some (.int v)] [] μ q _
  have ht := h.2.1.1
  have hD := h.2.2.1.1
  have okd := h.1.1
  have hH4 := h.1.1.1
  have hP6 := h.1.1.2.1
  refine kG.aload_n 1 dX4_reading_0 rfl rfl ?_
  refine kG.iload_n 2 dX4_reading_1 rfl rfl ?_
  refine gG.callV 5 dX4_reading_2 lX4_80 vX4_isHouse (c_isH Γ h x) rfl rfl ⟨by decide, by decide⟩ rfl ⟨by decide, rfl⟩ ⟨by decide, by decide⟩ (Nat.le_of_ble_eq_true rfl) rfl (fun r2 μ2 q2 hc2 => ?_)
  obtain ⟨rfl, rfl, rfl⟩ := hc2
  refine kG.if_ne 10 8 dX4_reading_5 (by decide) rfl (fun g2 => ?_) (fun g2 => ?_)
  · have hb2 := b2_n0.mp g2
    obtain ⟨kx, hkx, rfl, ex⟩ := inB_t (by omega) hb2
    refine kG.iload_n 11 dX4_reading_10 rfl rfl ?_
    refine kG.iload_n 12 dX4_reading_11 rfl rfl ?_
    refine gG.callS 15 dX4_reading_12 lX4_130 vX4_isTime (c_isTm Γ y z) rfl rfl ⟨by decide, by decide⟩ (Nat.le_of_ble_eq_true rfl) rfl (fun r12 μ12 q12 hc12 => ?_)
    obtain ⟨rfl, rfl, rfl⟩ := hc12
    refine kG.if_eq 30 18 dX4_reading_15 (by decide) rfl (fun h15 => ?_) (fun h15 => ?_)
    · have hw := b2_0.mp h15
      have hbad : (inB y 10 && inB z 14 && bt v 0 99) = false := by rw [hw]; rfl
      refine kG.bipush (v := (-2)) 32 dX4_reading_30 (by decide) rfl ?_
      refine gG.iret dX4_reading_32 rfl ?_
      refine ⟨by unfold s_reading; rw [if_pos hb2, if_neg (by rw [hbad]; decide)], ?_, fun _ _ => rfl⟩
      unfold n_reading
      rw [if_neg (fun z => by rw [z.2.1, z.2.2.1, z.2.2.2.1] at hbad; cases hbad)]
      exact h
    · have hw := b2_n0.mp h15
      have hw2 := Bool.and_eq_true_iff.mp hw
      obtain ⟨ky, hky, rfl, ey⟩ := inB_t (by decide) hw2.1
      obtain ⟨kz, hkz, rfl, ez⟩ := inB_t (by decide) hw2.2
      refine kG.iload 20 dX4_reading_18 rfl rfl ?_
      refine kG.if_lt 30 23 dX4_reading_20 (by decide) rfl (fun h20 => ?_) (fun h20 => ?_)
      · have hbad : (inB (nI ky) 10 && inB (nI kz) 14 && bt v 0 99) = false := by rw [show bt v 0 99 = false from decide_eq_false (fun w => w.1 h20), Bool.and_false]
        refine kG.bipush (v := (-2)) 32 dX4_reading_30 (by decide) rfl ?_
        refine gG.iret dX4_reading_32 rfl ?_
        refine ⟨by unfold s_reading; rw [if_pos hb2, if_neg (by rw [hbad]; decide)], ?_, fun _ _ => rfl⟩
        unfold n_reading
        rw [if_neg (fun z => by rw [z.2.1, z.2.2.1, z.2.2.2.1] at hbad; cases hbad)]
        exact h
      · refine kG.iload 25 dX4_reading_23 rfl rfl ?_
        refine kG.bipush (v := nI 99) 27 dX4_reading_25 (by decide) rfl ?_
        refine kG.icmp_le 33 30 dX4_reading_27 (by decide) rfl (fun h27 => ?_) (fun h27 => ?_)
        · have hz : bt v 0 99 = true := decide_eq_true ⟨h20, Int32.not_lt.mpr h27⟩
          obtain ⟨kv, v1, v2, rfl, ev⟩ := bt_t (by decide) (by decide) hz
          refine kG.aload_n 34 dX4_reading_33 rfl rfl ?_
          refine gG.getP 37 dX4_reading_34 fX4_26 ⟨by decide, by decide⟩ rfl rfl rfl rfl ?_
          refine kG.iload_n 38 dX4_reading_37 rfl rfl ?_
          refine kG.iload_n 39 dX4_reading_38 rfl rfl ?_
          refine kG.iload_n 40 dX4_reading_39 rfl rfl ?_
          refine gG.callS 43 dX4_reading_40 lX4_138 vX4_timeOf (c_timeOf Γ _ _) rfl rfl ⟨by decide, by decide⟩ (Nat.le_of_ble_eq_true rfl) rfl (fun r40 μ40 q40 hc40 => ?_)
          obtain ⟨rfl, rfl, rfl⟩ := hc40
          rw [pk_mul, nI_add]
          refine kG.iload 45 dX4_reading_43 rfl rfl ?_
          refine gG.callV 48 dX4_reading_45 lX4_122 vX0_keep (c_keep Γ (Or.inr rfl) h.2.2.2.1.2.2.1 h.2.2.2.1.2.2.2 h.1.2.2.2.2.2.2.1.2 (nI kx) (nI (ky * 14 + kz)) (nI kv)) rfl rfl ⟨by decide, by decide⟩ rfl ⟨by decide, rfl⟩ ⟨by decide, by decide⟩ (Nat.le_of_ble_eq_true rfl) rfl (fun r45 μ45 q45 hc45 => ?_)
          change (((aR S).1 = 8 ∧ _ ∧ _ ∧ _) ∨ ((aR S).1 < 8 ∧ _ ∧ _ ∧ _)) at hc45
          rcases hc45 with ⟨g1, rfl, rfl, rfl⟩ | ⟨g1, rfl, rfl, rfl⟩ <;>
          (refine gG.iret dX4_reading_48 rfl ?_
           first | exact ⟨by unfold s_reading; rw [if_pos hb2, if_pos (by rw [hw, hz]; rfl), if_pos g1], by unfold n_reading; rw [if_neg (fun z => z.2.2.2.2 g1)]; exact h, fun k hk => rfl⟩ | exact ⟨by unfold s_reading; rw [if_pos hb2, if_pos (by rw [hw, hz]; rfl), if_neg (fun z : (aR S).1 = 8 => absurd g1 (by rw [z]; decide))], by unfold n_reading; rw [if_pos ⟨hb2, hw2.1, hw2.2, hz, fun z => absurd g1 (by rw [z]; decide)⟩, ex, ey, ez, ev]; exact CS_rd h ⟨okR_add h.1.2.2.2.2.2.2.1.1 (by omega) (by omega) v2, g1⟩ (KD_add h.2.2.2.1.2.2.1) (by rw [uI_ne (Or.inr (by decide)), uI_off (by decide), uI_off (by decide), uI_off (by decide)]) (fun k hk => by rw [uI_off (by omega), uI_off (by omega), uI_off (by omega), uI_off (by omega)]), fun k hk => by rw [uI_off (by omega), uI_off (by omega), uI_off (by omega), uI_off (by omega)]⟩)
        · have hbad : (inB (nI ky) 10 && inB (nI kz) 14 && bt v 0 99) = false := by rw [show bt v 0 99 = false from decide_eq_false (fun w => h27 (Int32.not_lt.mp w.2)), Bool.and_false]
          refine kG.bipush (v := (-2)) 32 dX4_reading_30 (by decide) rfl ?_
          refine gG.iret dX4_reading_32 rfl ?_
          refine ⟨by unfold s_reading; rw [if_pos hb2, if_neg (by rw [hbad]; decide)], ?_, fun _ _ => rfl⟩
          unfold n_reading
          rw [if_neg (fun z => by rw [z.2.1, z.2.2.1, z.2.2.2.1] at hbad; cases hbad)]
          exact h
  · have hb2 := b2_0.mp g2
    refine kG.iconst (v := (-1)) 9 dX4_reading_8 (by decide) rfl ?_
    refine gG.iret dX4_reading_9 rfl ?_
    refine ⟨by unfold s_reading; rw [if_neg (by rw [hb2]; decide)], ?_, fun _ _ => rfl⟩
    unfold n_reading
    rw [if_neg (by rw [hb2]; rintro ⟨z, _⟩; cases z)]
    exact h
set_option maxHeartbeats 4000000 in
theorem x_back (Γ : kGm) {S : AS} {μ : kM} {q : kq4} (h : CS S μ q) (x : Int32) : gC Γ yX4_back mX4_back 2 [.ref 1, .int x] μ q (PCi (s_back S x) (n_back S x) μ) := by
  refine gC.ofG (n := 0) ⟨by decide +kernel, rfl, rfl, by decide⟩ (Nat.le_of_ble_eq_true rfl) ?_
  show gG Γ mX4_back 2 0 [some (.ref 1), some (.int x)] [] μ q _
  have ht := h.2.1.1
  have hD := h.2.2.1.1
  have okd := h.1.1
  have hH4 := h.1.1.1
  have hP6 := h.1.1.2.1
  refine kG.aload_n 1 dX4_back_0 rfl rfl ?_
  refine gG.getP 4 dX4_back_1 fX4_26 ⟨by decide, by decide⟩ rfl rfl rfl rfl ?_
  refine kG.iload_n 5 dX4_back_4 rfl rfl ?_
  refine gG.callV 8 dX4_back_5 lX4_126 vX0_takeBack (c_takeBack Γ (Or.inr rfl) h.2.2.2.1.2.2.1 h.1.2.2.2.2.2.2.1.2 x) rfl rfl ⟨by decide, by decide⟩ rfl ⟨by decide, rfl⟩ ⟨by decide, by decide⟩ (Nat.le_of_ble_eq_true rfl) rfl (fun r5 μ5 q5 hc5 => ?_)
  have h8 := h.1.2.2.2.2.2.2.1.2
  rcases hc5 with ⟨g1, rfl, rfl, rfl⟩ | ⟨i, g1, rfl, rfl, rfl, rfl⟩ <;>
  (refine gG.iret dX4_back_8 rfl ?_
   first | exact ⟨by unfold s_back; rw [if_neg (by rw [show bt x 0 (aR S).1 = false from decide_eq_false (fun z => g1.elim z.1 z.2)]; decide)], by unfold n_back; rw [if_neg (by rw [show bt x 0 (aR S).1 = false from decide_eq_false (fun z => g1.elim z.1 z.2)]; decide)]; exact h, fun k hk => rfl⟩ | exact ⟨by unfold s_back; rw [if_pos (bt_n (by omega) (Nat.zero_le _) g1), ixn_n (by omega)], by unfold n_back; rw [if_pos (bt_n (by omega) (Nat.zero_le _) g1), ixn_n (by omega)]; exact CS_rd h ⟨(fun i hi => h.1.2.2.2.2.2.2.1.1 i (Nat.lt_of_lt_of_le hi (Nat.sub_le _ _))), Nat.le_trans (Nat.sub_le _ _) h.1.2.2.2.2.2.2.1.2⟩ (KD_cut h.2.2.2.1.2.2.1) (uI_ne (Or.inr (by decide))) (fun k hk => uI_off (by omega)), fun k hk => by rw [uI_off (by omega)]⟩)
