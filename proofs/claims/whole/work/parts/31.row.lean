theorem rw_all {f : Nat → Bool} : ∀ {n : Nat}, (∀ j, j < n → f j = true) → rwN f n = n
  | 0, _ => rfl
  | n + 1, h => by rw [rwN, rw_all (fun j hj => h j (by omega)), if_pos ⟨rfl, h n (by omega)⟩]
theorem rw_stop {f : Nat → Bool} {i : Nat} (h : ∀ j, j < i → f j = true) (hf : f i = false) : ∀ n, i ≤ n → rwN f n = i
  | 0, hi => by rw [show i = 0 by omega]; rfl
  | n + 1, hi => by
    rcases Nat.lt_or_ge n i with w | w
    · rw [show i = n + 1 by omega] at h ⊢; exact rw_all h
    · rw [rwN, rw_stop h hf n w, if_neg]
      rintro ⟨z1, z2⟩
      subst z1
      rw [hf] at z2; cases z2
set_option maxHeartbeats 4000000 in
theorem row_two (Γ : kGm) {S S0 : AS} {R : Int32} {kx ki kn : Nat} (hkx : kx < 4) (hn0 : aL S kx ≠ 0) (hN : ki + kn ≤ aN S kx) (h14 : kn ≤ 14) {y : Int32} {e : Option Value} {μ μ0 : kM} {q : kq4} (h : CS S μ q) (hS : CS S0 μ q) (hf : ∀ k, 49 ≤ k → μ k = μ0 k) (hall : ∀ j, j < kn → inB (aC S kx (ki + j)) (dP (aD S)) = true) (hR : R = nI (rwN (fun j => inH S j (ixn (aC S kx (ki + j)))) kn)) : ∀ (m i : Nat), i + m = kn → (∀ j, j < i → (fun j => inH S j (ixn (aC S kx (ki + j)))) j = true) → gG Γ mX4_row 4 87 [some (.ref 1), some (.int (nI kx)), some (.int y), some (.int (nI ki)), some (.int (nI kn)), e, some (.ref (shc kx)), some (.int (nI i))] [] (μ) q (PCi R S0 μ0) := by
  intro m
  induction m with
  | zero =>
    intro i hm hd
    refine kG.iload 89 dX4_row_87 rfl rfl ?_
    refine kG.iload 91 dX4_row_89 rfl rfl ?_
    refine kG.icmp_ge 122 94 dX4_row_91 (by decide) rfl (fun h91 => ?_) (fun h91 => ?_)
    · refine kG.iload 124 dX4_row_122 rfl rfl ?_
      refine gG.iret dX4_row_124 rfl ?_
      refine ⟨?_, hS, hf⟩
      rw [hR, rw_all (fun j hj => hd j (by omega)), show kn = i by omega]
    · exact absurd (nI_le (by omega) (by omega)) h91
  | succ m ih =>
    intro i hm hd
    have ht := h.2.1.1
    have hD := h.2.2.1.1
    have okd := h.1.1
    have hH4 := h.1.1.1
    have hP6 := h.1.1.2.1
    have hn6 := (h.1.2.2.2.2.2.2.2 kx hkx).2
    have g2 := (h.2.2.2.2.1 kx hkx).2 hn0
    refine kG.iload 89 dX4_row_87 rfl rfl ?_
    refine kG.iload 91 dX4_row_89 rfl rfl ?_
    refine kG.icmp_ge 122 94 dX4_row_91 (by decide) rfl (fun h91 => ?_) (fun h91 => ?_)
    · exact absurd h91 (nI_ge (by omega) (by omega))
    · refine kG.aload_n 95 dX4_row_94 rfl rfl ?_
      refine kG.iload 97 dX4_row_95 rfl rfl ?_
      refine gG.callV 100 dX4_row_97 lX4_202 vX4_whoIsIn (c_whoIsIn Γ h i (by omega)) rfl rfl ⟨by decide, by decide⟩ rfl ⟨by decide, rfl⟩ ⟨by decide, by decide⟩ (Nat.le_of_ble_eq_true rfl) rfl (fun r97 μ97 q97 hc97 => ?_)
      obtain ⟨rfl, rfl, rfl⟩ := hc97
      refine kG.aload 102 dX4_row_100 rfl rfl ?_
      refine kG.iload_n 103 dX4_row_102 rfl rfl ?_
      refine kG.iload 105 dX4_row_103 rfl rfl ?_
      refine kG.iadd 106 dX4_row_105 rfl ?_
      rw [nI_add]
      refine gG.callV 109 dX4_row_106 lX4_205 vX1_read (c_read Γ (shc_S hkx) (aN S kx) hn6 g2.1 (ki + i) (by omega)) rfl rfl (isS_k (shc_S hkx)) (isS_s (shc_S hkx)) ⟨by decide, rfl⟩ ⟨by decide, by decide⟩ (Nat.le_of_ble_eq_true rfl) rfl (fun r106 μ106 q106 hc106 => ?_)
      obtain ⟨rfl, rfl, rfl⟩ := hc106
      rw [if_pos (by omega), g2.2 (ki + i) (by omega)]
      obtain ⟨kp, hkp, ep, ep2⟩ := inB_t (by omega) (hall i (by omega))
      rw [ep]
      refine kG.ishr 110 dX4_row_109 rfl ?_
      refine kG.iconst (v := nI 1) 111 dX4_row_110 (by decide) rfl ?_
      refine kG.iand 112 dX4_row_111 rfl ?_
      refine kG.iconst (v := nI 1) 113 dX4_row_112 (by decide) rfl ?_
      have hwl : (wo (mk (fun p => decide (dtw (aD S) p = if i < aS S then 0 else 1)) (dP (aD S))) (aA S)) < 64 := wo_lt (n := 6) (Nat.lt_of_lt_of_le (mk_lt _ _) (Nat.pow_le_pow_right (by decide) hP6))
      rw [n_bit (by omega) (by omega)]
      have eb : (wo (mk (fun p => decide (dtw (aD S) p = if i < aS S then 0 else 1)) (dP (aD S))) (aA S)).testBit kp = (fun j => inH S j (ixn (aC S kx (ki + j)))) i := by
        show _ = inH S i (ixn (aC S kx (ki + i)))
        rw [ep2, wo_tb, mk_tb, decide_eq_true hkp, Bool.true_and]
        rfl
      rw [eb]
      refine kG.icmp_ne 122 116 dX4_row_113 (by decide) rfl (fun h113 => ?_) (fun h113 => ?_)
      · have hb : (fun j => inH S j (ixn (aC S kx (ki + j)))) i = false := by
          cases hb : (fun j => inH S j (ixn (aC S kx (ki + j)))) i
          · rfl
          · rw [hb] at h113; exact absurd rfl h113
        refine kG.iload 124 dX4_row_122 rfl rfl ?_
        refine gG.iret dX4_row_124 rfl ?_
        refine ⟨?_, hS, hf⟩
        rw [hR, rw_stop hd hb kn (by omega)]
      · have hb : (fun j => inH S j (ixn (aC S kx (ki + j)))) i = true := by
          cases hb : (fun j => inH S j (ixn (aC S kx (ki + j)))) i
          · rw [hb] at h113; exact absurd h113 (by decide)
          · rfl
        refine kG.iinc (v := nI (i + 1)) 119 dX4_row_116 rfl (nI_1 i) (by decide) rfl rfl ?_
        dsimp only [List.set]
        refine kG.goto 87 dX4_row_119 (by decide) ?_
        refine ih (i + 1) (by omega) (fun j hj => ?_)
        by_cases e : j = i
        · subst e; exact hb
        · exact hd j (by omega)
set_option maxHeartbeats 4000000 in
theorem row_one (Γ : kGm) {S S0 : AS} {R : Int32} {kx ki kn : Nat} (hkx : kx < 4) (hn0 : aL S kx ≠ 0) (hN : ki + kn ≤ aN S kx) (h14 : kn ≤ 14) {y : Int32} {e : Option Value} {μ μ0 : kM} {q : kq4} (h : CS S μ q) (hS : CS S0 μ q) (hf : ∀ k, 49 ≤ k → μ k = μ0 k) (hR : R = if cnt (fun j => !inB (aC S kx (ki + j)) (dP (aD S))) kn = 0 then nI (rwN (fun j => inH S j (ixn (aC S kx (ki + j)))) kn) else -1) : ∀ (m i : Nat), i + m = kn → (∀ j, j < i → inB (aC S kx (ki + j)) (dP (aD S)) = true) → gG Γ mX4_row 4 53 [some (.ref 1), some (.int (nI kx)), some (.int y), some (.int (nI ki)), some (.int (nI kn)), e, some (.ref (shc kx)), some (.int (nI i))] [] (μ) q (PCi R S0 μ0) := by
  intro m
  induction m with
  | zero =>
    intro i hm hd
    refine kG.iload 55 dX4_row_53 rfl rfl ?_
    refine kG.iload 57 dX4_row_55 rfl rfl ?_
    refine kG.icmp_ge 84 60 dX4_row_57 (by decide) rfl (fun h57 => ?_) (fun h57 => ?_)
    · refine kG.iconst (v := nI 0) 85 dX4_row_84 (by decide) rfl ?_
      refine kG.istore 87 dX4_row_85 (by decide) rfl rfl ?_
      dsimp only [List.set]
      refine row_two Γ hkx hn0 hN h14 h hS hf (fun j hj => hd j (by omega)) ?_ kn 0 (by omega) (fun j hj => absurd hj (Nat.not_lt_zero _))
      rw [hR, if_pos (cnt_0.mpr (fun j hj => by rw [hd j (by omega)]; rfl))]
    · exact absurd (nI_le (by omega) (by omega)) h57
  | succ m ih =>
    intro i hm hd
    have ht := h.2.1.1
    have hD := h.2.2.1.1
    have okd := h.1.1
    have hH4 := h.1.1.1
    have hP6 := h.1.1.2.1
    have hn6 := (h.1.2.2.2.2.2.2.2 kx hkx).2
    have g2 := (h.2.2.2.2.1 kx hkx).2 hn0
    refine kG.iload 55 dX4_row_53 rfl rfl ?_
    refine kG.iload 57 dX4_row_55 rfl rfl ?_
    refine kG.icmp_ge 84 60 dX4_row_57 (by decide) rfl (fun h57 => ?_) (fun h57 => ?_)
    · exact absurd h57 (nI_ge (by omega) (by omega))
    · refine kG.aload_n 61 dX4_row_60 rfl rfl ?_
      refine kG.aload 63 dX4_row_61 rfl rfl ?_
      refine kG.iload_n 64 dX4_row_63 rfl rfl ?_
      refine kG.iload 66 dX4_row_64 rfl rfl ?_
      refine kG.iadd 67 dX4_row_66 rfl ?_
      rw [nI_add]
      refine gG.callV 70 dX4_row_67 lX4_205 vX1_read (c_read Γ (shc_S hkx) (aN S kx) hn6 g2.1 (ki + i) (by omega)) rfl rfl (isS_k (shc_S hkx)) (isS_s (shc_S hkx)) ⟨by decide, rfl⟩ ⟨by decide, by decide⟩ (Nat.le_of_ble_eq_true rfl) rfl (fun r67 μ67 q67 hc67 => ?_)
      obtain ⟨rfl, rfl, rfl⟩ := hc67
      rw [if_pos (by omega), g2.2 (ki + i) (by omega)]
      refine gG.callV 73 dX4_row_70 lX4_91 vX4_isPerson (c_isP Γ h _) rfl rfl ⟨by decide, by decide⟩ rfl ⟨by decide, rfl⟩ ⟨by decide, by decide⟩ (Nat.le_of_ble_eq_true rfl) rfl (fun r70 μ70 q70 hc70 => ?_)
      obtain ⟨rfl, rfl, rfl⟩ := hc70
      refine kG.if_ne 78 76 dX4_row_73 (by decide) rfl (fun h73 => ?_) (fun h73 => ?_)
      · have hb := b2_n0.mp h73
        refine kG.iinc (v := nI (i + 1)) 81 dX4_row_78 rfl (nI_1 i) (by decide) rfl rfl ?_
        dsimp only [List.set]
        refine kG.goto 53 dX4_row_81 (by decide) ?_
        refine ih (i + 1) (by omega) (fun j hj => ?_)
        by_cases e : j = i
        · subst e; exact hb
        · exact hd j (by omega)
      · have hb := b2_0.mp h73
        refine kG.iconst (v := (-1)) 77 dX4_row_76 (by decide) rfl ?_
        refine gG.iret dX4_row_77 rfl ?_
        refine ⟨?_, hS, hf⟩
        rw [hR, if_neg]
        intro z
        have z2 := cnt_0.mp z i (by omega)
        rw [hb] at z2
        cases z2
set_option maxHeartbeats 4000000 in
theorem x_row (Γ : kGm) {S : AS} {μ : kM} {q : kq4} (h : CS S μ q) (x : Int32) (y : Int32) (z : Int32) (w : Int32) : gC Γ yX4_row mX4_row 4 [.ref 1, .int x, .int y, .int z, .int w] μ q (PCi (s_row S x y z w) (n_row S x y z w) μ) := by
  refine gC.ofG (n := 0) ⟨by decide +kernel, rfl, rfl, by decide⟩ (Nat.le_of_ble_eq_true rfl) ?_
  show gG Γ mX4_row 4 0 [some (.ref 1), some (.int x), some (.int y), some (.int z), some (.int w), none, none, none] [] μ q _
  have ht := h.2.1.1
  have hD := h.2.2.1.1
  have okd := h.1.1
  have hH4 := h.1.1.1
  have hP6 := h.1.1.2.1
  refine kG.aload_n 1 dX4_row_0 rfl rfl ?_
  refine kG.iload_n 2 dX4_row_1 rfl rfl ?_
  refine kG.iload_n 3 dX4_row_2 rfl rfl ?_
  refine kG.iload_n 4 dX4_row_3 rfl rfl ?_
  refine kG.iload 6 dX4_row_4 rfl rfl ?_
  refine gG.callV 9 dX4_row_6 lX4_66 vX4_refusalOfCells (x_refC Γ h x y z w) rfl rfl ⟨by decide, by decide⟩ rfl ⟨by decide, rfl⟩ ⟨by decide, by decide⟩ (Nat.le_of_ble_eq_true rfl) rfl (fun r6 μ6 q6 hc6 => ?_)
  obtain ⟨rfl, hr, fr⟩ := hc6
  refine kG.istore 11 dX4_row_9 (by decide) rfl rfl ?_
  dsimp only [List.set]
  refine kG.iload 13 dX4_row_11 rfl rfl ?_
  refine kG.if_eq 19 16 dX4_row_13 (by decide) rfl (fun h13 => ?_) (fun h13 => ?_)
  · have hc := oA_ce.mp h13
    rw [hc] at hr
    have hr : CS (sFa S (nI 0)) _ _ := hr
    obtain ⟨hl, hw0, hi0, hi1, hi2⟩ := ceF_t hc
    obtain ⟨hb6, hb15, hn0⟩ := laF_t hl
    obtain ⟨kx, hkx, rfl, ex⟩ := inB_t (by decide) hb6
    rw [ex] at hn0 hi1 hi2
    have hn6 := (h.1.2.2.2.2.2.2.2 kx hkx).2
    obtain ⟨ki, kn, rfl, rfl, hN⟩ := hc_t hn6 hw0 hi0 hi1 hi2
    have ei := ixn_n (k := ki) (by omega)
    have en := ixn_n (k := kn) (by omega)
    refine kG.aload_n 20 dX4_row_19 rfl rfl ?_
    refine gG.getP 23 dX4_row_20 fX4_32 ⟨by decide, by decide⟩ rfl rfl rfl rfl ?_
    refine gG.getI 26 dX4_row_23 fX4_77 (isT_k hr.2.1.1) (isT_s hr.2.1.1) rfl rfl ?_
    refine kG.if_ne 32 29 dX4_row_26 (by decide) rfl (fun h26 => ?_) (fun h26 => ?_)
    · have hz : dP (aD S) ≠ 0 := fun z => h26 ((HP hr).mpr z)
      refine kG.iload 34 dX4_row_32 rfl rfl ?_
      refine kG.bipush (v := nI 14) 36 dX4_row_34 (by decide) rfl ?_
      refine kG.icmp_le 42 39 dX4_row_36 (by decide) rfl (fun h36 => ?_) (fun h36 => ?_)
      · have h14 : kn ≤ 14 := (nI_leI (by omega) (by decide)).mp h36
        refine kG.aload_n 43 dX4_row_42 rfl rfl ?_
        refine gG.getP 46 dX4_row_43 fX4_13 ⟨by decide, by decide⟩ rfl rfl rfl rfl ?_
        refine kG.iload_n 47 dX4_row_46 rfl rfl ?_
        refine gG.aald (n := 4) _ 48 dX4_row_47 ⟨by decide, by decide⟩ rfl rfl (by omega) (by decide) (PI_sh (by omega)) rfl ?_
        refine kG.astore 50 dX4_row_48 (by decide) rfl rfl ?_
        dsimp only [List.set]
        refine kG.iconst (v := nI 0) 51 dX4_row_50 (by decide) rfl ?_
        refine kG.istore 53 dX4_row_51 (by decide) rfl rfl ?_
        dsimp only [List.set]
        refine row_one (S := sFa S (nI 0)) Γ hkx hn0 hN h14 hr (by unfold n_row; rw [hc]; exact hr) fr ?_ kn 0 (by omega) (fun j hj => absurd hj (Nat.not_lt_zero _))
        unfold s_row
        rw [hc]
        show (if dP (aD S) = 0 then _ else if _ then _ else if _ then _ else _) = _
        rw [if_neg hz, if_neg (nI_nlt h14 (by decide)), ex, ei, en]
        rfl
      · have h14 : nI 14 < nI kn := Int32.not_le.mp h36
        refine kG.bipush (v := (-2)) 41 dX4_row_39 (by decide) rfl ?_
        refine gG.iret dX4_row_41 rfl ?_
        refine ⟨?_, by unfold n_row; rw [hc]; exact hr, fr⟩
        unfold s_row
        rw [hc]
        show _ = some (Value.int (if dP (aD S) = 0 then _ else if _ then _ else if _ then _ else _))
        rw [if_neg hz, if_pos h14]
    · have hz : dP (aD S) = 0 := (HP hr).mp h26
      refine kG.bipush (v := (-3)) 31 dX4_row_29 (by decide) rfl ?_
      refine gG.iret dX4_row_31 rfl ?_
      refine ⟨?_, by unfold n_row; rw [hc]; exact hr, fr⟩
      unfold s_row
      rw [hc]
      show _ = some (Value.int (if dP (aD S) = 0 then _ else if _ then _ else if _ then _ else _))
      rw [if_pos hz]
  · have hc : ¬ ceF S x y z w = none := fun c => h13 (oA_ce.mpr c)
    refine kG.iload 18 dX4_row_16 rfl rfl ?_
    refine gG.iret dX4_row_18 rfl ?_
    cases hcf : ceF S x y z w with
    | none => exact absurd hcf hc
    | some e =>
      rw [hcf] at hr
      refine ⟨?_, ?_, fr⟩
      · unfold s_row
        rw [hcf]
        rfl
      · unfold n_row
        rw [hcf]
        exact hr
