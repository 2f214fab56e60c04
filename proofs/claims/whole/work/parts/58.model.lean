set_option maxHeartbeats 4000000 in
theorem mrow_two (Γ : kGm) {S : AS} (ok : okS S) {S0 : AS} {R : Int32} {kx ki kn : Nat} (hkx : kx < 4) (hn0 : aL S kx ≠ 0) (hN : ki + kn ≤ aN S kx) (h14 : kn ≤ 14) {y e : Int32} {μ μ0 : kM} {q : kq4} (h : MS S μ) (hS : MS S0 μ) (hf : ∀ k, k < 49 → μ k = μ0 k) (hall : ∀ j, j < kn → inB (aC S kx (ki + j)) (dP (aD S)) = true) (hR : R = nI (rwN (fun j => inH S j (ixn (aC S kx (ki + j)))) kn)) : ∀ (m i : Nat), i + m = kn → (∀ j, j < i → (fun j => inH S j (ixn (aC S kx (ki + j)))) j = true) → gG Γ mX5_row 3 113 [some (.ref 49), some (.int (nI kx)), some (.int y), some (.int (nI ki)), some (.int (nI kn)), some (.int e), some (.int (nI (60 * kx + ki))), some (.int (nI i))] [] (μ) q (PMi R S0 μ0 q) := by
  intro m
  induction m with
  | zero =>
    intro i hm hd
    refine kG.iload 115 dX5_row_113 rfl rfl ?_
    refine kG.iload 117 dX5_row_115 rfl rfl ?_
    refine kG.icmp_ge 168 120 dX5_row_117 (by decide) rfl (fun h117 => ?_) (fun h117 => ?_)
    · refine kG.iload 170 dX5_row_168 rfl rfl ?_
      refine gG.iret dX5_row_170 rfl ?_
      refine ⟨?_, hS, rfl, hf⟩
      rw [hR, rw_all (fun j hj => hd j (by omega)), show kn = i by omega]
    · exact absurd (nI_le (by omega) (by omega)) h117
  | succ m ih =>
    intro i hm hd
    have hP6 := ok.1.2.1
    have hn6 := (ok.2.2.2.2.2.2.2 kx hkx).2
    have g2 := (h.2.2.1 kx hkx).2 hn0
    have hc := h.1
    refine kG.iload 115 dX5_row_113 rfl rfl ?_
    refine kG.iload 117 dX5_row_115 rfl rfl ?_
    refine kG.icmp_ge 168 120 dX5_row_117 (by decide) rfl (fun h117 => ?_) (fun h117 => ?_)
    · exact absurd h117 (nI_ge (by omega) (by omega))
    · refine kG.aload_n 121 dX5_row_120 rfl rfl ?_
      refine gG.getP 124 dX5_row_121 fX5_28 ⟨by decide, by decide⟩ rfl rfl rfl rfl ?_
      refine kG.aload_n 125 dX5_row_124 rfl rfl ?_
      refine gG.getP 128 dX5_row_125 fX5_16 ⟨by decide, by decide⟩ rfl rfl rfl rfl ?_
      refine kG.iload 130 dX5_row_128 rfl rfl ?_
      refine kG.iload 132 dX5_row_130 rfl rfl ?_
      refine kG.iadd 133 dX5_row_132 rfl ?_
      rw [nI_add]
      refine gG.iald (n := 240) (60 * kx + ki + i) 134 dX5_row_133 ⟨by decide, by decide⟩ rfl rfl (by omega) (by decide) rfl ?_
      rw [show μ 52 (60 * kx + ki + i) = aC S kx (ki + i) by rw [Nat.add_assoc]; exact g2.2 (ki + i) (by omega)]
      obtain ⟨kp, hkp, ep, ep2⟩ := inB_t (by omega) (hall i (by omega))
      rw [ep]
      have hpp := hc.2.2.2.2.2.1 kp hkp
      have od := ok.1.2.2.2 kp hkp
      have hin : (if i < aS S then 0 else 1) ≤ 1 := by split <;> omega
      refine gG.iald (n := 6) _ 135 dX5_row_134 ⟨by decide, by decide⟩ rfl rfl (by omega) (by decide) rfl ?_
      rw [hpp.2.1]
      refine kG.aload_n 136 dX5_row_135 rfl rfl ?_
      refine kG.iload 138 dX5_row_136 rfl rfl ?_
      refine gG.callV 141 dX5_row_138 lX5_177 vX5_townIn (m_townIn Γ (aS S) i (by have := ok.2.2.2.1; omega) (by omega) hc.1) rfl rfl ⟨by decide, by decide⟩ rfl ⟨by decide, rfl⟩ ⟨by decide, by decide⟩ (Nat.le_of_ble_eq_true rfl) rfl (fun r138 μ138 q138 hc138 => ?_)
      obtain ⟨rfl, rfl, rfl⟩ := hc138
      refine kG.icmp_ne 168 144 dX5_row_141 (by decide) rfl (fun h141 => ?_) (fun h141 => ?_)
      · have c1 : ¬ dtw (aD S) kp = (if i < aS S then 0 else 1) := fun z => h141 (by rw [z])
        have hb : (fun j => inH S j (ixn (aC S kx (ki + j)))) i = false := by
          show (decide (dtw (aD S) (ixn (aC S kx (ki + i))) = (if i < aS S then 0 else 1)) && !(aA S).testBit (ixn (aC S kx (ki + i)))) = false
          rw [ep2]
          rw [decide_eq_false c1]; rfl
        refine kG.iload 170 dX5_row_168 rfl rfl ?_
        refine gG.iret dX5_row_170 rfl ?_
        refine ⟨?_, hS, rfl, hf⟩
        rw [hR, rw_stop hd hb kn (by omega)]
      · have c1 : dtw (aD S) kp = (if i < aS S then 0 else 1) := (nI_eq (by omega) (by omega)).mp h141
        refine kG.aload_n 145 dX5_row_144 rfl rfl ?_
        refine gG.getP 148 dX5_row_145 fX5_40 ⟨by decide, by decide⟩ rfl rfl rfl rfl ?_
        refine kG.aload_n 149 dX5_row_148 rfl rfl ?_
        refine gG.getP 152 dX5_row_149 fX5_16 ⟨by decide, by decide⟩ rfl rfl rfl rfl ?_
        refine kG.iload 154 dX5_row_152 rfl rfl ?_
        refine kG.iload 156 dX5_row_154 rfl rfl ?_
        refine kG.iadd 157 dX5_row_156 rfl ?_
        rw [nI_add]
        refine gG.iald (n := 240) (60 * kx + ki + i) 158 dX5_row_157 ⟨by decide, by decide⟩ rfl rfl (by omega) (by decide) rfl ?_
        rw [show μ138 52 (60 * kx + ki + i) = aC S kx (ki + i) by rw [Nat.add_assoc]; exact g2.2 (ki + i) (by omega)]
        rw [ep]
        refine gG.zald (n := 6) _ 159 dX5_row_158 ⟨by decide, by decide⟩ rfl rfl (by omega) (by decide) rfl ?_
        rw [hc.2.2.2.2.2.2.1 kp hkp]
        refine kG.if_ne 168 162 dX5_row_159 (by decide) rfl (fun h159 => ?_) (fun h159 => ?_)
        · have c2 := b2_n0.mp h159
          have hb : (fun j => inH S j (ixn (aC S kx (ki + j)))) i = false := by
            show (decide (dtw (aD S) (ixn (aC S kx (ki + i))) = (if i < aS S then 0 else 1)) && !(aA S).testBit (ixn (aC S kx (ki + i)))) = false
            rw [ep2]
            rw [c2, show (!true) = false from rfl, Bool.and_false]
          refine kG.iload 170 dX5_row_168 rfl rfl ?_
          refine gG.iret dX5_row_170 rfl ?_
          refine ⟨?_, hS, rfl, hf⟩
          rw [hR, rw_stop hd hb kn (by omega)]
        · have c2 := b2_0.mp h159
          have hb : (fun j => inH S j (ixn (aC S kx (ki + j)))) i = true := by
            show (decide (dtw (aD S) (ixn (aC S kx (ki + i))) = (if i < aS S then 0 else 1)) && !(aA S).testBit (ixn (aC S kx (ki + i)))) = true
            rw [ep2]
            rw [decide_eq_true c1, c2]; rfl
          refine kG.iinc (v := nI (i + 1)) 165 dX5_row_162 rfl (nI_1 i) (by decide) rfl rfl ?_
          dsimp only [List.set]
          refine kG.goto 113 dX5_row_165 (by decide) ?_
          refine ih (i + 1) (by omega) (fun j hj => ?_)
          by_cases e : j = i
          · subst e; exact hb
          · exact hd j (by omega)
set_option maxHeartbeats 4000000 in
theorem mrow_one (Γ : kGm) {S : AS} (ok : okS S) {S0 : AS} {R : Int32} {kx ki kn : Nat} (hkx : kx < 4) (hn0 : aL S kx ≠ 0) (hN : ki + kn ≤ aN S kx) (h14 : kn ≤ 14) {y e : Int32} {μ μ0 : kM} {q : kq4} (h : MS S μ) (hS : MS S0 μ) (hf : ∀ k, k < 49 → μ k = μ0 k) (hR : R = if cnt (fun j => !inB (aC S kx (ki + j)) (dP (aD S))) kn = 0 then nI (rwN (fun j => inH S j (ixn (aC S kx (ki + j)))) kn) else -1) : ∀ (m i : Nat), i + m = kn → (∀ j, j < i → inB (aC S kx (ki + j)) (dP (aD S)) = true) → gG Γ mX5_row 3 78 [some (.ref 49), some (.int (nI kx)), some (.int y), some (.int (nI ki)), some (.int (nI kn)), some (.int e), some (.int (nI (60 * kx + ki))), some (.int (nI i))] [] (μ) q (PMi R S0 μ0 q) := by
  intro m
  induction m with
  | zero =>
    intro i hm hd
    refine kG.iload 80 dX5_row_78 rfl rfl ?_
    refine kG.iload 82 dX5_row_80 rfl rfl ?_
    refine kG.icmp_ge 110 85 dX5_row_82 (by decide) rfl (fun h82 => ?_) (fun h82 => ?_)
    · refine kG.iconst (v := nI 0) 111 dX5_row_110 (by decide) rfl ?_
      refine kG.istore 113 dX5_row_111 (by decide) rfl rfl ?_
      dsimp only [List.set]
      refine mrow_two Γ ok hkx hn0 hN h14 h hS hf (fun j hj => hd j (by omega)) ?_ kn 0 (by omega) (fun j hj => absurd hj (Nat.not_lt_zero _))
      rw [hR, if_pos (cnt_0.mpr (fun j hj => by rw [hd j (by omega)]; rfl))]
    · exact absurd (nI_le (by omega) (by omega)) h82
  | succ m ih =>
    intro i hm hd
    have hP6 := ok.1.2.1
    have hn6 := (ok.2.2.2.2.2.2.2 kx hkx).2
    have g2 := (h.2.2.1 kx hkx).2 hn0
    have hc := h.1
    refine kG.iload 80 dX5_row_78 rfl rfl ?_
    refine kG.iload 82 dX5_row_80 rfl rfl ?_
    refine kG.icmp_ge 110 85 dX5_row_82 (by decide) rfl (fun h82 => ?_) (fun h82 => ?_)
    · exact absurd h82 (nI_ge (by omega) (by omega))
    · refine kG.aload_n 86 dX5_row_85 rfl rfl ?_
      refine kG.aload_n 87 dX5_row_86 rfl rfl ?_
      refine gG.getP 90 dX5_row_87 fX5_16 ⟨by decide, by decide⟩ rfl rfl rfl rfl ?_
      refine kG.iload 92 dX5_row_90 rfl rfl ?_
      refine kG.iload 94 dX5_row_92 rfl rfl ?_
      refine kG.iadd 95 dX5_row_94 rfl ?_
      rw [nI_add]
      refine gG.iald (n := 240) (60 * kx + ki + i) 96 dX5_row_95 ⟨by decide, by decide⟩ rfl rfl (by omega) (by decide) rfl ?_
      rw [show μ 52 (60 * kx + ki + i) = aC S kx (ki + i) by rw [Nat.add_assoc]; exact g2.2 (ki + i) (by omega)]
      refine gG.callV 99 dX5_row_96 lX5_158 vX5_isPerson (m_isPerson Γ _ (dP (aD S)) hc.2.2.1) rfl rfl ⟨by decide, by decide⟩ rfl ⟨by decide, rfl⟩ ⟨by decide, by decide⟩ (Nat.le_of_ble_eq_true rfl) rfl (fun r96 μ96 q96 hc96 => ?_)
      obtain ⟨rfl, rfl, rfl⟩ := hc96
      refine kG.if_ne 104 102 dX5_row_99 (by decide) rfl (fun h99 => ?_) (fun h99 => ?_)
      · have hb := b2_n0.mp h99
        refine kG.iinc (v := nI (i + 1)) 107 dX5_row_104 rfl (nI_1 i) (by decide) rfl rfl ?_
        dsimp only [List.set]
        refine kG.goto 78 dX5_row_107 (by decide) ?_
        refine ih (i + 1) (by omega) (fun j hj => ?_)
        by_cases e : j = i
        · subst e; exact hb
        · exact hd j (by omega)
      · have hb := b2_0.mp h99
        refine kG.iconst (v := (-1)) 103 dX5_row_102 (by decide) rfl ?_
        refine gG.iret dX5_row_103 rfl ?_
        refine ⟨?_, hS, rfl, hf⟩
        rw [hR, if_neg]
        intro z
        have z2 := cnt_0.mp z i (by omega)
        rw [hb] at z2
        cases z2
set_option maxHeartbeats 4000000 in
theorem y_row (Γ : kGm) {S : AS} {μ : kM} {q : kq4} (ok : okS S) (h : MS S μ) (x : Int32) (y : Int32) (z : Int32) (w : Int32) : gC Γ yX5_row mX5_row 3 [.ref 49, .int x, .int y, .int z, .int w] μ q (PMi (s_row S x y z w) (n_row S x y z w) μ q) := by
  refine gC.ofG (n := 0) ⟨by decide +kernel, rfl, rfl, by decide⟩ (Nat.le_of_ble_eq_true rfl) ?_
  show gG Γ mX5_row 3 0 [some (.ref 49), some (.int x), some (.int y), some (.int z), some (.int w), none, none, none] [] μ q _
  have okd := ok.1
  have hH4 := ok.1.1
  have hP6 := ok.1.2.1
  have hc := h.1
  have hp := hc.2.2.2.2.2.1
  have hh := hc.2.2.2.2.1
  refine kG.aload_n 1 dX5_row_0 rfl rfl ?_
  refine kG.iconst (v := nI 0) 2 dX5_row_1 (by decide) rfl ?_
  refine gG.putI 5 dX5_row_2 fX5_83 ⟨by decide, by decide⟩ rfl rfl rfl ⟨rfl, rfl⟩ rfl ?_
  have h1 := MS_fa (nI 0) h
  refine kG.iload_n 6 dX5_row_5 rfl rfl ?_
  refine gG.callS 9 dX5_row_6 lX5_102 vX5_isSheet (m_isSheet Γ x) rfl rfl ⟨by decide, by decide⟩ (Nat.le_of_ble_eq_true rfl) rfl (fun r6 μ6 q6 hc6 => ?_)
  obtain ⟨rfl, rfl, rfl⟩ := hc6
  refine kG.if_ne 14 12 dX5_row_9 (by decide) rfl (fun h9 => ?_) (fun h9 => ?_)
  · have hb6 := b2_n0.mp h9
    obtain ⟨kx, hkx, rfl, ex⟩ := inB_t (by decide) hb6
    have hl3 := (ok.2.2.2.2.2.2.2 kx hkx).1
    have hn6 := (ok.2.2.2.2.2.2.2 kx hkx).2
    have hs := h.2.2.1 kx hkx
    refine kG.iload_n 15 dX5_row_14 rfl rfl ?_
    refine gG.callS 18 dX5_row_15 lX5_106 vX5_isSort (m_isSort Γ y) rfl rfl ⟨by decide, by decide⟩ (Nat.le_of_ble_eq_true rfl) rfl (fun r15 μ15 q15 hc15 => ?_)
    obtain ⟨rfl, rfl, rfl⟩ := hc15
    refine kG.if_ne 24 21 dX5_row_18 (by decide) rfl (fun h18 => ?_) (fun h18 => ?_)
    · have hb15 := b2_n0.mp h18
      refine kG.aload_n 25 dX5_row_24 rfl rfl ?_
      refine kG.iload_n 26 dX5_row_25 rfl rfl ?_
      refine kG.iload_n 27 dX5_row_26 rfl rfl ?_
      refine kG.iload_n 28 dX5_row_27 rfl rfl ?_
      refine kG.iload 30 dX5_row_28 rfl rfl ?_
      refine gG.callV 33 dX5_row_30 lX5_109 vX5_against (m_against (S := sFa S (nI 0)) Γ ok h1.2.2.1 hkx y z w hb15) rfl rfl ⟨by decide, by decide⟩ rfl ⟨by decide, rfl⟩ ⟨by decide, by decide⟩ (Nat.le_of_ble_eq_true rfl) rfl (fun r30 μ30 q30 hc30 => ?_)
      obtain ⟨rfl, rfl, rfl⟩ := hc30
      rw [show ceF (sFa S (nI 0)) (nI kx) y z w = ceF S (nI kx) y z w from rfl]
      refine kG.istore 35 dX5_row_33 (by decide) rfl rfl ?_
      dsimp only [List.set]
      refine kG.iload 37 dX5_row_35 rfl rfl ?_
      refine kG.if_eq 47 40 dX5_row_37 (by decide) rfl (fun h37 => ?_) (fun h37 => ?_)
      · have hcn : ceF S (nI kx) y z w = none := by
          cases hq : ceF S (nI kx) y z w with
          | none => rfl
          | some e => rw [hq] at h37; exact absurd h37 (ce_ab hb6 hb15 hq).2
        obtain ⟨hl, hw0, hi0, hi1, hi2⟩ := ceF_t hcn
        obtain ⟨-, -, hn0⟩ := laF_t hl
        rw [ex] at hn0 hi1 hi2
        obtain ⟨ki, kn, rfl, rfl, hN⟩ := hc_t hn6 hw0 hi0 hi1 hi2
        have ei := ixn_n (k := ki) (by omega)
        have en := ixn_n (k := kn) (by omega)
        refine kG.aload_n 48 dX5_row_47 rfl rfl ?_
        refine gG.getI 51 dX5_row_48 fX5_96 ⟨by decide, by decide⟩ rfl rfl rfl ?_
        rw [h1.1.2.2.1]
        refine kG.if_ne 57 54 dX5_row_51 (by decide) rfl (fun h51 => ?_) (fun h51 => ?_)
        · have hz : ¬ dP (aD S) = 0 := fun z => h51 (by rw [show dP (aD (sFa S (nI 0))) = dP (aD S) from rfl, z]; rfl)
          refine kG.iload 59 dX5_row_57 rfl rfl ?_
          refine kG.bipush (v := nI 14) 61 dX5_row_59 (by decide) rfl ?_
          refine kG.icmp_le 67 64 dX5_row_61 (by decide) rfl (fun h61 => ?_) (fun h61 => ?_)
          · have h14 : kn ≤ 14 := (nI_leI (by omega) (by decide)).mp h61
            refine kG.bipush (v := nI 60) 69 dX5_row_67 (by decide) rfl ?_
            refine kG.iload_n 70 dX5_row_69 rfl rfl ?_
            refine kG.imul 71 dX5_row_70 rfl ?_
            rw [pk_mul]
            refine kG.iload_n 72 dX5_row_71 rfl rfl ?_
            refine kG.iadd 73 dX5_row_72 rfl ?_
            rw [nI_add]
            refine kG.istore 75 dX5_row_73 (by decide) rfl rfl ?_
            dsimp only [List.set]
            refine kG.iconst (v := nI 0) 76 dX5_row_75 (by decide) rfl ?_
            refine kG.istore 78 dX5_row_76 (by decide) rfl rfl ?_
            dsimp only [List.set]
            refine mrow_one (S := sFa S (nI 0)) Γ ok hkx hn0 hN h14 h1 (by unfold n_row; rw [hcn]; exact h1) (fun k hk => uI_off (by omega)) ?_ kn 0 (by omega) (fun j hj => absurd hj (Nat.not_lt_zero _))
            unfold s_row
            rw [hcn]
            show (if dP (aD S) = 0 then _ else if _ then _ else if _ then _ else _) = _
            rw [if_neg hz, if_neg (nI_nlt h14 (by decide)), ex, ei, en]
            rfl
          · have h14 : nI 14 < nI kn := Int32.not_le.mp h61
            refine kG.bipush (v := (-2)) 66 dX5_row_64 (by decide) rfl ?_
            refine gG.iret dX5_row_66 rfl ?_
            refine ⟨?_, (by unfold n_row; rw [hcn]; exact h1), rfl, fun k hk => uI_off (by omega)⟩
            unfold s_row
            rw [hcn]
            show _ = some (Value.int (if dP (aD S) = 0 then _ else if _ then _ else if _ then _ else _))
            rw [if_neg hz, if_pos h14]
        · have hz : dP (aD S) = 0 := (nI_eq (b := 0) (show dP (aD S) < _ by omega) (by decide)).mp h51
          refine kG.bipush (v := (-3)) 56 dX5_row_54 (by decide) rfl ?_
          refine gG.iret dX5_row_56 rfl ?_
          refine ⟨?_, (by unfold n_row; rw [hcn]; exact h1), rfl, fun k hk => uI_off (by omega)⟩
          unfold s_row
          rw [hcn]
          show _ = some (Value.int (if dP (aD S) = 0 then _ else if _ then _ else if _ then _ else _))
          rw [if_pos hz]
      · obtain ⟨e, hq⟩ : ∃ e, ceF S (nI kx) y z w = some e := by
          cases hq : ceF S (nI kx) y z w with
          | none => rw [hq] at h37; exact absurd rfl h37
          | some e => exact ⟨e, rfl⟩
        rw [hq]
        refine kG.aload_n 41 dX5_row_40 rfl rfl ?_
        refine kG.iload 43 dX5_row_41 rfl rfl ?_
        refine gG.callV 46 dX5_row_43 lX5_113 vX5_fails (m_fails Γ (oB (some e))) rfl rfl ⟨by decide, by decide⟩ rfl ⟨by decide, rfl⟩ ⟨by decide, by decide⟩ (Nat.le_of_ble_eq_true rfl) rfl (fun r43 μ43 q43 hc43 => ?_)
        obtain ⟨rfl, rfl, rfl⟩ := hc43
        have h2 := MS_fa (oB (some e)) h1
        refine gG.iret dX5_row_46 rfl ?_
        refine ⟨?_, ?_, rfl, fun k hk => by rw [uI_off (by omega), uI_off (by omega)]⟩
        · unfold s_row
          rw [hq]
          exact congrArg (fun v => some (Value.int v)) (ce_ab hb6 hb15 hq).1.symm
        · unfold n_row
          rw [hq]
          exact h2
    · have hb15 := b2_0.mp h18
      have hcf : ceF S (nI kx) y z w = some (-2, nI 0) := by
        unfold ceF
        rw [show laF S (nI kx) y = some (-2, nI 0) by unfold laF; rw [if_pos hb6, if_neg (by rw [hb15]; decide)]]
      refine kG.bipush (v := (-2)) 23 dX5_row_21 (by decide) rfl ?_
      refine gG.iret dX5_row_23 rfl ?_
      refine ⟨?_, ?_, rfl, fun k hk => uI_off (by omega)⟩
      · unfold s_row
        rw [hcf]
      · unfold n_row
        rw [hcf]
        exact h1
  · have hb6 := b2_0.mp h9
    have hcf : ceF S x y z w = some (-1, nI 0) := by
      unfold ceF
      rw [show laF S x y = some (-1, nI 0) by unfold laF; rw [if_neg (by rw [hb6]; decide)]]
    refine kG.iconst (v := (-1)) 13 dX5_row_12 (by decide) rfl ?_
    refine gG.iret dX5_row_13 rfl ?_
    refine ⟨?_, ?_, rfl, fun k hk => uI_off (by omega)⟩
    · unfold s_row
      rw [hcf]
    · unfold n_row
      rw [hcf]
      exact h1
