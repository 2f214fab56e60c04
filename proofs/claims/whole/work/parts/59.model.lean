/-- a digit within bounds, as the model reads it -/
def dgM (c : Int32) (lo hi : Nat) : Option Nat := if bt c (48 + lo) (48 + hi) then some (ixn c - 48) else none
def adv (o : Bool) (a : Nat) (μ : kM) : kM := if o then uI μ 49 16 (nI (a + 1)) else μ
def dgO (μ : kM) (a en lo hi : Nat) : Option Nat := if a < en then dgM (μ 52 a) lo hi else none
def sgO (μ : kM) (a en : Nat) (c : Int32) : Bool := decide (a < en) && decide (μ 52 a = c)
set_option maxHeartbeats 4000000 in
theorem m_digit (Γ : kGm) {μ : kM} {q : kq4} {a en : Nat} (ha : a ≤ 240) (he : en ≤ 240) (e : μ 49 16 = nI a) (lo hi : Nat) (hlo : lo ≤ 9) (hhi : hi ≤ 9) : gC Γ yX5_digit mX5_digit 2 [.ref 49, .int (nI en), .int (nI lo), .int (nI hi)] μ q (fun r μ' q' => r = some (.int (opI (dgO μ a en lo hi))) ∧ μ' = adv (dgO μ a en lo hi).isSome a μ ∧ q' = q) := by
  refine gC.ofG (n := 0) ⟨by decide +kernel, rfl, rfl, by decide⟩ (Nat.le_of_ble_eq_true rfl) ?_
  show gG Γ mX5_digit 2 0 [some (.ref 49), some (.int (nI en)), some (.int (nI lo)), some (.int (nI hi))] [] μ q _
  refine kG.aload_n 1 dX5_digit_0 rfl rfl ?_
  refine gG.getI 4 dX5_digit_1 fX5_99 ⟨by decide, by decide⟩ rfl rfl rfl ?_
  rw [e]
  refine kG.iload_n 5 dX5_digit_4 rfl rfl ?_
  refine kG.icmp_ge 31 8 dX5_digit_5 (by decide) rfl (fun h5 => ?_) (fun h5 => ?_)
  · have c1 : ¬ a < en := Nat.not_lt.mpr ((nI_leI (by omega) (by omega)).mp h5)
    have eo : dgO μ a en lo hi = none := by unfold dgO; rw [if_neg c1]
    refine kG.bipush (v := (-9)) 33 dX5_digit_31 (by decide) rfl ?_
    refine gG.iret dX5_digit_33 rfl ?_
    rw [eo]
    exact ⟨rfl, rfl, rfl⟩
  · have c1 : a < en := Nat.not_le.mp (fun z => h5 (nI_le z (by omega)))
    refine kG.aload_n 9 dX5_digit_8 rfl rfl ?_
    refine gG.getP 12 dX5_digit_9 fX5_16 ⟨by decide, by decide⟩ rfl rfl rfl rfl ?_
    refine kG.aload_n 13 dX5_digit_12 rfl rfl ?_
    refine gG.getI 16 dX5_digit_13 fX5_99 ⟨by decide, by decide⟩ rfl rfl rfl ?_
    rw [e]
    refine gG.iald (n := 240) _ 17 dX5_digit_16 ⟨by decide, by decide⟩ rfl rfl (by omega) (by decide) rfl ?_
    refine kG.bipush (v := nI 48) 19 dX5_digit_17 (by decide) rfl ?_
    refine kG.iload_n 20 dX5_digit_19 rfl rfl ?_
    refine kG.iadd 21 dX5_digit_20 rfl ?_
    rw [nI_add]
    refine kG.bipush (v := nI 48) 23 dX5_digit_21 (by decide) rfl ?_
    refine kG.iload_n 24 dX5_digit_23 rfl rfl ?_
    refine kG.iadd 25 dX5_digit_24 rfl ?_
    rw [nI_add]
    refine gG.callS 28 dX5_digit_25 lX5_89 vX5_within (m_within Γ _ (48 + lo) (48 + hi)) rfl rfl ⟨by decide, by decide⟩ (Nat.le_of_ble_eq_true rfl) rfl (fun r25 μ25 q25 hc25 => ?_)
    obtain ⟨rfl, rfl, rfl⟩ := hc25
    refine kG.if_ne 34 31 dX5_digit_28 (by decide) rfl (fun h28 => ?_) (fun h28 => ?_)
    · have hb := b2_n0.mp h28
      obtain ⟨k, k1, k2, ek, ek2⟩ := bt_t (by omega) (by omega) hb
      have eo : dgO μ25 a en lo hi = some (k - 48) := by unfold dgO dgM; rw [if_pos c1, if_pos hb, ek2]
      refine kG.aload_n 35 dX5_digit_34 rfl rfl ?_
      refine kG.dup 36 dX5_digit_35 rfl rfl ?_
      refine gG.getI 39 dX5_digit_36 fX5_99 ⟨by decide, by decide⟩ rfl rfl rfl ?_
      rw [e]
      refine kG.iconst (v := nI 1) 40 dX5_digit_39 (by decide) rfl ?_
      refine kG.iadd 41 dX5_digit_40 rfl ?_
      rw [nI_add]
      refine gG.putI 44 dX5_digit_41 fX5_99 ⟨by decide, by decide⟩ rfl rfl rfl ⟨rfl, rfl⟩ rfl ?_
      refine kG.aload_n 45 dX5_digit_44 rfl rfl ?_
      refine gG.getP 48 dX5_digit_45 fX5_16 ⟨by decide, by decide⟩ rfl rfl rfl rfl ?_
      refine kG.aload_n 49 dX5_digit_48 rfl rfl ?_
      refine gG.getI 52 dX5_digit_49 fX5_99 ⟨by decide, by decide⟩ rfl rfl rfl ?_
      rw [uI_same]
      refine kG.iconst (v := nI 1) 53 dX5_digit_52 (by decide) rfl ?_
      refine kG.isub 54 dX5_digit_53 rfl ?_
      rw [pk_sub (by omega), Nat.add_sub_cancel]
      refine gG.iald (n := 240) _ 55 dX5_digit_54 ⟨by decide, by decide⟩ rfl rfl (by omega) (by decide) rfl ?_
      rw [uI_off (by decide), ek]
      refine kG.bipush (v := nI 48) 57 dX5_digit_55 (by decide) rfl ?_
      refine kG.isub 58 dX5_digit_57 rfl ?_
      rw [pk_sub (by omega)]
      refine gG.iret dX5_digit_58 rfl ?_
      rw [eo]
      exact ⟨rfl, rfl, rfl⟩
    · have hb := b2_0.mp h28
      have eo : dgO μ25 a en lo hi = none := by unfold dgO dgM; rw [if_pos c1, if_neg (by rw [hb]; decide)]
      refine kG.bipush (v := (-9)) 33 dX5_digit_31 (by decide) rfl ?_
      refine gG.iret dX5_digit_33 rfl ?_
      rw [eo]
      exact ⟨rfl, rfl, rfl⟩
set_option maxHeartbeats 4000000 in
theorem m_isSign (Γ : kGm) {μ : kM} {q : kq4} {a en : Nat} (ha : a ≤ 240) (he : en ≤ 240) (e : μ 49 16 = nI a) (c : Int32) : gC Γ yX5_isSign mX5_isSign 1 [.ref 49, .int (nI en), .int c] μ q (fun r μ' q' => r = some (.int (b2 (sgO μ a en c))) ∧ μ' = adv (sgO μ a en c) a μ ∧ q' = q) := by
  refine gC.ofG (n := 0) ⟨by decide +kernel, rfl, rfl, by decide⟩ (Nat.le_of_ble_eq_true rfl) ?_
  show gG Γ mX5_isSign 1 0 [some (.ref 49), some (.int (nI en)), some (.int c)] [] μ q _
  refine kG.aload_n 1 dX5_isSign_0 rfl rfl ?_
  refine gG.getI 4 dX5_isSign_1 fX5_99 ⟨by decide, by decide⟩ rfl rfl rfl ?_
  rw [e]
  refine kG.iload_n 5 dX5_isSign_4 rfl rfl ?_
  refine kG.icmp_ge 21 8 dX5_isSign_5 (by decide) rfl (fun h5 => ?_) (fun h5 => ?_)
  · have c1 : ¬ a < en := Nat.not_lt.mpr ((nI_leI (by omega) (by omega)).mp h5)
    have eo : sgO μ a en c = false := by unfold sgO; rw [decide_eq_false c1]; rfl
    refine kG.iconst (v := nI 0) 22 dX5_isSign_21 (by decide) rfl ?_
    refine gG.zret dX5_isSign_22 rfl rfl ?_
    rw [eo]
    exact ⟨rfl, rfl, rfl⟩
  · have c1 : a < en := Nat.not_le.mp (fun z => h5 (nI_le z (by omega)))
    refine kG.aload_n 9 dX5_isSign_8 rfl rfl ?_
    refine gG.getP 12 dX5_isSign_9 fX5_16 ⟨by decide, by decide⟩ rfl rfl rfl rfl ?_
    refine kG.aload_n 13 dX5_isSign_12 rfl rfl ?_
    refine gG.getI 16 dX5_isSign_13 fX5_99 ⟨by decide, by decide⟩ rfl rfl rfl ?_
    rw [e]
    refine gG.iald (n := 240) _ 17 dX5_isSign_16 ⟨by decide, by decide⟩ rfl rfl (by omega) (by decide) rfl ?_
    refine kG.iload_n 18 dX5_isSign_17 rfl rfl ?_
    refine kG.icmp_eq 23 21 dX5_isSign_18 (by decide) rfl (fun h18 => ?_) (fun h18 => ?_)
    · have eo : sgO μ a en c = true := by unfold sgO; rw [decide_eq_true c1, decide_eq_true h18]; rfl
      refine kG.aload_n 24 dX5_isSign_23 rfl rfl ?_
      refine kG.dup 25 dX5_isSign_24 rfl rfl ?_
      refine gG.getI 28 dX5_isSign_25 fX5_99 ⟨by decide, by decide⟩ rfl rfl rfl ?_
      rw [e]
      refine kG.iconst (v := nI 1) 29 dX5_isSign_28 (by decide) rfl ?_
      refine kG.iadd 30 dX5_isSign_29 rfl ?_
      rw [nI_add]
      refine gG.putI 33 dX5_isSign_30 fX5_99 ⟨by decide, by decide⟩ rfl rfl rfl ⟨rfl, rfl⟩ rfl ?_
      refine kG.iconst (v := nI 1) 34 dX5_isSign_33 (by decide) rfl ?_
      refine gG.zret dX5_isSign_34 rfl rfl ?_
      rw [eo]
      exact ⟨rfl, rfl, rfl⟩
    · have eo : sgO μ a en c = false := by unfold sgO; rw [decide_eq_false h18, Bool.and_false]
      refine kG.iconst (v := nI 0) 22 dX5_isSign_21 (by decide) rfl ?_
      refine gG.zret dX5_isSign_22 rfl rfl ?_
      rw [eo]
      exact ⟨rfl, rfl, rfl⟩
