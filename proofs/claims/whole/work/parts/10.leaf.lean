def cnt (f : Nat → Bool) : Nat → Nat
  | 0 => 0
  | n + 1 => cnt f n + (if f n then 1 else 0)
def pcn (m : Nat) : Nat := cnt m.testBit 6
set_option maxHeartbeats 4000000 in
theorem c_isHouse (Γ : kGm) {μ : kM} {q : kq4} (ht : isT q.1) (x : Int32) : gC Γ yX4_isHouse mX4_isHouse 1 [.ref 1, .int x] μ q (fun r μ' q' => r = some (.int (b2 (decide (¬ x < 0 ∧ ¬ μ q.1 8 ≤ x)))) ∧ μ' = μ ∧ q' = q) := by
  refine gC.ofG (n := 0) ⟨by decide +kernel, rfl, rfl, by decide⟩ (Nat.le_of_ble_eq_true rfl) ?_
  show gG Γ mX4_isHouse 1 0 [some (.ref 1), some (.int x)] [] μ q _
  refine kG.iload_n 1 dX4_isHouse_0 rfl rfl ?_
  refine kG.if_lt 19 4 dX4_isHouse_1 (by decide) rfl (fun h1 => ?_) (fun h1 => ?_)
  · refine kG.iconst (v := nI 0) 20 dX4_isHouse_19 (by decide) rfl ?_
    refine gG.zret dX4_isHouse_20 rfl rfl ?_
    exact ⟨by simp [b2, *], rfl, rfl⟩
  · refine kG.iload_n 5 dX4_isHouse_4 rfl rfl ?_
    refine kG.aload_n 6 dX4_isHouse_5 rfl rfl ?_
    refine gG.getP 9 dX4_isHouse_6 fX4_32 ⟨by decide, by decide⟩ rfl rfl rfl rfl ?_
    refine gG.getI 12 dX4_isHouse_9 fX4_77 (isT_k ht) (isT_s ht) rfl rfl ?_
    refine kG.icmp_ge 19 15 dX4_isHouse_12 (by decide) rfl (fun h12 => ?_) (fun h12 => ?_)
    · refine kG.iconst (v := nI 0) 20 dX4_isHouse_19 (by decide) rfl ?_
      refine gG.zret dX4_isHouse_20 rfl rfl ?_
      exact ⟨by simp [b2, *], rfl, rfl⟩
    · refine kG.iconst (v := nI 1) 16 dX4_isHouse_15 (by decide) rfl ?_
      refine kG.goto 20 dX4_isHouse_16 (by decide) ?_
      refine gG.zret dX4_isHouse_20 rfl rfl ?_
      exact ⟨by simp [b2, *], rfl, rfl⟩
set_option maxHeartbeats 4000000 in
theorem c_isPerson (Γ : kGm) {μ : kM} {q : kq4} (ht : isT q.1) (x : Int32) : gC Γ yX4_isPerson mX4_isPerson 1 [.ref 1, .int x] μ q (fun r μ' q' => r = some (.int (b2 (decide (¬ x < 0 ∧ ¬ μ q.1 9 ≤ x)))) ∧ μ' = μ ∧ q' = q) := by
  refine gC.ofG (n := 0) ⟨by decide +kernel, rfl, rfl, by decide⟩ (Nat.le_of_ble_eq_true rfl) ?_
  show gG Γ mX4_isPerson 1 0 [some (.ref 1), some (.int x)] [] μ q _
  refine kG.iload_n 1 dX4_isPerson_0 rfl rfl ?_
  refine kG.if_lt 19 4 dX4_isPerson_1 (by decide) rfl (fun h1 => ?_) (fun h1 => ?_)
  · refine kG.iconst (v := nI 0) 20 dX4_isPerson_19 (by decide) rfl ?_
    refine gG.zret dX4_isPerson_20 rfl rfl ?_
    exact ⟨by simp [b2, *], rfl, rfl⟩
  · refine kG.iload_n 5 dX4_isPerson_4 rfl rfl ?_
    refine kG.aload_n 6 dX4_isPerson_5 rfl rfl ?_
    refine gG.getP 9 dX4_isPerson_6 fX4_32 ⟨by decide, by decide⟩ rfl rfl rfl rfl ?_
    refine gG.getI 12 dX4_isPerson_9 fX4_187 (isT_k ht) (isT_s ht) rfl rfl ?_
    refine kG.icmp_ge 19 15 dX4_isPerson_12 (by decide) rfl (fun h12 => ?_) (fun h12 => ?_)
    · refine kG.iconst (v := nI 0) 20 dX4_isPerson_19 (by decide) rfl ?_
      refine gG.zret dX4_isPerson_20 rfl rfl ?_
      exact ⟨by simp [b2, *], rfl, rfl⟩
    · refine kG.iconst (v := nI 1) 16 dX4_isPerson_15 (by decide) rfl ?_
      refine kG.goto 20 dX4_isPerson_16 (by decide) ?_
      refine gG.zret dX4_isPerson_20 rfl rfl ?_
      exact ⟨by simp [b2, *], rfl, rfl⟩
set_option maxHeartbeats 4000000 in
theorem c_isSheet (Γ : kGm) {μ : kM} {q : kq4} (x : Int32) : gC Γ yX4_isSheet mX4_isSheet 1 [.int x] μ q (fun r μ' q' => r = some (.int (b2 (decide (¬ x < 0 ∧ ¬ nI 4 ≤ x)))) ∧ μ' = μ ∧ q' = q) := by
  refine gC.ofG (n := 0) ⟨by decide +kernel, rfl, rfl, by decide⟩ (Nat.le_of_ble_eq_true rfl) ?_
  show gG Γ mX4_isSheet 1 0 [some (.int x)] [] μ q _
  refine kG.iload_n 1 dX4_isSheet_0 rfl rfl ?_
  refine kG.if_lt 13 4 dX4_isSheet_1 (by decide) rfl (fun h1 => ?_) (fun h1 => ?_)
  · refine kG.iconst (v := nI 0) 14 dX4_isSheet_13 (by decide) rfl ?_
    refine gG.zret dX4_isSheet_14 rfl rfl ?_
    exact ⟨by simp [b2, *], rfl, rfl⟩
  · refine kG.iload_n 5 dX4_isSheet_4 rfl rfl ?_
    refine kG.iconst (v := nI 4) 6 dX4_isSheet_5 (by decide) rfl ?_
    refine kG.icmp_ge 13 9 dX4_isSheet_6 (by decide) rfl (fun h6 => ?_) (fun h6 => ?_)
    · refine kG.iconst (v := nI 0) 14 dX4_isSheet_13 (by decide) rfl ?_
      refine gG.zret dX4_isSheet_14 rfl rfl ?_
      exact ⟨by simp [b2, *], rfl, rfl⟩
    · refine kG.iconst (v := nI 1) 10 dX4_isSheet_9 (by decide) rfl ?_
      refine kG.goto 14 dX4_isSheet_10 (by decide) ?_
      refine gG.zret dX4_isSheet_14 rfl rfl ?_
      exact ⟨by simp [b2, *], rfl, rfl⟩
set_option maxHeartbeats 4000000 in
theorem c_isLane (Γ : kGm) {μ : kM} {q : kq4} (x : Int32) : gC Γ yX4_isLane mX4_isLane 1 [.int x] μ q (fun r μ' q' => r = some (.int (b2 (decide (¬ x < 0 ∧ ¬ nI 3 ≤ x)))) ∧ μ' = μ ∧ q' = q) := by
  refine gC.ofG (n := 0) ⟨by decide +kernel, rfl, rfl, by decide⟩ (Nat.le_of_ble_eq_true rfl) ?_
  show gG Γ mX4_isLane 1 0 [some (.int x)] [] μ q _
  refine kG.iload_n 1 dX4_isLane_0 rfl rfl ?_
  refine kG.if_lt 13 4 dX4_isLane_1 (by decide) rfl (fun h1 => ?_) (fun h1 => ?_)
  · refine kG.iconst (v := nI 0) 14 dX4_isLane_13 (by decide) rfl ?_
    refine gG.zret dX4_isLane_14 rfl rfl ?_
    exact ⟨by simp [b2, *], rfl, rfl⟩
  · refine kG.iload_n 5 dX4_isLane_4 rfl rfl ?_
    refine kG.iconst (v := nI 3) 6 dX4_isLane_5 (by decide) rfl ?_
    refine kG.icmp_ge 13 9 dX4_isLane_6 (by decide) rfl (fun h6 => ?_) (fun h6 => ?_)
    · refine kG.iconst (v := nI 0) 14 dX4_isLane_13 (by decide) rfl ?_
      refine gG.zret dX4_isLane_14 rfl rfl ?_
      exact ⟨by simp [b2, *], rfl, rfl⟩
    · refine kG.iconst (v := nI 1) 10 dX4_isLane_9 (by decide) rfl ?_
      refine kG.goto 14 dX4_isLane_10 (by decide) ?_
      refine gG.zret dX4_isLane_14 rfl rfl ?_
      exact ⟨by simp [b2, *], rfl, rfl⟩
set_option maxHeartbeats 4000000 in
theorem c_isWeek (Γ : kGm) {μ : kM} {q : kq4} (x : Int32) : gC Γ yX4_isWeek mX4_isWeek 1 [.int x] μ q (fun r μ' q' => r = some (.int (b2 (decide (¬ x < 0 ∧ ¬ nI 10 ≤ x)))) ∧ μ' = μ ∧ q' = q) := by
  refine gC.ofG (n := 0) ⟨by decide +kernel, rfl, rfl, by decide⟩ (Nat.le_of_ble_eq_true rfl) ?_
  show gG Γ mX4_isWeek 1 0 [some (.int x)] [] μ q _
  refine kG.iload_n 1 dX4_isWeek_0 rfl rfl ?_
  refine kG.if_lt 14 4 dX4_isWeek_1 (by decide) rfl (fun h1 => ?_) (fun h1 => ?_)
  · refine kG.iconst (v := nI 0) 15 dX4_isWeek_14 (by decide) rfl ?_
    refine gG.zret dX4_isWeek_15 rfl rfl ?_
    exact ⟨by simp [b2, *], rfl, rfl⟩
  · refine kG.iload_n 5 dX4_isWeek_4 rfl rfl ?_
    refine kG.bipush (v := nI 10) 7 dX4_isWeek_5 (by decide) rfl ?_
    refine kG.icmp_ge 14 10 dX4_isWeek_7 (by decide) rfl (fun h7 => ?_) (fun h7 => ?_)
    · refine kG.iconst (v := nI 0) 15 dX4_isWeek_14 (by decide) rfl ?_
      refine gG.zret dX4_isWeek_15 rfl rfl ?_
      exact ⟨by simp [b2, *], rfl, rfl⟩
    · refine kG.iconst (v := nI 1) 11 dX4_isWeek_10 (by decide) rfl ?_
      refine kG.goto 15 dX4_isWeek_11 (by decide) ?_
      refine gG.zret dX4_isWeek_15 rfl rfl ?_
      exact ⟨by simp [b2, *], rfl, rfl⟩
set_option maxHeartbeats 4000000 in
theorem c_isWhich (Γ : kGm) {μ : kM} {q : kq4} (x : Int32) : gC Γ yX4_isWhich mX4_isWhich 1 [.int x] μ q (fun r μ' q' => r = some (.int (b2 (decide (x = 0 ∨ x = nI 1)))) ∧ μ' = μ ∧ q' = q) := by
  refine gC.ofG (n := 0) ⟨by decide +kernel, rfl, rfl, by decide⟩ (Nat.le_of_ble_eq_true rfl) ?_
  show gG Γ mX4_isWhich 1 0 [some (.int x)] [] μ q _
  refine kG.iload_n 1 dX4_isWhich_0 rfl rfl ?_
  refine kG.if_eq 9 4 dX4_isWhich_1 (by decide) rfl (fun h1 => ?_) (fun h1 => ?_)
  · refine kG.iconst (v := nI 1) 10 dX4_isWhich_9 (by decide) rfl ?_
    refine kG.goto 14 dX4_isWhich_10 (by decide) ?_
    refine gG.zret dX4_isWhich_14 rfl rfl ?_
    exact ⟨by simp [b2, *], rfl, rfl⟩
  · refine kG.iload_n 5 dX4_isWhich_4 rfl rfl ?_
    refine kG.iconst (v := nI 1) 6 dX4_isWhich_5 (by decide) rfl ?_
    refine kG.icmp_ne 13 9 dX4_isWhich_6 (by decide) rfl (fun h6 => ?_) (fun h6 => ?_)
    · refine kG.iconst (v := nI 0) 14 dX4_isWhich_13 (by decide) rfl ?_
      refine gG.zret dX4_isWhich_14 rfl rfl ?_
      exact ⟨by simp [b2, *], rfl, rfl⟩
    · refine kG.iconst (v := nI 1) 10 dX4_isWhich_9 (by decide) rfl ?_
      refine kG.goto 14 dX4_isWhich_10 (by decide) ?_
      refine gG.zret dX4_isWhich_14 rfl rfl ?_
      exact ⟨by simp [b2, *], rfl, rfl⟩
set_option maxHeartbeats 4000000 in
theorem c_timeOf (Γ : kGm) {μ : kM} {q : kq4} (x y : Int32) : gC Γ yX4_timeOf mX4_timeOf 1 [.int x, .int y] μ q (fun r μ' q' => r = some (.int (x * nI 14 + y)) ∧ μ' = μ ∧ q' = q) := by
  refine gC.ofG (n := 0) ⟨by decide +kernel, rfl, rfl, by decide⟩ (Nat.le_of_ble_eq_true rfl) ?_
  show gG Γ mX4_timeOf 1 0 [some (.int x), some (.int y)] [] μ q _
  refine kG.iload_n 1 dX4_timeOf_0 rfl rfl ?_
  refine kG.bipush (v := nI 14) 3 dX4_timeOf_1 (by decide) rfl ?_
  refine kG.imul 4 dX4_timeOf_3 rfl ?_
  refine kG.iload_n 5 dX4_timeOf_4 rfl rfl ?_
  refine kG.iadd 6 dX4_timeOf_5 rfl ?_
  refine gG.iret dX4_timeOf_6 rfl ?_
  exact ⟨rfl, rfl, rfl⟩
set_option maxHeartbeats 4000000 in
theorem c_isTime (Γ : kGm) {μ : kM} {q : kq4} (x y : Int32) : gC Γ yX4_isTime mX4_isTime 2 [.int x, .int y] μ q (fun r μ' q' => r = some (.int (b2 (decide ((¬ x < 0 ∧ ¬ nI 10 ≤ x) ∧ ¬ y < 0 ∧ ¬ nI 14 ≤ y)))) ∧ μ' = μ ∧ q' = q) := by
  refine gC.ofG (n := 0) ⟨by decide +kernel, rfl, rfl, by decide⟩ (Nat.le_of_ble_eq_true rfl) ?_
  show gG Γ mX4_isTime 2 0 [some (.int x), some (.int y)] [] μ q _
  refine kG.iload_n 1 dX4_isTime_0 rfl rfl ?_
  refine gG.callS 4 dX4_isTime_1 lX4_119 vX4_isWeek (c_isWeek Γ _) rfl rfl ⟨by decide, by decide⟩ (Nat.le_of_ble_eq_true rfl) rfl (fun r1 μ1 q1 hc1 => ?_)
  obtain ⟨rfl, rfl, rfl⟩ := hc1
  refine kG.if_eq 21 7 dX4_isTime_4 (by decide) rfl (fun h4 => ?_) (fun h4 => ?_)
  · rw [b2_0, decide_eq_false_iff_not] at h4
    refine kG.iconst (v := nI 0) 22 dX4_isTime_21 (by decide) rfl ?_
    refine gG.zret dX4_isTime_22 rfl rfl ?_
    first | exact ⟨by rw [b2_f (decide_eq_false (fun z => h4 z.1))], rfl, rfl⟩ | exact ⟨by simp [b2, *], rfl, rfl⟩
  · rw [b2_n0, decide_eq_true_iff] at h4
    refine kG.iload_n 8 dX4_isTime_7 rfl rfl ?_
    refine kG.if_lt 21 11 dX4_isTime_8 (by decide) rfl (fun h8 => ?_) (fun h8 => ?_)
    · refine kG.iconst (v := nI 0) 22 dX4_isTime_21 (by decide) rfl ?_
      refine gG.zret dX4_isTime_22 rfl rfl ?_
      first | exact ⟨by rw [b2_f (decide_eq_false (fun z => h4 z.1))], rfl, rfl⟩ | exact ⟨by simp [b2, *], rfl, rfl⟩
    · refine kG.iload_n 12 dX4_isTime_11 rfl rfl ?_
      refine kG.bipush (v := nI 14) 14 dX4_isTime_12 (by decide) rfl ?_
      refine kG.icmp_ge 21 17 dX4_isTime_14 (by decide) rfl (fun h14 => ?_) (fun h14 => ?_)
      · refine kG.iconst (v := nI 0) 22 dX4_isTime_21 (by decide) rfl ?_
        refine gG.zret dX4_isTime_22 rfl rfl ?_
        first | exact ⟨by rw [b2_f (decide_eq_false (fun z => h4 z.1))], rfl, rfl⟩ | exact ⟨by simp [b2, *], rfl, rfl⟩
      · refine kG.iconst (v := nI 1) 18 dX4_isTime_17 (by decide) rfl ?_
        refine kG.goto 22 dX4_isTime_18 (by decide) ?_
        refine gG.zret dX4_isTime_22 rfl rfl ?_
        first | exact ⟨by rw [b2_f (decide_eq_false (fun z => h4 z.1))], rfl, rfl⟩ | exact ⟨by simp [b2, *], rfl, rfl⟩
set_option maxHeartbeats 4000000 in
theorem c_faultBy (Γ : kGm) {μ : kM} {q : kq4} (x : Int32) : gC Γ yX4_faultBy mX4_faultBy 1 [.ref 1, .int x] μ q (fun r μ' q' => r = some (.int ((-10) - x)) ∧ μ' = uI μ 1 10 x ∧ q' = q) := by
  refine gC.ofG (n := 0) ⟨by decide +kernel, rfl, rfl, by decide⟩ (Nat.le_of_ble_eq_true rfl) ?_
  show gG Γ mX4_faultBy 1 0 [some (.ref 1), some (.int x)] [] μ q _
  refine kG.aload_n 1 dX4_faultBy_0 rfl rfl ?_
  refine kG.iload_n 2 dX4_faultBy_1 rfl rfl ?_
  refine gG.putI 5 dX4_faultBy_2 fX4_62 ⟨by decide, by decide⟩ rfl rfl rfl ⟨rfl, rfl⟩ rfl ?_
  refine kG.bipush (v := (-10)) 7 dX4_faultBy_5 (by decide) rfl ?_
  refine kG.iload_n 8 dX4_faultBy_7 rfl rfl ?_
  refine kG.isub 9 dX4_faultBy_8 rfl ?_
  refine gG.iret dX4_faultBy_9 rfl ?_
  exact ⟨rfl, rfl, rfl⟩
set_option maxHeartbeats 4000000 in
theorem c_leaveInTrace (Γ : kGm) {μ : kM} {q : kq4} (x : Int32) : gC Γ yX4_leaveInTrace mX4_leaveInTrace 1 [.ref 1, .int x] μ q (fun r μ' q' => r = none ∧ μ' = uI μ 1 9 (nI 31 * μ 1 9 + x) ∧ q' = q) := by
  refine gC.ofG (n := 0) ⟨by decide +kernel, rfl, rfl, by decide⟩ (Nat.le_of_ble_eq_true rfl) ?_
  show gG Γ mX4_leaveInTrace 1 0 [some (.ref 1), some (.int x)] [] μ q _
  refine kG.aload_n 1 dX4_leaveInTrace_0 rfl rfl ?_
  refine kG.bipush (v := nI 31) 3 dX4_leaveInTrace_1 (by decide) rfl ?_
  refine kG.aload_n 4 dX4_leaveInTrace_3 rfl rfl ?_
  refine gG.getI 7 dX4_leaveInTrace_4 fX4_59 ⟨by decide, by decide⟩ rfl rfl rfl ?_
  refine kG.imul 8 dX4_leaveInTrace_7 rfl ?_
  refine kG.iload_n 9 dX4_leaveInTrace_8 rfl rfl ?_
  refine kG.iadd 10 dX4_leaveInTrace_9 rfl ?_
  refine gG.putI 13 dX4_leaveInTrace_10 fX4_59 ⟨by decide, by decide⟩ rfl rfl rfl ⟨rfl, rfl⟩ rfl ?_
  refine gG.vret dX4_leaveInTrace_13 rfl ?_
  exact ⟨rfl, rfl, rfl⟩
set_option maxHeartbeats 4000000 in
theorem c_everybody (Γ : kGm) {μ : kM} {q : kq4} (ht : isT q.1) (P : Nat) (hP : P ≤ 6) (e : μ q.1 9 = nI P) : gC Γ yX4_everybody mX4_everybody 1 [.ref 1] μ q (fun r μ' q' => r = some (.int (nI (2 ^ P - 1))) ∧ μ' = μ ∧ q' = q) := by
  refine gC.ofG (n := 0) ⟨by decide +kernel, rfl, rfl, by decide⟩ (Nat.le_of_ble_eq_true rfl) ?_
  show gG Γ mX4_everybody 1 0 [some (.ref 1)] [] μ q _
  refine kG.iconst (v := nI 1) 1 dX4_everybody_0 (by decide) rfl ?_
  refine kG.aload_n 2 dX4_everybody_1 rfl rfl ?_
  refine gG.getP 5 dX4_everybody_2 fX4_32 ⟨by decide, by decide⟩ rfl rfl rfl rfl ?_
  refine gG.getI 8 dX4_everybody_5 fX4_187 (isT_k ht) (isT_s ht) rfl rfl ?_
  refine kG.ishl 9 dX4_everybody_8 rfl ?_
  refine kG.iconst (v := nI 1) 10 dX4_everybody_9 (by decide) rfl ?_
  refine kG.isub 11 dX4_everybody_10 rfl ?_
  refine gG.iret dX4_everybody_11 rfl ?_
  refine ⟨?_, rfl, rfl⟩
  rw [e, n_shl (by omega)]
  have h1 : 1 ≤ 2 ^ P := Nat.one_le_two_pow
  rw [pk_sub h1]
set_option maxHeartbeats 4000000 in
theorem c_isAway (Γ : kGm) {μ : kM} {q : kq4} (a p : Nat) (ha : a < 2 ^ 31) (hp : p < 31) (e : μ 1 7 = nI a) : gC Γ yX4_isAway mX4_isAway 1 [.ref 1, .int (nI p)] μ q (fun r μ' q' => r = some (.int (b2 (a.testBit p))) ∧ μ' = μ ∧ q' = q) := by
  refine gC.ofG (n := 0) ⟨by decide +kernel, rfl, rfl, by decide⟩ (Nat.le_of_ble_eq_true rfl) ?_
  show gG Γ mX4_isAway 1 0 [some (.ref 1), some (.int (nI p))] [] μ q _
  refine kG.aload_n 1 dX4_isAway_0 rfl rfl ?_
  refine gG.getI 4 dX4_isAway_1 fX4_51 ⟨by decide, by decide⟩ rfl rfl rfl ?_
  refine kG.iload_n 5 dX4_isAway_4 rfl rfl ?_
  refine kG.ishr 6 dX4_isAway_5 rfl ?_
  refine kG.iconst (v := nI 1) 7 dX4_isAway_6 (by decide) rfl ?_
  refine kG.iand 8 dX4_isAway_7 rfl ?_
  refine kG.iconst (v := nI 1) 9 dX4_isAway_8 (by decide) rfl ?_
  refine kG.icmp_ne 16 12 dX4_isAway_9 (by decide) rfl (fun h9 => ?_) (fun h9 => ?_)
  · rw [e, n_bit ha hp] at h9
    refine kG.iconst (v := nI 0) 17 dX4_isAway_16 (by decide) rfl ?_
    refine gG.zret dX4_isAway_17 rfl rfl ?_
    refine ⟨?_, rfl, rfl⟩
    cases hb : a.testBit p <;> rw [hb] at h9 <;> first | rfl | exact absurd h9 (by decide)
  · rw [e, n_bit ha hp] at h9
    refine kG.iconst (v := nI 1) 13 dX4_isAway_12 (by decide) rfl ?_
    refine kG.goto 17 dX4_isAway_13 (by decide) ?_
    refine gG.zret dX4_isAway_17 rfl rfl ?_
    refine ⟨?_, rfl, rfl⟩
    cases hb : a.testBit p <;> rw [hb] at h9 <;> first | rfl | exact absurd h9 (by decide)
set_option maxHeartbeats 4000000 in
theorem c_wantsOf (Γ : kGm) {μ : kM} {q : kq4} (k : Nat) (x : Int32) (hk : k ≤ 2) : gC Γ yX4_wantsOf mX4_wantsOf 1 [.int (nI k), .int x] μ q (fun r μ' q' => r = some (.int (if k = 0 then x else if k = 1 then x + nI 1 else nI 2 * (x + nI 1))) ∧ μ' = μ ∧ q' = q) := by
  refine gC.ofG (n := 0) ⟨by decide +kernel, rfl, rfl, by decide⟩ (Nat.le_of_ble_eq_true rfl) ?_
  show gG Γ mX4_wantsOf 1 0 [some (.int (nI k)), some (.int x)] [] μ q _
  refine kG.iload_n 1 dX4_wantsOf_0 rfl rfl ?_
  by_cases hs1_0 : nI k = nI 0
  · rw [hs1_0]
    refine kG.lookup (off := 27) 28 dX4_wantsOf_1 (by decide) (by decide) (by decide) ?_
    refine kG.iload_n 29 dX4_wantsOf_28 rfl rfl ?_
    refine gG.iret dX4_wantsOf_29 rfl ?_
    refine ⟨?_, rfl, rfl⟩
    rcases (by omega : k = 0 ∨ k = 1 ∨ k = 2) with rfl | rfl | rfl <;> first | rfl | (exfalso; revert hs1_0; decide) | (exfalso; revert hs1_1; decide)
  by_cases hs1_1 : nI k = nI 1
  · rw [hs1_1]
    refine kG.lookup (off := 29) 30 dX4_wantsOf_1 (by decide) (by decide) (by decide) ?_
    refine kG.iload_n 31 dX4_wantsOf_30 rfl rfl ?_
    refine kG.iconst (v := nI 1) 32 dX4_wantsOf_31 (by decide) rfl ?_
    refine kG.iadd 33 dX4_wantsOf_32 rfl ?_
    refine gG.iret dX4_wantsOf_33 rfl ?_
    refine ⟨?_, rfl, rfl⟩
    rcases (by omega : k = 0 ∨ k = 1 ∨ k = 2) with rfl | rfl | rfl <;> first | rfl | (exfalso; revert hs1_0; decide) | (exfalso; revert hs1_1; decide)
  · refine kG.lookup (off := 33) 34 dX4_wantsOf_1 (by decide) (by have e0 := n_toInt (k := 0) (by decide) hs1_0; have e1 := n_toInt (k := 1) (by decide) hs1_1; show Op.lookupswitch.offset [(0, 27), (1, 29)] 33 _ = 33; simp only [Op.lookupswitch.offset_cons, Op.lookupswitch.offset_nil]; rw [if_neg (fun z => e0 z.symm), if_neg (fun z => e1 z.symm)]) (by decide) ?_
    refine kG.iconst (v := nI 2) 35 dX4_wantsOf_34 (by decide) rfl ?_
    refine kG.iload_n 36 dX4_wantsOf_35 rfl rfl ?_
    refine kG.iconst (v := nI 1) 37 dX4_wantsOf_36 (by decide) rfl ?_
    refine kG.iadd 38 dX4_wantsOf_37 rfl ?_
    refine kG.imul 39 dX4_wantsOf_38 rfl ?_
    refine gG.iret dX4_wantsOf_39 rfl ?_
    refine ⟨?_, rfl, rfl⟩
    rcases (by omega : k = 0 ∨ k = 1 ∨ k = 2) with rfl | rfl | rfl <;> first | rfl | (exfalso; revert hs1_0; decide) | (exfalso; revert hs1_1; decide)
set_option maxHeartbeats 4000000 in
theorem c_hasNothing (Γ : kGm) {μ : kM} {q : kq4} {s : Nat} (hs : isS s) : gC Γ yX1_hasNothing mX1_hasNothing 1 [.ref s] μ q (fun r μ' q' => r = some (.int (b2 (decide (μ s 1 = -1)))) ∧ μ' = μ ∧ q' = q) := by
  refine gC.ofG (n := 0) ⟨by decide +kernel, rfl, rfl, by decide⟩ (Nat.le_of_ble_eq_true rfl) ?_
  show gG Γ mX1_hasNothing 1 0 [some (.ref s)] [] μ q _
  refine kG.aload_n 1 dX1_hasNothing_0 rfl rfl ?_
  refine gG.getI 4 dX1_hasNothing_1 fX1_15 (isS_k hs) (isS_s hs) rfl rfl ?_
  refine kG.iconst (v := (-1)) 5 dX1_hasNothing_4 (by decide) rfl ?_
  refine kG.icmp_ne 12 8 dX1_hasNothing_5 (by decide) rfl (fun h5 => ?_) (fun h5 => ?_)
  · refine kG.iconst (v := nI 0) 13 dX1_hasNothing_12 (by decide) rfl ?_
    refine gG.zret dX1_hasNothing_13 rfl rfl ?_
    exact ⟨by simp [b2, *], rfl, rfl⟩
  · refine kG.iconst (v := nI 1) 9 dX1_hasNothing_8 (by decide) rfl ?_
    refine kG.goto 13 dX1_hasNothing_9 (by decide) ?_
    refine gG.zret dX1_hasNothing_13 rfl rfl ?_
    exact ⟨by simp [b2, *], rfl, rfl⟩
set_option maxHeartbeats 4000000 in
theorem c_hasCell (Γ : kGm) {μ : kM} {q : kq4} {s : Nat} (hs : isS s) (x : Int32) : gC Γ yX1_hasCell mX1_hasCell 1 [.ref s, .int x] μ q (fun r μ' q' => r = some (.int (b2 (decide (¬ x < 0 ∧ ¬ μ s 2 ≤ x)))) ∧ μ' = μ ∧ q' = q) := by
  refine gC.ofG (n := 0) ⟨by decide +kernel, rfl, rfl, by decide⟩ (Nat.le_of_ble_eq_true rfl) ?_
  show gG Γ mX1_hasCell 1 0 [some (.ref s), some (.int x)] [] μ q _
  refine kG.iload_n 1 dX1_hasCell_0 rfl rfl ?_
  refine kG.if_lt 16 4 dX1_hasCell_1 (by decide) rfl (fun h1 => ?_) (fun h1 => ?_)
  · refine kG.iconst (v := nI 0) 17 dX1_hasCell_16 (by decide) rfl ?_
    refine gG.zret dX1_hasCell_17 rfl rfl ?_
    exact ⟨by simp [b2, *], rfl, rfl⟩
  · refine kG.iload_n 5 dX1_hasCell_4 rfl rfl ?_
    refine kG.aload_n 6 dX1_hasCell_5 rfl rfl ?_
    refine gG.getI 9 dX1_hasCell_6 fX1_19 (isS_k hs) (isS_s hs) rfl rfl ?_
    refine kG.icmp_ge 16 12 dX1_hasCell_9 (by decide) rfl (fun h9 => ?_) (fun h9 => ?_)
    · refine kG.iconst (v := nI 0) 17 dX1_hasCell_16 (by decide) rfl ?_
      refine gG.zret dX1_hasCell_17 rfl rfl ?_
      exact ⟨by simp [b2, *], rfl, rfl⟩
    · refine kG.iconst (v := nI 1) 13 dX1_hasCell_12 (by decide) rfl ?_
      refine kG.goto 17 dX1_hasCell_13 (by decide) ?_
      refine gG.zret dX1_hasCell_17 rfl rfl ?_
      exact ⟨by simp [b2, *], rfl, rfl⟩
set_option maxHeartbeats 4000000 in
theorem c_hasCells (Γ : kGm) {μ : kM} {q : kq4} {s : Nat} (hs : isS s) (x y : Int32) : gC Γ yX1_hasCells mX1_hasCells 1 [.ref s, .int x, .int y] μ q (fun r μ' q' => r = some (.int (b2 (decide (¬ x < 0 ∧ ¬ μ s 2 < x ∧ ¬ y < 0 ∧ ¬ μ s 2 - x < y)))) ∧ μ' = μ ∧ q' = q) := by
  refine gC.ofG (n := 0) ⟨by decide +kernel, rfl, rfl, by decide⟩ (Nat.le_of_ble_eq_true rfl) ?_
  show gG Γ mX1_hasCells 1 0 [some (.ref s), some (.int x), some (.int y)] [] μ q _
  refine kG.iload_n 1 dX1_hasCells_0 rfl rfl ?_
  refine kG.if_lt 30 4 dX1_hasCells_1 (by decide) rfl (fun h1 => ?_) (fun h1 => ?_)
  · refine kG.iconst (v := nI 0) 31 dX1_hasCells_30 (by decide) rfl ?_
    refine gG.zret dX1_hasCells_31 rfl rfl ?_
    exact ⟨by simp [b2, *], rfl, rfl⟩
  · refine kG.iload_n 5 dX1_hasCells_4 rfl rfl ?_
    refine kG.aload_n 6 dX1_hasCells_5 rfl rfl ?_
    refine gG.getI 9 dX1_hasCells_6 fX1_19 (isS_k hs) (isS_s hs) rfl rfl ?_
    refine kG.icmp_gt 30 12 dX1_hasCells_9 (by decide) rfl (fun h9 => ?_) (fun h9 => ?_)
    · refine kG.iconst (v := nI 0) 31 dX1_hasCells_30 (by decide) rfl ?_
      refine gG.zret dX1_hasCells_31 rfl rfl ?_
      exact ⟨by simp [b2, *], rfl, rfl⟩
    · refine kG.iload_n 13 dX1_hasCells_12 rfl rfl ?_
      refine kG.if_lt 30 16 dX1_hasCells_13 (by decide) rfl (fun h13 => ?_) (fun h13 => ?_)
      · refine kG.iconst (v := nI 0) 31 dX1_hasCells_30 (by decide) rfl ?_
        refine gG.zret dX1_hasCells_31 rfl rfl ?_
        exact ⟨by simp [b2, *], rfl, rfl⟩
      · refine kG.iload_n 17 dX1_hasCells_16 rfl rfl ?_
        refine kG.aload_n 18 dX1_hasCells_17 rfl rfl ?_
        refine gG.getI 21 dX1_hasCells_18 fX1_19 (isS_k hs) (isS_s hs) rfl rfl ?_
        refine kG.iload_n 22 dX1_hasCells_21 rfl rfl ?_
        refine kG.isub 23 dX1_hasCells_22 rfl ?_
        refine kG.icmp_gt 30 26 dX1_hasCells_23 (by decide) rfl (fun h23 => ?_) (fun h23 => ?_)
        · refine kG.iconst (v := nI 0) 31 dX1_hasCells_30 (by decide) rfl ?_
          refine gG.zret dX1_hasCells_31 rfl rfl ?_
          exact ⟨by simp [b2, *], rfl, rfl⟩
        · refine kG.iconst (v := nI 1) 27 dX1_hasCells_26 (by decide) rfl ?_
          refine kG.goto 31 dX1_hasCells_27 (by decide) ?_
          refine gG.zret dX1_hasCells_31 rfl rfl ?_
          exact ⟨by simp [b2, *], rfl, rfl⟩
set_option maxHeartbeats 4000000 in
theorem c_cut (Γ : kGm) {μ : kM} {q : kq4} {s : Nat} (hs : isS s) (x : Int32) : gC Γ yX1_cutToLane mX1_cutToLane 1 [.ref s, .int x] μ q (fun r μ' q' => r = some (.int (if μ s 1 = nI 0 then x.toInt8.toInt32 else if μ s 1 = nI 1 then x.toInt16.toInt32 else x)) ∧ μ' = μ ∧ q' = q) := by
  refine gC.ofG (n := 0) ⟨by decide +kernel, rfl, rfl, by decide⟩ (Nat.le_of_ble_eq_true rfl) ?_
  show gG Γ mX1_cutToLane 1 0 [some (.ref s), some (.int x)] [] μ q _
  refine kG.aload_n 1 dX1_cutToLane_0 rfl rfl ?_
  refine gG.getI 4 dX1_cutToLane_1 fX1_15 (isS_k hs) (isS_s hs) rfl rfl ?_
  by_cases hs4_0 : μ s 1 = nI 0
  · rw [hs4_0]
    refine kG.lookup (off := 28) 32 dX1_cutToLane_4 (by decide) (by decide) (by decide) ?_
    refine kG.iload_n 33 dX1_cutToLane_32 rfl rfl ?_
    refine kG.i2b 34 dX1_cutToLane_33 rfl ?_
    refine gG.iret dX1_cutToLane_34 rfl ?_
    first | exact ⟨rfl, rfl, rfl⟩ | exact ⟨by rw [if_neg hs4_0, if_neg hs4_1], rfl, rfl⟩ | exact ⟨by rw [if_pos hs4_0], rfl, rfl⟩
  by_cases hs4_1 : μ s 1 = nI 1
  · rw [hs4_1]
    refine kG.lookup (off := 31) 35 dX1_cutToLane_4 (by decide) (by decide) (by decide) ?_
    refine kG.iload_n 36 dX1_cutToLane_35 rfl rfl ?_
    refine kG.i2s 37 dX1_cutToLane_36 rfl ?_
    refine gG.iret dX1_cutToLane_37 rfl ?_
    first | exact ⟨rfl, rfl, rfl⟩ | exact ⟨by rw [if_neg hs4_0, if_neg hs4_1], rfl, rfl⟩ | exact ⟨by rw [if_pos hs4_0], rfl, rfl⟩
  · refine kG.lookup (off := 34) 38 dX1_cutToLane_4 (by decide) (by have e0 := n_toInt (k := 0) (by decide) hs4_0; have e1 := n_toInt (k := 1) (by decide) hs4_1; show Op.lookupswitch.offset [(0, 28), (1, 31)] 34 _ = 34; simp only [Op.lookupswitch.offset_cons, Op.lookupswitch.offset_nil]; rw [if_neg (fun z => e0 z.symm), if_neg (fun z => e1 z.symm)]) (by decide) ?_
    refine kG.iload_n 39 dX1_cutToLane_38 rfl rfl ?_
    refine gG.iret dX1_cutToLane_39 rfl ?_
    first | exact ⟨rfl, rfl, rfl⟩ | exact ⟨by rw [if_neg hs4_0, if_neg hs4_1], rfl, rfl⟩ | exact ⟨by rw [if_pos hs4_0], rfl, rfl⟩
set_option maxHeartbeats 4000000 in
theorem c_read (Γ : kGm) {μ : kM} {q : kq4} {s : Nat} (hs : isS s) (n : Nat) (hn : n ≤ 60) (e : μ s 2 = nI n) (k : Nat) (hk : k < 2 ^ 31) : gC Γ yX1_read mX1_read 2 [.ref s, .int (nI k)] μ q (fun r μ' q' => r = some (.int (if k < n then μ (s + 1) k else nI 0)) ∧ μ' = μ ∧ q' = q) := by
  refine gC.ofG (n := 0) ⟨by decide +kernel, rfl, rfl, by decide⟩ (Nat.le_of_ble_eq_true rfl) ?_
  show gG Γ mX1_read 2 0 [some (.ref s), some (.int (nI k))] [] μ q _
  refine kG.aload_n 1 dX1_read_0 rfl rfl ?_
  refine kG.iload_n 2 dX1_read_1 rfl rfl ?_
  refine gG.callV 5 dX1_read_2 lX1_28 vX1_hasCell (c_hasCell Γ hs _) rfl rfl (isS_k hs) (isS_s hs) ⟨by decide, rfl⟩ ⟨by decide, by decide⟩ (Nat.le_of_ble_eq_true rfl) rfl (fun r2 μ2 q2 hc2 => ?_)
  obtain ⟨rfl, rfl, rfl⟩ := hc2
  refine kG.if_eq 17 8 dX1_read_5 (by decide) rfl (fun h5 => ?_) (fun h5 => ?_)
  · rw [b2_0, decide_eq_false_iff_not, e] at h5
    have hkn : ¬ k < n := fun z => h5 ⟨nI_pos hk, nI_ge z (by omega)⟩
    refine kG.iconst (v := nI 0) 18 dX1_read_17 (by decide) rfl ?_
    refine gG.iret dX1_read_18 rfl ?_
    exact ⟨by simp [hkn], rfl, rfl⟩
  · rw [b2_n0, decide_eq_true_iff, e] at h5
    have hkn : k < n := Nat.not_le.mp fun z => h5.2 (nI_le z hk)
    refine kG.aload_n 9 dX1_read_8 rfl rfl ?_
    refine gG.getP 12 dX1_read_9 fX1_9 (isS_k hs) (isS_s hs) rfl (PI_S hs) rfl ?_
    refine kG.iload_n 13 dX1_read_12 rfl rfl ?_
    refine gG.iald (n := 60) _ 14 dX1_read_13 (arS_k hs) (arS_s hs) rfl (by omega) (by decide) rfl ?_
    refine kG.goto 18 dX1_read_14 (by decide) ?_
    refine gG.iret dX1_read_18 rfl ?_
    exact ⟨by simp [hkn], rfl, rfl⟩
set_option maxHeartbeats 4000000 in
theorem c_write (Γ : kGm) {μ : kM} {q : kq4} {s : Nat} (hs : isS s) (n : Nat) (hn : n ≤ 60) (e : μ s 2 = nI n) (k : Nat) (hk : k < n) (x : Int32) : gC Γ yX1_write mX1_write 2 [.ref s, .int (nI k), .int x] μ q (fun r μ' q' => r = none ∧ μ' = uI μ (s + 1) k (if μ s 1 = nI 0 then x.toInt8.toInt32 else if μ s 1 = nI 1 then x.toInt16.toInt32 else x) ∧ q' = q) := by
  refine gC.ofG (n := 0) ⟨by decide +kernel, rfl, rfl, by decide⟩ (Nat.le_of_ble_eq_true rfl) ?_
  show gG Γ mX1_write 2 0 [some (.ref s), some (.int (nI k)), some (.int x)] [] μ q _
  refine kG.aload_n 1 dX1_write_0 rfl rfl ?_
  refine kG.iload_n 2 dX1_write_1 rfl rfl ?_
  refine gG.callV 5 dX1_write_2 lX1_28 vX1_hasCell (c_hasCell Γ hs _) rfl rfl (isS_k hs) (isS_s hs) ⟨by decide, rfl⟩ ⟨by decide, by decide⟩ (Nat.le_of_ble_eq_true rfl) rfl (fun r2 μ2 q2 hc2 => ?_)
  obtain ⟨rfl, rfl, rfl⟩ := hc2
  refine kG.if_eq 19 8 dX1_write_5 (by decide) rfl (fun h5 => ?_) (fun h5 => ?_)
  · rw [b2_0, decide_eq_false_iff_not, e] at h5
    exact absurd ⟨nI_pos (by omega), nI_ge hk (by omega)⟩ h5
  · refine kG.aload_n 9 dX1_write_8 rfl rfl ?_
    refine gG.getP 12 dX1_write_9 fX1_9 (isS_k hs) (isS_s hs) rfl (PI_S hs) rfl ?_
    refine kG.iload_n 13 dX1_write_12 rfl rfl ?_
    refine kG.aload_n 14 dX1_write_13 rfl rfl ?_
    refine kG.iload_n 15 dX1_write_14 rfl rfl ?_
    refine gG.callV 18 dX1_write_15 lX1_32 vX1_cutToLane (c_cut Γ hs _) rfl rfl (isS_k hs) (isS_s hs) ⟨by decide, rfl⟩ ⟨by decide, by decide⟩ (Nat.le_of_ble_eq_true rfl) rfl (fun r15 μ15 q15 hc15 => ?_)
    obtain ⟨rfl, rfl, rfl⟩ := hc15
    refine gG.iast (n := 60) _ 19 dX1_write_18 (arS_k hs) (arS_s hs) rfl (by omega) (by decide) rfl ?_
    refine gG.vret dX1_write_19 rfl ?_
    exact ⟨rfl, rfl, rfl⟩
def fl (μ : kM) (k : Nat) (v : Int32) (i : Nat) : kM := uA μ k (fun j => if j < i then v else μ k j)
theorem fl_0 (μ : kM) (k : Nat) (v : Int32) : fl μ k v 0 = μ := by
  funext a j
  by_cases h : a = k
  · subst h; simp [fl, uA]
  · simp [fl, uA, h]
theorem fl_s (μ : kM) (k : Nat) (v : Int32) (i : Nat) : uI (fl μ k v i) k i v = fl μ k v (i + 1) := by
  funext a j
  by_cases h : a = k
  · subst h
    simp only [uI, fl, uA, upd, if_pos]
    by_cases hj : j = i
    · subst hj; simp
    · simp only [hj, if_false]
      by_cases h1 : j < i
      · rw [if_pos h1, if_pos (by omega)]
      · rw [if_neg h1, if_neg (by omega)]
  · simp [uI, fl, uA, h]
set_option maxHeartbeats 4000000 in
theorem fill_loop (Γ : kGm) {μ : kM} {q : kq4} {k n : Nat} (hk : 0 < k ∧ k < 74) (hsh : ksh k = (10, n)) (hn : n < 1000) (v : Int32) : ∀ (m i : Nat), i + m = n → gG Γ mJ7_fill_53178 1 5 [some (.ref k), some (.int v), some (.int (nI i)), some (.int (nI n))] [] (fl μ k v i) q (fun r μ' q' => r = none ∧ μ' = fl μ k v n ∧ q' = q) := by
  intro m
  induction m with
  | zero =>
    intro i hm
    refine kG.iload_n 6 dJ7_fill_53178_5 rfl rfl ?_
    refine kG.iload_n 7 dJ7_fill_53178_6 rfl rfl ?_
    refine kG.icmp_ge 20 10 dJ7_fill_53178_7 (by decide) rfl (fun h7 => ?_) (fun h7 => ?_)
    · refine gG.vret dJ7_fill_53178_20 rfl ?_
      refine ⟨rfl, ?_, rfl⟩
      rw [show i = n by omega]
    · exact absurd (nI_le (by omega) (by omega)) h7
  | succ m ih =>
    intro i hm
    refine kG.iload_n 6 dJ7_fill_53178_5 rfl rfl ?_
    refine kG.iload_n 7 dJ7_fill_53178_6 rfl rfl ?_
    refine kG.icmp_ge 20 10 dJ7_fill_53178_7 (by decide) rfl (fun h7 => ?_) (fun h7 => ?_)
    · exact absurd h7 (nI_ge (by omega) (by omega))
    · refine kG.aload_n 11 dJ7_fill_53178_10 rfl rfl ?_
      refine kG.iload_n 12 dJ7_fill_53178_11 rfl rfl ?_
      refine kG.iload_n 13 dJ7_fill_53178_12 rfl rfl ?_
      refine gG.iast _ 14 dJ7_fill_53178_13 hk hsh rfl (by omega) hn rfl ?_
      rw [fl_s]
      refine kG.iinc (v := nI (i + 1)) 17 dJ7_fill_53178_14 rfl (nI_1 i) (by decide) rfl rfl ?_
      dsimp only [List.set]
      refine kG.goto 5 dJ7_fill_53178_17 (by decide) ?_
      exact ih (i + 1) (by omega)
set_option maxHeartbeats 4000000 in
theorem c_fill (Γ : kGm) {μ : kM} {q : kq4} {k n : Nat} (hk : 0 < k ∧ k < 74) (hsh : ksh k = (10, n)) (hn : n < 1000) (v : Int32) : gC Γ yJ7_fill_53178 mJ7_fill_53178 1 [.ref k, .int v] μ q (fun r μ' q' => r = none ∧ μ' = fl μ k v n ∧ q' = q) := by
  refine gC.ofG (n := 0) ⟨by decide +kernel, rfl, rfl, by decide⟩ (Nat.le_of_ble_eq_true rfl) ?_
  show gG Γ mJ7_fill_53178 1 0 [some (.ref k), some (.int v), none, none] [] μ q _
  refine kG.iconst (v := nI 0) 1 dJ7_fill_53178_0 (by decide) rfl ?_
  refine kG.istore_n 2 dJ7_fill_53178_1 (by decide) rfl rfl ?_
  dsimp only [List.set]
  refine kG.aload_n 3 dJ7_fill_53178_2 rfl rfl ?_
  refine gG.alen 4 dJ7_fill_53178_3 hk hsh rfl ?_
  refine kG.istore_n 5 dJ7_fill_53178_4 (by decide) rfl rfl ?_
  dsimp only [List.set]
  have h := fill_loop Γ (μ := μ) (q := q) hk hsh hn v n 0 (by omega)
  rw [fl_0] at h
  exact h
set_option maxHeartbeats 4000000 in
theorem c_renew (Γ : kGm) {μ : kM} {q : kq4} {s : Nat} (hs : isS s) (x y : Int32) : gC Γ yX1_renew mX1_renew 2 [.ref s, .int x, .int y] μ q (fun r μ' q' => r = none ∧ μ' = fl (uI (uI μ s 1 x) s 2 y) (s + 1) (nI 0) 60 ∧ q' = q) := by
  refine gC.ofG (n := 0) ⟨by decide +kernel, rfl, rfl, by decide⟩ (Nat.le_of_ble_eq_true rfl) ?_
  show gG Γ mX1_renew 2 0 [some (.ref s), some (.int x), some (.int y)] [] μ q _
  refine kG.aload_n 1 dX1_renew_0 rfl rfl ?_
  refine kG.iload_n 2 dX1_renew_1 rfl rfl ?_
  refine gG.putI 5 dX1_renew_2 fX1_15 (isS_k hs) (isS_s hs) rfl rfl ⟨rfl, rfl⟩ rfl ?_
  refine kG.aload_n 6 dX1_renew_5 rfl rfl ?_
  refine kG.iload_n 7 dX1_renew_6 rfl rfl ?_
  refine gG.putI 10 dX1_renew_7 fX1_19 (isS_k hs) (isS_s hs) rfl rfl ⟨rfl, rfl⟩ rfl ?_
  refine kG.aload_n 11 dX1_renew_10 rfl rfl ?_
  refine gG.getP 14 dX1_renew_11 fX1_9 (isS_k hs) (isS_s hs) rfl (PI_S hs) rfl ?_
  refine kG.iconst (v := nI 0) 15 dX1_renew_14 (by decide) rfl ?_
  refine gG.callS 18 dX1_renew_15 lX1_22 vJ7_fill_53178 (c_fill Γ (arS_k hs) (arS_s hs) (by decide) _) rfl rfl ⟨by decide, by decide⟩ (Nat.le_of_ble_eq_true rfl) rfl (fun r15 μ15 q15 hc15 => ?_)
  obtain ⟨rfl, rfl, rfl⟩ := hc15
  refine gG.vret dX1_renew_18 rfl ?_
  exact ⟨rfl, rfl, rfl⟩
theorem bc_key : ∀ m, m < 64 → (((((((((((nI m) - ((Int32.toUInt32 (nI m) >>> (Int32.toUInt32 (nI 1) &&& Int32.toUInt32 31)).toInt32 &&& (1431655765))) &&& 858993459) + ((Int32.toUInt32 ((nI m) - ((Int32.toUInt32 (nI m) >>> (Int32.toUInt32 (nI 1) &&& Int32.toUInt32 31)).toInt32 &&& (1431655765))) >>> (Int32.toUInt32 (nI 2) &&& Int32.toUInt32 31)).toInt32 &&& 858993459)) + (Int32.toUInt32 ((((nI m) - ((Int32.toUInt32 (nI m) >>> (Int32.toUInt32 (nI 1) &&& Int32.toUInt32 31)).toInt32 &&& (1431655765))) &&& 858993459) + ((Int32.toUInt32 ((nI m) - ((Int32.toUInt32 (nI m) >>> (Int32.toUInt32 (nI 1) &&& Int32.toUInt32 31)).toInt32 &&& (1431655765))) >>> (Int32.toUInt32 (nI 2) &&& Int32.toUInt32 31)).toInt32 &&& 858993459)) >>> (Int32.toUInt32 (nI 4) &&& Int32.toUInt32 31)).toInt32) &&& 252645135)) + (Int32.toUInt32 (((((((nI m) - ((Int32.toUInt32 (nI m) >>> (Int32.toUInt32 (nI 1) &&& Int32.toUInt32 31)).toInt32 &&& (1431655765))) &&& 858993459) + ((Int32.toUInt32 ((nI m) - ((Int32.toUInt32 (nI m) >>> (Int32.toUInt32 (nI 1) &&& Int32.toUInt32 31)).toInt32 &&& (1431655765))) >>> (Int32.toUInt32 (nI 2) &&& Int32.toUInt32 31)).toInt32 &&& 858993459)) + (Int32.toUInt32 ((((nI m) - ((Int32.toUInt32 (nI m) >>> (Int32.toUInt32 (nI 1) &&& Int32.toUInt32 31)).toInt32 &&& (1431655765))) &&& 858993459) + ((Int32.toUInt32 ((nI m) - ((Int32.toUInt32 (nI m) >>> (Int32.toUInt32 (nI 1) &&& Int32.toUInt32 31)).toInt32 &&& (1431655765))) >>> (Int32.toUInt32 (nI 2) &&& Int32.toUInt32 31)).toInt32 &&& 858993459)) >>> (Int32.toUInt32 (nI 4) &&& Int32.toUInt32 31)).toInt32) &&& 252645135)) >>> (Int32.toUInt32 (nI 8) &&& Int32.toUInt32 31)).toInt32)) + (Int32.toUInt32 (((((((((nI m) - ((Int32.toUInt32 (nI m) >>> (Int32.toUInt32 (nI 1) &&& Int32.toUInt32 31)).toInt32 &&& (1431655765))) &&& 858993459) + ((Int32.toUInt32 ((nI m) - ((Int32.toUInt32 (nI m) >>> (Int32.toUInt32 (nI 1) &&& Int32.toUInt32 31)).toInt32 &&& (1431655765))) >>> (Int32.toUInt32 (nI 2) &&& Int32.toUInt32 31)).toInt32 &&& 858993459)) + (Int32.toUInt32 ((((nI m) - ((Int32.toUInt32 (nI m) >>> (Int32.toUInt32 (nI 1) &&& Int32.toUInt32 31)).toInt32 &&& (1431655765))) &&& 858993459) + ((Int32.toUInt32 ((nI m) - ((Int32.toUInt32 (nI m) >>> (Int32.toUInt32 (nI 1) &&& Int32.toUInt32 31)).toInt32 &&& (1431655765))) >>> (Int32.toUInt32 (nI 2) &&& Int32.toUInt32 31)).toInt32 &&& 858993459)) >>> (Int32.toUInt32 (nI 4) &&& Int32.toUInt32 31)).toInt32) &&& 252645135)) + (Int32.toUInt32 (((((((nI m) - ((Int32.toUInt32 (nI m) >>> (Int32.toUInt32 (nI 1) &&& Int32.toUInt32 31)).toInt32 &&& (1431655765))) &&& 858993459) + ((Int32.toUInt32 ((nI m) - ((Int32.toUInt32 (nI m) >>> (Int32.toUInt32 (nI 1) &&& Int32.toUInt32 31)).toInt32 &&& (1431655765))) >>> (Int32.toUInt32 (nI 2) &&& Int32.toUInt32 31)).toInt32 &&& 858993459)) + (Int32.toUInt32 ((((nI m) - ((Int32.toUInt32 (nI m) >>> (Int32.toUInt32 (nI 1) &&& Int32.toUInt32 31)).toInt32 &&& (1431655765))) &&& 858993459) + ((Int32.toUInt32 ((nI m) - ((Int32.toUInt32 (nI m) >>> (Int32.toUInt32 (nI 1) &&& Int32.toUInt32 31)).toInt32 &&& (1431655765))) >>> (Int32.toUInt32 (nI 2) &&& Int32.toUInt32 31)).toInt32 &&& 858993459)) >>> (Int32.toUInt32 (nI 4) &&& Int32.toUInt32 31)).toInt32) &&& 252645135)) >>> (Int32.toUInt32 (nI 8) &&& Int32.toUInt32 31)).toInt32)) >>> (Int32.toUInt32 (nI 16) &&& Int32.toUInt32 31)).toInt32)) &&& nI 63 = nI (pcn m) := by decide +kernel
set_option maxHeartbeats 4000000 in
theorem c_bitCount (Γ : kGm) {μ : kM} {q : kq4} (m : Nat) (hm : m < 64) : gC Γ yJ6_bitCount_0f7a4 mJ6_bitCount_0f7a4 1 [.int (nI m)] μ q (fun r μ' q' => r = some (.int (nI (pcn m))) ∧ μ' = μ ∧ q' = q) := by
  refine gC.ofG (n := 0) ⟨by decide +kernel, rfl, rfl, by decide⟩ (Nat.le_of_ble_eq_true rfl) ?_
  show gG Γ mJ6_bitCount_0f7a4 1 0 [some (.int (nI m))] [] μ q _
  refine kG.iload_n 1 dJ6_bitCount_0f7a4_0 rfl rfl ?_
  refine kG.iload_n 2 dJ6_bitCount_0f7a4_1 rfl rfl ?_
  refine kG.iconst (v := nI 1) 3 dJ6_bitCount_0f7a4_2 (by decide) rfl ?_
  refine kG.iushr 4 dJ6_bitCount_0f7a4_3 rfl ?_
  refine kG.ldcw 7 dJ6_bitCount_0f7a4_4 kJ6_265 rfl ?_
  refine kG.iand 8 dJ6_bitCount_0f7a4_7 rfl ?_
  refine kG.isub 9 dJ6_bitCount_0f7a4_8 rfl ?_
  refine kG.istore_n 10 dJ6_bitCount_0f7a4_9 (by decide) rfl rfl ?_
  dsimp only [List.set]
  refine kG.iload_n 11 dJ6_bitCount_0f7a4_10 rfl rfl ?_
  refine kG.ldcw 14 dJ6_bitCount_0f7a4_11 kJ6_266 rfl ?_
  refine kG.iand 15 dJ6_bitCount_0f7a4_14 rfl ?_
  refine kG.iload_n 16 dJ6_bitCount_0f7a4_15 rfl rfl ?_
  refine kG.iconst (v := nI 2) 17 dJ6_bitCount_0f7a4_16 (by decide) rfl ?_
  refine kG.iushr 18 dJ6_bitCount_0f7a4_17 rfl ?_
  refine kG.ldcw 21 dJ6_bitCount_0f7a4_18 kJ6_266 rfl ?_
  refine kG.iand 22 dJ6_bitCount_0f7a4_21 rfl ?_
  refine kG.iadd 23 dJ6_bitCount_0f7a4_22 rfl ?_
  refine kG.istore_n 24 dJ6_bitCount_0f7a4_23 (by decide) rfl rfl ?_
  dsimp only [List.set]
  refine kG.iload_n 25 dJ6_bitCount_0f7a4_24 rfl rfl ?_
  refine kG.iload_n 26 dJ6_bitCount_0f7a4_25 rfl rfl ?_
  refine kG.iconst (v := nI 4) 27 dJ6_bitCount_0f7a4_26 (by decide) rfl ?_
  refine kG.iushr 28 dJ6_bitCount_0f7a4_27 rfl ?_
  refine kG.iadd 29 dJ6_bitCount_0f7a4_28 rfl ?_
  refine kG.ldcw 32 dJ6_bitCount_0f7a4_29 kJ6_267 rfl ?_
  refine kG.iand 33 dJ6_bitCount_0f7a4_32 rfl ?_
  refine kG.istore_n 34 dJ6_bitCount_0f7a4_33 (by decide) rfl rfl ?_
  dsimp only [List.set]
  refine kG.iload_n 35 dJ6_bitCount_0f7a4_34 rfl rfl ?_
  refine kG.iload_n 36 dJ6_bitCount_0f7a4_35 rfl rfl ?_
  refine kG.bipush (v := nI 8) 38 dJ6_bitCount_0f7a4_36 (by decide) rfl ?_
  refine kG.iushr 39 dJ6_bitCount_0f7a4_38 rfl ?_
  refine kG.iadd 40 dJ6_bitCount_0f7a4_39 rfl ?_
  refine kG.istore_n 41 dJ6_bitCount_0f7a4_40 (by decide) rfl rfl ?_
  dsimp only [List.set]
  refine kG.iload_n 42 dJ6_bitCount_0f7a4_41 rfl rfl ?_
  refine kG.iload_n 43 dJ6_bitCount_0f7a4_42 rfl rfl ?_
  refine kG.bipush (v := nI 16) 45 dJ6_bitCount_0f7a4_43 (by decide) rfl ?_
  refine kG.iushr 46 dJ6_bitCount_0f7a4_45 rfl ?_
  refine kG.iadd 47 dJ6_bitCount_0f7a4_46 rfl ?_
  refine kG.istore_n 48 dJ6_bitCount_0f7a4_47 (by decide) rfl rfl ?_
  dsimp only [List.set]
  refine kG.iload_n 49 dJ6_bitCount_0f7a4_48 rfl rfl ?_
  refine kG.bipush (v := nI 63) 51 dJ6_bitCount_0f7a4_49 (by decide) rfl ?_
  refine kG.iand 52 dJ6_bitCount_0f7a4_51 rfl ?_
  refine gG.iret dJ6_bitCount_0f7a4_52 rfl ?_
  exact ⟨congrArg (fun z => some (Value.int z)) (bc_key m hm), rfl, rfl⟩
