/-! THE MODEL's state: cell 49 and what hangs on it -/
def MC (D : Dt) (sn aw : Nat) (G : Kp) (μ : kM) : Prop := μ 49 5 = nI sn ∧ μ 49 6 = nI (dH D) ∧ μ 49 7 = nI (dP D) ∧ μ 49 22 = nI G.1 ∧ (∀ h, h < dH D → μ 53 h = nI (dco D h) ∧ μ 54 h = nI (dbe D h)) ∧ (∀ p, p < dP D → μ 55 p = nI (dkd D p) ∧ μ 56 p = nI (dtw D p) ∧ μ 57 p = nI (dho D p) ∧ μ 58 p = nI (dbu D p) ∧ μ 59 p = nI (dme D p)) ∧ (∀ p, p < dP D → μ 60 p = b2 (aw.testBit p)) ∧ ∀ i, i < G.1 → μ 63 i = nI (G.2.1 i) ∧ μ 64 i = nI (G.2.2.1 i) ∧ μ 65 i = nI (G.2.2.2 i)
def MR (R : Kp) (μ : kM) : Prop := μ 49 31 = nI R.1 ∧ ∀ i, i < R.1 → μ 70 i = nI (R.2.1 i) ∧ μ 71 i = nI (R.2.2.1 i / 14) ∧ μ 72 i = nI (R.2.2.1 i % 14) ∧ μ 73 i = nI (R.2.2.2 i)
def MH (S : AS) (μ : kM) : Prop := ∀ s, s < 4 → μ 50 s = soI (aL S s) ∧ (aL S s ≠ 0 → μ 51 s = nI (aN S s) ∧ ∀ i, i < aN S s → μ 52 (60 * s + i) = aC S s i)
def MS (S : AS) (μ : kM) : Prop := MC (aD S) (aS S) (aA S) (aG S) μ ∧ MR (aR S) μ ∧ MH S μ ∧ μ 49 1 = aT S ∧ μ 49 0 = aF S
theorem MC_fr {D : Dt} {sn aw : Nat} {G : Kp} {μ μ' : kM} (h : MC D sn aw G μ) (f : ∀ j, (j = 5 ∨ j = 6 ∨ j = 7 ∨ j = 22) → μ' 49 j = μ 49 j) (g : ∀ k, 53 ≤ k → k ≤ 65 → k ≠ 61 → k ≠ 62 → μ' k = μ k) : MC D sn aw G μ' := by
  unfold MC
  rw [f 5 (by decide), f 6 (by decide), f 7 (by decide), f 22 (by decide), g 53 (by decide) (by decide) (by decide) (by decide), g 54 (by decide) (by decide) (by decide) (by decide), g 55 (by decide) (by decide) (by decide) (by decide), g 56 (by decide) (by decide) (by decide) (by decide), g 57 (by decide) (by decide) (by decide) (by decide), g 58 (by decide) (by decide) (by decide) (by decide), g 59 (by decide) (by decide) (by decide) (by decide), g 60 (by decide) (by decide) (by decide) (by decide), g 63 (by decide) (by decide) (by decide) (by decide), g 64 (by decide) (by decide) (by decide) (by decide), g 65 (by decide) (by decide) (by decide) (by decide)]
  exact h
theorem MR_fr {R : Kp} {μ μ' : kM} (h : MR R μ) (f : μ' 49 31 = μ 49 31) (g : ∀ k, 70 ≤ k → k ≤ 73 → μ' k = μ k) : MR R μ' := by
  unfold MR
  rw [f, g 70 (by decide) (by decide), g 71 (by decide) (by decide), g 72 (by decide) (by decide), g 73 (by decide) (by decide)]
  exact h
theorem MH_fr {S : AS} {μ μ' : kM} (h : MH S μ) (g : ∀ k, 50 ≤ k → k ≤ 52 → μ' k = μ k) : MH S μ' := by
  unfold MH
  rw [g 50 (by decide) (by decide), g 51 (by decide) (by decide), g 52 (by decide) (by decide)]
  exact h
/-- only scratch has changed -/
theorem MS_sc {S : AS} {μ μ' : kM} (h : MS S μ) (f : ∀ j, (j < 16 ∨ j = 22 ∨ j = 31) → μ' 49 j = μ 49 j) (g : ∀ k, 50 ≤ k → k ≤ 73 → (k < 61 ∨ k = 63 ∨ k = 64 ∨ k = 65 ∨ 70 ≤ k) → μ' k = μ k) : MS S μ' :=
  ⟨MC_fr h.1 (fun j hj => f j (by omega)) (fun k a b c d => g k (by omega) (by omega) (by omega)), MR_fr h.2.1 (f 31 (by decide)) (fun k a b => g k (by omega) (by omega) (by omega)), MH_fr h.2.2.1 (fun k a b => g k (by omega) (by omega) (by omega)), by rw [f 1 (by decide)]; exact h.2.2.2.1, by rw [f 0 (by decide)]; exact h.2.2.2.2⟩
theorem MS_fa {S : AS} {μ : kM} (f : Int32) (h : MS S μ) : MS (sFa S f) (uI μ 49 0 f) := by
  have f1 : ∀ j, j ≠ 0 → uI μ 49 0 f 49 j = μ 49 j := fun j hj => uI_ne (Or.inr hj)
  have f2 : ∀ k, k ≠ 49 → uI μ 49 0 f k = μ k := fun k hk => uI_off hk
  exact ⟨MC_fr h.1 (fun j hj => f1 j (by omega)) (fun k a b c d => f2 k (by omega)), MR_fr h.2.1 (f1 31 (by decide)) (fun k a b => f2 k (by omega)), MH_fr (S := S) h.2.2.1 (fun k a b => f2 k (by omega)), by rw [f1 1 (by decide)]; exact h.2.2.2.1, uI_same _ _ _ _⟩
theorem MS_tc {S : AS} {μ : kM} (f : Int32) (h : MS S μ) : MS (sTr S f) (uI μ 49 1 f) := by
  have f1 : ∀ j, j ≠ 1 → uI μ 49 1 f 49 j = μ 49 j := fun j hj => uI_ne (Or.inr hj)
  have f2 : ∀ k, k ≠ 49 → uI μ 49 1 f k = μ k := fun k hk => uI_off hk
  exact ⟨MC_fr h.1 (fun j hj => f1 j (by omega)) (fun k a b c d => f2 k (by omega)), MR_fr h.2.1 (f1 31 (by decide)) (fun k a b => f2 k (by omega)), MH_fr (S := S) h.2.2.1 (fun k a b => f2 k (by omega)), uI_same _ _ _ _, by rw [f1 0 (by decide)]; exact h.2.2.2.2⟩
theorem MS_sn {S : AS} {μ : kM} (v : Nat) (h : MS S μ) : MS (sSn S v) (uI μ 49 5 (nI v)) := by
  have f1 : ∀ j, j ≠ 5 → uI μ 49 5 (nI v) 49 j = μ 49 j := fun j hj => uI_ne (Or.inr hj)
  have f2 : ∀ k, k ≠ 49 → uI μ 49 5 (nI v) k = μ k := fun k hk => uI_off hk
  obtain ⟨⟨-, h2⟩, h3, h4, h5, h6⟩ := h
  refine ⟨⟨uI_same _ _ _ _, ?_⟩, MR_fr h3 (f1 31 (by decide)) (fun k a b => f2 k (by omega)), MH_fr (S := S) h4 (fun k a b => f2 k (by omega)), by rw [f1 1 (by decide)]; exact h5, by rw [f1 0 (by decide)]; exact h6⟩
  rw [f1 6 (by decide), f1 7 (by decide), f1 22 (by decide), f2 53 (by decide), f2 54 (by decide), f2 55 (by decide), f2 56 (by decide), f2 57 (by decide), f2 58 (by decide), f2 59 (by decide), f2 60 (by decide), f2 63 (by decide), f2 64 (by decide), f2 65 (by decide)]
  exact h2
/-- one's being away -/
theorem MC_aw {D : Dt} {sn aw aw' p : Nat} {b : Bool} {G : Kp} {μ : kM} (h : MC D sn aw G μ) (e : aw'.testBit p = b) (ne : ∀ i, i ≠ p → aw'.testBit i = aw.testBit i) : MC D sn aw' G (uI μ 60 p (b2 b)) := by
  have f2 : ∀ k, k ≠ 60 → uI μ 60 p (b2 b) k = μ k := fun k hk => uI_off hk
  obtain ⟨h1, h2, h3, h4, h5, h6, h7, h8⟩ := h
  refine ⟨by rw [f2 49 (by decide)]; exact h1, by rw [f2 49 (by decide)]; exact h2, by rw [f2 49 (by decide)]; exact h3, by rw [f2 49 (by decide)]; exact h4, ?_, ?_, fun i hi => ?_, ?_⟩
  · rw [f2 53 (by decide), f2 54 (by decide)]; exact h5
  · rw [f2 55 (by decide), f2 56 (by decide), f2 57 (by decide), f2 58 (by decide), f2 59 (by decide)]; exact h6
  · by_cases ei : i = p
    · subst ei; rw [uI_same, e]
    · rw [uI_ne (Or.inr ei), ne i ei]; exact h7 i hi
  · rw [f2 63 (by decide), f2 64 (by decide), f2 65 (by decide)]; exact h8
theorem MS_aw {S : AS} {μ : kM} {aw' p : Nat} {b : Bool} (h : MS S μ) (e : aw'.testBit p = b) (ne : ∀ i, i ≠ p → aw'.testBit i = (aA S).testBit i) : MS (sAw S aw') (uI μ 60 p (b2 b)) :=
  have f2 : ∀ k, k ≠ 60 → uI μ 60 p (b2 b) k = μ k := fun k hk => uI_off hk
  ⟨MC_aw h.1 e ne, MR_fr h.2.1 (by rw [f2 49 (by decide)]) (fun k a b => f2 k (by omega)), MH_fr (S := S) h.2.2.1 (fun k a b => f2 k (by omega)), by rw [f2 49 (by decide)]; exact h.2.2.2.1, by rw [f2 49 (by decide)]; exact h.2.2.2.2⟩
/-- other gifts -/
theorem MC_gf {D : Dt} {sn aw : Nat} {G G' : Kp} {μ μ' : kM} (h : MC D sn aw G μ) (f : ∀ j, (j = 5 ∨ j = 6 ∨ j = 7) → μ' 49 j = μ 49 j) (g : ∀ k, 53 ≤ k → k ≤ 60 → μ' k = μ k) (h1 : μ' 49 22 = nI G'.1) (h2 : ∀ i, i < G'.1 → μ' 63 i = nI (G'.2.1 i) ∧ μ' 64 i = nI (G'.2.2.1 i) ∧ μ' 65 i = nI (G'.2.2.2 i)) : MC D sn aw G' μ' := by
  obtain ⟨g1, g2, g3, g4, g5, g6, g7, g8⟩ := h
  refine ⟨by rw [f 5 (by decide)]; exact g1, by rw [f 6 (by decide)]; exact g2, by rw [f 7 (by decide)]; exact g3, h1, ?_, ?_, ?_, h2⟩
  · rw [g 53 (by decide) (by decide), g 54 (by decide) (by decide)]; exact g5
  · rw [g 55 (by decide) (by decide), g 56 (by decide) (by decide), g 57 (by decide) (by decide), g 58 (by decide) (by decide), g 59 (by decide) (by decide)]; exact g6
  · rw [g 60 (by decide) (by decide)]; exact g7
def PMi (R : Int32) (S' : AS) (μ : kM) (q : kq4) (r : Option Value) (μ' : kM) (q' : kq4) : Prop := r = some (.int R) ∧ MS S' μ' ∧ q' = q ∧ ∀ k, k < 49 → μ' k = μ k
def PMl (R : Int64) (S' : AS) (μ : kM) (q : kq4) (r : Option Value) (μ' : kM) (q' : kq4) : Prop := r = some (.long R) ∧ MS S' μ' ∧ q' = q ∧ ∀ k, k < 49 → μ' k = μ k
theorem bt_in {x : Int32} {n : Nat} (h : n + 1 < 2 ^ 31) : bt x 0 n = inB x (n + 1) := by
  unfold bt inB
  rw [Bool.eq_iff_iff, decide_eq_true_iff, decide_eq_true_iff]
  show ¬ x < 0 ∧ ¬ nI n < x ↔ ¬ x < 0 ∧ ¬ nI (n + 1) ≤ x
  refine and_congr_right (fun _ => not_congr ?_)
  rw [Int32.lt_iff_toInt_lt, Int32.le_iff_toInt_le, nI_toInt (by omega), nI_toInt h]
  omega
set_option maxHeartbeats 4000000 in
theorem m_within (Γ : kGm) {μ : kM} {q : kq4} (x : Int32) (a b : Nat) : gC Γ yX5_within mX5_within 1 [.int x, .int (nI a), .int (nI b)] μ q (fun r μ' q' => r = some (.int (b2 (bt x a b))) ∧ μ' = μ ∧ q' = q) := by
  refine gC.ofG (n := 0) ⟨by decide +kernel, rfl, rfl, by decide⟩ (Nat.le_of_ble_eq_true rfl) ?_
  show gG Γ mX5_within 1 0 [some (.int x), some (.int (nI a)), some (.int (nI b))] [] μ q _
  refine kG.iload_n 1 dX5_within_0 rfl rfl ?_
  refine kG.iload_n 2 dX5_within_1 rfl rfl ?_
  refine kG.icmp_lt 14 5 dX5_within_2 (by decide) rfl (fun h2 => ?_) (fun h2 => ?_)
  · have hb : bt x a b = false := decide_eq_false (fun z => z.1 h2)
    refine kG.iconst (v := nI 0) 15 dX5_within_14 (by decide) rfl ?_
    refine gG.zret dX5_within_15 rfl rfl ?_
    exact ⟨by rw [hb]; rfl, rfl, rfl⟩
  · refine kG.iload_n 6 dX5_within_5 rfl rfl ?_
    refine kG.iload_n 7 dX5_within_6 rfl rfl ?_
    refine kG.icmp_gt 14 10 dX5_within_7 (by decide) rfl (fun h7 => ?_) (fun h7 => ?_)
    · have hb : bt x a b = false := decide_eq_false (fun z => z.2 h7)
      refine kG.iconst (v := nI 0) 15 dX5_within_14 (by decide) rfl ?_
      refine gG.zret dX5_within_15 rfl rfl ?_
      exact ⟨by rw [hb]; rfl, rfl, rfl⟩
    · have hb : bt x a b = true := decide_eq_true ⟨h2, h7⟩
      refine kG.iconst (v := nI 1) 11 dX5_within_10 (by decide) rfl ?_
      refine kG.goto 15 dX5_within_11 (by decide) ?_
      refine gG.zret dX5_within_15 rfl rfl ?_
      exact ⟨by rw [hb]; rfl, rfl, rfl⟩
set_option maxHeartbeats 4000000 in
theorem m_isSheet (Γ : kGm) {μ : kM} {q : kq4} (x : Int32) : gC Γ yX5_isSheet mX5_isSheet 2 [.int x] μ q (fun r μ' q' => r = some (.int (b2 (inB x 4))) ∧ μ' = μ ∧ q' = q) := by
  refine gC.ofG (n := 0) ⟨by decide +kernel, rfl, rfl, by decide⟩ (Nat.le_of_ble_eq_true rfl) ?_
  show gG Γ mX5_isSheet 2 0 [some (.int x)] [] μ q _
  refine kG.iload_n 1 dX5_isSheet_0 rfl rfl ?_
  refine kG.iconst (v := nI 0) 2 dX5_isSheet_1 (by decide) rfl ?_
  refine kG.iconst (v := nI 3) 3 dX5_isSheet_2 (by decide) rfl ?_
  refine gG.callS 6 dX5_isSheet_3 lX5_89 vX5_within (m_within Γ x 0 3) rfl rfl ⟨by decide, by decide⟩ (Nat.le_of_ble_eq_true rfl) rfl (fun r3 μ3 q3 hc3 => ?_)
  obtain ⟨rfl, rfl, rfl⟩ := hc3
  refine gG.zret dX5_isSheet_6 rfl (b2_bit _) ?_
  exact ⟨by rw [bt_in (by decide)], rfl, rfl⟩
set_option maxHeartbeats 4000000 in
theorem m_isSort (Γ : kGm) {μ : kM} {q : kq4} (x : Int32) : gC Γ yX5_isSort mX5_isSort 2 [.int x] μ q (fun r μ' q' => r = some (.int (b2 (inB x 3))) ∧ μ' = μ ∧ q' = q) := by
  refine gC.ofG (n := 0) ⟨by decide +kernel, rfl, rfl, by decide⟩ (Nat.le_of_ble_eq_true rfl) ?_
  show gG Γ mX5_isSort 2 0 [some (.int x)] [] μ q _
  refine kG.iload_n 1 dX5_isSort_0 rfl rfl ?_
  refine kG.iconst (v := nI 0) 2 dX5_isSort_1 (by decide) rfl ?_
  refine kG.iconst (v := nI 2) 3 dX5_isSort_2 (by decide) rfl ?_
  refine gG.callS 6 dX5_isSort_3 lX5_89 vX5_within (m_within Γ x 0 2) rfl rfl ⟨by decide, by decide⟩ (Nat.le_of_ble_eq_true rfl) rfl (fun r3 μ3 q3 hc3 => ?_)
  obtain ⟨rfl, rfl, rfl⟩ := hc3
  refine gG.zret dX5_isSort_6 rfl (b2_bit _) ?_
  exact ⟨by rw [bt_in (by decide)], rfl, rfl⟩
set_option maxHeartbeats 4000000 in
theorem m_isWeek (Γ : kGm) {μ : kM} {q : kq4} (x : Int32) : gC Γ yX5_isWeek mX5_isWeek 2 [.int x] μ q (fun r μ' q' => r = some (.int (b2 (inB x 10))) ∧ μ' = μ ∧ q' = q) := by
  refine gC.ofG (n := 0) ⟨by decide +kernel, rfl, rfl, by decide⟩ (Nat.le_of_ble_eq_true rfl) ?_
  show gG Γ mX5_isWeek 2 0 [some (.int x)] [] μ q _
  refine kG.iload_n 1 dX5_isWeek_0 rfl rfl ?_
  refine kG.iconst (v := nI 0) 2 dX5_isWeek_1 (by decide) rfl ?_
  refine kG.bipush (v := nI 9) 4 dX5_isWeek_2 (by decide) rfl ?_
  refine gG.callS 7 dX5_isWeek_4 lX5_89 vX5_within (m_within Γ x 0 9) rfl rfl ⟨by decide, by decide⟩ (Nat.le_of_ble_eq_true rfl) rfl (fun r4 μ4 q4 hc4 => ?_)
  obtain ⟨rfl, rfl, rfl⟩ := hc4
  refine gG.zret dX5_isWeek_7 rfl (b2_bit _) ?_
  exact ⟨by rw [bt_in (by decide)], rfl, rfl⟩
set_option maxHeartbeats 4000000 in
theorem m_isHalf (Γ : kGm) {μ : kM} {q : kq4} (x : Int32) : gC Γ yX5_isHalf mX5_isHalf 2 [.int x] μ q (fun r μ' q' => r = some (.int (b2 (inB x 14))) ∧ μ' = μ ∧ q' = q) := by
  refine gC.ofG (n := 0) ⟨by decide +kernel, rfl, rfl, by decide⟩ (Nat.le_of_ble_eq_true rfl) ?_
  show gG Γ mX5_isHalf 2 0 [some (.int x)] [] μ q _
  refine kG.iload_n 1 dX5_isHalf_0 rfl rfl ?_
  refine kG.iconst (v := nI 0) 2 dX5_isHalf_1 (by decide) rfl ?_
  refine kG.bipush (v := nI 13) 4 dX5_isHalf_2 (by decide) rfl ?_
  refine gG.callS 7 dX5_isHalf_4 lX5_89 vX5_within (m_within Γ x 0 13) rfl rfl ⟨by decide, by decide⟩ (Nat.le_of_ble_eq_true rfl) rfl (fun r4 μ4 q4 hc4 => ?_)
  obtain ⟨rfl, rfl, rfl⟩ := hc4
  refine gG.zret dX5_isHalf_7 rfl (b2_bit _) ?_
  exact ⟨by rw [bt_in (by decide)], rfl, rfl⟩
set_option maxHeartbeats 4000000 in
theorem m_isHouse (Γ : kGm) {μ : kM} {q : kq4} (x : Int32) (n : Nat) (e : μ 49 6 = nI n) : gC Γ yX5_isHouse mX5_isHouse 1 [.ref 49, .int x] μ q (fun r μ' q' => r = some (.int (b2 (inB x n))) ∧ μ' = μ ∧ q' = q) := by
  refine gC.ofG (n := 0) ⟨by decide +kernel, rfl, rfl, by decide⟩ (Nat.le_of_ble_eq_true rfl) ?_
  show gG Γ mX5_isHouse 1 0 [some (.ref 49), some (.int x)] [] μ q _
  refine kG.iload_n 1 dX5_isHouse_0 rfl rfl ?_
  refine kG.if_lt 16 4 dX5_isHouse_1 (by decide) rfl (fun h1 => ?_) (fun h1 => ?_)
  · have hb : inB x n = false := decide_eq_false (fun z => z.1 h1)
    refine kG.iconst (v := nI 0) 17 dX5_isHouse_16 (by decide) rfl ?_
    refine gG.zret dX5_isHouse_17 rfl rfl ?_
    exact ⟨by rw [hb]; rfl, rfl, rfl⟩
  · refine kG.iload_n 5 dX5_isHouse_4 rfl rfl ?_
    refine kG.aload_n 6 dX5_isHouse_5 rfl rfl ?_
    refine gG.getI 9 dX5_isHouse_6 fX5_93 ⟨by decide, by decide⟩ rfl rfl rfl ?_
    rw [e]
    refine kG.icmp_ge 16 12 dX5_isHouse_9 (by decide) rfl (fun h9 => ?_) (fun h9 => ?_)
    · have hb : inB x n = false := decide_eq_false (fun z => z.2 h9)
      refine kG.iconst (v := nI 0) 17 dX5_isHouse_16 (by decide) rfl ?_
      refine gG.zret dX5_isHouse_17 rfl rfl ?_
      exact ⟨by rw [hb]; rfl, rfl, rfl⟩
    · have hb : inB x n = true := decide_eq_true ⟨h1, h9⟩
      refine kG.iconst (v := nI 1) 13 dX5_isHouse_12 (by decide) rfl ?_
      refine kG.goto 17 dX5_isHouse_13 (by decide) ?_
      refine gG.zret dX5_isHouse_17 rfl rfl ?_
      exact ⟨by rw [hb]; rfl, rfl, rfl⟩
set_option maxHeartbeats 4000000 in
theorem m_isPerson (Γ : kGm) {μ : kM} {q : kq4} (x : Int32) (n : Nat) (e : μ 49 7 = nI n) : gC Γ yX5_isPerson mX5_isPerson 1 [.ref 49, .int x] μ q (fun r μ' q' => r = some (.int (b2 (inB x n))) ∧ μ' = μ ∧ q' = q) := by
  refine gC.ofG (n := 0) ⟨by decide +kernel, rfl, rfl, by decide⟩ (Nat.le_of_ble_eq_true rfl) ?_
  show gG Γ mX5_isPerson 1 0 [some (.ref 49), some (.int x)] [] μ q _
  refine kG.iload_n 1 dX5_isPerson_0 rfl rfl ?_
  refine kG.if_lt 16 4 dX5_isPerson_1 (by decide) rfl (fun h1 => ?_) (fun h1 => ?_)
  · have hb : inB x n = false := decide_eq_false (fun z => z.1 h1)
    refine kG.iconst (v := nI 0) 17 dX5_isPerson_16 (by decide) rfl ?_
    refine gG.zret dX5_isPerson_17 rfl rfl ?_
    exact ⟨by rw [hb]; rfl, rfl, rfl⟩
  · refine kG.iload_n 5 dX5_isPerson_4 rfl rfl ?_
    refine kG.aload_n 6 dX5_isPerson_5 rfl rfl ?_
    refine gG.getI 9 dX5_isPerson_6 fX5_96 ⟨by decide, by decide⟩ rfl rfl rfl ?_
    rw [e]
    refine kG.icmp_ge 16 12 dX5_isPerson_9 (by decide) rfl (fun h9 => ?_) (fun h9 => ?_)
    · have hb : inB x n = false := decide_eq_false (fun z => z.2 h9)
      refine kG.iconst (v := nI 0) 17 dX5_isPerson_16 (by decide) rfl ?_
      refine gG.zret dX5_isPerson_17 rfl rfl ?_
      exact ⟨by rw [hb]; rfl, rfl, rfl⟩
    · have hb : inB x n = true := decide_eq_true ⟨h1, h9⟩
      refine kG.iconst (v := nI 1) 13 dX5_isPerson_12 (by decide) rfl ?_
      refine kG.goto 17 dX5_isPerson_13 (by decide) ?_
      refine gG.zret dX5_isPerson_17 rfl rfl ?_
      exact ⟨by rw [hb]; rfl, rfl, rfl⟩
set_option maxHeartbeats 4000000 in
theorem m_fails (Γ : kGm) {μ : kM} {q : kq4} (x : Int32) : gC Γ yX5_fails mX5_fails 1 [.ref 49, .int x] μ q (fun r μ' q' => r = some (.int ((-10) - x)) ∧ μ' = uI μ 49 0 x ∧ q' = q) := by
  refine gC.ofG (n := 0) ⟨by decide +kernel, rfl, rfl, by decide⟩ (Nat.le_of_ble_eq_true rfl) ?_
  show gG Γ mX5_fails 1 0 [some (.ref 49), some (.int x)] [] μ q _
  refine kG.aload_n 1 dX5_fails_0 rfl rfl ?_
  refine kG.iload_n 2 dX5_fails_1 rfl rfl ?_
  refine gG.putI 5 dX5_fails_2 fX5_83 ⟨by decide, by decide⟩ rfl rfl rfl ⟨rfl, rfl⟩ rfl ?_
  refine kG.bipush (v := (-10)) 7 dX5_fails_5 (by decide) rfl ?_
  refine kG.iload_n 8 dX5_fails_7 rfl rfl ?_
  refine kG.isub 9 dX5_fails_8 rfl ?_
  refine gG.iret dX5_fails_9 rfl ?_
  exact ⟨rfl, rfl, rfl⟩
set_option maxHeartbeats 4000000 in
theorem m_lost (Γ : kGm) {μ : kM} {q : kq4} (x : Int32) : gC Γ yX5_lost mX5_lost 1 [.ref 49, .int x] μ q (fun r μ' q' => r = some (.long (-9223372036854775808)) ∧ μ' = uI μ 49 0 x ∧ q' = q) := by
  refine gC.ofG (n := 0) ⟨by decide +kernel, rfl, rfl, by decide⟩ (Nat.le_of_ble_eq_true rfl) ?_
  show gG Γ mX5_lost 1 0 [some (.ref 49), some (.int x)] [] μ q _
  refine kG.aload_n 1 dX5_lost_0 rfl rfl ?_
  refine kG.iload_n 2 dX5_lost_1 rfl rfl ?_
  refine gG.putI 5 dX5_lost_2 fX5_83 ⟨by decide, by decide⟩ rfl rfl rfl ⟨rfl, rfl⟩ rfl ?_
  refine kG.ldc2 8 dX5_lost_5 kX5_87 rfl ?_
  refine gG.lret dX5_lost_8 rfl ?_
  exact ⟨rfl, rfl, rfl⟩
set_option maxHeartbeats 4000000 in
theorem m_begins (Γ : kGm) {μ : kM} {q : kq4} (x : Int32) : gC Γ yX5_begins mX5_begins 1 [.ref 49, .int x] μ q (fun r μ' q' => r = none ∧ μ' = uI μ 49 1 (nI 31 * μ 49 1 + x) ∧ q' = q) := by
  refine gC.ofG (n := 0) ⟨by decide +kernel, rfl, rfl, by decide⟩ (Nat.le_of_ble_eq_true rfl) ?_
  show gG Γ mX5_begins 1 0 [some (.ref 49), some (.int x)] [] μ q _
  refine kG.aload_n 1 dX5_begins_0 rfl rfl ?_
  refine kG.bipush (v := nI 31) 3 dX5_begins_1 (by decide) rfl ?_
  refine kG.aload_n 4 dX5_begins_3 rfl rfl ?_
  refine gG.getI 7 dX5_begins_4 fX5_247 ⟨by decide, by decide⟩ rfl rfl rfl ?_
  refine kG.imul 8 dX5_begins_7 rfl ?_
  refine kG.iload_n 9 dX5_begins_8 rfl rfl ?_
  refine kG.iadd 10 dX5_begins_9 rfl ?_
  refine gG.putI 13 dX5_begins_10 fX5_247 ⟨by decide, by decide⟩ rfl rfl rfl ⟨rfl, rfl⟩ rfl ?_
  refine gG.vret dX5_begins_13 rfl ?_
  exact ⟨rfl, rfl, rfl⟩
set_option maxHeartbeats 4000000 in
theorem m_layGift (Γ : kGm) {μ : kM} {q : kq4} (k : Nat) (hk : k < 7) (x y z : Int32) : gC Γ yX5_layGift mX5_layGift 1 [.ref 49, .int (nI k), .int x, .int y, .int z] μ q (fun r μ' q' => r = none ∧ μ' = uI (uI (uI μ 63 k x) 64 k y) 65 k z ∧ q' = q) := by
  refine gC.ofG (n := 0) ⟨by decide +kernel, rfl, rfl, by decide⟩ (Nat.le_of_ble_eq_true rfl) ?_
  show gG Γ mX5_layGift 1 0 [some (.ref 49), some (.int (nI k)), some (.int x), some (.int y), some (.int z)] [] μ q _
  refine kG.aload_n 1 dX5_layGift_0 rfl rfl ?_
  refine gG.getP 4 dX5_layGift_1 fX5_50 ⟨by decide, by decide⟩ rfl rfl rfl rfl ?_
  refine kG.iload_n 5 dX5_layGift_4 rfl rfl ?_
  refine kG.iload_n 6 dX5_layGift_5 rfl rfl ?_
  refine gG.iast (n := 7) _ 7 dX5_layGift_6 ⟨by decide, by decide⟩ rfl rfl (by omega) (by decide) rfl ?_
  refine kG.aload_n 8 dX5_layGift_7 rfl rfl ?_
  refine gG.getP 11 dX5_layGift_8 fX5_53 ⟨by decide, by decide⟩ rfl rfl rfl rfl ?_
  refine kG.iload_n 12 dX5_layGift_11 rfl rfl ?_
  refine kG.iload_n 13 dX5_layGift_12 rfl rfl ?_
  refine gG.iast (n := 7) _ 14 dX5_layGift_13 ⟨by decide, by decide⟩ rfl rfl (by omega) (by decide) rfl ?_
  refine kG.aload_n 15 dX5_layGift_14 rfl rfl ?_
  refine gG.getP 18 dX5_layGift_15 fX5_56 ⟨by decide, by decide⟩ rfl rfl rfl rfl ?_
  refine kG.iload_n 19 dX5_layGift_18 rfl rfl ?_
  refine kG.iload 21 dX5_layGift_19 rfl rfl ?_
  refine gG.iast (n := 7) _ 22 dX5_layGift_21 ⟨by decide, by decide⟩ rfl rfl (by omega) (by decide) rfl ?_
  refine gG.vret dX5_layGift_22 rfl ?_
  exact ⟨rfl, rfl, rfl⟩
set_option maxHeartbeats 4000000 in
theorem m_wants (Γ : kGm) {D : Dt} {sn aw : Nat} {G : Kp} {μ : kM} {q : kq4} (h : MC D sn aw G μ) (ok : okD D) (p : Nat) (hp : p < dP D) : gC Γ yX5_wants mX5_wants 1 [.ref 49, .int (nI p)] μ q (fun r μ' q' => r = some (.int (nI (waS D p))) ∧ μ' = μ ∧ q' = q) := by
  refine gC.ofG (n := 0) ⟨by decide +kernel, rfl, rfl, by decide⟩ (Nat.le_of_ble_eq_true rfl) ?_
  show gG Γ mX5_wants 1 0 [some (.ref 49), some (.int (nI p)), none] [] μ q _
  have hp6 := ok.2.1
  have h6 := h.2.2.2.2.2.1 p hp
  have o := ok.2.2.2 p hp
  refine kG.aload_n 1 dX5_wants_0 rfl rfl ?_
  refine gG.getP 4 dX5_wants_1 fX5_25 ⟨by decide, by decide⟩ rfl rfl rfl rfl ?_
  refine kG.iload_n 5 dX5_wants_4 rfl rfl ?_
  refine gG.iald (n := 6) _ 6 dX5_wants_5 ⟨by decide, by decide⟩ rfl rfl (by omega) (by decide) rfl ?_
  rw [h6.1]
  refine kG.if_ne 18 9 dX5_wants_6 (by decide) rfl (fun h6_ => ?_) (fun h6_ => ?_)
  · have e0 : ¬ dkd D p = 0 := fun z => h6_ (by rw [z]; rfl)
    refine kG.aload_n 19 dX5_wants_18 rfl rfl ?_
    refine gG.getP 22 dX5_wants_19 fX5_34 ⟨by decide, by decide⟩ rfl rfl rfl rfl ?_
    refine kG.iload_n 23 dX5_wants_22 rfl rfl ?_
    refine gG.iald (n := 6) _ 24 dX5_wants_23 ⟨by decide, by decide⟩ rfl rfl (by omega) (by decide) rfl ?_
    rw [h6.2.2.2.1]
    refine kG.iconst (v := nI 1) 25 dX5_wants_24 (by decide) rfl ?_
    refine kG.iadd 26 dX5_wants_25 rfl ?_
    rw [nI_add]
    refine kG.istore_n 27 dX5_wants_26 (by decide) rfl rfl ?_
    dsimp only [List.set]
    refine kG.aload_n 28 dX5_wants_27 rfl rfl ?_
    refine gG.getP 31 dX5_wants_28 fX5_25 ⟨by decide, by decide⟩ rfl rfl rfl rfl ?_
    refine kG.iload_n 32 dX5_wants_31 rfl rfl ?_
    refine gG.iald (n := 6) _ 33 dX5_wants_32 ⟨by decide, by decide⟩ rfl rfl (by omega) (by decide) rfl ?_
    rw [h6.1]
    refine kG.iconst (v := nI 2) 34 dX5_wants_33 (by decide) rfl ?_
    refine kG.icmp_ne 43 37 dX5_wants_34 (by decide) rfl (fun h34 => ?_) (fun h34 => ?_)
    · have e2 : ¬ dkd D p = 2 := fun z => h34 (by rw [z])
      refine kG.iload_n 44 dX5_wants_43 rfl rfl ?_
      refine gG.iret dX5_wants_44 rfl ?_
      refine ⟨?_, rfl, rfl⟩
      unfold waS wan
      first | (rw [if_pos e0]; done) | (rw [if_neg e0, if_pos (by omega)]; done) | (rw [if_neg e0, if_neg (by omega)]; done) | omega
    · have e2 : dkd D p = 2 := (nI_eq (by omega) (by decide)).mp h34
      refine kG.iconst (v := nI 2) 38 dX5_wants_37 (by decide) rfl ?_
      refine kG.iload_n 39 dX5_wants_38 rfl rfl ?_
      refine kG.imul 40 dX5_wants_39 rfl ?_
      rw [pk_mul]
      refine kG.goto 44 dX5_wants_40 (by decide) ?_
      refine gG.iret dX5_wants_44 rfl ?_
      refine ⟨?_, rfl, rfl⟩
      unfold waS wan
      first | (rw [if_pos e0]; done) | (rw [if_neg e0, if_pos (by omega)]; done) | (rw [if_neg e0, if_neg (by omega)]; done) | omega
  · have e0 : dkd D p = 0 := (nI_eq (b := 0) (by omega) (by decide)).mp h6_
    refine kG.aload_n 10 dX5_wants_9 rfl rfl ?_
    refine gG.getP 13 dX5_wants_10 fX5_34 ⟨by decide, by decide⟩ rfl rfl rfl rfl ?_
    refine kG.iload_n 14 dX5_wants_13 rfl rfl ?_
    refine gG.iald (n := 6) _ 15 dX5_wants_14 ⟨by decide, by decide⟩ rfl rfl (by omega) (by decide) rfl ?_
    rw [h6.2.2.2.1]
    refine kG.goto 26 dX5_wants_15 (by decide) ?_
    refine kG.istore_n 27 dX5_wants_26 (by decide) rfl rfl ?_
    dsimp only [List.set]
    refine kG.aload_n 28 dX5_wants_27 rfl rfl ?_
    refine gG.getP 31 dX5_wants_28 fX5_25 ⟨by decide, by decide⟩ rfl rfl rfl rfl ?_
    refine kG.iload_n 32 dX5_wants_31 rfl rfl ?_
    refine gG.iald (n := 6) _ 33 dX5_wants_32 ⟨by decide, by decide⟩ rfl rfl (by omega) (by decide) rfl ?_
    rw [h6.1]
    refine kG.iconst (v := nI 2) 34 dX5_wants_33 (by decide) rfl ?_
    refine kG.icmp_ne 43 37 dX5_wants_34 (by decide) rfl (fun h34 => ?_) (fun h34 => ?_)
    · have e2 : ¬ dkd D p = 2 := fun z => h34 (by rw [z])
      refine kG.iload_n 44 dX5_wants_43 rfl rfl ?_
      refine gG.iret dX5_wants_44 rfl ?_
      refine ⟨?_, rfl, rfl⟩
      unfold waS wan
      first | (rw [if_pos e0]; done) | (rw [if_neg e0, if_pos (by omega)]; done) | (rw [if_neg e0, if_neg (by omega)]; done) | omega
    · have e2 : dkd D p = 2 := (nI_eq (by omega) (by decide)).mp h34
      refine kG.iconst (v := nI 2) 38 dX5_wants_37 (by decide) rfl ?_
      refine kG.iload_n 39 dX5_wants_38 rfl rfl ?_
      refine kG.imul 40 dX5_wants_39 rfl ?_
      rw [pk_mul]
      refine kG.goto 44 dX5_wants_40 (by decide) ?_
      refine gG.iret dX5_wants_44 rfl ?_
      refine ⟨?_, rfl, rfl⟩
      unfold waS wan
      first | (rw [if_pos e0]; done) | (rw [if_neg e0, if_pos (by omega)]; done) | (rw [if_neg e0, if_neg (by omega)]; done) | omega
set_option maxHeartbeats 4000000 in
theorem m_townIn (Γ : kGm) {μ : kM} {q : kq4} (sn a : Nat) (hs : sn < 2 ^ 31) (ha : a < 2 ^ 31) (e : μ 49 5 = nI sn) : gC Γ yX5_townIn mX5_townIn 1 [.ref 49, .int (nI a)] μ q (fun r μ' q' => r = some (.int (nI (if a < sn then 0 else 1))) ∧ μ' = μ ∧ q' = q) := by
  refine gC.ofG (n := 0) ⟨by decide +kernel, rfl, rfl, by decide⟩ (Nat.le_of_ble_eq_true rfl) ?_
  show gG Γ mX5_townIn 1 0 [some (.ref 49), some (.int (nI a))] [] μ q _
  refine kG.iload_n 1 dX5_townIn_0 rfl rfl ?_
  refine kG.aload_n 2 dX5_townIn_1 rfl rfl ?_
  refine gG.getI 5 dX5_townIn_2 fX5_123 ⟨by decide, by decide⟩ rfl rfl rfl ?_
  rw [e]
  refine kG.icmp_ge 12 8 dX5_townIn_5 (by decide) rfl (fun h5 => ?_) (fun h5 => ?_)
  · have e1 : ¬ a < sn := Nat.not_lt.mpr ((nI_leI hs ha).mp h5)
    refine kG.iconst (v := nI 1) 13 dX5_townIn_12 (by decide) rfl ?_
    refine gG.iret dX5_townIn_13 rfl ?_
    first | exact ⟨by rw [if_pos e1], rfl, rfl⟩ | exact ⟨by rw [if_neg e1], rfl, rfl⟩
  · have e1 : a < sn := Nat.not_le.mp (fun z => h5 (nI_le z ha))
    refine kG.iconst (v := nI 0) 9 dX5_townIn_8 (by decide) rfl ?_
    refine kG.goto 13 dX5_townIn_9 (by decide) ?_
    refine gG.iret dX5_townIn_13 rfl ?_
    first | exact ⟨by rw [if_pos e1], rfl, rfl⟩ | exact ⟨by rw [if_neg e1], rfl, rfl⟩
set_option maxHeartbeats 4000000 in
theorem m_isBroken (Γ : kGm) {μ : kM} {q : kq4} (h be x : Nat) (hh : h < 4) (hbe : be ≤ 9) (hx : x < 2 ^ 30) (h1 : μ 67 h = nI x) (h2 : μ 54 h = nI be) : gC Γ yX5_isBroken mX5_isBroken 1 [.ref 49, .int (nI h)] μ q (fun r μ' q' => r = some (.int (b2 (decide (10 * be ≤ x)))) ∧ μ' = μ ∧ q' = q) := by
  refine gC.ofG (n := 0) ⟨by decide +kernel, rfl, rfl, by decide⟩ (Nat.le_of_ble_eq_true rfl) ?_
  show gG Γ mX5_isBroken 1 0 [some (.ref 49), some (.int (nI h))] [] μ q _
  refine kG.aload_n 1 dX5_isBroken_0 rfl rfl ?_
  refine gG.getP 4 dX5_isBroken_1 fX5_62 ⟨by decide, by decide⟩ rfl rfl rfl rfl ?_
  refine kG.iload_n 5 dX5_isBroken_4 rfl rfl ?_
  refine gG.iald (n := 4) _ 6 dX5_isBroken_5 ⟨by decide, by decide⟩ rfl rfl (by omega) (by decide) rfl ?_
  rw [h1]
  refine kG.bipush (v := nI 10) 8 dX5_isBroken_6 (by decide) rfl ?_
  refine kG.aload_n 9 dX5_isBroken_8 rfl rfl ?_
  refine gG.getP 12 dX5_isBroken_9 fX5_22 ⟨by decide, by decide⟩ rfl rfl rfl rfl ?_
  refine kG.iload_n 13 dX5_isBroken_12 rfl rfl ?_
  refine gG.iald (n := 4) _ 14 dX5_isBroken_13 ⟨by decide, by decide⟩ rfl rfl (by omega) (by decide) rfl ?_
  rw [h2]
  refine kG.imul 15 dX5_isBroken_14 rfl ?_
  rw [pk_mul]
  refine kG.icmp_lt 22 18 dX5_isBroken_15 (by decide) rfl (fun h15 => ?_) (fun h15 => ?_)
  · have e1 : ¬ 10 * be ≤ x := Nat.not_le.mpr ((nI_ltI (by omega) (by omega)).mp h15)
    refine kG.iconst (v := nI 0) 23 dX5_isBroken_22 (by decide) rfl ?_
    refine gG.zret dX5_isBroken_23 rfl rfl ?_
    first | exact ⟨by rw [decide_eq_true e1]; rfl, rfl, rfl⟩ | exact ⟨by rw [decide_eq_false e1]; rfl, rfl, rfl⟩
  · have e1 : 10 * be ≤ x := Nat.not_lt.mp (fun z => h15 (nI_lt z (by omega)))
    refine kG.iconst (v := nI 1) 19 dX5_isBroken_18 (by decide) rfl ?_
    refine kG.goto 23 dX5_isBroken_19 (by decide) ?_
    refine gG.zret dX5_isBroken_23 rfl rfl ?_
    first | exact ⟨by rw [decide_eq_true e1]; rfl, rfl, rfl⟩ | exact ⟨by rw [decide_eq_false e1]; rfl, rfl, rfl⟩
