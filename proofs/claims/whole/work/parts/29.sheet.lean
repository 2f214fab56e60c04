theorem fu_id {α : Type} (f : Nat → α) (k : Nat) : fu f k (f k) = f := by
  funext j
  unfold fu
  split
  · rename_i e; rw [e]
  · rfl
theorem laI_m {l : Nat} (h : l ≤ 3) : laI l = -1 ↔ l = 0 := by
  rcases (by omega : l = 0 ∨ l = 1 ∨ l = 2 ∨ l = 3) with rfl | rfl | rfl | rfl <;> decide
theorem laI_n {l : Nat} (h : l ≠ 0) : laI l = nI (l - 1) := by unfold laI; rw [if_neg h]
theorem laI_eq {a b : Nat} (ha : a ≤ 3) (hb : b ≤ 3) : laI a = laI b ↔ a = b := by
  rcases (by omega : a = 0 ∨ a = 1 ∨ a = 2 ∨ a = 3) with rfl | rfl | rfl | rfl <;> rcases (by omega : b = 0 ∨ b = 1 ∨ b = 2 ∨ b = 3) with rfl | rfl | rfl | rfl <;> decide
theorem cut_eq {l : Nat} (h : l ≤ 3) (x : Int32) : (if laI l = nI 0 then x.toInt8.toInt32 else if laI l = nI 1 then x.toInt16.toInt32 else x) = cutL l x := by
  unfold cutL
  rcases (by omega : l = 0 ∨ l = 1 ∨ l = 2 ∨ l = 3) with rfl | rfl | rfl | rfl
  · rw [if_neg (by decide), if_neg (by decide), if_neg (by decide), if_neg (by decide)]
  · rw [if_pos (by decide), if_pos rfl]
  · rw [if_neg (by decide), if_pos (by decide), if_neg (by decide), if_pos rfl]
  · rw [if_neg (by decide), if_neg (by decide), if_neg (by decide), if_neg (by decide)]
theorem shc_ne {a b : Nat} (h : a ≠ b) : shc a ≠ shc b ∧ shc a ≠ shc b + 1 ∧ shc a + 1 ≠ shc b ∧ shc a + 1 ≠ shc b + 1 := by unfold shc; omega
theorem CS_sh {S : AS} {μ μ' : kM} {q : kq4} (h : CS S μ q) {k : Nat} (hk : k < 4) (l n : Nat) (c : Nat → Int32) (hl : l ≤ 3) (hn : n ≤ 60) (e1 : μ' (shc k) 1 = laI l) (e2 : l ≠ 0 → μ' (shc k) 2 = nI n ∧ ∀ i, i < n → μ' (shc k + 1) i = c i) (f : ∀ j, j ≠ shc k → j ≠ shc k + 1 → μ' j = μ j) : CS (sSh S (fu (aL S) k l) (fu (aN S) k n) (fu (aC S) k c)) μ' q := by
  have ht := h.2.1.1
  have hs : 41 ≤ shc k ∧ shc k + 1 ≤ 48 := by unfold shc; omega
  have f' : ∀ j, j < 41 ∨ 48 < j → μ' j = μ j := fun j hj => f j (by omega) (by omega)
  refine ⟨⟨h.1.1, h.1.2.1, h.1.2.2.1, h.1.2.2.2.1, h.1.2.2.2.2.1, h.1.2.2.2.2.2.1, h.1.2.2.2.2.2.2.1, fun s hs => ?_⟩, h.2.1, cD_fr (S := S) h.2.2.1 rfl (by rw [f' 1 (by omega)]) (fun j a b => f' j (by rcases ht with z | z <;> omega)), cG_fr (S := S) h.2.2.2.1 (fun j a b => f' j (by omega)), fun s hs => ?_, ⟨by rw [f' 1 (by omega)]; exact h.2.2.2.2.2.1.1, by rw [f' 1 (by omega)]; exact h.2.2.2.2.2.1.2⟩, cFr_fr (S := S) h.2.2.2.2.2.2 ⟨rfl, rfl⟩ (by rw [f' 1 (by omega)]) (fun j a b => f' j (by omega))⟩
  · show fu (aL S) k l s ≤ 3 ∧ fu (aN S) k n s ≤ 60
    by_cases e : s = k
    · subst e; rw [fu_s, fu_s]; exact ⟨hl, hn⟩
    · rw [fu_n e, fu_n e]; exact h.1.2.2.2.2.2.2.2 s hs
  · show μ' (shc s) 1 = laI (fu (aL S) k l s) ∧ (fu (aL S) k l s ≠ 0 → μ' (shc s) 2 = nI (fu (aN S) k n s) ∧ ∀ i, i < fu (aN S) k n s → μ' (shc s + 1) i = fu (aC S) k c s i)
    by_cases e : s = k
    · subst e; rw [fu_s, fu_s, fu_s]; exact ⟨e1, e2⟩
    · have z := shc_ne e
      rw [fu_n e, fu_n e, fu_n e, f _ z.1 z.2.1, f _ z.2.2.1 z.2.2.2]
      exact h.2.2.2.2.1 s hs
def oA (o : Option (Int32 × Int32)) : Int32 := match o with
  | none => nI 0
  | some e => e.1
def oB (o : Option (Int32 × Int32)) : Int32 := match o with
  | none => nI 0
  | some e => e.2
theorem laF_t {S : AS} {k l : Int32} (h : laF S k l = none) : inB k 4 = true ∧ inB l 3 = true ∧ aL S (ixn k) ≠ 0 := by
  unfold laF at h
  split at h
  · rename_i h1
    split at h
    · rename_i h2
      split at h
      · cases h
      · rename_i h3; exact ⟨h1, h2, h3⟩
    · cases h
  · cases h
theorem laF_ne {S : AS} {k l : Int32} {e : Int32 × Int32} (h : laF S k l = some e) : ¬ e.1 = 0 := by
  unfold laF at h
  split at h
  · split at h
    · split at h
      · cases h; decide
      · split at h
        · cases h
        · cases h; decide
    · cases h; decide
  · cases h; decide
theorem oA_la {S : AS} {k l : Int32} : oA (laF S k l) = 0 ↔ laF S k l = none := by
  cases h : laF S k l with
  | none => exact ⟨fun _ => rfl, fun _ => rfl⟩
  | some e => exact ⟨fun z => absurd z (laF_ne h), fun z => by cases z⟩
theorem oA_ce {S : AS} {k l i n : Int32} : oA (ceF S k l i n) = 0 ↔ ceF S k l i n = none := by
  cases h : ceF S k l i n with
  | none => exact ⟨fun _ => rfl, fun _ => rfl⟩
  | some e =>
    refine ⟨fun z => absurd z ?_, fun z => by cases z⟩
    unfold ceF at h
    split at h
    · rename_i e' he
      cases h
      exact laF_ne he
    · split at h
      · cases h; decide
      · split at h
        · cases h
        · cases h; decide
theorem ceF_t {S : AS} {k l i n : Int32} (h : ceF S k l i n = none) : laF S k l = none ∧ ¬ n < 0 ∧ ¬ i < 0 ∧ ¬ nI (aN S (ixn k)) < i ∧ ¬ nI (aN S (ixn k)) - i < n := by
  unfold ceF at h
  split at h
  · cases h
  · rename_i he
    split at h
    · cases h
    · rename_i h1
      split at h
      · rename_i h2; exact ⟨he, h1, h2⟩
      · cases h
theorem hc_t {i n : Int32} {N : Nat} (hN : N ≤ 60) (h0 : ¬ n < 0) (h1 : ¬ i < 0) (h2 : ¬ nI N < i) (h3 : ¬ nI N - i < n) : ∃ a b, i = nI a ∧ n = nI b ∧ a + b ≤ N := by
  obtain ⟨a, ha, rfl⟩ := n_le (n := N) (by omega) h1 h2
  rw [pk_sub ha] at h3
  obtain ⟨b, hb, rfl⟩ := n_le (n := N - a) (by omega) h0 h3
  exact ⟨a, b, rfl, rfl, by omega⟩
theorem c_hN (Γ : kGm) {S : AS} {μ : kM} {q : kq4} (h : CS S μ q) {k : Nat} (hk : k < 4) : gC Γ yX1_hasNothing mX1_hasNothing 1 [.ref (shc k)] μ q (fun r μ' q' => r = some (.int (b2 (decide (aL S k = 0)))) ∧ μ' = μ ∧ q' = q) := gC.weak (c_hasNothing Γ (shc_S hk)) (fun r μ' q' z => by
  have e : decide (laI (aL S k) = -1) = decide (aL S k = 0) := by
    have := laI_m (h.1.2.2.2.2.2.2.2 k hk).1
    by_cases w : aL S k = 0
    · rw [decide_eq_true w, decide_eq_true (this.mpr w)]
    · rw [decide_eq_false w, decide_eq_false (fun z => w (this.mp z))]
  rw [(h.2.2.2.2.1 k hk).1, e] at z; exact z)
theorem c_hC (Γ : kGm) {S : AS} {μ : kM} {q : kq4} (h : CS S μ q) {k : Nat} (hk : k < 4) (h0 : aL S k ≠ 0) (x : Int32) : gC Γ yX1_hasCell mX1_hasCell 1 [.ref (shc k), .int x] μ q (fun r μ' q' => r = some (.int (b2 (inB x (aN S k)))) ∧ μ' = μ ∧ q' = q) := gC.weak (c_hasCell Γ (shc_S hk) x) (fun r μ' q' z => by
  rw [((h.2.2.2.2.1 k hk).2 h0).1] at z; exact z)
theorem c_hCs (Γ : kGm) {S : AS} {μ : kM} {q : kq4} (h : CS S μ q) {k : Nat} (hk : k < 4) (h0 : aL S k ≠ 0) (x y : Int32) : gC Γ yX1_hasCells mX1_hasCells 1 [.ref (shc k), .int x, .int y] μ q (fun r μ' q' => r = some (.int (b2 (decide (¬ x < 0 ∧ ¬ nI (aN S k) < x ∧ ¬ y < 0 ∧ ¬ nI (aN S k) - x < y)))) ∧ μ' = μ ∧ q' = q) := gC.weak (c_hasCells Γ (shc_S hk) x y) (fun r μ' q' z => by
  rw [((h.2.2.2.2.1 k hk).2 h0).1] at z; exact z)
theorem c_isSh (Γ : kGm) {μ : kM} {q : kq4} (x : Int32) : gC Γ yX4_isSheet mX4_isSheet 1 [.int x] μ q (fun r μ' q' => r = some (.int (b2 (inB x 4))) ∧ μ' = μ ∧ q' = q) := c_isSheet Γ x
theorem c_isLn (Γ : kGm) {μ : kM} {q : kq4} (x : Int32) : gC Γ yX4_isLane mX4_isLane 1 [.int x] μ q (fun r μ' q' => r = some (.int (b2 (inB x 3))) ∧ μ' = μ ∧ q' = q) := c_isLane Γ x
set_option maxHeartbeats 4000000 in
theorem x_refL (Γ : kGm) {S : AS} {μ : kM} {q : kq4} (h : CS S μ q) (x : Int32) (y : Int32) : gC Γ yX4_refusalOfLane mX4_refusalOfLane 2 [.ref 1, .int x, .int y] μ q (PCi (oA (laF S x y)) (sFa S (oB (laF S x y))) μ) := by
  refine gC.ofG (n := 0) ⟨by decide +kernel, rfl, rfl, by decide⟩ (Nat.le_of_ble_eq_true rfl) ?_
  show gG Γ mX4_refusalOfLane 2 0 [some (.ref 1), some (.int x), some (.int y)] [] μ q _
  have ht := h.2.1.1
  have hD := h.2.2.1.1
  have okd := h.1.1
  have hH4 := h.1.1.1
  have hP6 := h.1.1.2.1
  refine kG.aload_n 1 dX4_refusalOfLane_0 rfl rfl ?_
  refine kG.iconst (v := nI 0) 2 dX4_refusalOfLane_1 (by decide) rfl ?_
  refine gG.putI 5 dX4_refusalOfLane_2 fX4_62 ⟨by decide, by decide⟩ rfl rfl rfl ⟨rfl, rfl⟩ rfl ?_
  have h1 := CS_fa (nI 0) h
  refine kG.iload_n 6 dX4_refusalOfLane_5 rfl rfl ?_
  refine gG.callS 9 dX4_refusalOfLane_6 lX4_215 vX4_isSheet (c_isSh Γ x) rfl rfl ⟨by decide, by decide⟩ (Nat.le_of_ble_eq_true rfl) rfl (fun r6 μ6 q6 hc6 => ?_)
  obtain ⟨rfl, rfl, rfl⟩ := hc6
  refine kG.if_ne 14 12 dX4_refusalOfLane_9 (by decide) rfl (fun h9 => ?_) (fun h9 => ?_)
  · have hb6 := b2_n0.mp h9
    obtain ⟨kx, hkx, rfl, ex⟩ := inB_t (by decide) hb6
    refine kG.iload_n 15 dX4_refusalOfLane_14 rfl rfl ?_
    refine gG.callS 18 dX4_refusalOfLane_15 lX4_218 vX4_isLane (c_isLn Γ y) rfl rfl ⟨by decide, by decide⟩ (Nat.le_of_ble_eq_true rfl) rfl (fun r15 μ15 q15 hc15 => ?_)
    obtain ⟨rfl, rfl, rfl⟩ := hc15
    refine kG.if_ne 24 21 dX4_refusalOfLane_18 (by decide) rfl (fun h18 => ?_) (fun h18 => ?_)
    · have hb15 := b2_n0.mp h18
      obtain ⟨ky, hky, rfl, ey⟩ := inB_t (by decide) hb15
      refine kG.aload_n 25 dX4_refusalOfLane_24 rfl rfl ?_
      refine gG.getP 28 dX4_refusalOfLane_25 fX4_13 ⟨by decide, by decide⟩ rfl rfl rfl rfl ?_
      refine kG.iload_n 29 dX4_refusalOfLane_28 rfl rfl ?_
      refine gG.aald (n := 4) _ 30 dX4_refusalOfLane_29 ⟨by decide, by decide⟩ rfl rfl (by omega) (by decide) (PI_sh (by omega)) rfl ?_
      refine gG.callV 33 dX4_refusalOfLane_30 lX4_228 vX1_hasNothing (c_hN Γ h1 hkx) rfl rfl (isS_k (shc_S (by omega))) (isS_s (shc_S (by omega))) ⟨by decide, rfl⟩ ⟨by decide, by decide⟩ (Nat.le_of_ble_eq_true rfl) rfl (fun r30 μ30 q30 hc30 => ?_)
      obtain ⟨rfl, rfl, rfl⟩ := hc30
      refine kG.if_eq 42 36 dX4_refusalOfLane_33 (by decide) rfl (fun h33 => ?_) (fun h33 => ?_)
      · have hn0 : ¬ aL S kx = 0 := of_decide_eq_false (b2_0.mp h33)
        have hl3 := (h.1.2.2.2.2.2.2.2 kx hkx).1
        refine kG.aload_n 43 dX4_refusalOfLane_42 rfl rfl ?_
        refine gG.getP 46 dX4_refusalOfLane_43 fX4_13 ⟨by decide, by decide⟩ rfl rfl rfl rfl ?_
        refine kG.iload_n 47 dX4_refusalOfLane_46 rfl rfl ?_
        refine gG.aald (n := 4) _ 48 dX4_refusalOfLane_47 ⟨by decide, by decide⟩ rfl rfl (by omega) (by decide) (PI_sh (by omega)) rfl ?_
        refine gG.getI 51 dX4_refusalOfLane_48 fX4_240 (isS_k (shc_S (by omega))) (isS_s (shc_S (by omega))) rfl rfl ?_
        rw [show _ = nI (aL S kx - 1) from ((h1.2.2.2.2.1 kx hkx).1).trans (laI_n hn0)]
        refine kG.iload_n 52 dX4_refusalOfLane_51 rfl rfl ?_
        refine kG.icmp_ne 59 55 dX4_refusalOfLane_52 (by decide) rfl (fun h52 => ?_) (fun h52 => ?_)
        · have e1 : ¬ nI (aL S kx - 1) = nI ky := h52
          refine kG.aload_n 60 dX4_refusalOfLane_59 rfl rfl ?_
          refine kG.iconst (v := nI 2) 61 dX4_refusalOfLane_60 (by decide) rfl ?_
          refine gG.callV 64 dX4_refusalOfLane_61 lX4_221 vX4_faultBy (c_faultBy Γ (nI 2)) rfl rfl ⟨by decide, by decide⟩ rfl ⟨by decide, rfl⟩ ⟨by decide, by decide⟩ (Nat.le_of_ble_eq_true rfl) rfl (fun r61 μ61 q61 hc61 => ?_)
          obtain ⟨rfl, rfl, rfl⟩ := hc61
          have h2 := CS_fa (nI 2) h1
          refine gG.iret dX4_refusalOfLane_64 rfl ?_
          first
            | (rw [show laF S (nI kx) (nI ky) = none by unfold laF; rw [if_pos hb6, if_pos hb15, ex, if_neg hn0, if_pos e1]]; exact ⟨rfl, h1, fun k hk => uI_off (by omega)⟩)
            | (rw [show laF S (nI kx) (nI ky) = some (-12, nI 2) by unfold laF; rw [if_pos hb6, if_pos hb15, ex, if_neg hn0, if_neg e1]]; exact ⟨rfl, h2, fun k hk => by rw [uI_off (by omega), uI_off (by omega)]⟩)
        · have e1 : nI (aL S kx - 1) = nI ky := h52
          refine kG.iconst (v := nI 0) 56 dX4_refusalOfLane_55 (by decide) rfl ?_
          refine kG.goto 64 dX4_refusalOfLane_56 (by decide) ?_
          refine gG.iret dX4_refusalOfLane_64 rfl ?_
          first
            | (rw [show laF S (nI kx) (nI ky) = none by unfold laF; rw [if_pos hb6, if_pos hb15, ex, if_neg hn0, if_pos e1]]; exact ⟨rfl, h1, fun k hk => uI_off (by omega)⟩)
            | (rw [show laF S (nI kx) (nI ky) = some (-12, nI 2) by unfold laF; rw [if_pos hb6, if_pos hb15, ex, if_neg hn0, if_neg e1]]; exact ⟨rfl, h2, fun k hk => by rw [uI_off (by omega), uI_off (by omega)]⟩)
      · have hn0 : aL S kx = 0 := of_decide_eq_true (b2_n0.mp h33)
        refine kG.aload_n 37 dX4_refusalOfLane_36 rfl rfl ?_
        refine kG.iconst (v := nI 1) 38 dX4_refusalOfLane_37 (by decide) rfl ?_
        refine gG.callV 41 dX4_refusalOfLane_38 lX4_221 vX4_faultBy (c_faultBy Γ (nI 1)) rfl rfl ⟨by decide, by decide⟩ rfl ⟨by decide, rfl⟩ ⟨by decide, by decide⟩ (Nat.le_of_ble_eq_true rfl) rfl (fun r38 μ38 q38 hc38 => ?_)
        obtain ⟨rfl, rfl, rfl⟩ := hc38
        have h2 := CS_fa (nI 1) h1
        refine gG.iret dX4_refusalOfLane_41 rfl ?_
        have e : laF S (nI kx) (nI ky) = some (-11, nI 1) := by
          unfold laF
          rw [if_pos hb6, if_pos hb15, ex, if_pos hn0]
        rw [e]
        exact ⟨rfl, h2, fun k hk => by rw [uI_off (by omega), uI_off (by omega)]⟩
    · have hb15 := b2_0.mp h18
      refine kG.bipush (v := (-2)) 23 dX4_refusalOfLane_21 (by decide) rfl ?_
      refine gG.iret dX4_refusalOfLane_23 rfl ?_
      have e : laF S (nI kx) y = some (-2, nI 0) := by
        unfold laF
        rw [if_pos hb6, if_neg (by rw [hb15]; decide)]
      rw [e]
      exact ⟨rfl, h1, fun k hk => uI_off (by omega)⟩
  · have hb6 := b2_0.mp h9
    refine kG.iconst (v := (-1)) 13 dX4_refusalOfLane_12 (by decide) rfl ?_
    refine gG.iret dX4_refusalOfLane_13 rfl ?_
    have e : laF S x y = some (-1, nI 0) := by
      unfold laF
      rw [if_neg (by rw [hb6]; decide)]
    rw [e]
    exact ⟨rfl, h1, fun k hk => uI_off (by omega)⟩
set_option maxHeartbeats 4000000 in
theorem x_refC (Γ : kGm) {S : AS} {μ : kM} {q : kq4} (h : CS S μ q) (x : Int32) (y : Int32) (z : Int32) (w : Int32) : gC Γ yX4_refusalOfCells mX4_refusalOfCells 3 [.ref 1, .int x, .int y, .int z, .int w] μ q (PCi (oA (ceF S x y z w)) (sFa S (oB (ceF S x y z w))) μ) := by
  refine gC.ofG (n := 0) ⟨by decide +kernel, rfl, rfl, by decide⟩ (Nat.le_of_ble_eq_true rfl) ?_
  show gG Γ mX4_refusalOfCells 3 0 [some (.ref 1), some (.int x), some (.int y), some (.int z), some (.int w), none] [] μ q _
  have ht := h.2.1.1
  have hD := h.2.2.1.1
  have okd := h.1.1
  have hH4 := h.1.1.1
  have hP6 := h.1.1.2.1
  refine kG.aload_n 1 dX4_refusalOfCells_0 rfl rfl ?_
  refine kG.iload_n 2 dX4_refusalOfCells_1 rfl rfl ?_
  refine kG.iload_n 3 dX4_refusalOfCells_2 rfl rfl ?_
  refine gG.callV 6 dX4_refusalOfCells_3 lX4_237 vX4_refusalOfLane (x_refL Γ h x y) rfl rfl ⟨by decide, by decide⟩ rfl ⟨by decide, rfl⟩ ⟨by decide, by decide⟩ (Nat.le_of_ble_eq_true rfl) rfl (fun r3 μ3 q3 hc3 => ?_)
  obtain ⟨rfl, hr, fr⟩ := hc3
  refine kG.istore 8 dX4_refusalOfCells_6 (by decide) rfl rfl ?_
  dsimp only [List.set]
  refine kG.iload 10 dX4_refusalOfCells_8 rfl rfl ?_
  refine kG.if_eq 16 13 dX4_refusalOfCells_10 (by decide) rfl (fun h10 => ?_) (fun h10 => ?_)
  · have hl := oA_la.mp h10
    rw [hl] at hr
    have hr : CS (sFa S (nI 0)) _ _ := hr
    obtain ⟨hb6, hb15, hn0⟩ := laF_t hl
    obtain ⟨kx, hkx, rfl, ex⟩ := inB_t (by decide) hb6
    rw [ex] at hn0
    refine kG.iload 18 dX4_refusalOfCells_16 rfl rfl ?_
    refine kG.if_ge 27 21 dX4_refusalOfCells_18 (by decide) rfl (fun h18 => ?_) (fun h18 => ?_)
    · have hw : ¬ w < 0 := Int32.not_lt.mpr h18
      refine kG.aload_n 28 dX4_refusalOfCells_27 rfl rfl ?_
      refine gG.getP 31 dX4_refusalOfCells_28 fX4_13 ⟨by decide, by decide⟩ rfl rfl rfl rfl ?_
      refine kG.iload_n 32 dX4_refusalOfCells_31 rfl rfl ?_
      refine gG.aald (n := 4) _ 33 dX4_refusalOfCells_32 ⟨by decide, by decide⟩ rfl rfl (by omega) (by decide) (PI_sh (by omega)) rfl ?_
      refine kG.iload_n 34 dX4_refusalOfCells_33 rfl rfl ?_
      refine kG.iload 36 dX4_refusalOfCells_34 rfl rfl ?_
      refine gG.callV 39 dX4_refusalOfCells_36 lX4_243 vX1_hasCells (c_hCs Γ hr hkx hn0 z w) rfl rfl (isS_k (shc_S (by omega))) (isS_s (shc_S (by omega))) ⟨by decide, rfl⟩ ⟨by decide, by decide⟩ (Nat.le_of_ble_eq_true rfl) rfl (fun r36 μ36 q36 hc36 => ?_)
      obtain ⟨rfl, rfl, rfl⟩ := hc36
      refine kG.if_eq 46 42 dX4_refusalOfCells_39 (by decide) rfl (fun h39 => ?_) (fun h39 => ?_)
      · have hh := of_decide_eq_false (b2_0.mp h39)
        refine kG.aload_n 47 dX4_refusalOfCells_46 rfl rfl ?_
        refine kG.iconst (v := nI 3) 48 dX4_refusalOfCells_47 (by decide) rfl ?_
        refine gG.callV 51 dX4_refusalOfCells_48 lX4_221 vX4_faultBy (c_faultBy Γ (nI 3)) rfl rfl ⟨by decide, by decide⟩ rfl ⟨by decide, rfl⟩ ⟨by decide, by decide⟩ (Nat.le_of_ble_eq_true rfl) rfl (fun r48 μ48 q48 hc48 => ?_)
        obtain ⟨rfl, rfl, rfl⟩ := hc48
        have h2 := CS_fa (nI 3) hr
        refine gG.iret dX4_refusalOfCells_51 rfl ?_
        first
          | (rw [show ceF S (nI kx) y z w = none by unfold ceF; rw [hl]; show (if w < 0 then _ else if _ then _ else _) = _; rw [if_neg hw, ex, if_pos ⟨hh.1, hh.2.1, hh.2.2.2⟩]]; exact ⟨rfl, hr, fr⟩)
          | (rw [show ceF S (nI kx) y z w = some (-13, nI 3) by unfold ceF; rw [hl]; show (if w < 0 then _ else if _ then _ else _) = _; rw [if_neg hw, ex, if_neg (fun c => hh ⟨c.1, c.2.1, hw, c.2.2⟩)]]; exact ⟨rfl, h2, fun k hk => by rw [uI_off (by omega), fr k hk]⟩)
      · have hh := of_decide_eq_true (b2_n0.mp h39)
        refine kG.iconst (v := nI 0) 43 dX4_refusalOfCells_42 (by decide) rfl ?_
        refine kG.goto 51 dX4_refusalOfCells_43 (by decide) ?_
        refine gG.iret dX4_refusalOfCells_51 rfl ?_
        first
          | (rw [show ceF S (nI kx) y z w = none by unfold ceF; rw [hl]; show (if w < 0 then _ else if _ then _ else _) = _; rw [if_neg hw, ex, if_pos ⟨hh.1, hh.2.1, hh.2.2.2⟩]]; exact ⟨rfl, hr, fr⟩)
          | (rw [show ceF S (nI kx) y z w = some (-13, nI 3) by unfold ceF; rw [hl]; show (if w < 0 then _ else if _ then _ else _) = _; rw [if_neg hw, ex, if_neg (fun c => hh ⟨c.1, c.2.1, hw, c.2.2⟩)]]; exact ⟨rfl, h2, fun k hk => by rw [uI_off (by omega), fr k hk]⟩)
    · have hw : w < 0 := Int32.not_le.mp h18
      refine kG.aload_n 22 dX4_refusalOfCells_21 rfl rfl ?_
      refine kG.iconst (v := nI 4) 23 dX4_refusalOfCells_22 (by decide) rfl ?_
      refine gG.callV 26 dX4_refusalOfCells_23 lX4_221 vX4_faultBy (c_faultBy Γ (nI 4)) rfl rfl ⟨by decide, by decide⟩ rfl ⟨by decide, rfl⟩ ⟨by decide, by decide⟩ (Nat.le_of_ble_eq_true rfl) rfl (fun r23 μ23 q23 hc23 => ?_)
      obtain ⟨rfl, rfl, rfl⟩ := hc23
      have h2 := CS_fa (nI 4) hr
      refine gG.iret dX4_refusalOfCells_26 rfl ?_
      have ec : ceF S (nI kx) y z w = some (-14, nI 4) := by
        unfold ceF
        rw [hl]
        show (if w < 0 then _ else _) = _
        rw [if_pos hw]
      rw [ec]
      exact ⟨rfl, h2, fun k hk => by rw [uI_off (by omega), fr k hk]⟩
  · have hl : ¬ laF S x y = none := fun c => h10 (oA_la.mpr c)
    refine kG.iload 15 dX4_refusalOfCells_13 rfl rfl ?_
    refine gG.iret dX4_refusalOfCells_15 rfl ?_
    cases hlf : laF S x y with
    | none => exact absurd hlf hl
    | some e =>
      have ec : ceF S x y z w = some e := by unfold ceF; rw [hlf]
      rw [hlf] at hr
      rw [ec]
      exact ⟨rfl, hr, fr⟩
