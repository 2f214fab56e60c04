def FL (D : Dt) (a b k1 k2 k3 k4 k5 t : Nat) (μ : kM) : Prop := (∀ i, i < a → μ (t + 1 + 0) i = nI (dco D i)) ∧ (∀ i, i < b → μ (t + 1 + 1) i = nI (dbe D i)) ∧ (∀ i, i < k1 → μ (t + 1 + 2) i = nI (dkd D i)) ∧ (∀ i, i < k2 → μ (t + 1 + 3) i = nI (dtw D i)) ∧ (∀ i, i < k3 → μ (t + 1 + 4) i = nI (dho D i)) ∧ (∀ i, i < k4 → μ (t + 1 + 5) i = nI (dbu D i)) ∧ ∀ i, i < k5 → μ (t + 1 + 6) i = nI (dme D i)
def PQ (p l sn : Nat) (D : Dt) (t : Nat) (μ : kM) : Prop := μ t 7 = nI sn ∧ μ t 8 = nI (dH D) ∧ μ t 9 = nI (dP D) ∧ μ t 10 = nI p ∧ (p ≠ 3 → μ t 11 = nI l) ∧ FL D (cC p l (dH D)) (cB p (dH D)) (cK p l (dP D) 1) (cK p l (dP D) 2) (cK p l (dP D) 3) (cK p l (dP D) 4) (cK p l (dP D) 5) t μ
def PR (s : PSt) (t : Nat) (μ : kM) : Prop := PQ s.1 s.2.1 s.2.2.1 s.2.2.2 t μ
def SR (o : Option PSt) (t : Nat) (μ : kM) (q : kq4) (r : Option Value) (μ' : kM) (q' : kq4) : Prop := r = some (.int (b2 o.isSome)) ∧ q' = q ∧ (∀ k, (k < t ∨ t + 7 < k) → μ' k = μ k) ∧ ∀ s', o = some s' → PR s' t (uI μ' t 11 (μ' t 11 + nI 1))
theorem FL_fr {D : Dt} {a b k1 k2 k3 k4 k5 t : Nat} {μ μ' : kM} (h : FL D a b k1 k2 k3 k4 k5 t μ) (f : ∀ j, j < 7 → μ' (t + 1 + j) = μ (t + 1 + j)) : FL D a b k1 k2 k3 k4 k5 t μ' := by
  unfold FL
  rw [f 0 (by decide), f 1 (by decide), f 2 (by decide), f 3 (by decide), f 4 (by decide), f 5 (by decide), f 6 (by decide)]
  exact h
theorem fi_add {μ : kM} {c n m v : Nat} {g : Nat → Nat} (h : ∀ i, i < n → μ c i = nI (g i)) (hm : m ≤ n + 1) : ∀ i, i < m → uI μ c n (nI v) c i = nI (fu g n v i) := fun i hi => by
  by_cases e : i = n
  · subst e; rw [uI_same, fu_s]
  · rw [uI_ne (Or.inr e), fu_n e]; exact h i (by omega)
theorem isin_n {d a b : Nat} (hd : d < 2 ^ 31) (hb : b < 2 ^ 31) : decide (¬ nI d < nI a ∧ ¬ nI b < nI d) = decide (a ≤ d ∧ d ≤ b) ∨ 2 ^ 31 ≤ a := by
  rcases Nat.lt_or_ge a (2 ^ 31) with ha | ha
  · left
    by_cases h : a ≤ d ∧ d ≤ b
    · rw [decide_eq_true h, decide_eq_true ⟨nI_nlt h.1 hd, nI_nlt h.2 hb⟩]
    · rw [decide_eq_false h, decide_eq_false (fun z => h ⟨Nat.not_lt.mp fun w => z.1 (nI_lt w ha), Nat.not_lt.mp fun w => z.2 (nI_lt w hd)⟩)]
  · exact Or.inr ha
set_option maxHeartbeats 4000000 in
theorem c_isIn (Γ : kGm) {μ : kM} {q : kq4} (x a b : Int32) : gC Γ yX2_isIn mX2_isIn 1 [.int x, .int a, .int b] μ q (fun r μ' q' => r = some (.int (b2 (decide (¬ x < a ∧ ¬ b < x)))) ∧ μ' = μ ∧ q' = q) := by
  refine gC.ofG (n := 0) ⟨by decide +kernel, rfl, rfl, by decide⟩ (Nat.le_of_ble_eq_true rfl) ?_
  show gG Γ mX2_isIn 1 0 [some (.int x), some (.int a), some (.int b)] [] μ q _
  refine kG.iload_n 1 dX2_isIn_0 rfl rfl ?_
  refine kG.iload_n 2 dX2_isIn_1 rfl rfl ?_
  refine kG.icmp_lt 14 5 dX2_isIn_2 (by decide) rfl (fun h2 => ?_) (fun h2 => ?_)
  · refine kG.iconst (v := nI 0) 15 dX2_isIn_14 (by decide) rfl ?_
    refine gG.zret dX2_isIn_15 rfl rfl ?_
    exact ⟨by simp [b2, *], rfl, rfl⟩
  · refine kG.iload_n 6 dX2_isIn_5 rfl rfl ?_
    refine kG.iload_n 7 dX2_isIn_6 rfl rfl ?_
    refine kG.icmp_gt 14 10 dX2_isIn_7 (by decide) rfl (fun h7 => ?_) (fun h7 => ?_)
    · refine kG.iconst (v := nI 0) 15 dX2_isIn_14 (by decide) rfl ?_
      refine gG.zret dX2_isIn_15 rfl rfl ?_
      exact ⟨by simp [b2, *], rfl, rfl⟩
    · refine kG.iconst (v := nI 1) 11 dX2_isIn_10 (by decide) rfl ?_
      refine kG.goto 15 dX2_isIn_11 (by decide) ?_
      refine gG.zret dX2_isIn_15 rfl rfl ?_
      exact ⟨by simp [b2, *], rfl, rfl⟩
theorem c_isI (Γ : kGm) {μ : kM} {q : kq4} {d a b : Nat} (hd : d < 2 ^ 31) (ha : a < 2 ^ 31) (hb : b < 2 ^ 31) : gC Γ yX2_isIn mX2_isIn 1 [.int (nI d), .int (nI a), .int (nI b)] μ q (fun r μ' q' => r = some (.int (b2 (decide (a ≤ d ∧ d ≤ b)))) ∧ μ' = μ ∧ q' = q) := gC.weak (c_isIn Γ _ _ _) (fun r μ' q' z => by
  rcases isin_n (a := a) hd hb with e | e
  · rw [e] at z; exact z
  · omega)
theorem c_isI9 (Γ : kGm) {μ : kM} {q : kq4} {b : Int32} : gC Γ yX2_isIn mX2_isIn 1 [.int (-9), .int (nI 0), .int b] μ q (fun r μ' q' => r = some (.int (b2 false)) ∧ μ' = μ ∧ q' = q) := gC.weak (c_isIn Γ _ _ _) (fun r μ' q' z => by
  rw [decide_eq_false (fun w => w.1 (by decide))] at z; exact z)
set_option maxHeartbeats 4000000 in
theorem c_digitOf (Γ : kGm) {μ : kM} {q : kq4} (x : Int32) : gC Γ yX2_digitOf mX2_digitOf 2 [.int x] μ q (fun r μ' q' => r = some (.int (opI (dg x))) ∧ μ' = μ ∧ q' = q) := by
  refine gC.ofG (n := 0) ⟨by decide +kernel, rfl, rfl, by decide⟩ (Nat.le_of_ble_eq_true rfl) ?_
  show gG Γ mX2_digitOf 2 0 [some (.int x)] [] μ q _
  refine kG.iload_n 1 dX2_digitOf_0 rfl rfl ?_
  refine kG.bipush (v := nI 48) 3 dX2_digitOf_1 (by decide) rfl ?_
  refine kG.bipush (v := nI 57) 5 dX2_digitOf_3 (by decide) rfl ?_
  refine gG.callS 8 dX2_digitOf_5 lX2_67 vX2_isIn (c_isIn Γ _ _ _) rfl rfl ⟨by decide, by decide⟩ (Nat.le_of_ble_eq_true rfl) rfl (fun r5 μ5 q5 hc5 => ?_)
  obtain ⟨rfl, rfl, rfl⟩ := hc5
  refine kG.if_eq 18 11 dX2_digitOf_8 (by decide) rfl (fun h8 => ?_) (fun h8 => ?_)
  · have hb : bt x 48 57 = false := b2_0.mp h8
    refine kG.bipush (v := (-9)) 20 dX2_digitOf_18 (by decide) rfl ?_
    refine gG.iret dX2_digitOf_20 rfl ?_
    first
      | exact ⟨by unfold dg; rw [if_pos hb, ek]; rfl, rfl, rfl⟩
      | exact ⟨by unfold dg; rw [if_neg (by rw [hb]; decide)]; rfl, rfl, rfl⟩
  · have hb : bt x 48 57 = true := b2_n0.mp h8
    obtain ⟨k, k1, k2, rfl, ek⟩ := bt_t (by decide) (by decide) hb
    refine kG.iload_n 12 dX2_digitOf_11 rfl rfl ?_
    refine kG.bipush (v := nI 48) 14 dX2_digitOf_12 (by decide) rfl ?_
    refine kG.isub 15 dX2_digitOf_14 rfl ?_
    rw [pk_sub k1]
    refine kG.goto 20 dX2_digitOf_15 (by decide) ?_
    refine gG.iret dX2_digitOf_20 rfl ?_
    first
      | exact ⟨by unfold dg; rw [if_pos hb, ek]; rfl, rfl, rfl⟩
      | exact ⟨by unfold dg; rw [if_neg (by rw [hb]; decide)]; rfl, rfl, rfl⟩
theorem ksw_k {x : Int32} (h0 : ¬ x = nI 100) (h1 : ¬ x = nI 101) (h2 : ¬ x = nI 102) (h3 : ¬ x = nI 103) (h4 : ¬ x = nI 104) : x.toInt < 100 ∨ (104 : Int) < x.toInt := by
  have a0 := n_toInt (k := 100) (by decide) h0
  have a1 := n_toInt (k := 101) (by decide) h1
  have a2 := n_toInt (k := 102) (by decide) h2
  have a3 := n_toInt (k := 103) (by decide) h3
  have a4 := n_toInt (k := 104) (by decide) h4
  omega
set_option maxHeartbeats 4000000 in
theorem c_kindOf (Γ : kGm) {μ : kM} {q : kq4} (x : Int32) : gC Γ yX2_kindOf mX2_kindOf 1 [.int x] μ q (fun r μ' q' => r = some (.int (opI (kdF x))) ∧ μ' = μ ∧ q' = q) := by
  refine gC.ofG (n := 0) ⟨by decide +kernel, rfl, rfl, by decide⟩ (Nat.le_of_ble_eq_true rfl) ?_
  show gG Γ mX2_kindOf 1 0 [some (.int x)] [] μ q _
  refine kG.iload_n 1 dX2_kindOf_0 rfl rfl ?_
  by_cases hs1_100 : x = nI 100
  · rw [hs1_100]
    refine kG.tableIn 36 dX2_kindOf_1 (by decide) (by decide) rfl (by decide) ?_
    refine kG.iconst (v := nI 0) 37 dX2_kindOf_36 (by decide) rfl ?_
    refine gG.iret dX2_kindOf_37 rfl ?_
    first
      | exact ⟨rfl, rfl, rfl⟩
      | exact ⟨by unfold kdF; rw [if_neg hs1_100, if_neg hs1_104, if_neg hs1_102]; rfl, rfl, rfl⟩
  by_cases hs1_101 : x = nI 101
  · rw [hs1_101]
    refine kG.tableIn 42 dX2_kindOf_1 (by decide) (by decide) rfl (by decide) ?_
    refine kG.bipush (v := (-9)) 44 dX2_kindOf_42 (by decide) rfl ?_
    refine gG.iret dX2_kindOf_44 rfl ?_
    first
      | exact ⟨rfl, rfl, rfl⟩
      | exact ⟨by unfold kdF; rw [if_neg hs1_100, if_neg hs1_104, if_neg hs1_102]; rfl, rfl, rfl⟩
  by_cases hs1_102 : x = nI 102
  · rw [hs1_102]
    refine kG.tableIn 40 dX2_kindOf_1 (by decide) (by decide) rfl (by decide) ?_
    refine kG.iconst (v := nI 2) 41 dX2_kindOf_40 (by decide) rfl ?_
    refine gG.iret dX2_kindOf_41 rfl ?_
    first
      | exact ⟨rfl, rfl, rfl⟩
      | exact ⟨by unfold kdF; rw [if_neg hs1_100, if_neg hs1_104, if_neg hs1_102]; rfl, rfl, rfl⟩
  by_cases hs1_103 : x = nI 103
  · rw [hs1_103]
    refine kG.tableIn 42 dX2_kindOf_1 (by decide) (by decide) rfl (by decide) ?_
    refine kG.bipush (v := (-9)) 44 dX2_kindOf_42 (by decide) rfl ?_
    refine gG.iret dX2_kindOf_44 rfl ?_
    first
      | exact ⟨rfl, rfl, rfl⟩
      | exact ⟨by unfold kdF; rw [if_neg hs1_100, if_neg hs1_104, if_neg hs1_102]; rfl, rfl, rfl⟩
  by_cases hs1_104 : x = nI 104
  · rw [hs1_104]
    refine kG.tableIn 38 dX2_kindOf_1 (by decide) (by decide) rfl (by decide) ?_
    refine kG.iconst (v := nI 1) 39 dX2_kindOf_38 (by decide) rfl ?_
    refine gG.iret dX2_kindOf_39 rfl ?_
    first
      | exact ⟨rfl, rfl, rfl⟩
      | exact ⟨by unfold kdF; rw [if_neg hs1_100, if_neg hs1_104, if_neg hs1_102]; rfl, rfl, rfl⟩
  · refine kG.tableOut 42 dX2_kindOf_1 (ksw_k hs1_100 hs1_101 hs1_102 hs1_103 hs1_104) (by decide) ?_
    refine kG.bipush (v := (-9)) 44 dX2_kindOf_42 (by decide) rfl ?_
    refine gG.iret dX2_kindOf_44 rfl ?_
    first
      | exact ⟨rfl, rfl, rfl⟩
      | exact ⟨by unfold kdF; rw [if_neg hs1_100, if_neg hs1_104, if_neg hs1_102]; rfl, rfl, rfl⟩
set_option maxHeartbeats 4000000 in
theorem c_begin (Γ : kGm) {μ : kM} {q : kq4} {t : Nat} (ht : isT t) : gC Γ yX2_begin mX2_begin 1 [.ref t] μ q (fun r μ' q' => r = none ∧ q' = q ∧ (∀ k, k ≠ t → μ' k = μ k) ∧ PR (0, 0, 0, D0) t μ') := by
  refine gC.ofG (n := 0) ⟨by decide +kernel, rfl, rfl, by decide⟩ (Nat.le_of_ble_eq_true rfl) ?_
  show gG Γ mX2_begin 1 0 [some (.ref t)] [] μ q _
  refine kG.aload_n 1 dX2_begin_0 rfl rfl ?_
  refine kG.iconst (v := nI 0) 2 dX2_begin_1 (by decide) rfl ?_
  refine gG.putI 5 dX2_begin_2 fX2_33 (isT_k ht) (isT_s ht) rfl rfl ⟨rfl, rfl⟩ rfl ?_
  refine kG.aload_n 6 dX2_begin_5 rfl rfl ?_
  refine kG.iconst (v := nI 0) 7 dX2_begin_6 (by decide) rfl ?_
  refine gG.putI 10 dX2_begin_7 fX2_37 (isT_k ht) (isT_s ht) rfl rfl ⟨rfl, rfl⟩ rfl ?_
  refine kG.aload_n 11 dX2_begin_10 rfl rfl ?_
  refine kG.iconst (v := nI 0) 12 dX2_begin_11 (by decide) rfl ?_
  refine gG.putI 15 dX2_begin_12 fX2_40 (isT_k ht) (isT_s ht) rfl rfl ⟨rfl, rfl⟩ rfl ?_
  refine kG.aload_n 16 dX2_begin_15 rfl rfl ?_
  refine kG.iconst (v := nI 0) 17 dX2_begin_16 (by decide) rfl ?_
  refine gG.putI 20 dX2_begin_17 fX2_43 (isT_k ht) (isT_s ht) rfl rfl ⟨rfl, rfl⟩ rfl ?_
  refine kG.aload_n 21 dX2_begin_20 rfl rfl ?_
  refine kG.iconst (v := nI 0) 22 dX2_begin_21 (by decide) rfl ?_
  refine gG.putI 25 dX2_begin_22 fX2_46 (isT_k ht) (isT_s ht) rfl rfl ⟨rfl, rfl⟩ rfl ?_
  refine gG.vret dX2_begin_25 rfl ?_
  refine ⟨rfl, rfl, fun k hk => by rw [uI_off hk, uI_off hk, uI_off hk, uI_off hk, uI_off hk], ?_⟩
  have u : ∀ (ν : kM) (a b : Nat) (v : Int32), a ≠ b → uI ν t b v t a = ν t a := fun ν a b v w => uI_ne (Or.inr w)
  refine (id ⟨?_, ?_, ?_, ?_, fun _ => uI_same _ _ _ _, fun i hi => absurd hi (Nat.not_lt_zero _), fun i hi => absurd hi (Nat.not_lt_zero _), fun i hi => absurd hi (Nat.not_lt_zero _), fun i hi => absurd hi (Nat.not_lt_zero _), fun i hi => absurd hi (Nat.not_lt_zero _), fun i hi => absurd hi (Nat.not_lt_zero _), fun i hi => absurd hi (Nat.not_lt_zero _)⟩ : PQ 0 0 0 D0 t _)
  · rw [u _ _ _ _ (by decide), u _ _ _ _ (by decide), u _ _ _ _ (by decide), u _ _ _ _ (by decide), uI_same]
  · rw [u _ _ _ _ (by decide), u _ _ _ _ (by decide), u _ _ _ _ (by decide), uI_same]; rfl
  · rw [u _ _ _ _ (by decide), u _ _ _ _ (by decide), uI_same]; rfl
  · rw [u _ _ _ _ (by decide), uI_same]
set_option maxHeartbeats 4000000 in
theorem c_isWhole (Γ : kGm) {μ : kM} {q : kq4} {t : Nat} (ht : isT t) {s : PSt} (h : PR s t μ) (ok : okP s) : gC Γ yX2_isWhole mX2_isWhole 1 [.ref t] μ q (fun r μ' q' => r = some (.int (b2 (whl s))) ∧ μ' = μ ∧ q' = q) := by
  refine gC.ofG (n := 0) ⟨by decide +kernel, rfl, rfl, by decide⟩ (Nat.le_of_ble_eq_true rfl) ?_
  show gG Γ mX2_isWhole 1 0 [some (.ref t)] [] μ q _
  obtain ⟨p, l, sn, D⟩ := s
  have h : PQ p l sn D t μ := h
  have ok : okQ p l sn D := ok
  obtain ⟨h1, h2, h3, h4, h5, h6⟩ := h
  have o1 := ok.1
  have o3 := ok.2.2.1
  refine kG.aload_n 1 dX2_isWhole_0 rfl rfl ?_
  refine gG.getI 4 dX2_isWhole_1 fX2_43 (isT_k ht) (isT_s ht) rfl rfl ?_
  rw [h4]
  refine kG.iconst (v := nI 3) 5 dX2_isWhole_4 (by decide) rfl ?_
  refine kG.icmp_ne 19 8 dX2_isWhole_5 (by decide) rfl (fun g5 => ?_) (fun g5 => ?_)
  · have e3 : ¬ p = 3 := fun z => g5 (by rw [z])
    refine kG.iconst (v := nI 0) 20 dX2_isWhole_19 (by decide) rfl ?_
    refine gG.zret dX2_isWhole_20 rfl rfl ?_
    first
      | exact ⟨by unfold whl; rw [decide_eq_true e3, decide_eq_true e4]; rfl, rfl, rfl⟩
      | exact ⟨by unfold whl; rw [decide_eq_false e4, Bool.and_false]; rfl, rfl, rfl⟩
      | exact ⟨by unfold whl; rw [decide_eq_false e3]; rfl, rfl, rfl⟩
  · have e3 : p = 3 := (nI_eq (by omega) (by decide)).mp g5
    refine kG.aload_n 9 dX2_isWhole_8 rfl rfl ?_
    refine gG.getI 12 dX2_isWhole_9 fX2_40 (isT_k ht) (isT_s ht) rfl rfl ?_
    rw [h3]
    refine kG.if_le 19 15 dX2_isWhole_12 (by decide) rfl (fun g12 => ?_) (fun g12 => ?_)
    · have e4 : ¬ 0 < dP D := fun z => nI_nle z (by omega) g12
      refine kG.iconst (v := nI 0) 20 dX2_isWhole_19 (by decide) rfl ?_
      refine gG.zret dX2_isWhole_20 rfl rfl ?_
      first
        | exact ⟨by unfold whl; rw [decide_eq_true e3, decide_eq_true e4]; rfl, rfl, rfl⟩
        | exact ⟨by unfold whl; rw [decide_eq_false e4, Bool.and_false]; rfl, rfl, rfl⟩
        | exact ⟨by unfold whl; rw [decide_eq_false e3]; rfl, rfl, rfl⟩
    · have e4 : 0 < dP D := Nat.pos_of_ne_zero (fun z => g12 (by rw [z]; decide))
      refine kG.iconst (v := nI 1) 16 dX2_isWhole_15 (by decide) rfl ?_
      refine kG.goto 20 dX2_isWhole_16 (by decide) ?_
      refine gG.zret dX2_isWhole_20 rfl rfl ?_
      first
        | exact ⟨by unfold whl; rw [decide_eq_true e3, decide_eq_true e4]; rfl, rfl, rfl⟩
        | exact ⟨by unfold whl; rw [decide_eq_false e4, Bool.and_false]; rfl, rfl, rfl⟩
        | exact ⟨by unfold whl; rw [decide_eq_false e3]; rfl, rfl, rfl⟩
