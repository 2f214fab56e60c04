theorem TW_lt {t w k : Nat} (ht : isT t) (hw : isW w) (h : k ≤ t + 7) : k < 27 ∧ 27 ≤ w := by
  rcases ht with rfl | rfl <;> rcases hw with rfl | rfl <;> omega
/-- the first n places of the cell k hold f -/
def An (k n : Nat) (f : Nat → Nat) (μ : kM) : Prop := ∀ h, h < n → μ k h = nI (f h)
theorem An_uI {k n j v : Nat} {f : Nat → Nat} {μ : kM} (h : An k n f μ) : An k n (fu f j v) (uI μ k j (nI v)) := fun i hi => by
  by_cases e : i = j
  · subst e; rw [uI_same, fu_s]
  · rw [uI_ne (Or.inr e), fu_n e]; exact h i hi
theorem An_off {k n a j : Nat} {v : Int32} {f : Nat → Nat} {μ : kM} (h : An k n f μ) (e : k ≠ a) : An k n f (uI μ a j v) := fun i hi => by rw [uI_off e]; exact h i hi
theorem An_fr {k n : Nat} {f : Nat → Nat} {μ μ' : kM} (h : An k n f μ) (e : μ' k = μ k) : An k n f μ' := fun i hi => by rw [e]; exact h i hi
theorem tq_stq {q : kq4} {w t : Nat} (h : isW w) : tq (stq q w t) w = t := by rcases h with rfl | rfl <;> rfl
theorem PI_W7s {q : kq4} {w t : Nat} (h : isW w) : PI (stq q w t) w 7 = some t := by rw [PI_W7 h, tq_stq h]
def smN (X : Nat → Nat) : Nat → Nat
  | 0 => 0
  | n + 1 => smN X n + X n
theorem smN_le {X : Nat → Nat} {b : Nat} : ∀ n, (∀ h, h < n → X h ≤ b) → smN X n ≤ b * n
  | 0, _ => Nat.zero_le _
  | n + 1, h => by
    have := smN_le n (fun i hi => h i (by omega))
    have := h n (by omega)
    unfold smN
    rw [Nat.mul_succ]
    omega
def chN (C : Nat → Nat) (S : Nat) : Nat → Nat
  | 0 => 0
  | n + 1 => chN C S n + pcn (C n &&& S)
theorem cnt_le (f : Nat → Bool) : ∀ n, cnt f n ≤ n
  | 0 => Nat.le_refl _
  | n + 1 => by
    have := cnt_le f n
    unfold cnt
    split <;> omega
theorem pcn_le (m : Nat) : pcn m ≤ 6 := cnt_le _ 6
theorem chN_le (C : Nat → Nat) (S : Nat) : ∀ n, chN C S n ≤ 6 * n
  | 0 => Nat.le_refl _
  | n + 1 => by
    have := chN_le C S n
    have := pcn_le (C n &&& S)
    unfold chN
    omega
def rdB (X : Nat → Nat → Nat) (G : Kp) : Nat → Bool
  | 0 => true
  | n + 1 => rdB X G n && decide (X (G.2.1 n) (G.2.2.1 n) = G.2.2.2 n)
theorem rdB_f {X : Nat → Nat → Nat} {G : Kp} {i : Nat} (h : ¬ X (G.2.1 i) (G.2.2.1 i) = G.2.2.2 i) : ∀ n, i < n → rdB X G n = false
  | 0, hi => absurd hi (Nat.not_lt_zero _)
  | n + 1, hi => by
    unfold rdB
    by_cases e : i = n
    · subst e; simp [h]
    · rw [rdB_f h n (by omega)]; rfl
set_option maxHeartbeats 4000000 in
theorem c_woodAt (Γ : kGm) {μ : kM} {q : kq4} {w : Nat} (hw : isW w) (h tm : Nat) (hh : h < 4) (ht : tm < 140) : gC Γ yX3_woodAt mX3_woodAt 1 [.ref w, .int (nI h), .int (nI tm)] μ q (fun r μ' q' => r = some (.int (μ (w + 1 + 0) (h * 140 + tm))) ∧ μ' = μ ∧ q' = q) := by
  refine gC.ofG (n := 0) ⟨by decide +kernel, rfl, rfl, by decide⟩ (Nat.le_of_ble_eq_true rfl) ?_
  show gG Γ mX3_woodAt 1 0 [some (.ref w), some (.int (nI h)), some (.int (nI tm))] [] μ q _
  refine kG.aload_n 1 dX3_woodAt_0 rfl rfl ?_
  refine gG.getP 4 dX3_woodAt_1 fX3_9 (isW_k hw) (isW_s hw) rfl (PI_W hw (by decide)) rfl ?_
  refine kG.iload_n 5 dX3_woodAt_4 rfl rfl ?_
  refine kG.sipush (v := nI 140) 8 dX3_woodAt_5 (by decide) rfl ?_
  refine kG.imul 9 dX3_woodAt_8 rfl ?_
  refine kG.iload_n 10 dX3_woodAt_9 rfl rfl ?_
  refine kG.iadd 11 dX3_woodAt_10 rfl ?_
  refine gG.iald (n := 560) (h * 140 + tm) 12 dX3_woodAt_11 (arW_k hw (by decide)) (arW_s hw (by decide)) (by rw [pk_mul, nI_add]) (by omega) (by decide) rfl ?_
  refine gG.iret dX3_woodAt_12 rfl ?_
  exact ⟨rfl, rfl, rfl⟩
set_option maxHeartbeats 4000000 in
theorem c_wearAt (Γ : kGm) {μ : kM} {q : kq4} {w : Nat} (hw : isW w) (h tm : Nat) (hh : h < 4) (ht : tm < 140) : gC Γ yX3_wearAt mX3_wearAt 1 [.ref w, .int (nI h), .int (nI tm)] μ q (fun r μ' q' => r = some (.int (μ (w + 1 + 1) (h * 140 + tm))) ∧ μ' = μ ∧ q' = q) := by
  refine gC.ofG (n := 0) ⟨by decide +kernel, rfl, rfl, by decide⟩ (Nat.le_of_ble_eq_true rfl) ?_
  show gG Γ mX3_wearAt 1 0 [some (.ref w), some (.int (nI h)), some (.int (nI tm))] [] μ q _
  refine kG.aload_n 1 dX3_wearAt_0 rfl rfl ?_
  refine gG.getP 4 dX3_wearAt_1 fX3_15 (isW_k hw) (isW_s hw) rfl (PI_W hw (by decide)) rfl ?_
  refine kG.iload_n 5 dX3_wearAt_4 rfl rfl ?_
  refine kG.sipush (v := nI 140) 8 dX3_wearAt_5 (by decide) rfl ?_
  refine kG.imul 9 dX3_wearAt_8 rfl ?_
  refine kG.iload_n 10 dX3_wearAt_9 rfl rfl ?_
  refine kG.iadd 11 dX3_wearAt_10 rfl ?_
  refine gG.iald (n := 560) (h * 140 + tm) 12 dX3_wearAt_11 (arW_k hw (by decide)) (arW_s hw (by decide)) (by rw [pk_mul, nI_add]) (by omega) (by decide) rfl ?_
  refine gG.iret dX3_wearAt_12 rfl ?_
  exact ⟨rfl, rfl, rfl⟩
set_option maxHeartbeats 4000000 in
theorem c_coldAt (Γ : kGm) {μ : kM} {q : kq4} {w : Nat} (hw : isW w) (tm : Nat) (ht : tm < 140) : gC Γ yX3_coldAt mX3_coldAt 1 [.ref w, .int (nI tm)] μ q (fun r μ' q' => r = some (.int (μ (w + 1 + 2) tm)) ∧ μ' = μ ∧ q' = q) := by
  refine gC.ofG (n := 0) ⟨by decide +kernel, rfl, rfl, by decide⟩ (Nat.le_of_ble_eq_true rfl) ?_
  show gG Γ mX3_coldAt 1 0 [some (.ref w), some (.int (nI tm))] [] μ q _
  refine kG.aload_n 1 dX3_coldAt_0 rfl rfl ?_
  refine gG.getP 4 dX3_coldAt_1 fX3_18 (isW_k hw) (isW_s hw) rfl (PI_W hw (by decide)) rfl ?_
  refine kG.iload_n 5 dX3_coldAt_4 rfl rfl ?_
  refine gG.iald (n := 140) _ 6 dX3_coldAt_5 (arW_k hw (by decide)) (arW_s hw (by decide)) rfl (by omega) (by decide) rfl ?_
  refine gG.iret dX3_coldAt_6 rfl ?_
  exact ⟨rfl, rfl, rfl⟩
set_option maxHeartbeats 4000000 in
theorem wtog_loop (Γ : kGm) {μ : kM} {q : kq4} {w : Nat} (hw : isW w) (htq : isT (tq q w)) {D : Dt} (hD : TD D (tq q w) μ) (ok : okD D) (tm : Nat) (ht : tm < 140) (X : Nat → Nat) (hX : ∀ h, h < dH D → μ (w + 1 + 1) (h * 140 + tm) = nI (X h)) : ∀ (m i : Nat), i + m = dH D → gG Γ mX3_wearTogether 2 4 [some (.ref w), some (.int (nI tm)), some (.int (nI (smN X i))), some (.int (nI i))] [] (μ) q (fun r μ' q' => r = some (.int (nI (smN X (dH D)))) ∧ μ' = μ ∧ q' = q) := by
  intro m
  induction m with
  | zero =>
    intro i hm
    refine kG.iload_n 5 dX3_wearTogether_4 rfl rfl ?_
    refine kG.aload_n 6 dX3_wearTogether_5 rfl rfl ?_
    refine gG.getP 9 dX3_wearTogether_6 fX3_43 (isW_k hw) (isW_s hw) rfl (PI_W7 hw) rfl ?_
    refine gG.getI 12 dX3_wearTogether_9 fX3_91 (isT_k htq) (isT_s htq) rfl rfl ?_
    refine kG.icmp_ge 30 15 dX3_wearTogether_12 (by decide) rfl (fun h12 => ?_) (fun h12 => ?_)
    · refine kG.iload_n 31 dX3_wearTogether_30 rfl rfl ?_
      refine gG.iret dX3_wearTogether_31 rfl ?_
      rw [show i = dH D by omega]
      exact ⟨rfl, rfl, rfl⟩
    · rw [hD.1] at h12
      exact absurd (nI_le (by omega) (by have := ok.1; omega)) h12
  | succ m ih =>
    intro i hm
    have hH := ok.1
    refine kG.iload_n 5 dX3_wearTogether_4 rfl rfl ?_
    refine kG.aload_n 6 dX3_wearTogether_5 rfl rfl ?_
    refine gG.getP 9 dX3_wearTogether_6 fX3_43 (isW_k hw) (isW_s hw) rfl (PI_W7 hw) rfl ?_
    refine gG.getI 12 dX3_wearTogether_9 fX3_91 (isT_k htq) (isT_s htq) rfl rfl ?_
    refine kG.icmp_ge 30 15 dX3_wearTogether_12 (by decide) rfl (fun h12 => ?_) (fun h12 => ?_)
    · rw [hD.1] at h12
      exact absurd h12 (nI_ge (by omega) (by omega))
    · refine kG.iload_n 16 dX3_wearTogether_15 rfl rfl ?_
      refine kG.aload_n 17 dX3_wearTogether_16 rfl rfl ?_
      refine kG.iload_n 18 dX3_wearTogether_17 rfl rfl ?_
      refine kG.iload_n 19 dX3_wearTogether_18 rfl rfl ?_
      refine gG.callV 22 dX3_wearTogether_19 lX3_120 vX3_wearAt (c_wearAt Γ hw i tm (by omega) ht) rfl rfl (isW_k hw) (isW_s hw) ⟨by decide, rfl⟩ ⟨by decide, by decide⟩ (Nat.le_of_ble_eq_true rfl) rfl (fun r19 μ19 q19 hc19 => ?_)
      obtain ⟨rfl, rfl, rfl⟩ := hc19
      refine kG.iadd 23 dX3_wearTogether_22 rfl ?_
      rw [hX i (by omega), nI_add, show smN X i + X i = smN X (i + 1) from rfl]
      refine kG.istore_n 24 dX3_wearTogether_23 (by decide) rfl rfl ?_
      dsimp only [List.set]
      refine kG.iinc (v := nI (i + 1)) 27 dX3_wearTogether_24 rfl (nI_1 i) (by decide) rfl rfl ?_
      dsimp only [List.set]
      refine kG.goto 4 dX3_wearTogether_27 (by decide) ?_
      exact ih (i + 1) (by omega)
set_option maxHeartbeats 4000000 in
theorem c_wearTogether (Γ : kGm) {μ : kM} {q : kq4} {w : Nat} (hw : isW w) (htq : isT (tq q w)) {D : Dt} (hD : TD D (tq q w) μ) (ok : okD D) (tm : Nat) (ht : tm < 140) (X : Nat → Nat) (hX : ∀ h, h < dH D → μ (w + 1 + 1) (h * 140 + tm) = nI (X h)) : gC Γ yX3_wearTogether mX3_wearTogether 2 [.ref w, .int (nI tm)] μ q (fun r μ' q' => r = some (.int (nI (smN X (dH D)))) ∧ μ' = μ ∧ q' = q) := by
  refine gC.ofG (n := 0) ⟨by decide +kernel, rfl, rfl, by decide⟩ (Nat.le_of_ble_eq_true rfl) ?_
  show gG Γ mX3_wearTogether 2 0 [some (.ref w), some (.int (nI tm)), none, none] [] μ q _
  refine kG.iconst (v := nI 0) 1 dX3_wearTogether_0 (by decide) rfl ?_
  refine kG.istore_n 2 dX3_wearTogether_1 (by decide) rfl rfl ?_
  dsimp only [List.set]
  refine kG.iconst (v := nI 0) 3 dX3_wearTogether_2 (by decide) rfl ?_
  refine kG.istore_n 4 dX3_wearTogether_3 (by decide) rfl rfl ?_
  dsimp only [List.set]
  exact wtog_loop Γ hw htq hD ok tm ht X hX (dH D) 0 (by omega)
set_option maxHeartbeats 4000000 in
theorem chil_loop (Γ : kGm) {μ : kM} {q : kq4} {w : Nat} (hw : isW w) (C : Nat → Nat) (S wk : Nat) (hS : S < 64) (hwk : wk < 10) (hC : ∀ t, t < (wk + 1) * 14 → μ (w + 1 + 2) t = nI (C t) ∧ C t < 64) : ∀ (m i : Nat), i + m = (wk + 1) * 14 → gG Γ mX3_chillsOf 2 5 [some (.ref w), some (.int (nI S)), some (.int (nI wk)), some (.int (nI (chN C S i))), some (.int (nI i))] [] (μ) q (fun r μ' q' => r = some (.int (nI (chN C S ((wk + 1) * 14)))) ∧ μ' = μ ∧ q' = q) := by
  intro m
  induction m with
  | zero =>
    intro i hm
    refine kG.iload 7 dX3_chillsOf_5 rfl rfl ?_
    refine kG.iload_n 8 dX3_chillsOf_7 rfl rfl ?_
    refine kG.iconst (v := nI 1) 9 dX3_chillsOf_8 (by decide) rfl ?_
    refine kG.iadd 10 dX3_chillsOf_9 rfl ?_
    refine kG.bipush (v := nI 14) 12 dX3_chillsOf_10 (by decide) rfl ?_
    refine kG.imul 13 dX3_chillsOf_12 rfl ?_
    refine kG.icmp_ge 45 16 dX3_chillsOf_13 (by decide) rfl (fun h13 => ?_) (fun h13 => ?_)
    · refine kG.iload_n 46 dX3_chillsOf_45 rfl rfl ?_
      refine gG.iret dX3_chillsOf_46 rfl ?_
      rw [show i = (wk + 1) * 14 by omega]
      exact ⟨rfl, rfl, rfl⟩
    · rw [nI_add, pk_mul] at h13
      exact absurd (nI_le (by omega) (by omega)) h13
  | succ m ih =>
    intro i hm
    refine kG.iload 7 dX3_chillsOf_5 rfl rfl ?_
    refine kG.iload_n 8 dX3_chillsOf_7 rfl rfl ?_
    refine kG.iconst (v := nI 1) 9 dX3_chillsOf_8 (by decide) rfl ?_
    refine kG.iadd 10 dX3_chillsOf_9 rfl ?_
    refine kG.bipush (v := nI 14) 12 dX3_chillsOf_10 (by decide) rfl ?_
    refine kG.imul 13 dX3_chillsOf_12 rfl ?_
    refine kG.icmp_ge 45 16 dX3_chillsOf_13 (by decide) rfl (fun h13 => ?_) (fun h13 => ?_)
    · rw [nI_add, pk_mul] at h13
      exact absurd h13 (nI_ge (by omega) (by omega))
    · refine kG.iload 18 dX3_chillsOf_16 rfl rfl ?_
      refine kG.sipush (v := nI 140) 21 dX3_chillsOf_18 (by decide) rfl ?_
      refine kG.icmp_ge 45 24 dX3_chillsOf_21 (by decide) rfl (fun h21 => ?_) (fun h21 => ?_)
      · exact absurd h21 (nI_ge (by omega) (by omega))
      · refine kG.iload_n 25 dX3_chillsOf_24 rfl rfl ?_
        refine kG.aload_n 26 dX3_chillsOf_25 rfl rfl ?_
        refine gG.getP 29 dX3_chillsOf_26 fX3_18 (isW_k hw) (isW_s hw) rfl (PI_W hw (by decide)) rfl ?_
        refine kG.iload 31 dX3_chillsOf_29 rfl rfl ?_
        refine gG.iald (n := 140) _ 32 dX3_chillsOf_31 (arW_k hw (by decide)) (arW_s hw (by decide)) rfl (by omega) (by decide) rfl ?_
        refine kG.iload_n 33 dX3_chillsOf_32 rfl rfl ?_
        refine kG.iand 34 dX3_chillsOf_33 rfl ?_
        rw [(hC i (by omega)).1, n_and]
        refine gG.callS 37 dX3_chillsOf_34 lX3_123 vJ6_bitCount_0f7a4 (c_bitCount Γ _ (Nat.lt_of_le_of_lt Nat.and_le_left (hC i (by omega)).2)) rfl rfl ⟨by decide, by decide⟩ (Nat.le_of_ble_eq_true rfl) rfl (fun r34 μ34 q34 hc34 => ?_)
        obtain ⟨rfl, rfl, rfl⟩ := hc34
        refine kG.iadd 38 dX3_chillsOf_37 rfl ?_
        rw [nI_add, show chN C S i + pcn (C i &&& S) = chN C S (i + 1) from rfl]
        refine kG.istore_n 39 dX3_chillsOf_38 (by decide) rfl rfl ?_
        dsimp only [List.set]
        refine kG.iinc (v := nI (i + 1)) 42 dX3_chillsOf_39 rfl (nI_1 i) (by decide) rfl rfl ?_
        dsimp only [List.set]
        refine kG.goto 5 dX3_chillsOf_42 (by decide) ?_
        exact ih (i + 1) (by omega)
set_option maxHeartbeats 4000000 in
theorem c_chillsOf (Γ : kGm) {μ : kM} {q : kq4} {w : Nat} (hw : isW w) (C : Nat → Nat) (S wk : Nat) (hS : S < 64) (hwk : wk < 10) (hC : ∀ t, t < (wk + 1) * 14 → μ (w + 1 + 2) t = nI (C t) ∧ C t < 64) : gC Γ yX3_chillsOf mX3_chillsOf 2 [.ref w, .int (nI S), .int (nI wk)] μ q (fun r μ' q' => r = some (.int (nI (chN C S ((wk + 1) * 14)))) ∧ μ' = μ ∧ q' = q) := by
  refine gC.ofG (n := 0) ⟨by decide +kernel, rfl, rfl, by decide⟩ (Nat.le_of_ble_eq_true rfl) ?_
  show gG Γ mX3_chillsOf 2 0 [some (.ref w), some (.int (nI S)), some (.int (nI wk)), none, none] [] μ q _
  refine kG.iconst (v := nI 0) 1 dX3_chillsOf_0 (by decide) rfl ?_
  refine kG.istore_n 2 dX3_chillsOf_1 (by decide) rfl rfl ?_
  dsimp only [List.set]
  refine kG.iconst (v := nI 0) 3 dX3_chillsOf_2 (by decide) rfl ?_
  refine kG.istore 5 dX3_chillsOf_3 (by decide) rfl rfl ?_
  dsimp only [List.set]
  exact chil_loop Γ hw C S wk hS hwk hC ((wk + 1) * 14) 0 (by omega)
set_option maxHeartbeats 4000000 in
theorem arew_loop (Γ : kGm) {μ : kM} {q : kq4} {k : Nat} (hk : isK k) {G : Kp} (hG : KD G k μ) (hn : G.1 ≤ lnK k) {w : Nat} (hw : isW w) (ok : ∀ i, i < G.1 → G.2.1 i < 4 ∧ G.2.2.1 i < 140 ∧ G.2.2.2 i ≤ 99) (X : Nat → Nat → Nat) (hX : ∀ i, i < G.1 → μ (w + 1 + 1) (G.2.1 i * 140 + G.2.2.1 i) = nI (X (G.2.1 i) (G.2.2.1 i)) ∧ X (G.2.1 i) (G.2.2.1 i) < 2 ^ 30) : ∀ (m i : Nat), i + m = G.1 → (rdB X G i = true) → gG Γ mX0_areWearOf 2 2 [some (.ref k), some (.ref w), some (.int (nI i))] [] (μ) q (fun r μ' q' => r = some (.int (b2 (rdB X G G.1))) ∧ μ' = μ ∧ q' = q) := by
  intro m
  induction m with
  | zero =>
    intro i hm hr
    have h8 := lnK_8 hk
    refine kG.iload_n 3 dX0_areWearOf_2 rfl rfl ?_
    refine kG.aload_n 4 dX0_areWearOf_3 rfl rfl ?_
    refine gG.getI 7 dX0_areWearOf_4 fX0_9 (isK_k hk) (isK_s hk) rfl rfl ?_
    refine kG.icmp_ge 43 10 dX0_areWearOf_7 (by decide) rfl (fun h7 => ?_) (fun h7 => ?_)
    · refine kG.iconst (v := nI 1) 44 dX0_areWearOf_43 (by decide) rfl ?_
      refine gG.zret dX0_areWearOf_44 rfl rfl ?_
      exact ⟨by rw [show G.1 = i by omega, hr]; rfl, rfl, rfl⟩
    · rw [hG.1] at h7
      exact absurd (nI_le (by omega) (by omega)) h7
  | succ m ih =>
    intro i hm hr
    have h8 := lnK_8 hk
    obtain ⟨g1, g2, g3⟩ := hG.2 i (by omega)
    obtain ⟨o1, o2, o3⟩ := ok i (by omega)
    obtain ⟨x1, x2⟩ := hX i (by omega)
    refine kG.iload_n 3 dX0_areWearOf_2 rfl rfl ?_
    refine kG.aload_n 4 dX0_areWearOf_3 rfl rfl ?_
    refine gG.getI 7 dX0_areWearOf_4 fX0_9 (isK_k hk) (isK_s hk) rfl rfl ?_
    refine kG.icmp_ge 43 10 dX0_areWearOf_7 (by decide) rfl (fun h7 => ?_) (fun h7 => ?_)
    · rw [hG.1] at h7
      exact absurd h7 (nI_ge (by omega) (by omega))
    · refine kG.aload_n 11 dX0_areWearOf_10 rfl rfl ?_
      refine kG.aload_n 12 dX0_areWearOf_11 rfl rfl ?_
      refine gG.getP 15 dX0_areWearOf_12 fX0_24 (isK_k hk) (isK_s hk) rfl (PI_K hk (by decide) (by decide)) rfl ?_
      refine kG.iload_n 16 dX0_areWearOf_15 rfl rfl ?_
      refine gG.iald _ 17 dX0_areWearOf_16 (arK_k hk (by decide)) (arK_s hk (by decide) (by decide)) rfl (by omega) (lnK_b hk) rfl ?_
      rw [g1]
      refine kG.aload_n 18 dX0_areWearOf_17 rfl rfl ?_
      refine gG.getP 21 dX0_areWearOf_18 fX0_28 (isK_k hk) (isK_s hk) rfl (PI_K hk (by decide) (by decide)) rfl ?_
      refine kG.iload_n 22 dX0_areWearOf_21 rfl rfl ?_
      refine gG.iald _ 23 dX0_areWearOf_22 (arK_k hk (by decide)) (arK_s hk (by decide) (by decide)) rfl (by omega) (lnK_b hk) rfl ?_
      rw [g2]
      refine gG.callV 26 dX0_areWearOf_23 lX0_34 vX3_wearAt (c_wearAt Γ hw (G.2.1 i) (G.2.2.1 i) (by omega) (by omega)) rfl rfl (isW_k hw) (isW_s hw) ⟨by decide, rfl⟩ ⟨by decide, by decide⟩ (Nat.le_of_ble_eq_true rfl) rfl (fun r23 μ23 q23 hc23 => ?_)
      obtain ⟨rfl, rfl, rfl⟩ := hc23
      refine kG.aload_n 27 dX0_areWearOf_26 rfl rfl ?_
      refine gG.getP 30 dX0_areWearOf_27 fX0_31 (isK_k hk) (isK_s hk) rfl (PI_K hk (by decide) (by decide)) rfl ?_
      refine kG.iload_n 31 dX0_areWearOf_30 rfl rfl ?_
      refine gG.iald _ 32 dX0_areWearOf_31 (arK_k hk (by decide)) (arK_s hk (by decide) (by decide)) rfl (by omega) (lnK_b hk) rfl ?_
      refine kG.icmp_eq 37 35 dX0_areWearOf_32 (by decide) rfl (fun h32 => ?_) (fun h32 => ?_)
      · rw [x1, g3] at h32
        have e := (nI_eq (by omega) (by omega)).mp h32
        refine kG.iinc (v := nI (i + 1)) 40 dX0_areWearOf_37 rfl (nI_1 i) (by decide) rfl rfl ?_
        dsimp only [List.set]
        refine kG.goto 2 dX0_areWearOf_40 (by decide) ?_
        exact ih (i + 1) (by omega) (by simp [rdB, hr, e])
      · rw [x1, g3] at h32
        have e : ¬ X (G.2.1 i) (G.2.2.1 i) = G.2.2.2 i := fun z => h32 (by rw [z])
        refine kG.iconst (v := nI 0) 36 dX0_areWearOf_35 (by decide) rfl ?_
        refine gG.zret dX0_areWearOf_36 rfl rfl ?_
        exact ⟨by rw [rdB_f e G.1 (by omega)]; rfl, rfl, rfl⟩
set_option maxHeartbeats 4000000 in
theorem c_areWearOf (Γ : kGm) {μ : kM} {q : kq4} {k : Nat} (hk : isK k) {G : Kp} (hG : KD G k μ) (hn : G.1 ≤ lnK k) {w : Nat} (hw : isW w) (ok : ∀ i, i < G.1 → G.2.1 i < 4 ∧ G.2.2.1 i < 140 ∧ G.2.2.2 i ≤ 99) (X : Nat → Nat → Nat) (hX : ∀ i, i < G.1 → μ (w + 1 + 1) (G.2.1 i * 140 + G.2.2.1 i) = nI (X (G.2.1 i) (G.2.2.1 i)) ∧ X (G.2.1 i) (G.2.2.1 i) < 2 ^ 30) : gC Γ yX0_areWearOf mX0_areWearOf 2 [.ref k, .ref w] μ q (fun r μ' q' => r = some (.int (b2 (rdB X G G.1))) ∧ μ' = μ ∧ q' = q) := by
  refine gC.ofG (n := 0) ⟨by decide +kernel, rfl, rfl, by decide⟩ (Nat.le_of_ble_eq_true rfl) ?_
  show gG Γ mX0_areWearOf 2 0 [some (.ref k), some (.ref w), none] [] μ q _
  refine kG.iconst (v := nI 0) 1 dX0_areWearOf_0 (by decide) rfl ?_
  refine kG.istore_n 2 dX0_areWearOf_1 (by decide) rfl rfl ?_
  dsimp only [List.set]
  exact arew_loop Γ hk hG hn hw ok X hX G.1 0 (by omega) rfl
theorem kMZ_weak {Γ : kGm} {mi : kMI} {R : Room} {cs : Nat × Nat} {pc : Nat} {L : List (Option Value)} {st : List Value} {ω : kWd} {Q Q' : Option Value → kWd → Prop} (h : kG Γ mi R cs pc L st ω (kMZ Γ R Q)) (hq : ∀ r ω', Q r ω' → Q' r ω') : kG Γ mi R cs pc L st ω (kMZ Γ R Q') := by
  intro p e s m args below meth c H locs ls C P S V T hT X
  obtain ⟨t, h1, o, h2, h3, ⟨⟨r, ω', e1, e2, e3⟩, hF⟩, hE⟩ := h p e s m args below meth c H locs ls C P S V T hT X
  exact ⟨t, h1, o, h2, h3, ⟨⟨r, ω', e1, hq r ω' e2, e3⟩, hF⟩, hE⟩
theorem gG_weak {Γ : kGm} {mi : kMI} {d pc : Nat} {L : List (Option Value)} {st : List Value} {μ : kM} {q : kq4} {Q Q' : Option Value → kM → kq4 → Prop} (h : gG Γ mi d pc L st μ q Q) (hq : ∀ r μ' q', Q r μ' q' → Q' r μ' q') : gG Γ mi d pc L st μ q Q' := kMZ_weak h (fun r _ ⟨μ', q', e, h⟩ => ⟨μ', q', e, hq r μ' q' h⟩)
set_option maxHeartbeats 4000000 in
theorem prep_loop (Γ : kGm) {μ : kM} {q : kq4} {w : Nat} (hw : isW w) {t : Nat} (ht : isT t) {D : Dt} (hD : TD D t μ) (ok : okD D) (aw : Int32) (μw : Nat → Int32) : ∀ (m i : Nat) (μ1 : kM), i + m = dP D → (∀ k, k ≠ w → k ≠ w + 1 + 5 → μ1 k = μ k) → (μ1 w = μw) → (An (w + 1 + 5) i (fun p => wan (dkd D p) (dbu D p)) μ1) → gG Γ mX3_prepare 2 34 [some (.ref w), some (.ref t), some (.int aw), some (.int (nI i))] [] (μ1) (stq q w t) (fun r μ' q' => r = none ∧ q' = stq q w t ∧ (∀ k, k ≠ w → k ≠ w + 1 + 5 → μ' k = μ k) ∧ μ' w = μw ∧ An (w + 1 + 5) (dP D) (fun p => wan (dkd D p) (dbu D p)) μ') := by
  intro m
  induction m with
  | zero =>
    intro i μ1 hm h1 h2 h3
    have hD1 : TD D t μ1 := TD_fr hD (fun k a b => by have := TW_lt ht hw b; exact h1 k (by omega) (by omega))
    refine kG.iload_n 35 dX3_prepare_34 rfl rfl ?_
    refine kG.aload_n 36 dX3_prepare_35 rfl rfl ?_
    refine gG.getP 39 dX3_prepare_36 fX3_43 (isW_k hw) (isW_s hw) rfl (PI_W7s hw) rfl ?_
    refine gG.getI 42 dX3_prepare_39 fX3_54 (isT_k ht) (isT_s ht) rfl rfl ?_
    refine kG.icmp_ge 78 45 dX3_prepare_42 (by decide) rfl (fun h42 => ?_) (fun h42 => ?_)
    · refine gG.vret dX3_prepare_78 rfl ?_
      exact ⟨rfl, rfl, h1, h2, by rw [show dP D = i by omega]; exact h3⟩
    · rw [hD1.2.1] at h42
      exact absurd (nI_le (by omega) (by have := ok.2.1; omega)) h42
  | succ m ih =>
    intro i μ1 hm h1 h2 h3
    have hD1 : TD D t μ1 := TD_fr hD (fun k a b => by have := TW_lt ht hw b; exact h1 k (by omega) (by omega))
    have hP := ok.2.1
    obtain ⟨d1, d2, d3, d4, d5⟩ := hD1.2.2.2 i (by omega)
    obtain ⟨k1, k2, k3, k4, k5⟩ := ok.2.2.2 i (by omega)
    refine kG.iload_n 35 dX3_prepare_34 rfl rfl ?_
    refine kG.aload_n 36 dX3_prepare_35 rfl rfl ?_
    refine gG.getP 39 dX3_prepare_36 fX3_43 (isW_k hw) (isW_s hw) rfl (PI_W7s hw) rfl ?_
    refine gG.getI 42 dX3_prepare_39 fX3_54 (isT_k ht) (isT_s ht) rfl rfl ?_
    refine kG.icmp_ge 78 45 dX3_prepare_42 (by decide) rfl (fun h42 => ?_) (fun h42 => ?_)
    · rw [hD1.2.1] at h42
      exact absurd h42 (nI_ge (by omega) (by omega))
    · refine kG.aload_n 46 dX3_prepare_45 rfl rfl ?_
      refine gG.getP 49 dX3_prepare_46 fX3_27 (isW_k hw) (isW_s hw) rfl (PI_W hw (by decide)) rfl ?_
      refine kG.iload_n 50 dX3_prepare_49 rfl rfl ?_
      refine kG.aload_n 51 dX3_prepare_50 rfl rfl ?_
      refine gG.getP 54 dX3_prepare_51 fX3_43 (isW_k hw) (isW_s hw) rfl (PI_W7s hw) rfl ?_
      refine gG.getP 57 dX3_prepare_54 fX3_57 (isT_k ht) (isT_s ht) rfl (PI_T ht (by decide)) rfl ?_
      refine kG.iload_n 58 dX3_prepare_57 rfl rfl ?_
      refine gG.iald (n := 6) _ 59 dX3_prepare_58 (arT_k ht (by decide)) (arT_s ht (by decide)) rfl (by omega) (by decide) rfl ?_
      rw [d1]
      refine kG.aload_n 60 dX3_prepare_59 rfl rfl ?_
      refine gG.getP 63 dX3_prepare_60 fX3_43 (isW_k hw) (isW_s hw) rfl (PI_W7s hw) rfl ?_
      refine gG.getP 66 dX3_prepare_63 fX3_60 (isT_k ht) (isT_s ht) rfl (PI_T ht (by decide)) rfl ?_
      refine kG.iload_n 67 dX3_prepare_66 rfl rfl ?_
      refine gG.iald (n := 6) _ 68 dX3_prepare_67 (arT_k ht (by decide)) (arT_s ht (by decide)) rfl (by omega) (by decide) rfl ?_
      rw [d4]
      refine gG.callSN 71 dX3_prepare_68 (lX3_63 Γ) vX4_wantsOf (c_wantsOf Γ (dkd D i) _ (by omega)) rfl rfl ⟨by decide, by decide⟩ (Nat.le_of_ble_eq_true rfl) rfl (fun r68 μ68 q68 hc68 => ?_)
      obtain ⟨rfl, rfl, rfl⟩ := hc68
      rw [show (if dkd D i = 0 then nI (dbu D i) else if dkd D i = 1 then nI (dbu D i) + nI 1 else nI 2 * (nI (dbu D i) + nI 1)) = nI (wan (dkd D i) (dbu D i)) by rw [nI_add, pk_mul]; unfold wan; split; rfl; split <;> rfl]
      refine gG.iast (n := 6) _ 72 dX3_prepare_71 (arW_k hw (by decide)) (arW_s hw (by decide)) rfl (by omega) (by decide) rfl ?_
      refine kG.iinc (v := nI (i + 1)) 75 dX3_prepare_72 rfl (nI_1 i) (by decide) rfl rfl ?_
      dsimp only [List.set]
      refine kG.goto 34 dX3_prepare_75 (by decide) ?_
      refine ih (i + 1) _ (by omega) (fun k a b => by rw [uI_off b]; exact h1 k a b) (by rw [uI_off (by omega)]; exact h2) (fun j hj => ?_)
      by_cases e : j = i
      · subst e; rw [uI_same]
      · rw [uI_ne (Or.inr e)]; exact h3 j (by omega)
set_option maxHeartbeats 4000000 in
theorem c_prepare (Γ : kGm) {μ : kM} {q : kq4} {w : Nat} (hw : isW w) {t : Nat} (ht : isT t) {D : Dt} (hD : TD D t μ) (ok : okD D) (aw : Int32) : gC Γ yX3_prepare mX3_prepare 2 [.ref w, .ref t, .int aw] μ q (fun r μ' q' => r = none ∧ q' = stq q w t ∧ (∀ k, k ≠ w → k ≠ w + 1 + 5 → μ' k = μ k) ∧ (μ' w 8 = aw ∧ μ' w 9 = μ t 7 ∧ μ' w 10 = -9 ∧ μ' w 11 = nI 0) ∧ An (w + 1 + 5) (dP D) (fun p => wan (dkd D p) (dbu D p)) μ') := by
  refine gC.ofG (n := 0) ⟨by decide +kernel, rfl, rfl, by decide⟩ (Nat.le_of_ble_eq_true rfl) ?_
  show gG Γ mX3_prepare 2 0 [some (.ref w), some (.ref t), some (.int aw), none] [] μ q _
  refine kG.aload_n 1 dX3_prepare_0 rfl rfl ?_
  refine kG.aload_n 2 dX3_prepare_1 rfl rfl ?_
  refine gG.putP 5 dX3_prepare_2 fX3_43 (isW_k hw) (isW_s hw) rfl rfl ⟨fun _ => rfl, fun _ => rfl⟩ (sP_wk hw) rfl ?_
  refine kG.aload_n 6 dX3_prepare_5 rfl rfl ?_
  refine kG.iload_n 7 dX3_prepare_6 rfl rfl ?_
  refine gG.putI 10 dX3_prepare_7 fX3_30 (isW_k hw) (isW_s hw) rfl rfl ⟨rfl, rfl⟩ rfl ?_
  refine kG.aload_n 11 dX3_prepare_10 rfl rfl ?_
  refine kG.aload_n 12 dX3_prepare_11 rfl rfl ?_
  refine gG.getP 15 dX3_prepare_12 fX3_43 (isW_k hw) (isW_s hw) rfl (PI_W7s hw) rfl ?_
  refine gG.getI 18 dX3_prepare_15 fX3_51 (isT_k ht) (isT_s ht) rfl rfl ?_
  have et : uI μ w 8 aw t 7 = μ t 7 := by have := TW_lt (k := t) ht hw (by omega); rw [uI_off (by omega)]
  rw [et]
  refine gG.putI 21 dX3_prepare_18 fX3_34 (isW_k hw) (isW_s hw) rfl rfl ⟨rfl, rfl⟩ rfl ?_
  refine kG.aload_n 22 dX3_prepare_21 rfl rfl ?_
  refine kG.bipush (v := (-9)) 24 dX3_prepare_22 (by decide) rfl ?_
  refine gG.putI 27 dX3_prepare_24 fX3_37 (isW_k hw) (isW_s hw) rfl rfl ⟨rfl, rfl⟩ rfl ?_
  refine kG.aload_n 28 dX3_prepare_27 rfl rfl ?_
  refine kG.iconst (v := nI 0) 29 dX3_prepare_28 (by decide) rfl ?_
  refine gG.putI 32 dX3_prepare_29 fX3_40 (isW_k hw) (isW_s hw) rfl rfl ⟨rfl, rfl⟩ rfl ?_
  refine kG.iconst (v := nI 0) 33 dX3_prepare_32 (by decide) rfl ?_
  refine kG.istore_n 34 dX3_prepare_33 (by decide) rfl rfl ?_
  dsimp only [List.set]
  refine gG_weak (prep_loop Γ hw ht hD ok aw _ (dP D) 0 _ (by omega) (fun k a b => by rw [uI_off a, uI_off a, uI_off a, uI_off a]) rfl (fun j hj => absurd hj (Nat.not_lt_zero _))) (fun r μ2 q2 z => ?_)
  obtain ⟨z1, z2, z3, z4, z5⟩ := z
  refine ⟨z1, z2, z3, ?_, z5⟩
  rw [z4]
  refine ⟨?_, ?_, ?_, ?_⟩
  · rw [uI_ne (Or.inr (by decide)), uI_ne (Or.inr (by decide)), uI_ne (Or.inr (by decide)), uI_same]
  · rw [uI_ne (Or.inr (by decide)), uI_ne (Or.inr (by decide)), uI_same]
  · rw [uI_ne (Or.inr (by decide)), uI_same]
  · rw [uI_same]
