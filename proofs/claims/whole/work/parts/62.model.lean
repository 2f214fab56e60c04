set_option maxHeartbeats 4000000 in
theorem ilt_l (Γ : kGm) {μ : kM} {q : kq4} {u d : Nat} (hu : u < 2 ^ 31) (hd : d < 2 ^ 31) (hd0 : 0 < d) {w : Int32} : ∀ (m y x : Nat) (z9 : Option Value), y ≤ m → x < 2 ^ 31 → y < 2 ^ 31 → Nat.gcd x y = Nat.gcd u d → gG Γ mX5_inLeastTerms 1 6 [some (.long (lN u)), none, some (.long (lN d)), none, some (.int w), some (.long (lN x)), none, some (.long (lN y)), none, z9, none] [] μ q (fun r μ' q' => r = some (.long (shN u d (decide (w = nI 0)))) ∧ μ' = μ ∧ q' = q) := by
  intro m
  induction m with
  | zero =>
    intro y x z9 hm hx hy hg
    refine kG.lload 8 dX5_inLeastTerms_6 rfl rfl ?_
    refine kG.lconst (v := 0) 9 dX5_inLeastTerms_8 (by decide) rfl ?_
    refine kG.lcmp 10 dX5_inLeastTerms_9 rfl ?_
    refine kG.if_eq 31 13 dX5_inLeastTerms_10 (by decide) rfl (fun h10 => ?_) (fun h10 => ?_)
    · have ey : y = 0 := (cmp_0 hy).mp h10
      subst ey
      rw [Nat.gcd_zero_right] at hg
      have hx0 : 0 < x := by rw [hg]; exact Nat.gcd_pos_of_pos_right u hd0
      refine kG.iload 33 dX5_inLeastTerms_31 rfl rfl ?_
      refine kG.if_ne 43 36 dX5_inLeastTerms_33 (by decide) rfl (fun h33 => ?_) (fun h33 => ?_)
      · have hw0 : ¬ w = nI 0 := h33
        refine kG.lload_n 44 dX5_inLeastTerms_43 rfl rfl ?_
        refine kG.lload 46 dX5_inLeastTerms_44 rfl rfl ?_
        refine kG.ldiv 47 dX5_inLeastTerms_46 rfl (fun z => absurd ((lN_0 hx).mp z) (by omega)) ?_
        rw [lN_dv hd hx]
        refine gG.lret dX5_inLeastTerms_47 rfl ?_
        refine ⟨?_, rfl, rfl⟩
        unfold shN
        rw [if_neg (by omega), ← hg]
        first | (rw [decide_eq_true hw0]; rfl) | (rw [decide_eq_false hw0]; rfl)
      · have hw0 : w = nI 0 := h33
        refine kG.lload_n 37 dX5_inLeastTerms_36 rfl rfl ?_
        refine kG.lload 39 dX5_inLeastTerms_37 rfl rfl ?_
        refine kG.ldiv 40 dX5_inLeastTerms_39 rfl (fun z => absurd ((lN_0 hx).mp z) (by omega)) ?_
        rw [lN_dv hu hx]
        refine kG.goto 47 dX5_inLeastTerms_40 (by decide) ?_
        refine gG.lret dX5_inLeastTerms_47 rfl ?_
        refine ⟨?_, rfl, rfl⟩
        unfold shN
        rw [if_neg (by omega), ← hg]
        first | (rw [decide_eq_true hw0]; rfl) | (rw [decide_eq_false hw0]; rfl)
    · exact absurd ((cmp_0 hy).mpr (by omega)) h10
  | succ m ih =>
    intro y x z9 hm hx hy hg
    refine kG.lload 8 dX5_inLeastTerms_6 rfl rfl ?_
    refine kG.lconst (v := 0) 9 dX5_inLeastTerms_8 (by decide) rfl ?_
    refine kG.lcmp 10 dX5_inLeastTerms_9 rfl ?_
    refine kG.if_eq 31 13 dX5_inLeastTerms_10 (by decide) rfl (fun h10 => ?_) (fun h10 => ?_)
    · have ey : y = 0 := (cmp_0 hy).mp h10
      subst ey
      rw [Nat.gcd_zero_right] at hg
      have hx0 : 0 < x := by rw [hg]; exact Nat.gcd_pos_of_pos_right u hd0
      refine kG.iload 33 dX5_inLeastTerms_31 rfl rfl ?_
      refine kG.if_ne 43 36 dX5_inLeastTerms_33 (by decide) rfl (fun h33 => ?_) (fun h33 => ?_)
      · have hw0 : ¬ w = nI 0 := h33
        refine kG.lload_n 44 dX5_inLeastTerms_43 rfl rfl ?_
        refine kG.lload 46 dX5_inLeastTerms_44 rfl rfl ?_
        refine kG.ldiv 47 dX5_inLeastTerms_46 rfl (fun z => absurd ((lN_0 hx).mp z) (by omega)) ?_
        rw [lN_dv hd hx]
        refine gG.lret dX5_inLeastTerms_47 rfl ?_
        refine ⟨?_, rfl, rfl⟩
        unfold shN
        rw [if_neg (by omega), ← hg]
        first | (rw [decide_eq_true hw0]; rfl) | (rw [decide_eq_false hw0]; rfl)
      · have hw0 : w = nI 0 := h33
        refine kG.lload_n 37 dX5_inLeastTerms_36 rfl rfl ?_
        refine kG.lload 39 dX5_inLeastTerms_37 rfl rfl ?_
        refine kG.ldiv 40 dX5_inLeastTerms_39 rfl (fun z => absurd ((lN_0 hx).mp z) (by omega)) ?_
        rw [lN_dv hu hx]
        refine kG.goto 47 dX5_inLeastTerms_40 (by decide) ?_
        refine gG.lret dX5_inLeastTerms_47 rfl ?_
        refine ⟨?_, rfl, rfl⟩
        unfold shN
        rw [if_neg (by omega), ← hg]
        first | (rw [decide_eq_true hw0]; rfl) | (rw [decide_eq_false hw0]; rfl)
    · have ey : ¬ y = 0 := fun z => h10 ((cmp_0 hy).mpr z)
      have hy0 : 0 < y := by omega
      refine kG.lload 15 dX5_inLeastTerms_13 rfl rfl ?_
      refine kG.lload 17 dX5_inLeastTerms_15 rfl rfl ?_
      refine kG.lrem 18 dX5_inLeastTerms_17 rfl (fun z => ey ((lN_0 hy).mp z)) ?_
      rw [lN_rm hx hy]
      refine kG.lstore 20 dX5_inLeastTerms_18 (by decide) rfl rfl ?_
      dsimp only [List.set]
      refine kG.lload 22 dX5_inLeastTerms_20 rfl rfl ?_
      refine kG.lstore 24 dX5_inLeastTerms_22 (by decide) rfl rfl ?_
      dsimp only [List.set]
      refine kG.lload 26 dX5_inLeastTerms_24 rfl rfl ?_
      refine kG.lstore 28 dX5_inLeastTerms_26 (by decide) rfl rfl ?_
      dsimp only [List.set]
      refine kG.goto 6 dX5_inLeastTerms_28 (by decide) ?_
      exact ih (x % y) y (some (.long (lN (x % y)))) (by have := Nat.mod_lt x hy0; omega) hy (by have := Nat.mod_lt x hy0; omega) (by rw [← hg, gcd_b x y])
set_option maxHeartbeats 4000000 in
theorem m_inLeast (Γ : kGm) {μ : kM} {q : kq4} {u d : Nat} (hu : u < 2 ^ 31) (hd : d < 2 ^ 31) (hd0 : 0 < d) (w : Int32) : gC Γ yX5_inLeastTerms mX5_inLeastTerms 1 [.long (lN u), .long (lN d), .int w] μ q (fun r μ' q' => r = some (.long (shN u d (decide (w = nI 0)))) ∧ μ' = μ ∧ q' = q) := by
  refine gC.ofG (n := 0) ⟨by decide +kernel, rfl, rfl, by decide⟩ (Nat.le_of_ble_eq_true rfl) ?_
  show gG Γ mX5_inLeastTerms 1 0 [some (.long (lN u)), none, some (.long (lN d)), none, some (.int w), none, none, none, none, none, none] [] μ q _
  refine kG.lload_n 1 dX5_inLeastTerms_0 rfl rfl ?_
  refine kG.lstore 3 dX5_inLeastTerms_1 (by decide) rfl rfl ?_
  dsimp only [List.set]
  refine kG.lload_n 4 dX5_inLeastTerms_3 rfl rfl ?_
  refine kG.lstore 6 dX5_inLeastTerms_4 (by decide) rfl rfl ?_
  dsimp only [List.set]
  exact ilt_l Γ hu hd hd0 d d u none (Nat.le_refl _) hu hd rfl
