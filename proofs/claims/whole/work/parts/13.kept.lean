theorem lnK_b {a : Nat} (h : isK a) : lnK a < 1000 := by rcases h with rfl | rfl <;> decide
theorem lnK_8 {a : Nat} (h : isK a) : lnK a ≤ 8 := by rcases h with rfl | rfl <;> decide
theorem mk_t {f : Nat → Bool} {p : Nat} (h : f p = true) : mk f (p + 1) = mk f p ||| 2 ^ p := by simp [mk, h]
theorem mk_f {f : Nat → Bool} {p : Nat} (h : f p = false) : mk f (p + 1) = mk f p := by simp [mk, h]
theorem nI_ne {a b : Nat} (ha : a < 2 ^ 31) (hb : b < 2 ^ 31) (h : a ≠ b) : ¬ nI a = nI b := fun z => h ((nI_eq ha hb).mp z)
set_option maxHeartbeats 4000000 in
theorem c_breaksBy (Γ : kGm) {μ : kM} {q : kq4} {t : Nat} (ht : isT t) (h be x : Nat) (hh : h < 4) (hbe : be ≤ 9) (hx : x < 2 ^ 30) (hb : μ (t + 1 + 1) h = nI be) : gC Γ yX2_breaksBy mX2_breaksBy 1 [.ref t, .int (nI h), .int (nI x)] μ q (fun r μ' q' => r = some (.int (b2 (decide (10 * be ≤ x)))) ∧ μ' = μ ∧ q' = q) := by
  refine gC.ofG (n := 0) ⟨by decide +kernel, rfl, rfl, by decide⟩ (Nat.le_of_ble_eq_true rfl) ?_
  show gG Γ mX2_breaksBy 1 0 [some (.ref t), some (.int (nI h)), some (.int (nI x))] [] μ q _
  refine kG.iload_n 1 dX2_breaksBy_0 rfl rfl ?_
  refine kG.bipush (v := nI 10) 3 dX2_breaksBy_1 (by decide) rfl ?_
  refine kG.aload_n 4 dX2_breaksBy_3 rfl rfl ?_
  refine gG.getP 7 dX2_breaksBy_4 fX2_15 (isT_k ht) (isT_s ht) rfl (PI_T ht (by decide)) rfl ?_
  refine kG.iload_n 8 dX2_breaksBy_7 rfl rfl ?_
  refine gG.iald (n := 4) _ 9 dX2_breaksBy_8 (arT_k ht (by decide)) (arT_s ht (by decide)) rfl (by omega) (by decide) rfl ?_
  refine kG.imul 10 dX2_breaksBy_9 rfl ?_
  refine kG.icmp_lt 17 13 dX2_breaksBy_10 (by decide) rfl (fun h10 => ?_) (fun h10 => ?_)
  · rw [hb, pk_mul] at h10
    have hd : ¬ 10 * be ≤ x := by have := (nI_ltI (by omega) (by omega)).mp h10; omega
    refine kG.iconst (v := nI 0) 18 dX2_breaksBy_17 (by decide) rfl ?_
    refine gG.zret dX2_breaksBy_18 rfl rfl ?_
    exact ⟨by simp [b2, hd], rfl, rfl⟩
  · rw [hb, pk_mul] at h10
    have hd : 10 * be ≤ x := Nat.not_lt.mp fun z => h10 (nI_lt z (by omega))
    refine kG.iconst (v := nI 1) 14 dX2_breaksBy_13 (by decide) rfl ?_
    refine kG.goto 18 dX2_breaksBy_14 (by decide) ?_
    refine gG.zret dX2_breaksBy_18 rfl rfl ?_
    exact ⟨by simp [b2, hd], rfl, rfl⟩
set_option maxHeartbeats 4000000 in
theorem dwel_loop (Γ : kGm) {μ : kM} {q : kq4} {t : Nat} (ht : isT t) {D : Dt} (hD : TD D t μ) (ok : okD D) (h : Nat) (hh : h < 2 ^ 30) : ∀ (m i : Nat), i + m = dP D → gG Γ mX2_dwellersOf 1 4 [some (.ref t), some (.int (nI h)), some (.int (nI (mk (fun p => decide (dho D p = h)) i))), some (.int (nI i))] [] (μ) q (fun r μ' q' => r = some (.int (nI (mk (fun p => decide (dho D p = h)) (dP D)))) ∧ μ' = μ ∧ q' = q) := by
  intro m
  induction m with
  | zero =>
    intro i hm
    refine kG.iload_n 5 dX2_dwellersOf_4 rfl rfl ?_
    refine kG.aload_n 6 dX2_dwellersOf_5 rfl rfl ?_
    refine gG.getI 9 dX2_dwellersOf_6 fX2_40 (isT_k ht) (isT_s ht) rfl rfl ?_
    refine kG.icmp_ge 38 12 dX2_dwellersOf_9 (by decide) rfl (fun h9 => ?_) (fun h9 => ?_)
    · refine kG.iload_n 39 dX2_dwellersOf_38 rfl rfl ?_
      refine gG.iret dX2_dwellersOf_39 rfl ?_
      rw [show i = dP D by omega]
      exact ⟨rfl, rfl, rfl⟩
    · rw [hD.2.1] at h9
      exact absurd (nI_le (by omega) (by have := ok.2.1; omega)) h9
  | succ m ih =>
    intro i hm
    have hP := ok.2.1
    have hH := ok.1
    have hho := (ok.2.2.2 i (by omega)).2.2.1
    refine kG.iload_n 5 dX2_dwellersOf_4 rfl rfl ?_
    refine kG.aload_n 6 dX2_dwellersOf_5 rfl rfl ?_
    refine gG.getI 9 dX2_dwellersOf_6 fX2_40 (isT_k ht) (isT_s ht) rfl rfl ?_
    refine kG.icmp_ge 38 12 dX2_dwellersOf_9 (by decide) rfl (fun h9 => ?_) (fun h9 => ?_)
    · rw [hD.2.1] at h9
      exact absurd h9 (nI_ge (by omega) (by omega))
    · refine kG.iload_n 13 dX2_dwellersOf_12 rfl rfl ?_
      refine kG.aload_n 14 dX2_dwellersOf_13 rfl rfl ?_
      refine gG.getP 17 dX2_dwellersOf_14 fX2_24 (isT_k ht) (isT_s ht) rfl (PI_T ht (by decide)) rfl ?_
      refine kG.iload_n 18 dX2_dwellersOf_17 rfl rfl ?_
      refine gG.iald (n := 6) _ 19 dX2_dwellersOf_18 (arT_k ht (by decide)) (arT_s ht (by decide)) rfl (by omega) (by decide) rfl ?_
      refine kG.iload_n 20 dX2_dwellersOf_19 rfl rfl ?_
      refine kG.icmp_ne 29 23 dX2_dwellersOf_20 (by decide) rfl (fun h20 => ?_) (fun h20 => ?_)
      · have hb : (fun p => decide (dho D p = h)) i = false := decide_eq_false (fun z => h20 (by rw [(hD.2.2.2 i (by omega)).2.2.1, z]))
        refine kG.iconst (v := nI 0) 30 dX2_dwellersOf_29 (by decide) rfl ?_
        refine kG.ior 31 dX2_dwellersOf_30 rfl ?_
        first | rw [n_shl (by omega), n_or, ← mk_t (f := (fun p => decide (dho D p = h))) hb] | rw [n_or, Nat.or_zero, ← mk_f (f := (fun p => decide (dho D p = h))) hb]
        refine kG.istore_n 32 dX2_dwellersOf_31 (by decide) rfl rfl ?_
        dsimp only [List.set]
        refine kG.iinc (v := nI (i + 1)) 35 dX2_dwellersOf_32 rfl (nI_1 i) (by decide) rfl rfl ?_
        dsimp only [List.set]
        refine kG.goto 4 dX2_dwellersOf_35 (by decide) ?_
        exact ih (i + 1) (by omega)
      · rw [(hD.2.2.2 i (by omega)).2.2.1] at h20
        have hb : (fun p => decide (dho D p = h)) i = true := decide_eq_true ((nI_eq (by omega) (by omega)).mp h20)
        refine kG.iconst (v := nI 1) 24 dX2_dwellersOf_23 (by decide) rfl ?_
        refine kG.iload_n 25 dX2_dwellersOf_24 rfl rfl ?_
        refine kG.ishl 26 dX2_dwellersOf_25 rfl ?_
        refine kG.goto 30 dX2_dwellersOf_26 (by decide) ?_
        refine kG.ior 31 dX2_dwellersOf_30 rfl ?_
        first | rw [n_shl (by omega), n_or, ← mk_t (f := (fun p => decide (dho D p = h))) hb] | rw [n_or, Nat.or_zero, ← mk_f (f := (fun p => decide (dho D p = h))) hb]
        refine kG.istore_n 32 dX2_dwellersOf_31 (by decide) rfl rfl ?_
        dsimp only [List.set]
        refine kG.iinc (v := nI (i + 1)) 35 dX2_dwellersOf_32 rfl (nI_1 i) (by decide) rfl rfl ?_
        dsimp only [List.set]
        refine kG.goto 4 dX2_dwellersOf_35 (by decide) ?_
        exact ih (i + 1) (by omega)
set_option maxHeartbeats 4000000 in
theorem c_dwellersOf (Γ : kGm) {μ : kM} {q : kq4} {t : Nat} (ht : isT t) {D : Dt} (hD : TD D t μ) (ok : okD D) (h : Nat) (hh : h < 2 ^ 30) : gC Γ yX2_dwellersOf mX2_dwellersOf 1 [.ref t, .int (nI h)] μ q (fun r μ' q' => r = some (.int (nI (mk (fun p => decide (dho D p = h)) (dP D)))) ∧ μ' = μ ∧ q' = q) := by
  refine gC.ofG (n := 0) ⟨by decide +kernel, rfl, rfl, by decide⟩ (Nat.le_of_ble_eq_true rfl) ?_
  show gG Γ mX2_dwellersOf 1 0 [some (.ref t), some (.int (nI h)), none, none] [] μ q _
  refine kG.iconst (v := nI 0) 1 dX2_dwellersOf_0 (by decide) rfl ?_
  refine kG.istore_n 2 dX2_dwellersOf_1 (by decide) rfl rfl ?_
  dsimp only [List.set]
  refine kG.iconst (v := nI 0) 3 dX2_dwellersOf_2 (by decide) rfl ?_
  refine kG.istore_n 4 dX2_dwellersOf_3 (by decide) rfl rfl ?_
  dsimp only [List.set]
  exact dwel_loop Γ ht hD ok h hh (dP D) 0 (by omega)
set_option maxHeartbeats 4000000 in
theorem town_loop (Γ : kGm) {μ : kM} {q : kq4} {t : Nat} (ht : isT t) {D : Dt} (hD : TD D t μ) (ok : okD D) (inn : Nat) (hi : inn ≤ 1) (x y : Int32) : ∀ (m i : Nat), i + m = dP D → gG Γ mX2_townIn 1 17 [some (.ref t), some (.int x), some (.int y), some (.int (nI inn)), some (.int (nI (mk (fun p => decide (dtw D p = inn)) i))), some (.int (nI i))] [] (μ) q (fun r μ' q' => r = some (.int (nI (mk (fun p => decide (dtw D p = inn)) (dP D)))) ∧ μ' = μ ∧ q' = q) := by
  intro m
  induction m with
  | zero =>
    intro i hm
    refine kG.iload 19 dX2_townIn_17 rfl rfl ?_
    refine kG.aload_n 20 dX2_townIn_19 rfl rfl ?_
    refine gG.getI 23 dX2_townIn_20 fX2_40 (isT_k ht) (isT_s ht) rfl rfl ?_
    refine kG.icmp_ge 56 26 dX2_townIn_23 (by decide) rfl (fun h23 => ?_) (fun h23 => ?_)
    · refine kG.iload 58 dX2_townIn_56 rfl rfl ?_
      refine gG.iret dX2_townIn_58 rfl ?_
      rw [show i = dP D by omega]
      exact ⟨rfl, rfl, rfl⟩
    · rw [hD.2.1] at h23
      exact absurd (nI_le (by omega) (by have := ok.2.1; omega)) h23
  | succ m ih =>
    intro i hm
    have hP := ok.2.1
    have htw := (ok.2.2.2 i (by omega)).2.1
    refine kG.iload 19 dX2_townIn_17 rfl rfl ?_
    refine kG.aload_n 20 dX2_townIn_19 rfl rfl ?_
    refine gG.getI 23 dX2_townIn_20 fX2_40 (isT_k ht) (isT_s ht) rfl rfl ?_
    refine kG.icmp_ge 56 26 dX2_townIn_23 (by decide) rfl (fun h23 => ?_) (fun h23 => ?_)
    · rw [hD.2.1] at h23
      exact absurd h23 (nI_ge (by omega) (by omega))
    · refine kG.iload 28 dX2_townIn_26 rfl rfl ?_
      refine kG.aload_n 29 dX2_townIn_28 rfl rfl ?_
      refine gG.getP 32 dX2_townIn_29 fX2_21 (isT_k ht) (isT_s ht) rfl (PI_T ht (by decide)) rfl ?_
      refine kG.iload 34 dX2_townIn_32 rfl rfl ?_
      refine gG.iald (n := 6) _ 35 dX2_townIn_34 (arT_k ht (by decide)) (arT_s ht (by decide)) rfl (by omega) (by decide) rfl ?_
      refine kG.iload_n 36 dX2_townIn_35 rfl rfl ?_
      refine kG.icmp_ne 46 39 dX2_townIn_36 (by decide) rfl (fun h36 => ?_) (fun h36 => ?_)
      · have hb : (fun p => decide (dtw D p = inn)) i = false := decide_eq_false (fun z => h36 (by rw [(hD.2.2.2 i (by omega)).2.1, z]))
        refine kG.iconst (v := nI 0) 47 dX2_townIn_46 (by decide) rfl ?_
        refine kG.ior 48 dX2_townIn_47 rfl ?_
        first | rw [n_shl (by omega), n_or, ← mk_t (f := (fun p => decide (dtw D p = inn))) hb] | rw [n_or, Nat.or_zero, ← mk_f (f := (fun p => decide (dtw D p = inn))) hb]
        refine kG.istore 50 dX2_townIn_48 (by decide) rfl rfl ?_
        dsimp only [List.set]
        refine kG.iinc (v := nI (i + 1)) 53 dX2_townIn_50 rfl (nI_1 i) (by decide) rfl rfl ?_
        dsimp only [List.set]
        refine kG.goto 17 dX2_townIn_53 (by decide) ?_
        exact ih (i + 1) (by omega)
      · rw [(hD.2.2.2 i (by omega)).2.1] at h36
        have hb : (fun p => decide (dtw D p = inn)) i = true := decide_eq_true ((nI_eq (by omega) (by omega)).mp h36)
        refine kG.iconst (v := nI 1) 40 dX2_townIn_39 (by decide) rfl ?_
        refine kG.iload 42 dX2_townIn_40 rfl rfl ?_
        refine kG.ishl 43 dX2_townIn_42 rfl ?_
        refine kG.goto 47 dX2_townIn_43 (by decide) ?_
        refine kG.ior 48 dX2_townIn_47 rfl ?_
        first | rw [n_shl (by omega), n_or, ← mk_t (f := (fun p => decide (dtw D p = inn))) hb] | rw [n_or, Nat.or_zero, ← mk_f (f := (fun p => decide (dtw D p = inn))) hb]
        refine kG.istore 50 dX2_townIn_48 (by decide) rfl rfl ?_
        dsimp only [List.set]
        refine kG.iinc (v := nI (i + 1)) 53 dX2_townIn_50 rfl (nI_1 i) (by decide) rfl rfl ?_
        dsimp only [List.set]
        refine kG.goto 17 dX2_townIn_53 (by decide) ?_
        exact ih (i + 1) (by omega)
set_option maxHeartbeats 4000000 in
theorem c_townIn (Γ : kGm) {μ : kM} {q : kq4} {t : Nat} (ht : isT t) {D : Dt} (hD : TD D t μ) (ok : okD D) (a b : Nat) (ha : a < 2 ^ 30) (hb : b < 2 ^ 30) : gC Γ yX2_townIn mX2_townIn 1 [.ref t, .int (nI a), .int (nI b)] μ q (fun r μ' q' => r = some (.int (nI (mk (fun p => decide (dtw D p = if a < b then 0 else 1)) (dP D)))) ∧ μ' = μ ∧ q' = q) := by
  refine gC.ofG (n := 0) ⟨by decide +kernel, rfl, rfl, by decide⟩ (Nat.le_of_ble_eq_true rfl) ?_
  show gG Γ mX2_townIn 1 0 [some (.ref t), some (.int (nI a)), some (.int (nI b)), none, none, none] [] μ q _
  refine kG.iload_n 1 dX2_townIn_0 rfl rfl ?_
  refine kG.iload_n 2 dX2_townIn_1 rfl rfl ?_
  refine kG.icmp_ge 9 5 dX2_townIn_2 (by decide) rfl (fun h2 => ?_) (fun h2 => ?_)
  · have e : (if a < b then 0 else 1) = 1 := if_neg (by have := (nI_leI (by omega) (by omega)).mp h2; omega)
    refine kG.iconst (v := nI 1) 10 dX2_townIn_9 (by decide) rfl ?_
    refine kG.istore_n 11 dX2_townIn_10 (by decide) rfl rfl ?_
    dsimp only [List.set]
    refine kG.iconst (v := nI 0) 12 dX2_townIn_11 (by decide) rfl ?_
    refine kG.istore 14 dX2_townIn_12 (by decide) rfl rfl ?_
    dsimp only [List.set]
    refine kG.iconst (v := nI 0) 15 dX2_townIn_14 (by decide) rfl ?_
    refine kG.istore 17 dX2_townIn_15 (by decide) rfl rfl ?_
    dsimp only [List.set]
    rw [e]
    exact town_loop Γ ht hD ok _ (by decide) _ _ (dP D) 0 (by omega)
  · have e : (if a < b then 0 else 1) = 0 := if_pos (Nat.not_le.mp fun z => h2 (nI_le z (by omega)))
    refine kG.iconst (v := nI 0) 6 dX2_townIn_5 (by decide) rfl ?_
    refine kG.goto 10 dX2_townIn_6 (by decide) ?_
    refine kG.istore_n 11 dX2_townIn_10 (by decide) rfl rfl ?_
    dsimp only [List.set]
    refine kG.iconst (v := nI 0) 12 dX2_townIn_11 (by decide) rfl ?_
    refine kG.istore 14 dX2_townIn_12 (by decide) rfl rfl ?_
    dsimp only [List.set]
    refine kG.iconst (v := nI 0) 15 dX2_townIn_14 (by decide) rfl ?_
    refine kG.istore 17 dX2_townIn_15 (by decide) rfl rfl ?_
    dsimp only [List.set]
    rw [e]
    exact town_loop Γ ht hD ok _ (by decide) _ _ (dP D) 0 (by omega)
set_option maxHeartbeats 4000000 in
theorem sum_loop (Γ : kGm) {μ : kM} {q : kq4} {k : Nat} (hk : isK k) {G : Kp} (hG : KD G k μ) (ok : okG G) (hn : G.1 ≤ lnK k) (h w : Nat) (hh : h < 2 ^ 30) (hw : w < 2 ^ 30) : ∀ (m i : Nat), i + m = G.1 → gG Γ mX0_sumOf 1 5 [some (.ref k), some (.int (nI h)), some (.int (nI w)), some (.int (nI (gsN G h w i))), some (.int (nI i))] [] (μ) q (fun r μ' q' => r = some (.int (nI (gsN G h w G.1))) ∧ μ' = μ ∧ q' = q) := by
  intro m
  induction m with
  | zero =>
    intro i hm
    have h8 := lnK_8 hk
    refine kG.iload 7 dX0_sumOf_5 rfl rfl ?_
    refine kG.aload_n 8 dX0_sumOf_7 rfl rfl ?_
    refine gG.getI 11 dX0_sumOf_8 fX0_9 (isK_k hk) (isK_s hk) rfl rfl ?_
    refine kG.icmp_ge 56 14 dX0_sumOf_11 (by decide) rfl (fun h11 => ?_) (fun h11 => ?_)
    · refine kG.iload_n 57 dX0_sumOf_56 rfl rfl ?_
      refine gG.iret dX0_sumOf_57 rfl ?_
      rw [show i = G.1 by omega]
      exact ⟨rfl, rfl, rfl⟩
    · rw [hG.1] at h11
      exact absurd (nI_le (by omega) (by omega)) h11
  | succ m ih =>
    intro i hm
    have h8 := lnK_8 hk
    obtain ⟨g1, g2, g3⟩ := hG.2 i (by omega)
    obtain ⟨o1, o2, o3⟩ := ok i (by omega)
    refine kG.iload 7 dX0_sumOf_5 rfl rfl ?_
    refine kG.aload_n 8 dX0_sumOf_7 rfl rfl ?_
    refine gG.getI 11 dX0_sumOf_8 fX0_9 (isK_k hk) (isK_s hk) rfl rfl ?_
    refine kG.icmp_ge 56 14 dX0_sumOf_11 (by decide) rfl (fun h11 => ?_) (fun h11 => ?_)
    · rw [hG.1] at h11
      exact absurd h11 (nI_ge (by omega) (by omega))
    · refine kG.iload_n 15 dX0_sumOf_14 rfl rfl ?_
      refine kG.aload_n 16 dX0_sumOf_15 rfl rfl ?_
      refine gG.getP 19 dX0_sumOf_16 fX0_24 (isK_k hk) (isK_s hk) rfl (PI_K hk (by decide) (by decide)) rfl ?_
      refine kG.iload 21 dX0_sumOf_19 rfl rfl ?_
      refine gG.iald _ 22 dX0_sumOf_21 (arK_k hk (by decide)) (arK_s hk (by decide) (by decide)) rfl (by omega) (lnK_b hk) rfl ?_
      refine kG.iload_n 23 dX0_sumOf_22 rfl rfl ?_
      refine kG.icmp_ne 47 26 dX0_sumOf_23 (by decide) rfl (fun h23 => ?_) (fun h23 => ?_)
      · have hb : ¬ (G.2.1 i = h ∧ G.2.2.1 i = w) := fun z => h23 (by rw [g1, z.1])
        refine kG.iconst (v := nI 0) 48 dX0_sumOf_47 (by decide) rfl ?_
        refine kG.iadd 49 dX0_sumOf_48 rfl ?_
        first | rw [g3, nI_add, show gsN G h w i + G.2.2.2 i = gsN G h w (i + 1) by rw [gsN, if_pos hb]] | rw [nI_add, show gsN G h w i + 0 = gsN G h w (i + 1) by rw [gsN, if_neg hb]]
        refine kG.istore_n 50 dX0_sumOf_49 (by decide) rfl rfl ?_
        dsimp only [List.set]
        refine kG.iinc (v := nI (i + 1)) 53 dX0_sumOf_50 rfl (nI_1 i) (by decide) rfl rfl ?_
        dsimp only [List.set]
        refine kG.goto 5 dX0_sumOf_53 (by decide) ?_
        exact ih (i + 1) (by omega)
      · rw [g1] at h23
        have hb1 : G.2.1 i = h := (nI_eq (by omega) (by omega)).mp h23
        refine kG.aload_n 27 dX0_sumOf_26 rfl rfl ?_
        refine gG.getP 30 dX0_sumOf_27 fX0_28 (isK_k hk) (isK_s hk) rfl (PI_K hk (by decide) (by decide)) rfl ?_
        refine kG.iload 32 dX0_sumOf_30 rfl rfl ?_
        refine gG.iald _ 33 dX0_sumOf_32 (arK_k hk (by decide)) (arK_s hk (by decide) (by decide)) rfl (by omega) (lnK_b hk) rfl ?_
        refine kG.iload_n 34 dX0_sumOf_33 rfl rfl ?_
        refine kG.icmp_ne 47 37 dX0_sumOf_34 (by decide) rfl (fun h34 => ?_) (fun h34 => ?_)
        · have hb : ¬ (G.2.1 i = h ∧ G.2.2.1 i = w) := fun z => h34 (by rw [g2, z.2])
          refine kG.iconst (v := nI 0) 48 dX0_sumOf_47 (by decide) rfl ?_
          refine kG.iadd 49 dX0_sumOf_48 rfl ?_
          first | rw [g3, nI_add, show gsN G h w i + G.2.2.2 i = gsN G h w (i + 1) by rw [gsN, if_pos hb]] | rw [nI_add, show gsN G h w i + 0 = gsN G h w (i + 1) by rw [gsN, if_neg hb]]
          refine kG.istore_n 50 dX0_sumOf_49 (by decide) rfl rfl ?_
          dsimp only [List.set]
          refine kG.iinc (v := nI (i + 1)) 53 dX0_sumOf_50 rfl (nI_1 i) (by decide) rfl rfl ?_
          dsimp only [List.set]
          refine kG.goto 5 dX0_sumOf_53 (by decide) ?_
          exact ih (i + 1) (by omega)
        · rw [g2] at h34
          have hb2 : G.2.2.1 i = w := (nI_eq (by omega) (by omega)).mp h34
          have hb : G.2.1 i = h ∧ G.2.2.1 i = w := ⟨hb1, hb2⟩
          refine kG.aload_n 38 dX0_sumOf_37 rfl rfl ?_
          refine gG.getP 41 dX0_sumOf_38 fX0_31 (isK_k hk) (isK_s hk) rfl (PI_K hk (by decide) (by decide)) rfl ?_
          refine kG.iload 43 dX0_sumOf_41 rfl rfl ?_
          refine gG.iald _ 44 dX0_sumOf_43 (arK_k hk (by decide)) (arK_s hk (by decide) (by decide)) rfl (by omega) (lnK_b hk) rfl ?_
          refine kG.goto 48 dX0_sumOf_44 (by decide) ?_
          refine kG.iadd 49 dX0_sumOf_48 rfl ?_
          first | rw [g3, nI_add, show gsN G h w i + G.2.2.2 i = gsN G h w (i + 1) by rw [gsN, if_pos hb]] | rw [nI_add, show gsN G h w i + 0 = gsN G h w (i + 1) by rw [gsN, if_neg hb]]
          refine kG.istore_n 50 dX0_sumOf_49 (by decide) rfl rfl ?_
          dsimp only [List.set]
          refine kG.iinc (v := nI (i + 1)) 53 dX0_sumOf_50 rfl (nI_1 i) (by decide) rfl rfl ?_
          dsimp only [List.set]
          refine kG.goto 5 dX0_sumOf_53 (by decide) ?_
          exact ih (i + 1) (by omega)
set_option maxHeartbeats 4000000 in
theorem c_sumOf (Γ : kGm) {μ : kM} {q : kq4} {k : Nat} (hk : isK k) {G : Kp} (hG : KD G k μ) (ok : okG G) (hn : G.1 ≤ lnK k) (h w : Nat) (hh : h < 2 ^ 30) (hw : w < 2 ^ 30) : gC Γ yX0_sumOf mX0_sumOf 1 [.ref k, .int (nI h), .int (nI w)] μ q (fun r μ' q' => r = some (.int (nI (gsN G h w G.1))) ∧ μ' = μ ∧ q' = q) := by
  refine gC.ofG (n := 0) ⟨by decide +kernel, rfl, rfl, by decide⟩ (Nat.le_of_ble_eq_true rfl) ?_
  show gG Γ mX0_sumOf 1 0 [some (.ref k), some (.int (nI h)), some (.int (nI w)), none, none] [] μ q _
  refine kG.iconst (v := nI 0) 1 dX0_sumOf_0 (by decide) rfl ?_
  refine kG.istore_n 2 dX0_sumOf_1 (by decide) rfl rfl ?_
  dsimp only [List.set]
  refine kG.iconst (v := nI 0) 3 dX0_sumOf_2 (by decide) rfl ?_
  refine kG.istore 5 dX0_sumOf_3 (by decide) rfl rfl ?_
  dsimp only [List.set]
  exact sum_loop Γ hk hG ok hn h w hh hw G.1 0 (by omega)
set_option maxHeartbeats 4000000 in
theorem c_keep (Γ : kGm) {μ : kM} {q : kq4} {k : Nat} (hk : isK k) {G : Kp} (hG : KD G k μ) (hm : μ k 0 = nI (lnK k)) (hn : G.1 ≤ lnK k) (x y z : Int32) : gC Γ yX0_keep mX0_keep 1 [.ref k, .int x, .int y, .int z] μ q (fun r μ' q' => (G.1 = lnK k ∧ r = some (.int (-4)) ∧ μ' = μ ∧ q' = q) ∨ (G.1 < lnK k ∧ r = some (.int (nI G.1)) ∧ μ' = uI (uI (uI (uI μ (k + 1) G.1 x) (k + 2) G.1 y) (k + 3) G.1 z) k 4 (nI (G.1 + 1)) ∧ q' = q)) := by
  refine gC.ofG (n := 0) ⟨by decide +kernel, rfl, rfl, by decide⟩ (Nat.le_of_ble_eq_true rfl) ?_
  show gG Γ mX0_keep 1 0 [some (.ref k), some (.int x), some (.int y), some (.int z)] [] μ q _
  have h8 := lnK_8 hk
  refine kG.aload_n 1 dX0_keep_0 rfl rfl ?_
  refine gG.getI 4 dX0_keep_1 fX0_9 (isK_k hk) (isK_s hk) rfl rfl ?_
  refine kG.aload_n 5 dX0_keep_4 rfl rfl ?_
  refine gG.getI 8 dX0_keep_5 fX0_21 (isK_k hk) (isK_s hk) rfl rfl ?_
  refine kG.icmp_lt 14 11 dX0_keep_8 (by decide) rfl (fun h8_ => ?_) (fun h8_ => ?_)
  · rw [hG.1, hm] at h8_
    have hlt := (nI_ltI (by omega) (by omega)).mp h8_
    refine kG.aload_n 15 dX0_keep_14 rfl rfl ?_
    refine gG.getP 18 dX0_keep_15 fX0_24 (isK_k hk) (isK_s hk) rfl (PI_K hk (by decide) (by decide)) rfl ?_
    refine kG.aload_n 19 dX0_keep_18 rfl rfl ?_
    refine gG.getI 22 dX0_keep_19 fX0_9 (isK_k hk) (isK_s hk) rfl rfl ?_
    refine kG.iload_n 23 dX0_keep_22 rfl rfl ?_
    refine gG.iast G.1 24 dX0_keep_23 (arK_k hk (by decide)) (arK_s hk (by decide) (by decide)) hG.1 hlt (lnK_b hk) rfl ?_
    refine kG.aload_n 25 dX0_keep_24 rfl rfl ?_
    refine gG.getP 28 dX0_keep_25 fX0_28 (isK_k hk) (isK_s hk) rfl (PI_K hk (by decide) (by decide)) rfl ?_
    refine kG.aload_n 29 dX0_keep_28 rfl rfl ?_
    refine gG.getI 32 dX0_keep_29 fX0_9 (isK_k hk) (isK_s hk) rfl rfl ?_
    refine kG.iload_n 33 dX0_keep_32 rfl rfl ?_
    refine gG.iast G.1 34 dX0_keep_33 (arK_k hk (by decide)) (arK_s hk (by decide) (by decide)) (by rw [uI_off (by omega)]; exact hG.1) hlt (lnK_b hk) rfl ?_
    refine kG.aload_n 35 dX0_keep_34 rfl rfl ?_
    refine gG.getP 38 dX0_keep_35 fX0_31 (isK_k hk) (isK_s hk) rfl (PI_K hk (by decide) (by decide)) rfl ?_
    refine kG.aload_n 39 dX0_keep_38 rfl rfl ?_
    refine gG.getI 42 dX0_keep_39 fX0_9 (isK_k hk) (isK_s hk) rfl rfl ?_
    refine kG.iload_n 43 dX0_keep_42 rfl rfl ?_
    refine gG.iast G.1 44 dX0_keep_43 (arK_k hk (by decide)) (arK_s hk (by decide) (by decide)) (by rw [uI_off (by omega), uI_off (by omega)]; exact hG.1) hlt (lnK_b hk) rfl ?_
    refine kG.aload_n 45 dX0_keep_44 rfl rfl ?_
    refine kG.dup 46 dX0_keep_45 rfl rfl ?_
    refine gG.getI 49 dX0_keep_46 fX0_9 (isK_k hk) (isK_s hk) rfl rfl ?_
    have e4 : uI (uI (uI μ (k + 1) G.1 x) (k + 2) G.1 y) (k + 3) G.1 z k 4 = nI G.1 := by rw [uI_off (by omega), uI_off (by omega), uI_off (by omega)]; exact hG.1
    rw [e4]
    refine kG.dup_x1 50 dX0_keep_49 rfl rfl rfl ?_
    refine kG.iconst (v := nI 1) 51 dX0_keep_50 (by decide) rfl ?_
    refine kG.iadd 52 dX0_keep_51 rfl ?_
    rw [show nI G.1 + nI 1 = nI (G.1 + 1) from nI_1 _]
    refine gG.putI 55 dX0_keep_52 fX0_9 (isK_k hk) (isK_s hk) rfl rfl ⟨rfl, rfl⟩ rfl ?_
    refine gG.iret dX0_keep_55 rfl ?_
    exact Or.inr ⟨hlt, rfl, rfl, rfl⟩
  · rw [hG.1, hm] at h8_
    have hlt0 : ¬ G.1 < lnK k := fun z => h8_ (nI_lt z (by omega))
    have hlt : G.1 = lnK k := by omega
    refine kG.bipush (v := (-4)) 13 dX0_keep_11 (by decide) rfl ?_
    refine gG.iret dX0_keep_13 rfl ?_
    exact Or.inl ⟨hlt, rfl, rfl, rfl⟩
set_option maxHeartbeats 4000000 in
theorem c_takeBack (Γ : kGm) {μ : kM} {q : kq4} {k : Nat} (hk : isK k) {G : Kp} (hG : KD G k μ) (hn : G.1 ≤ lnK k) (x : Int32) : gC Γ yX0_takeBack mX0_takeBack 1 [.ref k, .int x] μ q (fun r μ' q' => ((x < 0 ∨ nI G.1 < x) ∧ r = some (.int (-2)) ∧ μ' = μ ∧ q' = q) ∨ ∃ i : Nat, i ≤ G.1 ∧ x = nI i ∧ r = some (.int (nI (G.1 - i))) ∧ μ' = uI μ k 4 (nI (G.1 - i)) ∧ q' = q) := by
  refine gC.ofG (n := 0) ⟨by decide +kernel, rfl, rfl, by decide⟩ (Nat.le_of_ble_eq_true rfl) ?_
  show gG Γ mX0_takeBack 1 0 [some (.ref k), some (.int x)] [] μ q _
  have h8 := lnK_8 hk
  refine kG.iload_n 1 dX0_takeBack_0 rfl rfl ?_
  refine kG.if_lt 12 4 dX0_takeBack_1 (by decide) rfl (fun h1 => ?_) (fun h1 => ?_)
  · refine kG.bipush (v := (-2)) 14 dX0_takeBack_12 (by decide) rfl ?_
    refine gG.iret dX0_takeBack_14 rfl ?_
    first | exact Or.inl ⟨Or.inl h1, rfl, rfl, rfl⟩ | exact Or.inl ⟨Or.inr hb, rfl, rfl, rfl⟩
  · refine kG.iload_n 5 dX0_takeBack_4 rfl rfl ?_
    refine kG.aload_n 6 dX0_takeBack_5 rfl rfl ?_
    refine gG.getI 9 dX0_takeBack_6 fX0_9 (isK_k hk) (isK_s hk) rfl rfl ?_
    refine kG.icmp_le 15 12 dX0_takeBack_9 (by decide) rfl (fun h9 => ?_) (fun h9 => ?_)
    · rw [hG.1] at h9
      obtain ⟨i, hi, rfl⟩ := n_le (n := G.1) (by omega) h1 (Int32.not_lt.mpr h9)
      refine kG.aload_n 16 dX0_takeBack_15 rfl rfl ?_
      refine kG.dup 17 dX0_takeBack_16 rfl rfl ?_
      refine gG.getI 20 dX0_takeBack_17 fX0_9 (isK_k hk) (isK_s hk) rfl rfl ?_
      refine kG.iload_n 21 dX0_takeBack_20 rfl rfl ?_
      rw [hG.1]
      refine kG.isub 22 dX0_takeBack_21 rfl ?_
      rw [pk_sub hi]
      refine gG.putI 25 dX0_takeBack_22 fX0_9 (isK_k hk) (isK_s hk) rfl rfl ⟨rfl, rfl⟩ rfl ?_
      refine kG.aload_n 26 dX0_takeBack_25 rfl rfl ?_
      refine gG.getI 29 dX0_takeBack_26 fX0_9 (isK_k hk) (isK_s hk) rfl rfl ?_
      refine gG.iret dX0_takeBack_29 rfl ?_
      exact Or.inr ⟨i, hi, rfl, by rw [uI_same], rfl, rfl⟩
    · rw [hG.1] at h9
      have hb : nI G.1 < x := Int32.not_le.mp h9
      refine kG.bipush (v := (-2)) 14 dX0_takeBack_12 (by decide) rfl ?_
      refine gG.iret dX0_takeBack_14 rfl ?_
      first | exact Or.inl ⟨Or.inl h1, rfl, rfl, rfl⟩ | exact Or.inl ⟨Or.inr hb, rfl, rfl, rfl⟩
