theorem tk1_bits {c : Cf} {p : Nat} {s : St3} : (tk1 c p s).2.2 = s.2.2 ∨ (tk1 c p s).2.2 = s.2.2 ||| 2 ^ p := by
  unfold tk1
  split
  · exact Or.inr rfl
  · split
    · exact Or.inl rfl
    · exact Or.inr rfl
theorem tk_ch {c : Cf} {p n : Nat} {s : St3} {ch : Nat → Nat} {μ : kM} (tb : s.2.2.testBit p = false) (h : An 68 n (fu (chF ch s.2.2) p (chF ch s.2.2 p + (if (tk1 c p s).2.2.testBit p then 1 else 0))) μ) : An 68 n (chF ch (tk1 c p s).2.2) μ := fun x hx => by
  rw [h x hx]
  by_cases e : x = p
  · subst e
    rw [fu_s]
    unfold chF
    rw [tb]
    rfl
  · rw [fu_n e]
    unfold chF
    rcases tk1_bits (c := c) (p := p) (s := s) with z | z
    · rw [z]
    · rw [z, Nat.testBit_or, Nat.testBit_two_pow, decide_eq_false (fun w => e w.symm), Bool.or_false]
set_option maxHeartbeats 4000000 in
theorem gh1 (Γ : kGm) {D : Dt} {sn aw : Nat} {G : Kp} {μ : kM} {q : kq4} (h : MC D sn aw G μ) (ok : okD D) (okc : okC (dH D) (cM D sn aw G)) {wd wr ch : Nat → Nat} {week half : Nat} (bd : bdS (dH D) wd wr) (hch : ∀ p, p < dP D → ch p < 900) {Q : Option Value → kM → kq4 → Prop} (HQ : ∀ μ2, (∀ k, k ≠ 66 → k ≠ 67 → k ≠ 68 → k ≠ 49 → μ2 k = μ k) → (∀ j, j ≠ 30 → μ2 49 j = μ 49 j) → An 66 (dH D) (tkN (cM D sn aw G) (cin (cM D sn aw G) half) (dP D) (wd, wr, 0)).1 μ2 → An 67 (dH D) (tkN (cM D sn aw G) (cin (cM D sn aw G) half) (dP D) (wd, wr, 0)).2.1 μ2 → μ2 49 30 = nI (tkN (cM D sn aw G) (cin (cM D sn aw G) half) (dP D) (wd, wr, 0)).2.2 → An 68 (dP D) (chF ch (tkN (cM D sn aw G) (cin (cM D sn aw G) half) (dP D) (wd, wr, 0)).2.2) μ2 → gG Γ mX5_goHalf 3 56 [some (.ref 49), some (.int (nI week)), some (.int (nI half)), some (.int (nI (if half < sn then 0 else 1))), some (.int (nI (dP D))), none] [] μ2 q Q) : ∀ (m i : Nat) (μ1 : kM), i + m = dP D → (∀ k, k ≠ 66 → k ≠ 67 → k ≠ 68 → k ≠ 49 → μ1 k = μ k) → (∀ j, j ≠ 30 → μ1 49 j = μ 49 j) → (An 66 (dH D) (tkN (cM D sn aw G) (cin (cM D sn aw G) half) i (wd, wr, 0)).1 μ1) → (An 67 (dH D) (tkN (cM D sn aw G) (cin (cM D sn aw G) half) i (wd, wr, 0)).2.1 μ1) → (μ1 49 30 = nI (tkN (cM D sn aw G) (cin (cM D sn aw G) half) i (wd, wr, 0)).2.2) → (An 68 (dP D) (chF ch (tkN (cM D sn aw G) (cin (cM D sn aw G) half) i (wd, wr, 0)).2.2) μ1) → gG Γ mX5_goHalf 3 14 [some (.ref 49), some (.int (nI week)), some (.int (nI half)), some (.int (nI (if half < sn then 0 else 1))), some (.int (nI i)), none] [] (μ1) q (Q) := by
  intro m
  induction m with
  | zero =>
    intro i μ1 hm h1 h2 h3 h4 h5 h6
    have hH := ok.1
    have hP := ok.2.1
    have hm : MC D sn aw G μ1 := MC_fr h (fun j hj => h2 j (by omega)) (fun k a b c d => h1 k (by omega) (by omega) (by omega) (by omega))
    refine kG.iload 16 dX5_goHalf_14 rfl rfl ?_
    refine kG.aload_n 17 dX5_goHalf_16 rfl rfl ?_
    refine gG.getI 20 dX5_goHalf_17 fX5_96 ⟨by decide, by decide⟩ rfl rfl rfl ?_
    rw [hm.2.2.1]
    refine kG.icmp_ge 56 23 dX5_goHalf_20 (by decide) rfl (fun h20 => ?_) (fun h20 => ?_)
    · have ei : i = dP D := by omega
      rw [ei] at h3 h4 h5 h6 ⊢
      exact HQ _ h1 h2 h3 h4 h5 h6
    · exact absurd (nI_le (by omega) (by omega)) h20
  | succ m ih =>
    intro i μ1 hm h1 h2 h3 h4 h5 h6
    have hH := ok.1
    have hP := ok.2.1
    have hm : MC D sn aw G μ1 := MC_fr h (fun j hj => h2 j (by omega)) (fun k a b c d => h1 k (by omega) (by omega) (by omega) (by omega))
    refine kG.iload 16 dX5_goHalf_14 rfl rfl ?_
    refine kG.aload_n 17 dX5_goHalf_16 rfl rfl ?_
    refine gG.getI 20 dX5_goHalf_17 fX5_96 ⟨by decide, by decide⟩ rfl rfl rfl ?_
    rw [hm.2.2.1]
    obtain ⟨d1, d2, d3, d4, d5⟩ := hm.2.2.2.2.2.1 i (by omega)
    obtain ⟨k1, k2, k3, k4, k5⟩ := ok.2.2.2 i (by omega)
    have hin : (if half < sn then 0 else 1) ≤ 1 := by split <;> omega
    have hlt : (tkN (cM D sn aw G) (cin (cM D sn aw G) half) i (wd, wr, 0)).2.2 < 2 ^ i := tkN_lt (n := i) (Nat.two_pow_pos _) i (Nat.le_refl _)
    have htb : (tkN (cM D sn aw G) (cin (cM D sn aw G) half) i (wd, wr, 0)).2.2.testBit i = false := Nat.testBit_lt_two_pow hlt
    have hpw : 2 ^ i ≤ 2 ^ 6 := Nat.pow_le_pow_right (by decide) (by omega)
    have hci := hch i (by omega)
    refine kG.icmp_ge 56 23 dX5_goHalf_20 (by decide) rfl (fun h20 => ?_) (fun h20 => ?_)
    · exact absurd h20 (nI_ge (by omega) (by omega))
    · refine kG.aload_n 24 dX5_goHalf_23 rfl rfl ?_
      refine gG.getP 27 dX5_goHalf_24 fX5_28 ⟨by decide, by decide⟩ rfl rfl rfl rfl ?_
      refine kG.iload 29 dX5_goHalf_27 rfl rfl ?_
      refine gG.iald (n := 6) _ 30 dX5_goHalf_29 ⟨by decide, by decide⟩ rfl rfl (by omega) (by decide) rfl ?_
      rw [d2]
      refine kG.iload_n 31 dX5_goHalf_30 rfl rfl ?_
      refine kG.icmp_ne 50 34 dX5_goHalf_31 (by decide) rfl (fun h31 => ?_) (fun h31 => ?_)
      · have c1 : ¬ dtw D i = (if half < sn then 0 else 1) := fun z => h31 (by rw [z])
        have hbf : cin (cM D sn aw G) half i = false := by
          show (decide (dtw D i = (if half < sn then 0 else 1)) && !aw.testBit i) = false
          rw [decide_eq_false c1]; rfl
        refine kG.iinc (v := nI (i + 1)) 53 dX5_goHalf_50 rfl (nI_1 i) (by decide) rfl rfl ?_
        dsimp only [List.set]
        refine kG.goto 14 dX5_goHalf_53 (by decide) ?_
        first
          | ((have hT : (tkN (cM D sn aw G) (cin (cM D sn aw G) half) (i + 1) (wd, wr, 0)) = tk1 (cM D sn aw G) i (tkN (cM D sn aw G) (cin (cM D sn aw G) half) i (wd, wr, 0)) := by rw [tkN, if_pos hbf]); refine ih (i + 1) _ (by omega) (fun k a b c d => by rw [f1 k a b c d]; exact h1 k a b c d) (fun j hj => by rw [f2 j hj]; exact h2 j hj) (by rw [hT]; exact f3) (by rw [hT]; exact f4) (by rw [hT]; exact f5) (by rw [hT]; exact tk_ch htb f6))
          | ((have hT : (tkN (cM D sn aw G) (cin (cM D sn aw G) half) (i + 1) (wd, wr, 0)) = (tkN (cM D sn aw G) (cin (cM D sn aw G) half) i (wd, wr, 0)) := by rw [tkN, if_neg (Bool.eq_false_iff.mp hbf)]); refine ih (i + 1) _ (by omega) h1 h2 (by rw [hT]; exact h3) (by rw [hT]; exact h4) (by rw [hT]; exact h5) (by rw [hT]; exact h6))
      · have c1 : dtw D i = (if half < sn then 0 else 1) := (nI_eq (by omega) (by omega)).mp h31
        refine kG.aload_n 35 dX5_goHalf_34 rfl rfl ?_
        refine gG.getP 38 dX5_goHalf_35 fX5_40 ⟨by decide, by decide⟩ rfl rfl rfl rfl ?_
        refine kG.iload 40 dX5_goHalf_38 rfl rfl ?_
        refine gG.zald (n := 6) _ 41 dX5_goHalf_40 ⟨by decide, by decide⟩ rfl rfl (by omega) (by decide) rfl ?_
        rw [hm.2.2.2.2.2.2.1 i (by omega)]
        refine kG.if_ne 50 44 dX5_goHalf_41 (by decide) rfl (fun h41 => ?_) (fun h41 => ?_)
        · have c2 := b2_n0.mp h41
          have hbf : cin (cM D sn aw G) half i = false := by
            show (decide (dtw D i = (if half < sn then 0 else 1)) && !aw.testBit i) = false
            rw [c2, show (!true) = false from rfl, Bool.and_false]
          refine kG.iinc (v := nI (i + 1)) 53 dX5_goHalf_50 rfl (nI_1 i) (by decide) rfl rfl ?_
          dsimp only [List.set]
          refine kG.goto 14 dX5_goHalf_53 (by decide) ?_
          first
            | ((have hT : (tkN (cM D sn aw G) (cin (cM D sn aw G) half) (i + 1) (wd, wr, 0)) = tk1 (cM D sn aw G) i (tkN (cM D sn aw G) (cin (cM D sn aw G) half) i (wd, wr, 0)) := by rw [tkN, if_pos hbf]); refine ih (i + 1) _ (by omega) (fun k a b c d => by rw [f1 k a b c d]; exact h1 k a b c d) (fun j hj => by rw [f2 j hj]; exact h2 j hj) (by rw [hT]; exact f3) (by rw [hT]; exact f4) (by rw [hT]; exact f5) (by rw [hT]; exact tk_ch htb f6))
            | ((have hT : (tkN (cM D sn aw G) (cin (cM D sn aw G) half) (i + 1) (wd, wr, 0)) = (tkN (cM D sn aw G) (cin (cM D sn aw G) half) i (wd, wr, 0)) := by rw [tkN, if_neg (Bool.eq_false_iff.mp hbf)]); refine ih (i + 1) _ (by omega) h1 h2 (by rw [hT]; exact h3) (by rw [hT]; exact h4) (by rw [hT]; exact h5) (by rw [hT]; exact h6))
        · have c2 := b2_0.mp h41
          have hbf : cin (cM D sn aw G) half i = true := by
            show (decide (dtw D i = (if half < sn then 0 else 1)) && !aw.testBit i) = true
            rw [decide_eq_true c1, c2]; rfl
          refine kG.aload_n 45 dX5_goHalf_44 rfl rfl ?_
          refine kG.iload 47 dX5_goHalf_45 rfl rfl ?_
          refine gG.callV 50 dX5_goHalf_47 lX5_180 vX5_turn (m_turn Γ hm ok i (by omega) (tkN (cM D sn aw G) (cin (cM D sn aw G) half) i (wd, wr, 0)) (chF ch (tkN (cM D sn aw G) (cin (cM D sn aw G) half) i (wd, wr, 0)).2.2) htb (tkN_bd okc bd i (show i ≤ dP D by omega)) h3 h4 h6 h5 (by omega) (by unfold chF; split <;> omega)) rfl rfl ⟨by decide, by decide⟩ rfl ⟨by decide, rfl⟩ ⟨by decide, by decide⟩ (Nat.le_of_ble_eq_true rfl) rfl (fun r47 μ47 q47 hc47 => ?_)
          obtain ⟨rfl, rfl, f1, f2, f3, f4, f5, f6⟩ := hc47
          refine kG.iinc (v := nI (i + 1)) 53 dX5_goHalf_50 rfl (nI_1 i) (by decide) rfl rfl ?_
          dsimp only [List.set]
          refine kG.goto 14 dX5_goHalf_53 (by decide) ?_
          first
            | ((have hT : (tkN (cM D sn aw G) (cin (cM D sn aw G) half) (i + 1) (wd, wr, 0)) = tk1 (cM D sn aw G) i (tkN (cM D sn aw G) (cin (cM D sn aw G) half) i (wd, wr, 0)) := by rw [tkN, if_pos hbf]); refine ih (i + 1) _ (by omega) (fun k a b c d => by rw [f1 k a b c d]; exact h1 k a b c d) (fun j hj => by rw [f2 j hj]; exact h2 j hj) (by rw [hT]; exact f3) (by rw [hT]; exact f4) (by rw [hT]; exact f5) (by rw [hT]; exact tk_ch htb f6))
            | ((have hT : (tkN (cM D sn aw G) (cin (cM D sn aw G) half) (i + 1) (wd, wr, 0)) = (tkN (cM D sn aw G) (cin (cM D sn aw G) half) i (wd, wr, 0)) := by rw [tkN, if_neg (Bool.eq_false_iff.mp hbf)]); refine ih (i + 1) _ (by omega) h1 h2 (by rw [hT]; exact h3) (by rw [hT]; exact h4) (by rw [hT]; exact h5) (by rw [hT]; exact h6))
set_option maxHeartbeats 4000000 in
theorem m_goHalf (Γ : kGm) {D : Dt} {sn aw : Nat} {G : Kp} {μ : kM} {q : kq4} (h : MC D sn aw G μ) (ok : okD D) (okm : okM D sn G) {wd wr ch : Nat → Nat} {co : Nat} {br : Nat → Option Nat} {week half : Nat} (hwk : week < 10) (hhf : half < 14) (bd : bdS (dH D) wd wr) (hch : ∀ p, p < dP D → ch p < 900) (hbr : ∀ x k, br x = some k → k < 140) (w : WK D wd wr ch co br μ) : gC Γ yX5_goHalf mX5_goHalf 3 [.ref 49, .int (nI week), .int (nI half)] μ q (fun r μ' q' => r = none ∧ q' = q ∧ FW μ μ' ∧ WK D (hfS (cM D sn aw G) half wd wr).1 (hfS (cM D sn aw G) half wd wr).2.1 (chF ch (hfS (cM D sn aw G) half wd wr).2.2) (hfS (cM D sn aw G) half wd wr).2.2 (nbF br (dbe D) (hfS (cM D sn aw G) half wd wr).2.1 (14 * week + half)) μ') := by
  refine gC.ofG (n := 0) ⟨by decide +kernel, rfl, rfl, by decide⟩ (Nat.le_of_ble_eq_true rfl) ?_
  show gG Γ mX5_goHalf 3 0 [some (.ref 49), some (.int (nI week)), some (.int (nI half)), none, none, none] [] μ q _
  have okc := okM_c (aw := aw) okm
  have hs1 := okm.2.1
  have hs2 := okm.2.2.1
  refine kG.aload_n 1 dX5_goHalf_0 rfl rfl ?_
  refine kG.iconst (v := nI 0) 2 dX5_goHalf_1 (by decide) rfl ?_
  refine gG.putI 5 dX5_goHalf_2 fX5_174 ⟨by decide, by decide⟩ rfl rfl rfl ⟨rfl, rfl⟩ rfl ?_
  have h0 : MC D sn aw G (uI μ 49 30 (nI 0)) := MC_fr h (fun j hj => uI_ne (Or.inr (by omega))) (fun k a b c d => uI_off (by omega))
  refine kG.aload_n 6 dX5_goHalf_5 rfl rfl ?_
  refine kG.iload_n 7 dX5_goHalf_6 rfl rfl ?_
  refine gG.callV 10 dX5_goHalf_7 lX5_177 vX5_townIn (m_townIn Γ sn half (by omega) (by omega) h0.1) rfl rfl ⟨by decide, by decide⟩ rfl ⟨by decide, rfl⟩ ⟨by decide, by decide⟩ (Nat.le_of_ble_eq_true rfl) rfl (fun r7 μ7 q7 hc7 => ?_)
  obtain ⟨rfl, rfl, rfl⟩ := hc7
  refine kG.istore_n 11 dX5_goHalf_10 (by decide) rfl rfl ?_
  dsimp only [List.set]
  refine kG.iconst (v := nI 0) 12 dX5_goHalf_11 (by decide) rfl ?_
  refine kG.istore 14 dX5_goHalf_12 (by decide) rfl rfl ?_
  dsimp only [List.set]
  refine gh1 Γ h0 ok okc bd hch (fun μ2 f1 f2 f3 f4 f5 f6 => ?_) (dP D) 0 _ (by omega) (fun _ _ _ _ _ => rfl) (fun _ _ => rfl) (fun x hx => by rw [uI_off (by decide)]; exact w.1 x hx) (fun x hx => by rw [uI_off (by decide)]; exact w.2.1 x hx) (uI_same _ _ _ _) (fun x hx => by rw [uI_off (by decide), w.2.2.1 x hx]; unfold chF; rw [show (tkN (cM D sn aw G) (cin (cM D sn aw G) half) 0 (wd, wr, 0)).2.2 = 0 from rfl, Nat.zero_testBit]; rfl)
  have hm2 : MC D sn aw G μ2 := MC_fr h0 (fun j hj => f2 j (by omega)) (fun k a b c d => f1 k (by omega) (by omega) (by omega) (by omega))
  have hco : (tkN (cM D sn aw G) (cin (cM D sn aw G) half) (dP D) (wd, wr, 0)).2.2 < 64 := Nat.lt_of_lt_of_le (tkN_lt (n := dP D) (Nat.two_pow_pos _) (dP D) (Nat.le_refl _)) (Nat.pow_le_pow_right (by decide) ok.2.1)
  have bd2 : bdS (dH D) (tkN (cM D sn aw G) (cin (cM D sn aw G) half) (dP D) (wd, wr, 0)).1 (tkN (cM D sn aw G) (cin (cM D sn aw G) half) (dP D) (wd, wr, 0)).2.1 := tkN_bd okc bd (dP D) (Nat.le_refl _)
  have f69 : ∀ x, x < dH D → μ2 69 x = opI (br x) := fun x hx => by rw [f1 69 (by decide) (by decide) (by decide) (by decide), uI_off (by decide)]; exact w.2.2.2.2 x hx
  have fin : ∀ (wr' : Nat → Nat) (_ : (hfS (cM D sn aw G) half wd wr) = ((tkN (cM D sn aw G) (cin (cM D sn aw G) half) (dP D) (wd, wr, 0)).1, wr', (tkN (cM D sn aw G) (cin (cM D sn aw G) half) (dP D) (wd, wr, 0)).2.2)) (_ : ∀ x, x < dH D → wr' x ≤ 90) (μ3 : kM) (la : Int32), (∀ k, k ≠ 67 → μ3 k = μ2 k) → An 67 (dH D) wr' μ3 → gG Γ mX5_goHalf 3 144 [some (.ref 49), some (.int (nI week)), some (.int (nI half)), some (.int (nI (if half < sn then 0 else 1))), some (.int la), some (.int (nI 0))] [] μ3 q7 (fun r μ' q' => r = none ∧ q' = q7 ∧ FW μ μ' ∧ WK D (hfS (cM D sn aw G) half wd wr).1 (hfS (cM D sn aw G) half wd wr).2.1 (chF ch (hfS (cM D sn aw G) half wd wr).2.2) (hfS (cM D sn aw G) half wd wr).2.2 (nbF br (dbe D) (hfS (cM D sn aw G) half wd wr).2.1 (14 * week + half)) μ') := by
    intro wr' hh bd3 μ3 la g1 g2
    refine gh3 Γ (FW_MC hm2 (FW_of (c := 67) (by decide) g1)) ok hwk hhf bd3 hbr g2 (fun μ4 n1 n2 => ?_) (dH D) 0 μ3 (by omega) (fun _ _ => rfl) (fun x hx => by rw [if_neg (Nat.not_lt_zero _), g1 69 (by decide)]; exact f69 x hx)
    rw [hh]
    refine ⟨rfl, rfl, ⟨fun k a b => ?_, fun j a => ?_⟩, fun x hx => ?_, fun x hx => ?_, fun x hx => ?_, ?_, n2⟩
    · rw [n1 k (by omega), g1 k (by omega), f1 k (by omega) (by omega) (by omega) a, uI_off a]
    · rw [n1 49 (by decide), g1 49 (by decide), f2 j a, uI_ne (Or.inr a)]
    · rw [n1 66 (by decide), g1 66 (by decide)]; exact f3 x hx
    · rw [n1 67 (by decide)]; exact g2 x hx
    · rw [n1 68 (by decide), g1 68 (by decide)]; exact f6 x hx
    · rw [n1 49 (by decide), g1 49 (by decide)]; exact f5
  have hseam : μ2 49 5 = nI sn := hm2.1
  refine kG.iload_n 57 dX5_goHalf_56 rfl rfl ?_
  refine kG.aload_n 58 dX5_goHalf_57 rfl rfl ?_
  refine gG.getI 61 dX5_goHalf_58 fX5_123 ⟨by decide, by decide⟩ rfl rfl rfl ?_
  rw [hseam]
  refine kG.iconst (v := nI 1) 62 dX5_goHalf_61 (by decide) rfl ?_
  refine kG.isub 63 dX5_goHalf_62 rfl ?_
  rw [pk_sub hs1]
  refine kG.icmp_eq 72 66 dX5_goHalf_63 (by decide) rfl (fun h63 => ?_) (fun h63 => ?_)
  · have hl : half + 1 = sn ∨ half = 13 := Or.inl (by have := (nI_eq (by omega) (by omega)).mp h63; omega)
    refine kG.iconst (v := nI 1) 73 dX5_goHalf_72 (by decide) rfl ?_
    refine kG.goto 77 dX5_goHalf_73 (by decide) ?_
    refine kG.istore 79 dX5_goHalf_77 (by decide) rfl rfl ?_
    dsimp only [List.set]
    refine kG.iconst (v := nI 0) 80 dX5_goHalf_79 (by decide) rfl ?_
    refine kG.istore 82 dX5_goHalf_80 (by decide) rfl rfl ?_
    dsimp only [List.set]
    exact gh2 (la := true) Γ hm2 ok okc rfl hco bd2 f5 (fun μ3 g1 g2 => fin _ (by show (if half + 1 = sn ∨ half = 13 then _ else _) = _; rw [if_pos hl]; rfl) (fun x hx => (mdN_bd okc bd2 (dP D) (Nat.le_refl _) x hx).2) μ3 _ g1 g2) (dP D) 0 μ2 (by omega) (fun _ _ => rfl) f4
  · have n1 : ¬ half + 1 = sn := fun z => h63 (by rw [show sn - 1 = half by omega])
    refine kG.iload_n 67 dX5_goHalf_66 rfl rfl ?_
    refine kG.bipush (v := nI 13) 69 dX5_goHalf_67 (by decide) rfl ?_
    refine kG.icmp_ne 76 72 dX5_goHalf_69 (by decide) rfl (fun h69 => ?_) (fun h69 => ?_)
    · have n3 : ¬ half = 13 := fun z => h69 (by rw [z])
      have hl : ¬ (half + 1 = sn ∨ half = 13) := fun z => z.elim n1 n3
      refine kG.iconst (v := nI 0) 77 dX5_goHalf_76 (by decide) rfl ?_
      refine kG.istore 79 dX5_goHalf_77 (by decide) rfl rfl ?_
      dsimp only [List.set]
      refine kG.iconst (v := nI 0) 80 dX5_goHalf_79 (by decide) rfl ?_
      refine kG.istore 82 dX5_goHalf_80 (by decide) rfl rfl ?_
      dsimp only [List.set]
      refine kG.iload 84 dX5_goHalf_82 rfl rfl ?_
      refine kG.aload_n 85 dX5_goHalf_84 rfl rfl ?_
      refine gG.getI 88 dX5_goHalf_85 fX5_96 ⟨by decide, by decide⟩ rfl rfl rfl ?_
      refine kG.icmp_ge 141 91 dX5_goHalf_88 (by decide) rfl (fun h88 => ?_) (fun h88 => ?_)
      · refine kG.iconst (v := nI 0) 142 dX5_goHalf_141 (by decide) rfl ?_
        refine kG.istore 144 dX5_goHalf_142 (by decide) rfl rfl ?_
        dsimp only [List.set]
        exact fin _ (by show (if half + 1 = sn ∨ half = 13 then _ else _) = _; rw [if_neg hl]; rfl) (fun x hx => (bd2 x hx).2) μ2 _ (fun _ _ => rfl) f4
      · refine kG.iload 93 dX5_goHalf_91 rfl rfl ?_
        refine kG.if_eq 141 96 dX5_goHalf_93 (by decide) rfl (fun h93 => ?_) (fun h93 => ?_)
        · refine kG.iconst (v := nI 0) 142 dX5_goHalf_141 (by decide) rfl ?_
          refine kG.istore 144 dX5_goHalf_142 (by decide) rfl rfl ?_
          dsimp only [List.set]
          exact fin _ (by show (if half + 1 = sn ∨ half = 13 then _ else _) = _; rw [if_neg hl]; rfl) (fun x hx => (bd2 x hx).2) μ2 _ (fun _ _ => rfl) f4
        · exact absurd rfl h93
    · have hl : half + 1 = sn ∨ half = 13 := Or.inr ((nI_eq (by omega) (by decide)).mp h69)
      refine kG.iconst (v := nI 1) 73 dX5_goHalf_72 (by decide) rfl ?_
      refine kG.goto 77 dX5_goHalf_73 (by decide) ?_
      refine kG.istore 79 dX5_goHalf_77 (by decide) rfl rfl ?_
      dsimp only [List.set]
      refine kG.iconst (v := nI 0) 80 dX5_goHalf_79 (by decide) rfl ?_
      refine kG.istore 82 dX5_goHalf_80 (by decide) rfl rfl ?_
      dsimp only [List.set]
      exact gh2 (la := true) Γ hm2 ok okc rfl hco bd2 f5 (fun μ3 g1 g2 => fin _ (by show (if half + 1 = sn ∨ half = 13 then _ else _) = _; rw [if_pos hl]; rfl) (fun x hx => (mdN_bd okc bd2 (dP D) (Nat.le_refl _) x hx).2) μ3 _ g1 g2) (dP D) 0 μ2 (by omega) (fun _ _ => rfl) f4
