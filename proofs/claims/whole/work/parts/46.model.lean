/-- behind T halves the model holds this -/
def bkF (D : Dt) (c : Cf) (T : Nat) : Nat → Option Nat := fun h => fsN (fun t => decide (10 * dbe D h ≤ xW c h t)) T
def WT (D : Dt) (c : Cf) (T : Nat) (μ : kM) : Prop := WK D (smS c T).1 (smS c T).2.1 (fun p => chP c p T) (smS c T).2.2 (bkF D c T) μ
theorem bk_lt {D : Dt} {c : Cf} {T : Nat} (hT : T ≤ 140) : ∀ x k, bkF D c T x = some k → k < 140 := fun x k h => Nat.lt_of_lt_of_le (fsN_lt h) hT
theorem WT_s {D : Dt} {c : Cf} {T : Nat} {μ : kM} {wd : Nat → Nat} (e : smS c (T + 1) = hfS c (T % 14) wd (smS c T).2.1) (h : WK D (hfS c (T % 14) wd (smS c T).2.1).1 (hfS c (T % 14) wd (smS c T).2.1).2.1 (chF (fun p => chP c p T) (hfS c (T % 14) wd (smS c T).2.1).2.2) (hfS c (T % 14) wd (smS c T).2.1).2.2 (nbF (bkF D c T) (dbe D) (hfS c (T % 14) wd (smS c T).2.1).2.1 T) μ) : WT D c (T + 1) μ := by
  rw [← e] at h
  refine ⟨h.1, h.2.1, fun p hp => ?_, h.2.2.2.1, fun x hx => ?_⟩
  · rw [h.2.2.1 p hp]
    rfl
  · rw [h.2.2.2.2 x hx]
    unfold nbF bkF
    rw [show fsN (fun t => decide (10 * dbe D x ≤ xW c x t)) (T + 1) = (match fsN (fun t => decide (10 * dbe D x ≤ xW c x t)) T with | some k => some k | none => if decide (10 * dbe D x ≤ xW c x T) then some T else none) from rfl]
    cases fsN (fun t => decide (10 * dbe D x ≤ xW c x t)) T with
    | some k => rfl
    | none =>
      simp only [decide_eq_true_eq]
      rfl
theorem sm_14 {c : Cf} {week half : Nat} (hh : half < 14) : smS c (14 * week + half + 1) = hfS c ((14 * week + half) % 14) (if half = 0 then bwS c week (smS c (14 * week + half)).1 else (smS c (14 * week + half)).1) (smS c (14 * week + half)).2.1 := by
  rw [smS]
  have e1 : (14 * week + half) % 14 = half := by omega
  have e2 : (14 * week + half) / 14 = week := by omega
  rw [e1, e2]
set_option maxHeartbeats 4000000 in
theorem goI (Γ : kGm) {D : Dt} {sn aw : Nat} {G : Kp} {μ : kM} {q : kq4} (h : MC D sn aw G μ) (ok : okD D) (okm : okM D sn G) (lw lh : Nat) (hlw : lw < 10) (hlh : lh < 14) {week : Nat} (hwk : week < 10) (hwl : week ≤ lw) {Q : Option Value → kM → kq4 → Prop} (HQ : ∀ (half : Nat) (μ1 : kM), half = (if week < lw then 14 else lh + 1) → FW μ μ1 → WK D (if half = 0 then bwS (cM D sn aw G) week (smS (cM D sn aw G) (14 * week + half)).1 else (smS (cM D sn aw G) (14 * week + half)).1) (smS (cM D sn aw G) (14 * week + half)).2.1 (fun p => chP (cM D sn aw G) p (14 * week + half)) (smS (cM D sn aw G) (14 * week + half)).2.2 (bkF D (cM D sn aw G) (14 * week + half)) μ1 → gG Γ mX5_goTo 4 112 [some (.ref 49), some (.int (nI lw)), some (.int (nI lh)), some (.int (nI week)), some (.int (nI half))] [] μ1 q Q) : ∀ (m half : Nat) (μ1 : kM), half + m = (if week < lw then 14 else lh + 1) → FW μ μ1 → WK D (if half = 0 then bwS (cM D sn aw G) week (smS (cM D sn aw G) (14 * week + half)).1 else (smS (cM D sn aw G) (14 * week + half)).1) (smS (cM D sn aw G) (14 * week + half)).2.1 (fun p => chP (cM D sn aw G) p (14 * week + half)) (smS (cM D sn aw G) (14 * week + half)).2.2 (bkF D (cM D sn aw G) (14 * week + half)) μ1 → gG Γ mX5_goTo 4 81 [some (.ref 49), some (.int (nI lw)), some (.int (nI lh)), some (.int (nI week)), some (.int (nI half))] [] μ1 q Q := by
  intro m
  induction m with
  | zero =>
    intro half μ1 hm_ h1 h2
    have hH := ok.1
    have hl14 : (if week < lw then 14 else lh + 1) ≤ 14 := by split <;> omega
    have hm := FW_MC h h1
    refine kG.iload 83 dX5_goTo_81 rfl rfl ?_
    refine kG.bipush (v := nI 14) 85 dX5_goTo_83 (by decide) rfl ?_
    refine kG.icmp_ge 112 88 dX5_goTo_85 (by decide) rfl (fun h85 => ?_) (fun h85 => ?_)
    · have c14 : half = 14 := by have := (nI_leI (by decide) (by omega)).mp h85; omega
      exact HQ half _ (by omega) h1 h2
    · have c14 : half < 14 := Nat.not_le.mp (fun z => h85 (nI_le z (by omega)))
      refine kG.iload_n 89 dX5_goTo_88 rfl rfl ?_
      refine kG.iload_n 90 dX5_goTo_89 rfl rfl ?_
      refine kG.icmp_lt 99 93 dX5_goTo_90 (by decide) rfl (fun h90 => ?_) (fun h90 => ?_)
      · exact absurd ((nI_ltI (by omega) (by omega)).mp h90) (fun cw => by rw [if_pos cw] at hm_; omega)
      · have cw : ¬ week < lw := fun z => h90 (nI_lt z (by omega))
        refine kG.iload 95 dX5_goTo_93 rfl rfl ?_
        refine kG.iload_n 96 dX5_goTo_95 rfl rfl ?_
        refine kG.icmp_gt 112 99 dX5_goTo_96 (by decide) rfl (fun h96 => ?_) (fun h96 => ?_)
        · exact HQ half _ (by omega) h1 h2
        · exact absurd (nI_lt (by rw [if_neg cw] at hm_; omega) (by omega)) h96
  | succ m ih =>
    intro half μ1 hm_ h1 h2
    have hH := ok.1
    have hl14 : (if week < lw then 14 else lh + 1) ≤ 14 := by split <;> omega
    have hm := FW_MC h h1
    have okc := okM_c (aw := aw) okm
    refine kG.iload 83 dX5_goTo_81 rfl rfl ?_
    refine kG.bipush (v := nI 14) 85 dX5_goTo_83 (by decide) rfl ?_
    refine kG.icmp_ge 112 88 dX5_goTo_85 (by decide) rfl (fun h85 => ?_) (fun h85 => ?_)
    · have c14 : half = 14 := by have := (nI_leI (by decide) (by omega)).mp h85; omega
      exact absurd c14 (by split at hm_ <;> omega)
    · have c14 : half < 14 := Nat.not_le.mp (fun z => h85 (nI_le z (by omega)))
      refine kG.iload_n 89 dX5_goTo_88 rfl rfl ?_
      refine kG.iload_n 90 dX5_goTo_89 rfl rfl ?_
      refine kG.icmp_lt 99 93 dX5_goTo_90 (by decide) rfl (fun h90 => ?_) (fun h90 => ?_)
      · have cw : week < lw := (nI_ltI (by omega) (by omega)).mp h90
        refine kG.aload_n 100 dX5_goTo_99 rfl rfl ?_
        refine kG.iload_n 101 dX5_goTo_100 rfl rfl ?_
        refine kG.iload 103 dX5_goTo_101 rfl rfl ?_
        refine gG.callV 106 dX5_goTo_103 lX5_190 vX5_goHalf (m_goHalf Γ hm ok okm hwk c14 (show bdS (dH D) (if half = 0 then bwS (cM D sn aw G) week (smS (cM D sn aw G) (14 * week + half)).1 else (smS (cM D sn aw G) (14 * week + half)).1) (smS (cM D sn aw G) (14 * week + half)).2.1 by split; exact bw_bd (sm_bd okc _); exact sm_bd okc _) (fun p hp => by have := chP_le (cM D sn aw G) p (14 * week + half); show chP _ _ _ < 900; omega) (bk_lt (by omega)) h2) rfl rfl ⟨by decide, by decide⟩ rfl ⟨by decide, rfl⟩ ⟨by decide, by decide⟩ (Nat.le_of_ble_eq_true rfl) rfl (fun r103 μ103 q103 hc103 => ?_)
        obtain ⟨rfl, rfl, g1, g2⟩ := hc103
        refine kG.iinc (v := nI (half + 1)) 109 dX5_goTo_106 rfl (nI_1 half) (by decide) rfl rfl ?_
        dsimp only [List.set]
        refine kG.goto 81 dX5_goTo_109 (by decide) ?_
        have e14 : (14 * week + half) % 14 = half := by omega
        have g3 : WT D (cM D sn aw G) (14 * week + half + 1) _ := WT_s (T := 14 * week + half) (sm_14 c14) (by rw [e14]; exact g2)
        exact ih (half + 1) _ (by omega) (FW_tr h1 g1) (by rw [if_neg (Nat.succ_ne_zero _)]; exact g3)
      · have cw : ¬ week < lw := fun z => h90 (nI_lt z (by omega))
        refine kG.iload 95 dX5_goTo_93 rfl rfl ?_
        refine kG.iload_n 96 dX5_goTo_95 rfl rfl ?_
        refine kG.icmp_gt 112 99 dX5_goTo_96 (by decide) rfl (fun h96 => ?_) (fun h96 => ?_)
        · exact absurd ((nI_ltI (by omega) (by omega)).mp h96) (by rw [if_neg cw] at hm_; omega)
        · refine kG.aload_n 100 dX5_goTo_99 rfl rfl ?_
          refine kG.iload_n 101 dX5_goTo_100 rfl rfl ?_
          refine kG.iload 103 dX5_goTo_101 rfl rfl ?_
          refine gG.callV 106 dX5_goTo_103 lX5_190 vX5_goHalf (m_goHalf Γ hm ok okm hwk c14 (show bdS (dH D) (if half = 0 then bwS (cM D sn aw G) week (smS (cM D sn aw G) (14 * week + half)).1 else (smS (cM D sn aw G) (14 * week + half)).1) (smS (cM D sn aw G) (14 * week + half)).2.1 by split; exact bw_bd (sm_bd okc _); exact sm_bd okc _) (fun p hp => by have := chP_le (cM D sn aw G) p (14 * week + half); show chP _ _ _ < 900; omega) (bk_lt (by omega)) h2) rfl rfl ⟨by decide, by decide⟩ rfl ⟨by decide, rfl⟩ ⟨by decide, by decide⟩ (Nat.le_of_ble_eq_true rfl) rfl (fun r103 μ103 q103 hc103 => ?_)
          obtain ⟨rfl, rfl, g1, g2⟩ := hc103
          refine kG.iinc (v := nI (half + 1)) 109 dX5_goTo_106 rfl (nI_1 half) (by decide) rfl rfl ?_
          dsimp only [List.set]
          refine kG.goto 81 dX5_goTo_109 (by decide) ?_
          have e14 : (14 * week + half) % 14 = half := by omega
          have g3 : WT D (cM D sn aw G) (14 * week + half + 1) _ := WT_s (T := 14 * week + half) (sm_14 c14) (by rw [e14]; exact g2)
          exact ih (half + 1) _ (by omega) (FW_tr h1 g1) (by rw [if_neg (Nat.succ_ne_zero _)]; exact g3)
