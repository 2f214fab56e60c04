/-- a config is the told one, but for wants, who is in, gifts and seam -/
def LC (D : Dt) (c : Cf) : Prop := cP c = dP D ∧ cco c = dco D ∧ cbe c = dbe D ∧ cho c = dho D ∧ cme c = dme D
/-- what more a trial gives -/
def moS (mh mw week h : Nat) : Nat := if h = mh ∧ week = 0 then mw else 0
theorem min_eq {a : Nat} (h : a < 2 ^ 30) : (if nI a < nI 99 then nI a else nI 99) = nI (min 99 a) := by
  rcases Nat.lt_or_ge a 99 with z | z
  · rw [if_pos (nI_lt z (by decide)), Nat.min_eq_right (by omega)]
  · rw [if_neg (nI_nlt z (by omega)), Nat.min_eq_left z]
def bwN (wd co : Nat → Nat) (gs : Nat → Nat) (i : Nat) : Nat → Nat := fun h => if h < i then min 99 (wd h + co h + gs h) else wd h
set_option maxHeartbeats 4000000 in
theorem brin_loop (Γ : kGm) {μ : kM} {q : kq4} {w : Nat} (hw : isW w) (htq : isT (tq q w)) {D : Dt} (hD : TD D (tq q w) μ) (ok : okD D) {G : Kp} (hG : KD G 3 μ) (okg : okG G) (hn : G.1 ≤ 6) (week : Nat) (hwk : week < 10) (mh mw : Nat) (e10 : ∀ h, h < 4 → (nI h = μ w 10 ↔ h = mh)) (e11 : μ w 11 = nI mw) (hmw : mw ≤ 99) (wd : Nat → Nat) (hwd : ∀ h, h < dH D → wd h ≤ 99) : ∀ (m i : Nat) (μ1 : kM), i + m = dH D → (∀ k, k ≠ w + 1 + 3 → μ1 k = μ k) → (An (w + 1 + 3) (dH D) (bwN wd (dco D) (fun h => gsN G h week G.1 + moS mh mw week h) i) μ1) → gG Γ mX3_bringWood 2 2 [some (.ref w), some (.int (nI week)), some (.int (nI i)), none, none] [] (μ1) q (fun r μ' q' => r = none ∧ q' = q ∧ (∀ k, k ≠ w + 1 + 3 → μ' k = μ k) ∧ An (w + 1 + 3) (dH D) (bwN wd (dco D) (fun h => gsN G h week G.1 + moS mh mw week h) (dH D)) μ') := by
  intro m
  induction m with
  | zero =>
    intro i μ1 hm h1 h2
    have hD1 : TD D (tq q w) μ1 := TD_fr hD (fun k a b => by have := TW_lt htq hw b; exact h1 k (by omega))
    have hG1 : KD G 3 μ1 := KD_fr hG (fun k a b => h1 k (by rcases hw with rfl | rfl <;> omega))
    have hH := ok.1
    refine kG.iload_n 3 dX3_bringWood_2 rfl rfl ?_
    refine kG.aload_n 4 dX3_bringWood_3 rfl rfl ?_
    refine gG.getP 7 dX3_bringWood_4 fX3_43 (isW_k hw) (isW_s hw) rfl (PI_W7 hw) rfl ?_
    refine gG.getI 10 dX3_bringWood_7 fX3_91 (isT_k htq) (isT_s htq) rfl rfl ?_
    refine kG.icmp_ge 83 13 dX3_bringWood_10 (by decide) rfl (fun h10 => ?_) (fun h10 => ?_)
    · refine gG.vret dX3_bringWood_83 rfl ?_
      exact ⟨rfl, rfl, h1, by rw [show i = dH D by omega] at h2; exact h2⟩
    · rw [hD1.1] at h10
      exact absurd (nI_le (by omega) (by omega)) h10
  | succ m ih =>
    intro i μ1 hm h1 h2
    have hD1 : TD D (tq q w) μ1 := TD_fr hD (fun k a b => by have := TW_lt htq hw b; exact h1 k (by omega))
    have hG1 : KD G 3 μ1 := KD_fr hG (fun k a b => h1 k (by rcases hw with rfl | rfl <;> omega))
    have hH := ok.1
    refine kG.iload_n 3 dX3_bringWood_2 rfl rfl ?_
    refine kG.aload_n 4 dX3_bringWood_3 rfl rfl ?_
    refine gG.getP 7 dX3_bringWood_4 fX3_43 (isW_k hw) (isW_s hw) rfl (PI_W7 hw) rfl ?_
    refine gG.getI 10 dX3_bringWood_7 fX3_91 (isT_k htq) (isT_s htq) rfl rfl ?_
    refine kG.icmp_ge 83 13 dX3_bringWood_10 (by decide) rfl (fun h10 => ?_) (fun h10 => ?_)
    · rw [hD1.1] at h10
      exact absurd h10 (nI_ge (by omega) (by omega))
    · refine kG.iload_n 14 dX3_bringWood_13 rfl rfl ?_
      refine kG.aload_n 15 dX3_bringWood_14 rfl rfl ?_
      refine gG.getI 18 dX3_bringWood_15 fX3_37 (isW_k hw) (isW_s hw) rfl rfl ?_
      refine kG.icmp_ne 32 21 dX3_bringWood_18 (by decide) rfl (fun h18 => ?_) (fun h18 => ?_)
      · rw [h1 w (by omega)] at h18
        have h18 : ¬ i = mh := fun z => h18 ((e10 i (by omega)).mpr z)
        have hmo : 0 = moS mh mw week i := by unfold moS; rw [if_neg (fun z => h18 z.1)]
        refine kG.iconst (v := nI 0) 33 dX3_bringWood_32 (by decide) rfl ?_
        first | rw [h1 w (by omega), e11, show nI mw = nI (moS mh mw week i) from congrArg nI hmo] | rw [show nI 0 = nI (moS mh mw week i) from congrArg nI hmo]
        refine kG.istore_n 34 dX3_bringWood_33 (by decide) rfl rfl ?_
        dsimp only [List.set]
        refine kG.aload_n 35 dX3_bringWood_34 rfl rfl ?_
        refine gG.getP 38 dX3_bringWood_35 fX3_21 (isW_k hw) (isW_s hw) rfl (PI_W hw (by decide)) rfl ?_
        refine kG.iload_n 39 dX3_bringWood_38 rfl rfl ?_
        refine gG.iald (n := 4) _ 40 dX3_bringWood_39 (arW_k hw (by decide)) (arW_s hw (by decide)) rfl (by omega) (by decide) rfl ?_
        rw [h2 i (by omega), show bwN wd (dco D) (fun h => gsN G h week G.1 + moS mh mw week h) i i = wd i by simp [bwN]]
        refine kG.aload_n 41 dX3_bringWood_40 rfl rfl ?_
        refine gG.getP 44 dX3_bringWood_41 fX3_43 (isW_k hw) (isW_s hw) rfl (PI_W7 hw) rfl ?_
        refine gG.getP 47 dX3_bringWood_44 fX3_94 (isT_k htq) (isT_s htq) rfl (PI_T htq (by decide)) rfl ?_
        refine kG.iload_n 48 dX3_bringWood_47 rfl rfl ?_
        refine gG.iald (n := 4) _ 49 dX3_bringWood_48 (arT_k htq (by decide)) (arT_s htq (by decide)) rfl (by omega) (by decide) rfl ?_
        rw [(hD1.2.2.1 i (by omega)).1]
        refine kG.iadd 50 dX3_bringWood_49 rfl ?_
        rw [nI_add]
        refine kG.aload_n 51 dX3_bringWood_50 rfl rfl ?_
        refine gG.getP 54 dX3_bringWood_51 fX3_47 (isW_k hw) (isW_s hw) rfl (PI_W6 hw) rfl ?_
        refine kG.iload_n 55 dX3_bringWood_54 rfl rfl ?_
        refine kG.iload_n 56 dX3_bringWood_55 rfl rfl ?_
        refine gG.callV 59 dX3_bringWood_56 lX3_97 vX0_sumOf (c_sumOf Γ (Or.inl rfl) hG1 okg hn i week (by omega) (by omega)) rfl rfl ⟨by decide, by decide⟩ rfl ⟨by decide, rfl⟩ ⟨by decide, by decide⟩ (Nat.le_of_ble_eq_true rfl) rfl (fun r56 μ56 q56 hc56 => ?_)
        obtain ⟨rfl, rfl, rfl⟩ := hc56
        refine kG.iadd 60 dX3_bringWood_59 rfl ?_
        rw [nI_add]
        refine kG.iload_n 61 dX3_bringWood_60 rfl rfl ?_
        refine kG.iadd 62 dX3_bringWood_61 rfl ?_
        rw [nI_add]
        refine kG.istore 64 dX3_bringWood_62 (by decide) rfl rfl ?_
        dsimp only [List.set]
        refine kG.aload_n 65 dX3_bringWood_64 rfl rfl ?_
        refine gG.getP 68 dX3_bringWood_65 fX3_21 (isW_k hw) (isW_s hw) rfl (PI_W hw (by decide)) rfl ?_
        refine kG.iload_n 69 dX3_bringWood_68 rfl rfl ?_
        refine kG.bipush (v := nI 99) 71 dX3_bringWood_69 (by decide) rfl ?_
        refine kG.iload 73 dX3_bringWood_71 rfl rfl ?_
        refine gG.mmin 76 dX3_bringWood_73 lX3_102 (by decide) (Nat.le_of_ble_eq_true rfl) rfl ?_
        have b1 := gsN_le (h := i) (w := week) okg G.1 (Nat.le_refl _)
        have b2_ := hwd i (by omega)
        have b3 := (ok.2.2.1 i (by omega)).1
        have b4 : moS mh mw week i ≤ 99 := by unfold moS; split <;> omega
        rw [min_eq (by omega), show wd i + dco D i + gsN G i week G.1 + moS mh mw week i = wd i + dco D i + (gsN G i week G.1 + moS mh mw week i) by omega]
        refine gG.iast (n := 4) _ 77 dX3_bringWood_76 (arW_k hw (by decide)) (arW_s hw (by decide)) rfl (by omega) (by decide) rfl ?_
        refine kG.iinc (v := nI (i + 1)) 80 dX3_bringWood_77 rfl (nI_1 i) (by decide) rfl rfl ?_
        dsimp only [List.set]
        refine kG.goto 2 dX3_bringWood_80 (by decide) ?_
        refine kG.sub (kLe_s rfl (kLe_s rfl (kLe_s rfl (kLe_n (kLe_n kLe_0))))) (ih (i + 1) _ (by omega) (fun k a => by rw [uI_off a]; exact h1 k a) (fun j hj => ?_))
        by_cases e : j = i
        · subst e; rw [uI_same]; simp [bwN]
        · rw [uI_ne (Or.inr e), h2 j hj]
          unfold bwN
          by_cases h : j < i
          · rw [if_pos h, if_pos (by omega)]
          · rw [if_neg h, if_neg (by omega)]
      · rw [h1 w (by omega)] at h18
        have h18 := (e10 i (by omega)).mp h18
        refine kG.iload_n 22 dX3_bringWood_21 rfl rfl ?_
        refine kG.if_ne 32 25 dX3_bringWood_22 (by decide) rfl (fun h22 => ?_) (fun h22 => ?_)
        · have hmo : 0 = moS mh mw week i := by unfold moS; rw [if_neg (fun z => h22 (by rw [z.2]; rfl))]
          refine kG.iconst (v := nI 0) 33 dX3_bringWood_32 (by decide) rfl ?_
          first | rw [h1 w (by omega), e11, show nI mw = nI (moS mh mw week i) from congrArg nI hmo] | rw [show nI 0 = nI (moS mh mw week i) from congrArg nI hmo]
          refine kG.istore_n 34 dX3_bringWood_33 (by decide) rfl rfl ?_
          dsimp only [List.set]
          refine kG.aload_n 35 dX3_bringWood_34 rfl rfl ?_
          refine gG.getP 38 dX3_bringWood_35 fX3_21 (isW_k hw) (isW_s hw) rfl (PI_W hw (by decide)) rfl ?_
          refine kG.iload_n 39 dX3_bringWood_38 rfl rfl ?_
          refine gG.iald (n := 4) _ 40 dX3_bringWood_39 (arW_k hw (by decide)) (arW_s hw (by decide)) rfl (by omega) (by decide) rfl ?_
          rw [h2 i (by omega), show bwN wd (dco D) (fun h => gsN G h week G.1 + moS mh mw week h) i i = wd i by simp [bwN]]
          refine kG.aload_n 41 dX3_bringWood_40 rfl rfl ?_
          refine gG.getP 44 dX3_bringWood_41 fX3_43 (isW_k hw) (isW_s hw) rfl (PI_W7 hw) rfl ?_
          refine gG.getP 47 dX3_bringWood_44 fX3_94 (isT_k htq) (isT_s htq) rfl (PI_T htq (by decide)) rfl ?_
          refine kG.iload_n 48 dX3_bringWood_47 rfl rfl ?_
          refine gG.iald (n := 4) _ 49 dX3_bringWood_48 (arT_k htq (by decide)) (arT_s htq (by decide)) rfl (by omega) (by decide) rfl ?_
          rw [(hD1.2.2.1 i (by omega)).1]
          refine kG.iadd 50 dX3_bringWood_49 rfl ?_
          rw [nI_add]
          refine kG.aload_n 51 dX3_bringWood_50 rfl rfl ?_
          refine gG.getP 54 dX3_bringWood_51 fX3_47 (isW_k hw) (isW_s hw) rfl (PI_W6 hw) rfl ?_
          refine kG.iload_n 55 dX3_bringWood_54 rfl rfl ?_
          refine kG.iload_n 56 dX3_bringWood_55 rfl rfl ?_
          refine gG.callV 59 dX3_bringWood_56 lX3_97 vX0_sumOf (c_sumOf Γ (Or.inl rfl) hG1 okg hn i week (by omega) (by omega)) rfl rfl ⟨by decide, by decide⟩ rfl ⟨by decide, rfl⟩ ⟨by decide, by decide⟩ (Nat.le_of_ble_eq_true rfl) rfl (fun r56 μ56 q56 hc56 => ?_)
          obtain ⟨rfl, rfl, rfl⟩ := hc56
          refine kG.iadd 60 dX3_bringWood_59 rfl ?_
          rw [nI_add]
          refine kG.iload_n 61 dX3_bringWood_60 rfl rfl ?_
          refine kG.iadd 62 dX3_bringWood_61 rfl ?_
          rw [nI_add]
          refine kG.istore 64 dX3_bringWood_62 (by decide) rfl rfl ?_
          dsimp only [List.set]
          refine kG.aload_n 65 dX3_bringWood_64 rfl rfl ?_
          refine gG.getP 68 dX3_bringWood_65 fX3_21 (isW_k hw) (isW_s hw) rfl (PI_W hw (by decide)) rfl ?_
          refine kG.iload_n 69 dX3_bringWood_68 rfl rfl ?_
          refine kG.bipush (v := nI 99) 71 dX3_bringWood_69 (by decide) rfl ?_
          refine kG.iload 73 dX3_bringWood_71 rfl rfl ?_
          refine gG.mmin 76 dX3_bringWood_73 lX3_102 (by decide) (Nat.le_of_ble_eq_true rfl) rfl ?_
          have b1 := gsN_le (h := i) (w := week) okg G.1 (Nat.le_refl _)
          have b2_ := hwd i (by omega)
          have b3 := (ok.2.2.1 i (by omega)).1
          have b4 : moS mh mw week i ≤ 99 := by unfold moS; split <;> omega
          rw [min_eq (by omega), show wd i + dco D i + gsN G i week G.1 + moS mh mw week i = wd i + dco D i + (gsN G i week G.1 + moS mh mw week i) by omega]
          refine gG.iast (n := 4) _ 77 dX3_bringWood_76 (arW_k hw (by decide)) (arW_s hw (by decide)) rfl (by omega) (by decide) rfl ?_
          refine kG.iinc (v := nI (i + 1)) 80 dX3_bringWood_77 rfl (nI_1 i) (by decide) rfl rfl ?_
          dsimp only [List.set]
          refine kG.goto 2 dX3_bringWood_80 (by decide) ?_
          refine kG.sub (kLe_s rfl (kLe_s rfl (kLe_s rfl (kLe_n (kLe_n kLe_0))))) (ih (i + 1) _ (by omega) (fun k a => by rw [uI_off a]; exact h1 k a) (fun j hj => ?_))
          by_cases e : j = i
          · subst e; rw [uI_same]; simp [bwN]
          · rw [uI_ne (Or.inr e), h2 j hj]
            unfold bwN
            by_cases h : j < i
            · rw [if_pos h, if_pos (by omega)]
            · rw [if_neg h, if_neg (by omega)]
        · have hw0 : week = 0 := (nI_eq (b := 0) (by omega) (by decide)).mp h22
          have hmo : mw = moS mh mw week i := by unfold moS; rw [if_pos ⟨h18, hw0⟩]
          refine kG.aload_n 26 dX3_bringWood_25 rfl rfl ?_
          refine gG.getI 29 dX3_bringWood_26 fX3_40 (isW_k hw) (isW_s hw) rfl rfl ?_
          refine kG.goto 33 dX3_bringWood_29 (by decide) ?_
          first | rw [h1 w (by omega), e11, show nI mw = nI (moS mh mw week i) from congrArg nI hmo] | rw [show nI 0 = nI (moS mh mw week i) from congrArg nI hmo]
          refine kG.istore_n 34 dX3_bringWood_33 (by decide) rfl rfl ?_
          dsimp only [List.set]
          refine kG.aload_n 35 dX3_bringWood_34 rfl rfl ?_
          refine gG.getP 38 dX3_bringWood_35 fX3_21 (isW_k hw) (isW_s hw) rfl (PI_W hw (by decide)) rfl ?_
          refine kG.iload_n 39 dX3_bringWood_38 rfl rfl ?_
          refine gG.iald (n := 4) _ 40 dX3_bringWood_39 (arW_k hw (by decide)) (arW_s hw (by decide)) rfl (by omega) (by decide) rfl ?_
          rw [h2 i (by omega), show bwN wd (dco D) (fun h => gsN G h week G.1 + moS mh mw week h) i i = wd i by simp [bwN]]
          refine kG.aload_n 41 dX3_bringWood_40 rfl rfl ?_
          refine gG.getP 44 dX3_bringWood_41 fX3_43 (isW_k hw) (isW_s hw) rfl (PI_W7 hw) rfl ?_
          refine gG.getP 47 dX3_bringWood_44 fX3_94 (isT_k htq) (isT_s htq) rfl (PI_T htq (by decide)) rfl ?_
          refine kG.iload_n 48 dX3_bringWood_47 rfl rfl ?_
          refine gG.iald (n := 4) _ 49 dX3_bringWood_48 (arT_k htq (by decide)) (arT_s htq (by decide)) rfl (by omega) (by decide) rfl ?_
          rw [(hD1.2.2.1 i (by omega)).1]
          refine kG.iadd 50 dX3_bringWood_49 rfl ?_
          rw [nI_add]
          refine kG.aload_n 51 dX3_bringWood_50 rfl rfl ?_
          refine gG.getP 54 dX3_bringWood_51 fX3_47 (isW_k hw) (isW_s hw) rfl (PI_W6 hw) rfl ?_
          refine kG.iload_n 55 dX3_bringWood_54 rfl rfl ?_
          refine kG.iload_n 56 dX3_bringWood_55 rfl rfl ?_
          refine gG.callV 59 dX3_bringWood_56 lX3_97 vX0_sumOf (c_sumOf Γ (Or.inl rfl) hG1 okg hn i week (by omega) (by omega)) rfl rfl ⟨by decide, by decide⟩ rfl ⟨by decide, rfl⟩ ⟨by decide, by decide⟩ (Nat.le_of_ble_eq_true rfl) rfl (fun r56 μ56 q56 hc56 => ?_)
          obtain ⟨rfl, rfl, rfl⟩ := hc56
          refine kG.iadd 60 dX3_bringWood_59 rfl ?_
          rw [nI_add]
          refine kG.iload_n 61 dX3_bringWood_60 rfl rfl ?_
          refine kG.iadd 62 dX3_bringWood_61 rfl ?_
          rw [nI_add]
          refine kG.istore 64 dX3_bringWood_62 (by decide) rfl rfl ?_
          dsimp only [List.set]
          refine kG.aload_n 65 dX3_bringWood_64 rfl rfl ?_
          refine gG.getP 68 dX3_bringWood_65 fX3_21 (isW_k hw) (isW_s hw) rfl (PI_W hw (by decide)) rfl ?_
          refine kG.iload_n 69 dX3_bringWood_68 rfl rfl ?_
          refine kG.bipush (v := nI 99) 71 dX3_bringWood_69 (by decide) rfl ?_
          refine kG.iload 73 dX3_bringWood_71 rfl rfl ?_
          refine gG.mmin 76 dX3_bringWood_73 lX3_102 (by decide) (Nat.le_of_ble_eq_true rfl) rfl ?_
          have b1 := gsN_le (h := i) (w := week) okg G.1 (Nat.le_refl _)
          have b2_ := hwd i (by omega)
          have b3 := (ok.2.2.1 i (by omega)).1
          have b4 : moS mh mw week i ≤ 99 := by unfold moS; split <;> omega
          rw [min_eq (by omega), show wd i + dco D i + gsN G i week G.1 + moS mh mw week i = wd i + dco D i + (gsN G i week G.1 + moS mh mw week i) by omega]
          refine gG.iast (n := 4) _ 77 dX3_bringWood_76 (arW_k hw (by decide)) (arW_s hw (by decide)) rfl (by omega) (by decide) rfl ?_
          refine kG.iinc (v := nI (i + 1)) 80 dX3_bringWood_77 rfl (nI_1 i) (by decide) rfl rfl ?_
          dsimp only [List.set]
          refine kG.goto 2 dX3_bringWood_80 (by decide) ?_
          refine kG.sub (kLe_s rfl (kLe_s rfl (kLe_s rfl (kLe_n (kLe_n kLe_0))))) (ih (i + 1) _ (by omega) (fun k a => by rw [uI_off a]; exact h1 k a) (fun j hj => ?_))
          by_cases e : j = i
          · subst e; rw [uI_same]; simp [bwN]
          · rw [uI_ne (Or.inr e), h2 j hj]
            unfold bwN
            by_cases h : j < i
            · rw [if_pos h, if_pos (by omega)]
            · rw [if_neg h, if_neg (by omega)]
set_option maxHeartbeats 4000000 in
theorem c_bringWood (Γ : kGm) {μ : kM} {q : kq4} {w : Nat} (hw : isW w) (htq : isT (tq q w)) {D : Dt} (hD : TD D (tq q w) μ) (ok : okD D) {G : Kp} (hG : KD G 3 μ) (okg : okG G) (hn : G.1 ≤ 6) (week : Nat) (hwk : week < 10) (mh mw : Nat) (e10 : ∀ h, h < 4 → (nI h = μ w 10 ↔ h = mh)) (e11 : μ w 11 = nI mw) (hmw : mw ≤ 99) (wd : Nat → Nat) (hwd : ∀ h, h < dH D → wd h ≤ 99) (hw3 : An (w + 1 + 3) (dH D) wd μ) : gC Γ yX3_bringWood mX3_bringWood 2 [.ref w, .int (nI week)] μ q (fun r μ' q' => r = none ∧ q' = q ∧ (∀ k, k ≠ w + 1 + 3 → μ' k = μ k) ∧ An (w + 1 + 3) (dH D) (bwN wd (dco D) (fun h => gsN G h week G.1 + moS mh mw week h) (dH D)) μ') := by
  refine gC.ofG (n := 0) ⟨by decide +kernel, rfl, rfl, by decide⟩ (Nat.le_of_ble_eq_true rfl) ?_
  show gG Γ mX3_bringWood 2 0 [some (.ref w), some (.int (nI week)), none, none, none] [] μ q _
  refine kG.iconst (v := nI 0) 1 dX3_bringWood_0 (by decide) rfl ?_
  refine kG.istore_n 2 dX3_bringWood_1 (by decide) rfl rfl ?_
  dsimp only [List.set]
  exact brin_loop Γ hw htq hD ok hG okg hn week hwk mh mw e10 e11 hmw wd hwd (dH D) 0 μ (by omega) (fun _ _ => rfl) (fun j hj => by rw [hw3 j hj]; simp [bwN])
set_option maxHeartbeats 4000000 in
theorem take_loop (Γ : kGm) {μ : kM} {q : kq4} {w : Nat} (hw : isW w) (htq : isT (tq q w)) {D : Dt} (hD : TD D (tq q w) μ) (ok : okD D) {c : Cf} (hc : LC D c) (okc : okC (dH D) c) (hwa : An (w + 1 + 5) (dP D) (cwa c) μ) (mm : Nat) (hmm : mm < 2 ^ 31) (wd wr : Nat → Nat) (hbd : bdS (dH D) wd wr) : ∀ (m i : Nat) (μ1 : kM), i + m = dP D → (∀ k, k ≠ w + 1 + 3 → k ≠ w + 1 + 4 → μ1 k = μ k) → (An (w + 1 + 3) (dH D) (tkN c mm.testBit i (wd, wr, 0)).1 μ1) → (An (w + 1 + 4) (dH D) (tkN c mm.testBit i (wd, wr, 0)).2.1 μ1) → gG Γ mX3_takeWood 2 4 [some (.ref w), some (.int (nI mm)), some (.int (nI (tkN c mm.testBit i (wd, wr, 0)).2.2)), some (.int (nI i)), none] [] (μ1) q (fun r μ' q' => r = some (.int (nI (tkN c mm.testBit (dP D) (wd, wr, 0)).2.2)) ∧ q' = q ∧ (∀ k, k ≠ w + 1 + 3 → k ≠ w + 1 + 4 → μ' k = μ k) ∧ An (w + 1 + 3) (dH D) (tkN c mm.testBit (dP D) (wd, wr, 0)).1 μ' ∧ An (w + 1 + 4) (dH D) (tkN c mm.testBit (dP D) (wd, wr, 0)).2.1 μ') := by
  intro m
  induction m with
  | zero =>
    intro i μ1 hm h1 h2 h3
    have hD1 : TD D (tq q w) μ1 := TD_fr hD (fun k a b => by have := TW_lt htq hw b; exact h1 k (by omega) (by omega))
    have hH := ok.1
    have hP := ok.2.1
    obtain ⟨l1, l2, l3, l4, l5⟩ := hc
    refine kG.iload_n 5 dX3_takeWood_4 rfl rfl ?_
    refine kG.aload_n 6 dX3_takeWood_5 rfl rfl ?_
    refine gG.getP 9 dX3_takeWood_6 fX3_43 (isW_k hw) (isW_s hw) rfl (PI_W7 hw) rfl ?_
    refine gG.getI 12 dX3_takeWood_9 fX3_54 (isT_k htq) (isT_s htq) rfl rfl ?_
    refine kG.icmp_ge 123 15 dX3_takeWood_12 (by decide) rfl (fun h12 => ?_) (fun h12 => ?_)
    · refine kG.iload_n 124 dX3_takeWood_123 rfl rfl ?_
      refine gG.iret dX3_takeWood_124 rfl ?_
      rw [show i = dP D by omega] at h2 h3 ⊢
      exact ⟨rfl, rfl, h1, h2, h3⟩
    · rw [hD1.2.1] at h12
      exact absurd (nI_le (by omega) (by omega)) h12
  | succ m ih =>
    intro i μ1 hm h1 h2 h3
    have hD1 : TD D (tq q w) μ1 := TD_fr hD (fun k a b => by have := TW_lt htq hw b; exact h1 k (by omega) (by omega))
    have hH := ok.1
    have hP := ok.2.1
    obtain ⟨l1, l2, l3, l4, l5⟩ := hc
    have bd := tkN_bd (f := mm.testBit) (s := (wd, wr, 0)) okc hbd i (by omega)
    obtain ⟨d1, d2, d3, d4, d5⟩ := hD1.2.2.2 i (by omega)
    obtain ⟨k1, k2, k3, k4, k5⟩ := ok.2.2.2 i (by omega)
    obtain ⟨o1, o2⟩ := ok.2.2.1 _ k3
    obtain ⟨b1, b2_⟩ := bd _ k3
    have hwi : μ1 (w + 1 + 5) i = nI (cwa c i) := by rw [h1 _ (by omega) (by omega)]; exact hwa i (by omega)
    have hw12 := (okc.2.2.2.2.2.1 i (by omega)).1
    generalize hS : (tkN c mm.testBit i (wd, wr, 0)) = S at *
    have hbe := (hD1.2.2.1 _ k3).2
    refine kG.iload_n 5 dX3_takeWood_4 rfl rfl ?_
    refine kG.aload_n 6 dX3_takeWood_5 rfl rfl ?_
    refine gG.getP 9 dX3_takeWood_6 fX3_43 (isW_k hw) (isW_s hw) rfl (PI_W7 hw) rfl ?_
    refine gG.getI 12 dX3_takeWood_9 fX3_54 (isT_k htq) (isT_s htq) rfl rfl ?_
    refine kG.icmp_ge 123 15 dX3_takeWood_12 (by decide) rfl (fun h12 => ?_) (fun h12 => ?_)
    · rw [hD1.2.1] at h12
      exact absurd h12 (nI_ge (by omega) (by omega))
    · refine kG.iload_n 16 dX3_takeWood_15 rfl rfl ?_
      refine kG.iload_n 17 dX3_takeWood_16 rfl rfl ?_
      refine kG.ishr 18 dX3_takeWood_17 rfl ?_
      refine kG.iconst (v := nI 1) 19 dX3_takeWood_18 (by decide) rfl ?_
      refine kG.iand 20 dX3_takeWood_19 rfl ?_
      rw [n_bit hmm (by omega)]
      refine kG.if_ne 26 23 dX3_takeWood_20 (by decide) rfl (fun h20 => ?_) (fun h20 => ?_)
      · have hb := b2_n0.mp h20
        have hT : tkN c mm.testBit (i + 1) (wd, wr, 0) = tk1 c i S := by rw [← hS]; simp [tkN, hb]
        refine kG.aload_n 27 dX3_takeWood_26 rfl rfl ?_
        refine gG.getP 30 dX3_takeWood_27 fX3_43 (isW_k hw) (isW_s hw) rfl (PI_W7 hw) rfl ?_
        refine gG.getP 33 dX3_takeWood_30 fX3_107 (isT_k htq) (isT_s htq) rfl (PI_T htq (by decide)) rfl ?_
        refine kG.iload_n 34 dX3_takeWood_33 rfl rfl ?_
        refine gG.iald (n := 6) _ 35 dX3_takeWood_34 (arT_k htq (by decide)) (arT_s htq (by decide)) rfl (by omega) (by decide) rfl ?_
        rw [d3]
        refine kG.istore 37 dX3_takeWood_35 (by decide) rfl rfl ?_
        dsimp only [List.set]
        refine kG.aload_n 38 dX3_takeWood_37 rfl rfl ?_
        refine gG.getP 41 dX3_takeWood_38 fX3_43 (isW_k hw) (isW_s hw) rfl (PI_W7 hw) rfl ?_
        refine kG.iload 43 dX3_takeWood_41 rfl rfl ?_
        refine kG.aload_n 44 dX3_takeWood_43 rfl rfl ?_
        refine gG.getP 47 dX3_takeWood_44 fX3_24 (isW_k hw) (isW_s hw) rfl (PI_W hw (by decide)) rfl ?_
        refine kG.iload 49 dX3_takeWood_47 rfl rfl ?_
        refine gG.iald (n := 4) _ 50 dX3_takeWood_49 (arW_k hw (by decide)) (arW_s hw (by decide)) rfl (by omega) (by decide) rfl ?_
        rw [h3 _ k3]
        refine gG.callV 53 dX3_takeWood_50 lX3_110 vX2_breaksBy (c_breaksBy Γ htq (dho D i) (dbe D (dho D i)) (S.2.1 (dho D i)) (by omega) (by omega) (by omega) hbe) rfl rfl (isT_k htq) (isT_s htq) ⟨by decide, rfl⟩ ⟨by decide, by decide⟩ (Nat.le_of_ble_eq_true rfl) rfl (fun r50 μ50 q50 hc50 => ?_)
        obtain ⟨rfl, rfl, rfl⟩ := hc50
        refine kG.if_eq 65 56 dX3_takeWood_53 (by decide) rfl (fun h53 => ?_) (fun h53 => ?_)
        · rw [b2_0, decide_eq_false_iff_not] at h53
          refine kG.aload_n 66 dX3_takeWood_65 rfl rfl ?_
          refine gG.getP 69 dX3_takeWood_66 fX3_21 (isW_k hw) (isW_s hw) rfl (PI_W hw (by decide)) rfl ?_
          refine kG.iload 71 dX3_takeWood_69 rfl rfl ?_
          refine gG.iald (n := 4) _ 72 dX3_takeWood_71 (arW_k hw (by decide)) (arW_s hw (by decide)) rfl (by omega) (by decide) rfl ?_
          rw [h2 _ k3]
          refine kG.aload_n 73 dX3_takeWood_72 rfl rfl ?_
          refine gG.getP 76 dX3_takeWood_73 fX3_27 (isW_k hw) (isW_s hw) rfl (PI_W hw (by decide)) rfl ?_
          refine kG.iload_n 77 dX3_takeWood_76 rfl rfl ?_
          refine gG.iald (n := 6) _ 78 dX3_takeWood_77 (arW_k hw (by decide)) (arW_s hw (by decide)) rfl (by omega) (by decide) rfl ?_
          rw [hwi]
          refine kG.icmp_lt 100 81 dX3_takeWood_78 (by decide) rfl (fun h78 => ?_) (fun h78 => ?_)
          · have hlt := (nI_ltI (by omega) (by omega)).mp h78
            have hT2 : tk1 c i S = (S.1, fu S.2.1 (dho D i) (S.2.1 (dho D i) + 1), S.2.2 ||| 2 ^ i) := by unfold tk1; rw [l3, l4, if_neg h53, if_neg (by omega)]
            refine kG.iload_n 101 dX3_takeWood_100 rfl rfl ?_
            refine kG.iconst (v := nI 1) 102 dX3_takeWood_101 (by decide) rfl ?_
            refine kG.iload_n 103 dX3_takeWood_102 rfl rfl ?_
            refine kG.ishl 104 dX3_takeWood_103 rfl ?_
            refine kG.ior 105 dX3_takeWood_104 rfl ?_
            rw [n_shl (by omega), n_or]
            refine kG.istore_n 106 dX3_takeWood_105 (by decide) rfl rfl ?_
            dsimp only [List.set]
            refine kG.aload_n 107 dX3_takeWood_106 rfl rfl ?_
            refine gG.getP 110 dX3_takeWood_107 fX3_24 (isW_k hw) (isW_s hw) rfl (PI_W hw (by decide)) rfl ?_
            refine kG.iload 112 dX3_takeWood_110 rfl rfl ?_
            refine kG.dup2 113 dX3_takeWood_112 rfl rfl rfl ?_
            refine gG.iald (n := 4) _ 114 dX3_takeWood_113 (arW_k hw (by decide)) (arW_s hw (by decide)) rfl (by omega) (by decide) rfl ?_
            first | rw [uI_off (by omega), h3 _ k3] | rw [h3 _ k3]
            refine kG.iconst (v := nI 1) 115 dX3_takeWood_114 (by decide) rfl ?_
            refine kG.iadd 116 dX3_takeWood_115 rfl ?_
            rw [nI_add]
            refine gG.iast (n := 4) _ 117 dX3_takeWood_116 (arW_k hw (by decide)) (arW_s hw (by decide)) rfl (by omega) (by decide) rfl ?_
            refine kG.iinc (v := nI (i + 1)) 120 dX3_takeWood_117 rfl (nI_1 i) (by decide) rfl rfl ?_
            dsimp only [List.set]
            refine kG.goto 4 dX3_takeWood_120 (by decide) ?_
            first
              | (refine kG.sub (kLe_s rfl (kLe_s rfl (kLe_s (v := .int (nI (tkN c mm.testBit (i + 1) (wd, wr, 0)).2.2)) (by rw [hT]) (kLe_s rfl (kLe_n kLe_0))))) (ih (i + 1) _ (by omega) h1 (by rw [hT]; exact h2) (by rw [hT]; exact h3)); done)
              | (refine kG.sub (kLe_s rfl (kLe_s rfl (kLe_s (v := .int (nI (tkN c mm.testBit (i + 1) (wd, wr, 0)).2.2)) (by rw [hT, hT2]) (kLe_s rfl (kLe_n kLe_0))))) (ih (i + 1) _ (by omega) h1 (by rw [hT, hT2]; exact h2) (by rw [hT, hT2]; exact h3)); done)
              | (refine kG.sub (kLe_s rfl (kLe_s rfl (kLe_s (v := .int (nI (tkN c mm.testBit (i + 1) (wd, wr, 0)).2.2)) (by rw [hT, hT2]) (kLe_s rfl (kLe_n kLe_0))))) (ih (i + 1) _ (by omega) (fun k a b => by rw [uI_off b]; exact h1 k a b) (by rw [hT, hT2]; exact An_off h2 (by omega)) (by rw [hT, hT2]; exact An_uI h3)); done)
              | (refine kG.sub (kLe_s rfl (kLe_s rfl (kLe_s (v := .int (nI (tkN c mm.testBit (i + 1) (wd, wr, 0)).2.2)) (by rw [hT, hT2]) (kLe_s rfl (kLe_n kLe_0))))) (ih (i + 1) _ (by omega) (fun k a b => by rw [uI_off b, uI_off a]; exact h1 k a b) (by rw [hT, hT2]; exact An_off (An_uI h2) (by omega)) (by rw [hT, hT2]; exact An_uI (An_off h3 (by omega)))); done)
          · have hge : cwa c i ≤ S.1 (dho D i) := Nat.not_lt.mp fun z => h78 (nI_lt z (by omega))
            have hT2 : tk1 c i S = (fu S.1 (dho D i) (S.1 (dho D i) - cwa c i), fu S.2.1 (dho D i) (S.2.1 (dho D i) + 1), S.2.2) := by unfold tk1; rw [l3, l4, if_neg h53, if_pos hge]
            refine kG.aload_n 82 dX3_takeWood_81 rfl rfl ?_
            refine gG.getP 85 dX3_takeWood_82 fX3_21 (isW_k hw) (isW_s hw) rfl (PI_W hw (by decide)) rfl ?_
            refine kG.iload 87 dX3_takeWood_85 rfl rfl ?_
            refine kG.dup2 88 dX3_takeWood_87 rfl rfl rfl ?_
            refine gG.iald (n := 4) _ 89 dX3_takeWood_88 (arW_k hw (by decide)) (arW_s hw (by decide)) rfl (by omega) (by decide) rfl ?_
            rw [h2 _ k3]
            refine kG.aload_n 90 dX3_takeWood_89 rfl rfl ?_
            refine gG.getP 93 dX3_takeWood_90 fX3_27 (isW_k hw) (isW_s hw) rfl (PI_W hw (by decide)) rfl ?_
            refine kG.iload_n 94 dX3_takeWood_93 rfl rfl ?_
            refine gG.iald (n := 6) _ 95 dX3_takeWood_94 (arW_k hw (by decide)) (arW_s hw (by decide)) rfl (by omega) (by decide) rfl ?_
            rw [hwi]
            refine kG.isub 96 dX3_takeWood_95 rfl ?_
            rw [pk_sub hge]
            refine gG.iast (n := 4) _ 97 dX3_takeWood_96 (arW_k hw (by decide)) (arW_s hw (by decide)) rfl (by omega) (by decide) rfl ?_
            refine kG.goto 106 dX3_takeWood_97 (by decide) ?_
            refine kG.aload_n 107 dX3_takeWood_106 rfl rfl ?_
            refine gG.getP 110 dX3_takeWood_107 fX3_24 (isW_k hw) (isW_s hw) rfl (PI_W hw (by decide)) rfl ?_
            refine kG.iload 112 dX3_takeWood_110 rfl rfl ?_
            refine kG.dup2 113 dX3_takeWood_112 rfl rfl rfl ?_
            refine gG.iald (n := 4) _ 114 dX3_takeWood_113 (arW_k hw (by decide)) (arW_s hw (by decide)) rfl (by omega) (by decide) rfl ?_
            first | rw [uI_off (by omega), h3 _ k3] | rw [h3 _ k3]
            refine kG.iconst (v := nI 1) 115 dX3_takeWood_114 (by decide) rfl ?_
            refine kG.iadd 116 dX3_takeWood_115 rfl ?_
            rw [nI_add]
            refine gG.iast (n := 4) _ 117 dX3_takeWood_116 (arW_k hw (by decide)) (arW_s hw (by decide)) rfl (by omega) (by decide) rfl ?_
            refine kG.iinc (v := nI (i + 1)) 120 dX3_takeWood_117 rfl (nI_1 i) (by decide) rfl rfl ?_
            dsimp only [List.set]
            refine kG.goto 4 dX3_takeWood_120 (by decide) ?_
            first
              | (refine kG.sub (kLe_s rfl (kLe_s rfl (kLe_s (v := .int (nI (tkN c mm.testBit (i + 1) (wd, wr, 0)).2.2)) (by rw [hT]) (kLe_s rfl (kLe_n kLe_0))))) (ih (i + 1) _ (by omega) h1 (by rw [hT]; exact h2) (by rw [hT]; exact h3)); done)
              | (refine kG.sub (kLe_s rfl (kLe_s rfl (kLe_s (v := .int (nI (tkN c mm.testBit (i + 1) (wd, wr, 0)).2.2)) (by rw [hT, hT2]) (kLe_s rfl (kLe_n kLe_0))))) (ih (i + 1) _ (by omega) h1 (by rw [hT, hT2]; exact h2) (by rw [hT, hT2]; exact h3)); done)
              | (refine kG.sub (kLe_s rfl (kLe_s rfl (kLe_s (v := .int (nI (tkN c mm.testBit (i + 1) (wd, wr, 0)).2.2)) (by rw [hT, hT2]) (kLe_s rfl (kLe_n kLe_0))))) (ih (i + 1) _ (by omega) (fun k a b => by rw [uI_off b]; exact h1 k a b) (by rw [hT, hT2]; exact An_off h2 (by omega)) (by rw [hT, hT2]; exact An_uI h3)); done)
              | (refine kG.sub (kLe_s rfl (kLe_s rfl (kLe_s (v := .int (nI (tkN c mm.testBit (i + 1) (wd, wr, 0)).2.2)) (by rw [hT, hT2]) (kLe_s rfl (kLe_n kLe_0))))) (ih (i + 1) _ (by omega) (fun k a b => by rw [uI_off b, uI_off a]; exact h1 k a b) (by rw [hT, hT2]; exact An_off (An_uI h2) (by omega)) (by rw [hT, hT2]; exact An_uI (An_off h3 (by omega)))); done)
        · rw [b2_n0, decide_eq_true_iff] at h53
          have hT2 : tk1 c i S = (S.1, S.2.1, S.2.2 ||| 2 ^ i) := by unfold tk1; rw [l3, l4, if_pos h53]
          refine kG.iload_n 57 dX3_takeWood_56 rfl rfl ?_
          refine kG.iconst (v := nI 1) 58 dX3_takeWood_57 (by decide) rfl ?_
          refine kG.iload_n 59 dX3_takeWood_58 rfl rfl ?_
          refine kG.ishl 60 dX3_takeWood_59 rfl ?_
          refine kG.ior 61 dX3_takeWood_60 rfl ?_
          rw [n_shl (by omega), n_or]
          refine kG.istore_n 62 dX3_takeWood_61 (by decide) rfl rfl ?_
          dsimp only [List.set]
          refine kG.goto 117 dX3_takeWood_62 (by decide) ?_
          refine kG.iinc (v := nI (i + 1)) 120 dX3_takeWood_117 rfl (nI_1 i) (by decide) rfl rfl ?_
          dsimp only [List.set]
          refine kG.goto 4 dX3_takeWood_120 (by decide) ?_
          first
            | (refine kG.sub (kLe_s rfl (kLe_s rfl (kLe_s (v := .int (nI (tkN c mm.testBit (i + 1) (wd, wr, 0)).2.2)) (by rw [hT]) (kLe_s rfl (kLe_n kLe_0))))) (ih (i + 1) _ (by omega) h1 (by rw [hT]; exact h2) (by rw [hT]; exact h3)); done)
            | (refine kG.sub (kLe_s rfl (kLe_s rfl (kLe_s (v := .int (nI (tkN c mm.testBit (i + 1) (wd, wr, 0)).2.2)) (by rw [hT, hT2]) (kLe_s rfl (kLe_n kLe_0))))) (ih (i + 1) _ (by omega) h1 (by rw [hT, hT2]; exact h2) (by rw [hT, hT2]; exact h3)); done)
            | (refine kG.sub (kLe_s rfl (kLe_s rfl (kLe_s (v := .int (nI (tkN c mm.testBit (i + 1) (wd, wr, 0)).2.2)) (by rw [hT, hT2]) (kLe_s rfl (kLe_n kLe_0))))) (ih (i + 1) _ (by omega) (fun k a b => by rw [uI_off b]; exact h1 k a b) (by rw [hT, hT2]; exact An_off h2 (by omega)) (by rw [hT, hT2]; exact An_uI h3)); done)
            | (refine kG.sub (kLe_s rfl (kLe_s rfl (kLe_s (v := .int (nI (tkN c mm.testBit (i + 1) (wd, wr, 0)).2.2)) (by rw [hT, hT2]) (kLe_s rfl (kLe_n kLe_0))))) (ih (i + 1) _ (by omega) (fun k a b => by rw [uI_off b, uI_off a]; exact h1 k a b) (by rw [hT, hT2]; exact An_off (An_uI h2) (by omega)) (by rw [hT, hT2]; exact An_uI (An_off h3 (by omega)))); done)
      · have hb : mm.testBit i = false := b2_0.mp h20
        have hT : tkN c mm.testBit (i + 1) (wd, wr, 0) = S := by rw [← hS]; simp [tkN, hb]
        refine kG.goto 117 dX3_takeWood_23 (by decide) ?_
        refine kG.iinc (v := nI (i + 1)) 120 dX3_takeWood_117 rfl (nI_1 i) (by decide) rfl rfl ?_
        dsimp only [List.set]
        refine kG.goto 4 dX3_takeWood_120 (by decide) ?_
        first
          | (refine kG.sub (kLe_s rfl (kLe_s rfl (kLe_s (v := .int (nI (tkN c mm.testBit (i + 1) (wd, wr, 0)).2.2)) (by rw [hT]) (kLe_s rfl (kLe_n kLe_0))))) (ih (i + 1) _ (by omega) h1 (by rw [hT]; exact h2) (by rw [hT]; exact h3)); done)
          | (refine kG.sub (kLe_s rfl (kLe_s rfl (kLe_s (v := .int (nI (tkN c mm.testBit (i + 1) (wd, wr, 0)).2.2)) (by rw [hT, hT2]) (kLe_s rfl (kLe_n kLe_0))))) (ih (i + 1) _ (by omega) h1 (by rw [hT, hT2]; exact h2) (by rw [hT, hT2]; exact h3)); done)
          | (refine kG.sub (kLe_s rfl (kLe_s rfl (kLe_s (v := .int (nI (tkN c mm.testBit (i + 1) (wd, wr, 0)).2.2)) (by rw [hT, hT2]) (kLe_s rfl (kLe_n kLe_0))))) (ih (i + 1) _ (by omega) (fun k a b => by rw [uI_off b]; exact h1 k a b) (by rw [hT, hT2]; exact An_off h2 (by omega)) (by rw [hT, hT2]; exact An_uI h3)); done)
          | (refine kG.sub (kLe_s rfl (kLe_s rfl (kLe_s (v := .int (nI (tkN c mm.testBit (i + 1) (wd, wr, 0)).2.2)) (by rw [hT, hT2]) (kLe_s rfl (kLe_n kLe_0))))) (ih (i + 1) _ (by omega) (fun k a b => by rw [uI_off b, uI_off a]; exact h1 k a b) (by rw [hT, hT2]; exact An_off (An_uI h2) (by omega)) (by rw [hT, hT2]; exact An_uI (An_off h3 (by omega)))); done)
set_option maxHeartbeats 4000000 in
theorem c_takeWood (Γ : kGm) {μ : kM} {q : kq4} {w : Nat} (hw : isW w) (htq : isT (tq q w)) {D : Dt} (hD : TD D (tq q w) μ) (ok : okD D) {c : Cf} (hc : LC D c) (okc : okC (dH D) c) (hwa : An (w + 1 + 5) (dP D) (cwa c) μ) (mm : Nat) (hmm : mm < 2 ^ 31) (wd wr : Nat → Nat) (hbd : bdS (dH D) wd wr) (hw3 : An (w + 1 + 3) (dH D) wd μ) (hw4 : An (w + 1 + 4) (dH D) wr μ) : gC Γ yX3_takeWood mX3_takeWood 2 [.ref w, .int (nI mm)] μ q (fun r μ' q' => r = some (.int (nI (tkN c mm.testBit (dP D) (wd, wr, 0)).2.2)) ∧ q' = q ∧ (∀ k, k ≠ w + 1 + 3 → k ≠ w + 1 + 4 → μ' k = μ k) ∧ An (w + 1 + 3) (dH D) (tkN c mm.testBit (dP D) (wd, wr, 0)).1 μ' ∧ An (w + 1 + 4) (dH D) (tkN c mm.testBit (dP D) (wd, wr, 0)).2.1 μ') := by
  refine gC.ofG (n := 0) ⟨by decide +kernel, rfl, rfl, by decide⟩ (Nat.le_of_ble_eq_true rfl) ?_
  show gG Γ mX3_takeWood 2 0 [some (.ref w), some (.int (nI mm)), none, none, none] [] μ q _
  refine kG.iconst (v := nI 0) 1 dX3_takeWood_0 (by decide) rfl ?_
  refine kG.istore_n 2 dX3_takeWood_1 (by decide) rfl rfl ?_
  dsimp only [List.set]
  refine kG.iconst (v := nI 0) 3 dX3_takeWood_2 (by decide) rfl ?_
  refine kG.istore_n 4 dX3_takeWood_3 (by decide) rfl rfl ?_
  dsimp only [List.set]
  exact take_loop Γ hw htq hD ok hc okc hwa mm hmm wd wr hbd (dP D) 0 μ (by omega) (fun _ _ _ => rfl) hw3 hw4
theorem mend_eq {a b : Nat} (ha : a < 2 ^ 30) (hb : b < 2 ^ 30) : (if nI 0 < nI a - nI b then nI a - nI b else nI 0) = nI (a - b) := by
  rcases Nat.lt_or_ge b a with h | h
  · rw [pk_sub (by omega), if_pos (nI_lt (by omega) (by omega))]
  · rw [if_neg, show a - b = 0 by omega]
    intro z
    have h1 := Int32.lt_iff_toInt_lt.mp z
    rw [pk_sub_toInt ha hb, nI_toInt (by decide)] at h1
    omega
set_option maxHeartbeats 4000000 in
theorem mend_loop (Γ : kGm) {μ : kM} {q : kq4} {w : Nat} (hw : isW w) (htq : isT (tq q w)) {D : Dt} (hD : TD D (tq q w) μ) (ok : okD D) {c : Cf} (hc : LC D c) (okc : okC (dH D) c) (mm : Nat) (hmm : mm < 2 ^ 31) (wd wr : Nat → Nat) (hbd : bdS (dH D) wd wr) : ∀ (m i : Nat) (μ1 : kM), i + m = dP D → (∀ k, k ≠ w + 1 + 4 → μ1 k = μ k) → (An (w + 1 + 4) (dH D) (mdN c mm.testBit i wr) μ1) → gG Γ mX3_mend 2 2 [some (.ref w), some (.int (nI mm)), some (.int (nI i)), none] [] (μ1) q (fun r μ' q' => r = none ∧ q' = q ∧ (∀ k, k ≠ w + 1 + 4 → μ' k = μ k) ∧ An (w + 1 + 4) (dH D) (mdN c mm.testBit (dP D) wr) μ') := by
  intro m
  induction m with
  | zero =>
    intro i μ1 hm h1 h2
    have hD1 : TD D (tq q w) μ1 := TD_fr hD (fun k a b => by have := TW_lt htq hw b; exact h1 k (by omega))
    have hH := ok.1
    have hP := ok.2.1
    obtain ⟨l1, l2, l3, l4, l5⟩ := hc
    refine kG.iload_n 3 dX3_mend_2 rfl rfl ?_
    refine kG.aload_n 4 dX3_mend_3 rfl rfl ?_
    refine gG.getP 7 dX3_mend_4 fX3_43 (isW_k hw) (isW_s hw) rfl (PI_W7 hw) rfl ?_
    refine gG.getI 10 dX3_mend_7 fX3_54 (isT_k htq) (isT_s htq) rfl rfl ?_
    refine kG.icmp_ge 81 13 dX3_mend_10 (by decide) rfl (fun h10 => ?_) (fun h10 => ?_)
    · refine gG.vret dX3_mend_81 rfl ?_
      rw [show i = dP D by omega] at h2
      exact ⟨rfl, rfl, h1, h2⟩
    · rw [hD1.2.1] at h10
      exact absurd (nI_le (by omega) (by omega)) h10
  | succ m ih =>
    intro i μ1 hm h1 h2
    have hD1 : TD D (tq q w) μ1 := TD_fr hD (fun k a b => by have := TW_lt htq hw b; exact h1 k (by omega))
    have hH := ok.1
    have hP := ok.2.1
    obtain ⟨l1, l2, l3, l4, l5⟩ := hc
    have bd := mdN_bd (f := mm.testBit) (wd := wd) (wr := wr) okc hbd i (by omega)
    obtain ⟨d1, d2, d3, d4, d5⟩ := hD1.2.2.2 i (by omega)
    obtain ⟨k1, k2, k3, k4, k5⟩ := ok.2.2.2 i (by omega)
    obtain ⟨o1, o2⟩ := ok.2.2.1 _ k3
    obtain ⟨b1, b2_⟩ := bd _ k3
    generalize hS : (mdN c mm.testBit i wr) = S at *
    have hbe := (hD1.2.2.1 _ k3).2
    refine kG.iload_n 3 dX3_mend_2 rfl rfl ?_
    refine kG.aload_n 4 dX3_mend_3 rfl rfl ?_
    refine gG.getP 7 dX3_mend_4 fX3_43 (isW_k hw) (isW_s hw) rfl (PI_W7 hw) rfl ?_
    refine gG.getI 10 dX3_mend_7 fX3_54 (isT_k htq) (isT_s htq) rfl rfl ?_
    refine kG.icmp_ge 81 13 dX3_mend_10 (by decide) rfl (fun h10 => ?_) (fun h10 => ?_)
    · rw [hD1.2.1] at h10
      exact absurd h10 (nI_ge (by omega) (by omega))
    · refine kG.aload_n 14 dX3_mend_13 rfl rfl ?_
      refine gG.getP 17 dX3_mend_14 fX3_43 (isW_k hw) (isW_s hw) rfl (PI_W7 hw) rfl ?_
      refine gG.getP 20 dX3_mend_17 fX3_107 (isT_k htq) (isT_s htq) rfl (PI_T htq (by decide)) rfl ?_
      refine kG.iload_n 21 dX3_mend_20 rfl rfl ?_
      refine gG.iald (n := 6) _ 22 dX3_mend_21 (arT_k htq (by decide)) (arT_s htq (by decide)) rfl (by omega) (by decide) rfl ?_
      rw [d3]
      refine kG.istore_n 23 dX3_mend_22 (by decide) rfl rfl ?_
      dsimp only [List.set]
      refine kG.iload_n 24 dX3_mend_23 rfl rfl ?_
      refine kG.iload_n 25 dX3_mend_24 rfl rfl ?_
      refine kG.ishr 26 dX3_mend_25 rfl ?_
      refine kG.iconst (v := nI 1) 27 dX3_mend_26 (by decide) rfl ?_
      refine kG.iand 28 dX3_mend_27 rfl ?_
      refine kG.iconst (v := nI 1) 29 dX3_mend_28 (by decide) rfl ?_
      rw [n_bit hmm (by omega)]
      refine kG.icmp_ne 75 32 dX3_mend_29 (by decide) rfl (fun h29 => ?_) (fun h29 => ?_)
      · have hb : mm.testBit i = false := by cases hb : mm.testBit i <;> rw [hb] at h29 <;> first | rfl | exact absurd rfl h29
        have hT : mdN c mm.testBit (i + 1) wr = S := by rw [← hS]; simp [mdN, hb]
        refine kG.iinc (v := nI (i + 1)) 78 dX3_mend_75 rfl (nI_1 i) (by decide) rfl rfl ?_
        dsimp only [List.set]
        refine kG.goto 2 dX3_mend_78 (by decide) ?_
        first
          | (refine kG.sub (kLe_s rfl (kLe_s rfl (kLe_s rfl (kLe_n kLe_0)))) (ih (i + 1) _ (by omega) h1 (by rw [hT]; exact h2)); done)
          | (refine kG.sub (kLe_s rfl (kLe_s rfl (kLe_s rfl (kLe_n kLe_0)))) (ih (i + 1) _ (by omega) h1 (by rw [hT, hT2]; exact h2)); done)
          | (refine kG.sub (kLe_s rfl (kLe_s rfl (kLe_s rfl (kLe_n kLe_0)))) (ih (i + 1) _ (by omega) (fun k a => by rw [uI_off a]; exact h1 k a) (by rw [hT, hT2]; exact An_uI h2)); done)
      · have hb : mm.testBit i = true := by cases hb : mm.testBit i <;> rw [hb] at h29 <;> first | rfl | exact absurd h29 (by decide)
        have hT : mdN c mm.testBit (i + 1) wr = md1 c i S := by rw [← hS]; simp [mdN, hb]
        refine kG.aload_n 33 dX3_mend_32 rfl rfl ?_
        refine gG.getP 36 dX3_mend_33 fX3_43 (isW_k hw) (isW_s hw) rfl (PI_W7 hw) rfl ?_
        refine kG.iload_n 37 dX3_mend_36 rfl rfl ?_
        refine kG.aload_n 38 dX3_mend_37 rfl rfl ?_
        refine gG.getP 41 dX3_mend_38 fX3_24 (isW_k hw) (isW_s hw) rfl (PI_W hw (by decide)) rfl ?_
        refine kG.iload_n 42 dX3_mend_41 rfl rfl ?_
        refine gG.iald (n := 4) _ 43 dX3_mend_42 (arW_k hw (by decide)) (arW_s hw (by decide)) rfl (by omega) (by decide) rfl ?_
        rw [h2 _ k3]
        refine gG.callV 46 dX3_mend_43 lX3_110 vX2_breaksBy (c_breaksBy Γ htq (dho D i) (dbe D (dho D i)) (S (dho D i)) (by omega) (by omega) (by omega) hbe) rfl rfl (isT_k htq) (isT_s htq) ⟨by decide, rfl⟩ ⟨by decide, by decide⟩ (Nat.le_of_ble_eq_true rfl) rfl (fun r43 μ43 q43 hc43 => ?_)
        obtain ⟨rfl, rfl, rfl⟩ := hc43
        refine kG.if_ne 75 49 dX3_mend_46 (by decide) rfl (fun h46 => ?_) (fun h46 => ?_)
        · rw [b2_n0, decide_eq_true_iff] at h46
          have hT2 : md1 c i S = S := by unfold md1; rw [l3, l4, if_pos h46]
          refine kG.iinc (v := nI (i + 1)) 78 dX3_mend_75 rfl (nI_1 i) (by decide) rfl rfl ?_
          dsimp only [List.set]
          refine kG.goto 2 dX3_mend_78 (by decide) ?_
          first
            | (refine kG.sub (kLe_s rfl (kLe_s rfl (kLe_s rfl (kLe_n kLe_0)))) (ih (i + 1) _ (by omega) h1 (by rw [hT]; exact h2)); done)
            | (refine kG.sub (kLe_s rfl (kLe_s rfl (kLe_s rfl (kLe_n kLe_0)))) (ih (i + 1) _ (by omega) h1 (by rw [hT, hT2]; exact h2)); done)
            | (refine kG.sub (kLe_s rfl (kLe_s rfl (kLe_s rfl (kLe_n kLe_0)))) (ih (i + 1) _ (by omega) (fun k a => by rw [uI_off a]; exact h1 k a) (by rw [hT, hT2]; exact An_uI h2)); done)
        · have h46 := b2_0.mp h46
          rw [decide_eq_false_iff_not] at h46
          have hT2 : md1 c i S = fu S (dho D i) (S (dho D i) - dme D i) := by unfold md1; rw [l3, l4, if_neg h46, l5]
          refine kG.aload_n 50 dX3_mend_49 rfl rfl ?_
          refine gG.getP 53 dX3_mend_50 fX3_24 (isW_k hw) (isW_s hw) rfl (PI_W hw (by decide)) rfl ?_
          refine kG.iload_n 54 dX3_mend_53 rfl rfl ?_
          refine kG.iconst (v := nI 0) 55 dX3_mend_54 (by decide) rfl ?_
          refine kG.aload_n 56 dX3_mend_55 rfl rfl ?_
          refine gG.getP 59 dX3_mend_56 fX3_24 (isW_k hw) (isW_s hw) rfl (PI_W hw (by decide)) rfl ?_
          refine kG.iload_n 60 dX3_mend_59 rfl rfl ?_
          refine gG.iald (n := 4) _ 61 dX3_mend_60 (arW_k hw (by decide)) (arW_s hw (by decide)) rfl (by omega) (by decide) rfl ?_
          rw [h2 _ k3]
          refine kG.aload_n 62 dX3_mend_61 rfl rfl ?_
          refine gG.getP 65 dX3_mend_62 fX3_43 (isW_k hw) (isW_s hw) rfl (PI_W7 hw) rfl ?_
          refine gG.getP 68 dX3_mend_65 fX3_114 (isT_k htq) (isT_s htq) rfl (PI_T htq (by decide)) rfl ?_
          refine kG.iload_n 69 dX3_mend_68 rfl rfl ?_
          refine gG.iald (n := 6) _ 70 dX3_mend_69 (arT_k htq (by decide)) (arT_s htq (by decide)) rfl (by omega) (by decide) rfl ?_
          rw [d5]
          refine kG.isub 71 dX3_mend_70 rfl ?_
          refine gG.mmax 74 dX3_mend_71 lX3_117 (by decide) (Nat.le_of_ble_eq_true rfl) rfl ?_
          rw [show (if nI 0 < nI (S (dho D i)) - nI (dme D i) then nI (S (dho D i)) - nI (dme D i) else nI 0) = nI (S (dho D i) - dme D i) from mend_eq (by omega) (by omega)]
          refine gG.iast (n := 4) _ 75 dX3_mend_74 (arW_k hw (by decide)) (arW_s hw (by decide)) rfl (by omega) (by decide) rfl ?_
          refine kG.iinc (v := nI (i + 1)) 78 dX3_mend_75 rfl (nI_1 i) (by decide) rfl rfl ?_
          dsimp only [List.set]
          refine kG.goto 2 dX3_mend_78 (by decide) ?_
          first
            | (refine kG.sub (kLe_s rfl (kLe_s rfl (kLe_s rfl (kLe_n kLe_0)))) (ih (i + 1) _ (by omega) h1 (by rw [hT]; exact h2)); done)
            | (refine kG.sub (kLe_s rfl (kLe_s rfl (kLe_s rfl (kLe_n kLe_0)))) (ih (i + 1) _ (by omega) h1 (by rw [hT, hT2]; exact h2)); done)
            | (refine kG.sub (kLe_s rfl (kLe_s rfl (kLe_s rfl (kLe_n kLe_0)))) (ih (i + 1) _ (by omega) (fun k a => by rw [uI_off a]; exact h1 k a) (by rw [hT, hT2]; exact An_uI h2)); done)
set_option maxHeartbeats 4000000 in
theorem c_mend (Γ : kGm) {μ : kM} {q : kq4} {w : Nat} (hw : isW w) (htq : isT (tq q w)) {D : Dt} (hD : TD D (tq q w) μ) (ok : okD D) {c : Cf} (hc : LC D c) (okc : okC (dH D) c) (mm : Nat) (hmm : mm < 2 ^ 31) (wd wr : Nat → Nat) (hbd : bdS (dH D) wd wr) (hw4 : An (w + 1 + 4) (dH D) wr μ) : gC Γ yX3_mend mX3_mend 2 [.ref w, .int (nI mm)] μ q (fun r μ' q' => r = none ∧ q' = q ∧ (∀ k, k ≠ w + 1 + 4 → μ' k = μ k) ∧ An (w + 1 + 4) (dH D) (mdN c mm.testBit (dP D) wr) μ') := by
  refine gC.ofG (n := 0) ⟨by decide +kernel, rfl, rfl, by decide⟩ (Nat.le_of_ble_eq_true rfl) ?_
  show gG Γ mX3_mend 2 0 [some (.ref w), some (.int (nI mm)), none, none] [] μ q _
  refine kG.iconst (v := nI 0) 1 dX3_mend_0 (by decide) rfl ?_
  refine kG.istore_n 2 dX3_mend_1 (by decide) rfl rfl ?_
  dsimp only [List.set]
  exact mend_loop Γ hw htq hD ok hc okc mm hmm wd wr hbd (dP D) 0 μ (by omega) (fun _ _ => rfl) hw4
set_option maxHeartbeats 4000000 in
theorem note_loop (Γ : kGm) {μ : kM} {q : kq4} {w : Nat} (hw : isW w) (htq : isT (tq q w)) {D : Dt} (hD : TD D (tq q w) μ) (ok : okD D) (tm : Nat) (ht : tm < 140) (cd : Int32) (wd wr : Nat → Nat) (hw3 : An (w + 1 + 3) (dH D) wd μ) (hw4 : An (w + 1 + 4) (dH D) wr μ) : ∀ (m i : Nat) (μ1 : kM), i + m = dH D → (∀ k, k ≠ w + 1 + 0 → k ≠ w + 1 + 1 → k ≠ w + 1 + 2 → μ1 k = μ k) → (∀ j, μ1 (w + 1 + 2) j = if j = tm then cd else μ (w + 1 + 2) j) → (∀ h, h < i → μ1 (w + 1 + 0) (h * 140 + tm) = nI (wd h) ∧ μ1 (w + 1 + 1) (h * 140 + tm) = nI (wr h)) → (∀ j, (∀ h, h < i → j ≠ h * 140 + tm) → μ1 (w + 1 + 0) j = μ (w + 1 + 0) j ∧ μ1 (w + 1 + 1) j = μ (w + 1 + 1) j) → gG Γ mX3_note 2 9 [some (.ref w), some (.int (nI tm)), some (.int cd), some (.int (nI i))] [] (μ1) q (fun r μ' q' => r = none ∧ q' = q ∧ (∀ k, k ≠ w + 1 + 0 → k ≠ w + 1 + 1 → k ≠ w + 1 + 2 → μ' k = μ k) ∧ (∀ j, μ' (w + 1 + 2) j = if j = tm then cd else μ (w + 1 + 2) j) ∧ (∀ h, h < dH D → μ' (w + 1 + 0) (h * 140 + tm) = nI (wd h) ∧ μ' (w + 1 + 1) (h * 140 + tm) = nI (wr h)) ∧ (∀ j, (∀ h, h < dH D → j ≠ h * 140 + tm) → μ' (w + 1 + 0) j = μ (w + 1 + 0) j ∧ μ' (w + 1 + 1) j = μ (w + 1 + 1) j)) := by
  intro m
  induction m with
  | zero =>
    intro i μ1 hm h1 h2 h3 h4
    have hD1 : TD D (tq q w) μ1 := TD_fr hD (fun k a b => by have := TW_lt htq hw b; exact h1 k (by omega) (by omega) (by omega))
    have hH := ok.1
    refine kG.iload_n 10 dX3_note_9 rfl rfl ?_
    refine kG.aload_n 11 dX3_note_10 rfl rfl ?_
    refine gG.getP 14 dX3_note_11 fX3_43 (isW_k hw) (isW_s hw) rfl (PI_W7 hw) rfl ?_
    refine gG.getI 17 dX3_note_14 fX3_91 (isT_k htq) (isT_s htq) rfl rfl ?_
    refine kG.icmp_ge 62 20 dX3_note_17 (by decide) rfl (fun h17 => ?_) (fun h17 => ?_)
    · refine gG.vret dX3_note_62 rfl ?_
      rw [show i = dH D by omega] at h3 h4
      exact ⟨rfl, rfl, h1, h2, h3, h4⟩
    · rw [hD1.1] at h17
      exact absurd (nI_le (by omega) (by omega)) h17
  | succ m ih =>
    intro i μ1 hm h1 h2 h3 h4
    have hD1 : TD D (tq q w) μ1 := TD_fr hD (fun k a b => by have := TW_lt htq hw b; exact h1 k (by omega) (by omega) (by omega))
    have hH := ok.1
    refine kG.iload_n 10 dX3_note_9 rfl rfl ?_
    refine kG.aload_n 11 dX3_note_10 rfl rfl ?_
    refine gG.getP 14 dX3_note_11 fX3_43 (isW_k hw) (isW_s hw) rfl (PI_W7 hw) rfl ?_
    refine gG.getI 17 dX3_note_14 fX3_91 (isT_k htq) (isT_s htq) rfl rfl ?_
    refine kG.icmp_ge 62 20 dX3_note_17 (by decide) rfl (fun h17 => ?_) (fun h17 => ?_)
    · rw [hD1.1] at h17
      exact absurd h17 (nI_ge (by omega) (by omega))
    · refine kG.aload_n 21 dX3_note_20 rfl rfl ?_
      refine gG.getP 24 dX3_note_21 fX3_9 (isW_k hw) (isW_s hw) rfl (PI_W hw (by decide)) rfl ?_
      refine kG.iload_n 25 dX3_note_24 rfl rfl ?_
      refine kG.sipush (v := nI 140) 28 dX3_note_25 (by decide) rfl ?_
      refine kG.imul 29 dX3_note_28 rfl ?_
      refine kG.iload_n 30 dX3_note_29 rfl rfl ?_
      refine kG.iadd 31 dX3_note_30 rfl ?_
      refine kG.aload_n 32 dX3_note_31 rfl rfl ?_
      refine gG.getP 35 dX3_note_32 fX3_21 (isW_k hw) (isW_s hw) rfl (PI_W hw (by decide)) rfl ?_
      refine kG.iload_n 36 dX3_note_35 rfl rfl ?_
      refine gG.iald (n := 4) _ 37 dX3_note_36 (arW_k hw (by decide)) (arW_s hw (by decide)) rfl (by omega) (by decide) rfl ?_
      rw [h1 _ (by omega) (by omega) (by omega), hw3 i (by omega)]
      refine gG.iast (n := 560) (i * 140 + tm) 38 dX3_note_37 (arW_k hw (by decide)) (arW_s hw (by decide)) (by rw [pk_mul, nI_add]) (by omega) (by decide) rfl ?_
      refine kG.aload_n 39 dX3_note_38 rfl rfl ?_
      refine gG.getP 42 dX3_note_39 fX3_15 (isW_k hw) (isW_s hw) rfl (PI_W hw (by decide)) rfl ?_
      refine kG.iload_n 43 dX3_note_42 rfl rfl ?_
      refine kG.sipush (v := nI 140) 46 dX3_note_43 (by decide) rfl ?_
      refine kG.imul 47 dX3_note_46 rfl ?_
      refine kG.iload_n 48 dX3_note_47 rfl rfl ?_
      refine kG.iadd 49 dX3_note_48 rfl ?_
      refine kG.aload_n 50 dX3_note_49 rfl rfl ?_
      refine gG.getP 53 dX3_note_50 fX3_24 (isW_k hw) (isW_s hw) rfl (PI_W hw (by decide)) rfl ?_
      refine kG.iload_n 54 dX3_note_53 rfl rfl ?_
      refine gG.iald (n := 4) _ 55 dX3_note_54 (arW_k hw (by decide)) (arW_s hw (by decide)) rfl (by omega) (by decide) rfl ?_
      rw [uI_off (by omega), h1 _ (by omega) (by omega) (by omega), hw4 i (by omega)]
      refine gG.iast (n := 560) (i * 140 + tm) 56 dX3_note_55 (arW_k hw (by decide)) (arW_s hw (by decide)) (by rw [pk_mul, nI_add]) (by omega) (by decide) rfl ?_
      refine kG.iinc (v := nI (i + 1)) 59 dX3_note_56 rfl (nI_1 i) (by decide) rfl rfl ?_
      dsimp only [List.set]
      refine kG.goto 9 dX3_note_59 (by decide) ?_
      refine ih (i + 1) _ (by omega) (fun k a b c => by rw [uI_off b, uI_off a]; exact h1 k a b c) (fun j => by rw [uI_off (by omega), uI_off (by omega)]; exact h2 j) (fun h hh => ?_) (fun j hj => ?_)
      · by_cases e : h = i
        · subst e
          exact ⟨by rw [uI_off (by omega), uI_same], by rw [uI_same]⟩
        · rw [uI_off (by omega), uI_ne (Or.inr (by omega)), uI_ne (Or.inr (by omega)), uI_off (by omega)]
          exact h3 h (by omega)
      · have e := hj i (by omega)
        rw [uI_off (by omega), uI_ne (Or.inr e), uI_ne (Or.inr e), uI_off (by omega)]
        exact h4 j (fun h hh => hj h (by omega))
set_option maxHeartbeats 4000000 in
theorem c_note (Γ : kGm) {μ : kM} {q : kq4} {w : Nat} (hw : isW w) (htq : isT (tq q w)) {D : Dt} (hD : TD D (tq q w) μ) (ok : okD D) (tm : Nat) (ht : tm < 140) (cd : Int32) (wd wr : Nat → Nat) (hw3 : An (w + 1 + 3) (dH D) wd μ) (hw4 : An (w + 1 + 4) (dH D) wr μ) : gC Γ yX3_note mX3_note 2 [.ref w, .int (nI tm), .int cd] μ q (fun r μ' q' => r = none ∧ q' = q ∧ (∀ k, k ≠ w + 1 + 0 → k ≠ w + 1 + 1 → k ≠ w + 1 + 2 → μ' k = μ k) ∧ (∀ j, μ' (w + 1 + 2) j = if j = tm then cd else μ (w + 1 + 2) j) ∧ (∀ h, h < dH D → μ' (w + 1 + 0) (h * 140 + tm) = nI (wd h) ∧ μ' (w + 1 + 1) (h * 140 + tm) = nI (wr h)) ∧ (∀ j, (∀ h, h < dH D → j ≠ h * 140 + tm) → μ' (w + 1 + 0) j = μ (w + 1 + 0) j ∧ μ' (w + 1 + 1) j = μ (w + 1 + 1) j)) := by
  refine gC.ofG (n := 0) ⟨by decide +kernel, rfl, rfl, by decide⟩ (Nat.le_of_ble_eq_true rfl) ?_
  show gG Γ mX3_note 2 0 [some (.ref w), some (.int (nI tm)), some (.int cd), none] [] μ q _
  refine kG.aload_n 1 dX3_note_0 rfl rfl ?_
  refine gG.getP 4 dX3_note_1 fX3_18 (isW_k hw) (isW_s hw) rfl (PI_W hw (by decide)) rfl ?_
  refine kG.iload_n 5 dX3_note_4 rfl rfl ?_
  refine kG.iload_n 6 dX3_note_5 rfl rfl ?_
  refine gG.iast (n := 140) _ 7 dX3_note_6 (arW_k hw (by decide)) (arW_s hw (by decide)) rfl (by omega) (by decide) rfl ?_
  refine kG.iconst (v := nI 0) 8 dX3_note_7 (by decide) rfl ?_
  refine kG.istore_n 9 dX3_note_8 (by decide) rfl rfl ?_
  dsimp only [List.set]
  refine note_loop Γ hw htq hD ok tm ht cd wd wr hw3 hw4 (dH D) 0 _ (by omega) (fun k a b c => uI_off c) (fun j => ?_) (fun h hh => absurd hh (Nat.not_lt_zero _)) (fun j hj => ⟨by rw [uI_off (by omega)], by rw [uI_off (by omega)]⟩)
  by_cases e : j = tm
  · subst e; rw [uI_same, if_pos rfl]
  · rw [uI_ne (Or.inr e), if_neg e]
