/-- the model's scratch of the weeks -/
def okM (D : Dt) (sn : Nat) (G : Kp) : Prop := okD D ∧ 1 ≤ sn ∧ sn ≤ 13 ∧ okG G ∧ G.1 ≤ 7
abbrev cM (D : Dt) (sn aw : Nat) (G : Kp) : Cf := cfW D sn (waS D) aw G 9 0
theorem okM_c {D : Dt} {sn aw : Nat} {G : Kp} (h : okM D sn G) : okC (dH D) (cM D sn aw G) := cfW_ok h.1 ⟨h.2.1, h.2.2.1⟩ (waS_le h.1) h.2.2.2.1 (by have := h.2.2.2.2; omega) (by decide)
theorem mo_0 (w h : Nat) : moS 9 0 w h = 0 := by unfold moS; split <;> rfl
set_option maxHeartbeats 4000000 in
theorem bwC_loop (Γ : kGm) {D : Dt} {sn aw : Nat} {G : Kp} {μ : kM} {q : kq4} (h : MC D sn aw G μ) (ok : okD D) (okg : okG G) (hg : G.1 ≤ 7) (week : Nat) (hwk : week < 10) (wd : Nat → Nat) (hwd : ∀ x, x < dH D → wd x ≤ 99) : ∀ (m i : Nat) (μ1 : kM), i + m = dH D → (∀ k, k ≠ 66 → μ1 k = μ k) → (An 66 (dH D) (fun x => if x < i then min 99 (wd x + dco D x + gsN G x week G.1) else wd x + dco D x + gsN G x week G.1) μ1) → gG Γ mX5_beginWeek 2 83 [some (.ref 49), some (.int (nI week)), some (.int (nI i))] [] (μ1) q (fun r μ' q' => r = none ∧ q' = q ∧ (∀ k, k ≠ 66 → μ' k = μ k) ∧ An 66 (dH D) (bwS (cM D sn aw G) week wd) μ') := by
  intro m
  induction m with
  | zero =>
    intro i μ1 hm h1 h2
    have hH := ok.1
    have hm : MC D sn aw G μ1 := MC_fr h (fun j hj => by rw [h1 49 (by decide)]) (fun k a b c d => h1 k (by omega))
    refine kG.iload_n 84 dX5_beginWeek_83 rfl rfl ?_
    refine kG.aload_n 85 dX5_beginWeek_84 rfl rfl ?_
    refine gG.getI 88 dX5_beginWeek_85 fX5_93 ⟨by decide, by decide⟩ rfl rfl rfl ?_
    rw [hm.2.1]
    refine kG.icmp_ge 125 91 dX5_beginWeek_88 (by decide) rfl (fun h88 => ?_) (fun h88 => ?_)
    · refine gG.vret dX5_beginWeek_125 rfl ?_
      refine ⟨rfl, rfl, h1, fun x hx => ?_⟩
      rw [h2 x hx]
      simp only []
      rw [if_pos (by omega)]
      show nI _ = nI (min 99 (wd x + dco D x + (gsN G x week G.1 + moS 9 0 week x)))
      rw [mo_0]
      rfl
    · exact absurd (nI_le (by omega) (by omega)) h88
  | succ m ih =>
    intro i μ1 hm h1 h2
    have hH := ok.1
    have hm : MC D sn aw G μ1 := MC_fr h (fun j hj => by rw [h1 49 (by decide)]) (fun k a b c d => h1 k (by omega))
    refine kG.iload_n 84 dX5_beginWeek_83 rfl rfl ?_
    refine kG.aload_n 85 dX5_beginWeek_84 rfl rfl ?_
    refine gG.getI 88 dX5_beginWeek_85 fX5_93 ⟨by decide, by decide⟩ rfl rfl rfl ?_
    rw [hm.2.1]
    refine kG.icmp_ge 125 91 dX5_beginWeek_88 (by decide) rfl (fun h88 => ?_) (fun h88 => ?_)
    · exact absurd h88 (nI_ge (by omega) (by omega))
    · refine kG.aload_n 92 dX5_beginWeek_91 rfl rfl ?_
      refine gG.getP 95 dX5_beginWeek_92 fX5_59 ⟨by decide, by decide⟩ rfl rfl rfl rfl ?_
      refine kG.iload_n 96 dX5_beginWeek_95 rfl rfl ?_
      refine kG.aload_n 97 dX5_beginWeek_96 rfl rfl ?_
      refine gG.getP 100 dX5_beginWeek_97 fX5_59 ⟨by decide, by decide⟩ rfl rfl rfl rfl ?_
      refine kG.iload_n 101 dX5_beginWeek_100 rfl rfl ?_
      refine gG.iald (n := 4) _ 102 dX5_beginWeek_101 ⟨by decide, by decide⟩ rfl rfl (by omega) (by decide) rfl ?_
      have e0 := h2 i (by omega)
      simp only [] at e0
      rw [if_neg (Nat.lt_irrefl _)] at e0
      rw [e0]
      have b1 := gsN_le (h := i) (w := week) okg G.1 (Nat.le_refl _)
      have b2_ := hwd i (by omega)
      have b3 := (ok.2.2.1 i (by omega)).1
      refine kG.bipush (v := nI 99) 104 dX5_beginWeek_102 (by decide) rfl ?_
      refine kG.icmp_le 112 107 dX5_beginWeek_104 (by decide) rfl (fun h104 => ?_) (fun h104 => ?_)
      · have c1 := (nI_leI (by omega) (by decide)).mp h104
        have eV : wd i + dco D i + gsN G i week G.1 = min 99 (wd i + dco D i + gsN G i week G.1) := by rw [Nat.min_eq_right c1]
        refine kG.aload_n 113 dX5_beginWeek_112 rfl rfl ?_
        refine gG.getP 116 dX5_beginWeek_113 fX5_59 ⟨by decide, by decide⟩ rfl rfl rfl rfl ?_
        refine kG.iload_n 117 dX5_beginWeek_116 rfl rfl ?_
        refine gG.iald (n := 4) _ 118 dX5_beginWeek_117 ⟨by decide, by decide⟩ rfl rfl (by omega) (by decide) rfl ?_
        rw [e0]
        refine gG.iast (n := 4) _ 119 dX5_beginWeek_118 ⟨by decide, by decide⟩ rfl rfl (by omega) (by decide) rfl ?_
        refine kG.iinc (v := nI (i + 1)) 122 dX5_beginWeek_119 rfl (nI_1 i) (by decide) rfl rfl ?_
        dsimp only [List.set]
        refine kG.goto 83 dX5_beginWeek_122 (by decide) ?_
        refine ih (i + 1) _ (by omega) (fun k a => by rw [uI_off a]; exact h1 k a) (fun j hj => ?_)
        by_cases e : j = i
        · subst e
          rw [uI_same]
          simp only []
          rw [if_pos (by omega)]
          exact congrArg nI eV
        · rw [uI_ne (Or.inr e), h2 j hj]
          simp only []
          by_cases z : j < i
          · rw [if_pos z, if_pos (by omega)]
          · rw [if_neg z, if_neg (by omega)]
      · have c1 : ¬ wd i + dco D i + gsN G i week G.1 ≤ 99 := fun z => h104 (nI_le z (by decide))
        have eV : 99 = min 99 (wd i + dco D i + gsN G i week G.1) := by rw [Nat.min_eq_left (by omega)]
        refine kG.bipush (v := nI 99) 109 dX5_beginWeek_107 (by decide) rfl ?_
        refine kG.goto 118 dX5_beginWeek_109 (by decide) ?_
        refine gG.iast (n := 4) _ 119 dX5_beginWeek_118 ⟨by decide, by decide⟩ rfl rfl (by omega) (by decide) rfl ?_
        refine kG.iinc (v := nI (i + 1)) 122 dX5_beginWeek_119 rfl (nI_1 i) (by decide) rfl rfl ?_
        dsimp only [List.set]
        refine kG.goto 83 dX5_beginWeek_122 (by decide) ?_
        refine ih (i + 1) _ (by omega) (fun k a => by rw [uI_off a]; exact h1 k a) (fun j hj => ?_)
        by_cases e : j = i
        · subst e
          rw [uI_same]
          simp only []
          rw [if_pos (by omega)]
          exact congrArg nI eV
        · rw [uI_ne (Or.inr e), h2 j hj]
          simp only []
          by_cases z : j < i
          · rw [if_pos z, if_pos (by omega)]
          · rw [if_neg z, if_neg (by omega)]
set_option maxHeartbeats 4000000 in
theorem bwB_loop (Γ : kGm) {D : Dt} {sn aw : Nat} {G : Kp} {μ : kM} {q : kq4} (h : MC D sn aw G μ) (ok : okD D) (okg : okG G) (hg : G.1 ≤ 7) (week : Nat) (hwk : week < 10) (wd : Nat → Nat) (hwd : ∀ x, x < dH D → wd x ≤ 99) : ∀ (m i : Nat) (μ1 : kM), i + m = G.1 → (∀ k, k ≠ 66 → μ1 k = μ k) → (An 66 (dH D) (fun x => wd x + dco D x + gsN G x week i) μ1) → gG Γ mX5_beginWeek 2 33 [some (.ref 49), some (.int (nI week)), some (.int (nI i))] [] (μ1) q (fun r μ' q' => r = none ∧ q' = q ∧ (∀ k, k ≠ 66 → μ' k = μ k) ∧ An 66 (dH D) (bwS (cM D sn aw G) week wd) μ') := by
  intro m
  induction m with
  | zero =>
    intro i μ1 hm h1 h2
    have hH := ok.1
    have hm : MC D sn aw G μ1 := MC_fr h (fun j hj => by rw [h1 49 (by decide)]) (fun k a b c d => h1 k (by omega))
    refine kG.iload_n 34 dX5_beginWeek_33 rfl rfl ?_
    refine kG.aload_n 35 dX5_beginWeek_34 rfl rfl ?_
    refine gG.getI 38 dX5_beginWeek_35 fX5_132 ⟨by decide, by decide⟩ rfl rfl rfl ?_
    rw [hm.2.2.2.1]
    refine kG.icmp_ge 81 41 dX5_beginWeek_38 (by decide) rfl (fun h38 => ?_) (fun h38 => ?_)
    · refine kG.iconst (v := nI 0) 82 dX5_beginWeek_81 (by decide) rfl ?_
      refine kG.istore_n 83 dX5_beginWeek_82 (by decide) rfl rfl ?_
      dsimp only [List.set]
      exact bwC_loop Γ h ok okg hg week hwk wd hwd (dH D) 0 _ (by omega) h1 (fun x hx => by rw [h2 x hx]; simp only []; rw [if_neg (Nat.not_lt_zero _), show i = G.1 by omega])
    · exact absurd (nI_le (by omega) (by omega)) h38
  | succ m ih =>
    intro i μ1 hm h1 h2
    have hH := ok.1
    have hm : MC D sn aw G μ1 := MC_fr h (fun j hj => by rw [h1 49 (by decide)]) (fun k a b c d => h1 k (by omega))
    refine kG.iload_n 34 dX5_beginWeek_33 rfl rfl ?_
    refine kG.aload_n 35 dX5_beginWeek_34 rfl rfl ?_
    refine gG.getI 38 dX5_beginWeek_35 fX5_132 ⟨by decide, by decide⟩ rfl rfl rfl ?_
    rw [hm.2.2.2.1]
    refine kG.icmp_ge 81 41 dX5_beginWeek_38 (by decide) rfl (fun h38 => ?_) (fun h38 => ?_)
    · exact absurd h38 (nI_ge (by omega) (by omega))
    · refine kG.aload_n 42 dX5_beginWeek_41 rfl rfl ?_
      refine gG.getP 45 dX5_beginWeek_42 fX5_59 ⟨by decide, by decide⟩ rfl rfl rfl rfl ?_
      refine kG.aload_n 46 dX5_beginWeek_45 rfl rfl ?_
      refine gG.getP 49 dX5_beginWeek_46 fX5_50 ⟨by decide, by decide⟩ rfl rfl rfl rfl ?_
      refine kG.iload_n 50 dX5_beginWeek_49 rfl rfl ?_
      refine gG.iald (n := 7) _ 51 dX5_beginWeek_50 ⟨by decide, by decide⟩ rfl rfl (by omega) (by decide) rfl ?_
      obtain ⟨m1, m2, m3⟩ := hm.2.2.2.2.2.2.2 i (by omega)
      obtain ⟨g1, g2, g3⟩ := okg i (by omega)
      rw [m1]
      refine kG.dup2 52 dX5_beginWeek_51 rfl rfl rfl ?_
      refine gG.iald (n := 4) _ 53 dX5_beginWeek_52 ⟨by decide, by decide⟩ rfl rfl (by omega) (by decide) rfl ?_
      refine kG.aload_n 54 dX5_beginWeek_53 rfl rfl ?_
      refine gG.getP 57 dX5_beginWeek_54 fX5_53 ⟨by decide, by decide⟩ rfl rfl rfl rfl ?_
      refine kG.iload_n 58 dX5_beginWeek_57 rfl rfl ?_
      refine gG.iald (n := 7) _ 59 dX5_beginWeek_58 ⟨by decide, by decide⟩ rfl rfl (by omega) (by decide) rfl ?_
      rw [m2]
      refine kG.iload_n 60 dX5_beginWeek_59 rfl rfl ?_
      refine kG.icmp_ne 72 63 dX5_beginWeek_60 (by decide) rfl (fun h60 => ?_) (fun h60 => ?_)
      · have c1 : ¬ G.2.2.1 i = week := fun z => h60 (by rw [z])
        have eV : ∀ x, x = G.2.1 i → gsN G x week (i + 1) = gsN G x week i + 0 := fun x e => by rw [gsN, if_neg (fun z => c1 z.2)]
        have eN : ∀ x, x ≠ G.2.1 i → gsN G x week (i + 1) = gsN G x week i := fun x e => by rw [gsN, if_neg (fun z => e z.1.symm)]; rfl
        refine kG.iconst (v := nI 0) 73 dX5_beginWeek_72 (by decide) rfl ?_
        refine kG.iadd 74 dX5_beginWeek_73 rfl ?_
        refine gG.iast (n := 4) _ 75 dX5_beginWeek_74 ⟨by decide, by decide⟩ rfl rfl (by omega) (by decide) rfl ?_
        refine kG.iinc (v := nI (i + 1)) 78 dX5_beginWeek_75 rfl (nI_1 i) (by decide) rfl rfl ?_
        dsimp only [List.set]
        refine kG.goto 33 dX5_beginWeek_78 (by decide) ?_
        refine ih (i + 1) _ (by omega) (fun k a => by rw [uI_off a]; exact h1 k a) (fun x hx => ?_)
        simp only []
        by_cases e : x = G.2.1 i
        · rw [eV x e, ← e, uI_same, h2 x hx, nI_add]
          exact congrArg nI (Nat.add_assoc _ _ _)
        · rw [uI_ne (Or.inr e), h2 x hx, eN x e]
      · have c1 : G.2.2.1 i = week := (nI_eq (by omega) (by omega)).mp h60
        have eV : ∀ x, x = G.2.1 i → gsN G x week (i + 1) = gsN G x week i + G.2.2.2 i := fun x e => by rw [gsN, if_pos ⟨e.symm, c1⟩]
        have eN : ∀ x, x ≠ G.2.1 i → gsN G x week (i + 1) = gsN G x week i := fun x e => by rw [gsN, if_neg (fun z => e z.1.symm)]; rfl
        refine kG.aload_n 64 dX5_beginWeek_63 rfl rfl ?_
        refine gG.getP 67 dX5_beginWeek_64 fX5_56 ⟨by decide, by decide⟩ rfl rfl rfl rfl ?_
        refine kG.iload_n 68 dX5_beginWeek_67 rfl rfl ?_
        refine gG.iald (n := 7) _ 69 dX5_beginWeek_68 ⟨by decide, by decide⟩ rfl rfl (by omega) (by decide) rfl ?_
        rw [m3]
        refine kG.goto 73 dX5_beginWeek_69 (by decide) ?_
        refine kG.iadd 74 dX5_beginWeek_73 rfl ?_
        refine gG.iast (n := 4) _ 75 dX5_beginWeek_74 ⟨by decide, by decide⟩ rfl rfl (by omega) (by decide) rfl ?_
        refine kG.iinc (v := nI (i + 1)) 78 dX5_beginWeek_75 rfl (nI_1 i) (by decide) rfl rfl ?_
        dsimp only [List.set]
        refine kG.goto 33 dX5_beginWeek_78 (by decide) ?_
        refine ih (i + 1) _ (by omega) (fun k a => by rw [uI_off a]; exact h1 k a) (fun x hx => ?_)
        simp only []
        by_cases e : x = G.2.1 i
        · rw [eV x e, ← e, uI_same, h2 x hx, nI_add]
          exact congrArg nI (Nat.add_assoc _ _ _)
        · rw [uI_ne (Or.inr e), h2 x hx, eN x e]
set_option maxHeartbeats 4000000 in
theorem bwA_loop (Γ : kGm) {D : Dt} {sn aw : Nat} {G : Kp} {μ : kM} {q : kq4} (h : MC D sn aw G μ) (ok : okD D) (okg : okG G) (hg : G.1 ≤ 7) (week : Nat) (hwk : week < 10) (wd : Nat → Nat) (hwd : ∀ x, x < dH D → wd x ≤ 99) : ∀ (m i : Nat) (μ1 : kM), i + m = dH D → (∀ k, k ≠ 66 → μ1 k = μ k) → (An 66 (dH D) (fun x => if x < i then wd x + dco D x else wd x) μ1) → gG Γ mX5_beginWeek 2 2 [some (.ref 49), some (.int (nI week)), some (.int (nI i))] [] (μ1) q (fun r μ' q' => r = none ∧ q' = q ∧ (∀ k, k ≠ 66 → μ' k = μ k) ∧ An 66 (dH D) (bwS (cM D sn aw G) week wd) μ') := by
  intro m
  induction m with
  | zero =>
    intro i μ1 hm h1 h2
    have hH := ok.1
    have hm : MC D sn aw G μ1 := MC_fr h (fun j hj => by rw [h1 49 (by decide)]) (fun k a b c d => h1 k (by omega))
    refine kG.iload_n 3 dX5_beginWeek_2 rfl rfl ?_
    refine kG.aload_n 4 dX5_beginWeek_3 rfl rfl ?_
    refine gG.getI 7 dX5_beginWeek_4 fX5_93 ⟨by decide, by decide⟩ rfl rfl rfl ?_
    rw [hm.2.1]
    refine kG.icmp_ge 31 10 dX5_beginWeek_7 (by decide) rfl (fun h7 => ?_) (fun h7 => ?_)
    · refine kG.iconst (v := nI 0) 32 dX5_beginWeek_31 (by decide) rfl ?_
      refine kG.istore_n 33 dX5_beginWeek_32 (by decide) rfl rfl ?_
      dsimp only [List.set]
      exact bwB_loop Γ h ok okg hg week hwk wd hwd G.1 0 _ (by omega) h1 (fun x hx => by rw [h2 x hx]; simp only []; rw [if_pos (by omega)]; rfl)
    · exact absurd (nI_le (by omega) (by omega)) h7
  | succ m ih =>
    intro i μ1 hm h1 h2
    have hH := ok.1
    have hm : MC D sn aw G μ1 := MC_fr h (fun j hj => by rw [h1 49 (by decide)]) (fun k a b c d => h1 k (by omega))
    refine kG.iload_n 3 dX5_beginWeek_2 rfl rfl ?_
    refine kG.aload_n 4 dX5_beginWeek_3 rfl rfl ?_
    refine gG.getI 7 dX5_beginWeek_4 fX5_93 ⟨by decide, by decide⟩ rfl rfl rfl ?_
    rw [hm.2.1]
    refine kG.icmp_ge 31 10 dX5_beginWeek_7 (by decide) rfl (fun h7 => ?_) (fun h7 => ?_)
    · exact absurd h7 (nI_ge (by omega) (by omega))
    · refine kG.aload_n 11 dX5_beginWeek_10 rfl rfl ?_
      refine gG.getP 14 dX5_beginWeek_11 fX5_59 ⟨by decide, by decide⟩ rfl rfl rfl rfl ?_
      refine kG.iload_n 15 dX5_beginWeek_14 rfl rfl ?_
      refine kG.dup2 16 dX5_beginWeek_15 rfl rfl rfl ?_
      refine gG.iald (n := 4) _ 17 dX5_beginWeek_16 ⟨by decide, by decide⟩ rfl rfl (by omega) (by decide) rfl ?_
      have e0 := h2 i (by omega)
      simp only [] at e0
      rw [if_neg (Nat.lt_irrefl _)] at e0
      rw [e0]
      refine kG.aload_n 18 dX5_beginWeek_17 rfl rfl ?_
      refine gG.getP 21 dX5_beginWeek_18 fX5_19 ⟨by decide, by decide⟩ rfl rfl rfl rfl ?_
      refine kG.iload_n 22 dX5_beginWeek_21 rfl rfl ?_
      refine gG.iald (n := 4) _ 23 dX5_beginWeek_22 ⟨by decide, by decide⟩ rfl rfl (by omega) (by decide) rfl ?_
      rw [(hm.2.2.2.2.1 i (by omega)).1]
      refine kG.iadd 24 dX5_beginWeek_23 rfl ?_
      rw [nI_add]
      refine gG.iast (n := 4) _ 25 dX5_beginWeek_24 ⟨by decide, by decide⟩ rfl rfl (by omega) (by decide) rfl ?_
      refine kG.iinc (v := nI (i + 1)) 28 dX5_beginWeek_25 rfl (nI_1 i) (by decide) rfl rfl ?_
      dsimp only [List.set]
      refine kG.goto 2 dX5_beginWeek_28 (by decide) ?_
      refine ih (i + 1) _ (by omega) (fun k a => by rw [uI_off a]; exact h1 k a) (fun j hj => ?_)
      by_cases e : j = i
      · subst e
        rw [uI_same]
        simp only []
        rw [if_pos (by omega)]
      · rw [uI_ne (Or.inr e), h2 j hj]
        simp only []
        by_cases z : j < i
        · rw [if_pos z, if_pos (by omega)]
        · rw [if_neg z, if_neg (by omega)]
set_option maxHeartbeats 4000000 in
theorem m_beginWeek (Γ : kGm) {D : Dt} {sn aw : Nat} {G : Kp} {μ : kM} {q : kq4} (h : MC D sn aw G μ) (ok : okD D) (okg : okG G) (hg : G.1 ≤ 7) (week : Nat) (hwk : week < 10) (wd : Nat → Nat) (hwd : ∀ x, x < dH D → wd x ≤ 99) (hw : An 66 (dH D) wd μ) : gC Γ yX5_beginWeek mX5_beginWeek 2 [.ref 49, .int (nI week)] μ q (fun r μ' q' => r = none ∧ q' = q ∧ (∀ k, k ≠ 66 → μ' k = μ k) ∧ An 66 (dH D) (bwS (cM D sn aw G) week wd) μ') := by
  refine gC.ofG (n := 0) ⟨by decide +kernel, rfl, rfl, by decide⟩ (Nat.le_of_ble_eq_true rfl) ?_
  show gG Γ mX5_beginWeek 2 0 [some (.ref 49), some (.int (nI week)), none] [] μ q _
  refine kG.iconst (v := nI 0) 1 dX5_beginWeek_0 (by decide) rfl ?_
  refine kG.istore_n 2 dX5_beginWeek_1 (by decide) rfl rfl ?_
  dsimp only [List.set]
  exact bwA_loop Γ h ok okg hg week hwk wd hwd (dH D) 0 μ (by omega) (fun _ _ => rfl) (fun x hx => by rw [hw x hx]; simp only []; rw [if_neg (Nat.not_lt_zero _)])
theorem An_uI' {k n j v : Nat} {f : Nat → Nat} {μ : kM} (h : ∀ x, x < n → μ k x = nI (f x)) : An k n (fu f j v) (uI μ k j (nI v)) := An_uI h
set_option maxHeartbeats 4000000 in
theorem m_turn (Γ : kGm) {D : Dt} {sn aw : Nat} {G : Kp} {μ : kM} {q : kq4} (h : MC D sn aw G μ) (ok : okD D) (p : Nat) (hp : p < dP D) (s : St3) (ch : Nat → Nat) (tb : s.2.2.testBit p = false) (bd : bdS (dH D) s.1 s.2.1) (w1 : An 66 (dH D) s.1 μ) (w2 : An 67 (dH D) s.2.1 μ) (w3 : An 68 (dP D) ch μ) (w4 : μ 49 30 = nI s.2.2) (hl : s.2.2 < 64) (hch : ch p < 1000) : gC Γ yX5_turn mX5_turn 2 [.ref 49, .int (nI p)] μ q (fun r μ' q' => r = none ∧ q' = q ∧ (∀ k, k ≠ 66 → k ≠ 67 → k ≠ 68 → k ≠ 49 → μ' k = μ k) ∧ (∀ j, j ≠ 30 → μ' 49 j = μ 49 j) ∧ An 66 (dH D) (tk1 (cM D sn aw G) p s).1 μ' ∧ An 67 (dH D) (tk1 (cM D sn aw G) p s).2.1 μ' ∧ μ' 49 30 = nI (tk1 (cM D sn aw G) p s).2.2 ∧ An 68 (dP D) (fu ch p (ch p + (if (tk1 (cM D sn aw G) p s).2.2.testBit p then 1 else 0))) μ') := by
  refine gC.ofG (n := 0) ⟨by decide +kernel, rfl, rfl, by decide⟩ (Nat.le_of_ble_eq_true rfl) ?_
  show gG Γ mX5_turn 2 0 [some (.ref 49), some (.int (nI p)), none, none] [] μ q _
  obtain ⟨d1, d2, d3, d4, d5⟩ := h.2.2.2.2.2.1 p hp
  obtain ⟨k1, k2, k3, k4, k5⟩ := ok.2.2.2 p hp
  obtain ⟨o1, o2⟩ := ok.2.2.1 _ k3
  obtain ⟨b1, b2_⟩ := bd _ k3
  have hH := ok.1
  have hP := ok.2.1
  have hwa := waS_le ok p hp
  refine kG.aload_n 1 dX5_turn_0 rfl rfl ?_
  refine gG.getP 4 dX5_turn_1 fX5_31 ⟨by decide, by decide⟩ rfl rfl rfl rfl ?_
  refine kG.iload_n 5 dX5_turn_4 rfl rfl ?_
  refine gG.iald (n := 6) _ 6 dX5_turn_5 ⟨by decide, by decide⟩ rfl rfl (by omega) (by decide) rfl ?_
  rw [d3]
  refine kG.istore_n 7 dX5_turn_6 (by decide) rfl rfl ?_
  dsimp only [List.set]
  refine kG.aload_n 8 dX5_turn_7 rfl rfl ?_
  refine kG.iload_n 9 dX5_turn_8 rfl rfl ?_
  refine gG.callV 12 dX5_turn_9 lX5_171 vX5_isBroken (m_isBroken Γ (dho D p) (dbe D (dho D p)) (s.2.1 (dho D p)) (by omega) (by omega) (by omega) (w2 _ k3) (h.2.2.2.2.1 _ k3).2) rfl rfl ⟨by decide, by decide⟩ rfl ⟨by decide, rfl⟩ ⟨by decide, by decide⟩ (Nat.le_of_ble_eq_true rfl) rfl (fun r9 μ9 q9 hc9 => ?_)
  obtain ⟨rfl, rfl, rfl⟩ := hc9
  refine kG.istore_n 13 dX5_turn_12 (by decide) rfl rfl ?_
  dsimp only [List.set]
  refine kG.iload_n 14 dX5_turn_13 rfl rfl ?_
  refine kG.if_ne 31 17 dX5_turn_14 (by decide) rfl (fun h14 => ?_) (fun h14 => ?_)
  · have hbk := of_decide_eq_true (b2_n0.mp h14)
    have hT : tk1 (cM D sn aw G) p s = (s.1, s.2.1, s.2.2 ||| 2 ^ p) := by unfold tk1; exact if_pos hbk
    have hbb : decide (10 * dbe D (dho D p) ≤ s.2.1 (dho D p)) = true := decide_eq_true hbk
    refine kG.aload_n 32 dX5_turn_31 rfl rfl ?_
    refine kG.dup 33 dX5_turn_32 rfl rfl ?_
    refine gG.getI 36 dX5_turn_33 fX5_174 ⟨by decide, by decide⟩ rfl rfl rfl ?_
    rw [w4]
    refine kG.iconst (v := nI 1) 37 dX5_turn_36 (by decide) rfl ?_
    refine kG.iload_n 38 dX5_turn_37 rfl rfl ?_
    refine kG.ishl 39 dX5_turn_38 rfl ?_
    rw [n_shl (by omega)]
    refine kG.ior 40 dX5_turn_39 rfl ?_
    rw [n_or]
    refine gG.putI 43 dX5_turn_40 fX5_174 ⟨by decide, by decide⟩ rfl rfl rfl ⟨rfl, rfl⟩ rfl ?_
    refine kG.aload_n 44 dX5_turn_43 rfl rfl ?_
    refine gG.getP 47 dX5_turn_44 fX5_65 ⟨by decide, by decide⟩ rfl rfl rfl rfl ?_
    refine kG.iload_n 48 dX5_turn_47 rfl rfl ?_
    refine kG.dup2 49 dX5_turn_48 rfl rfl rfl ?_
    refine gG.iald (n := 6) _ 50 dX5_turn_49 ⟨by decide, by decide⟩ rfl rfl (by omega) (by decide) rfl ?_
    rw [uI_off (by decide), w3 p hp]
    refine kG.iconst (v := nI 1) 51 dX5_turn_50 (by decide) rfl ?_
    refine kG.iadd 52 dX5_turn_51 rfl ?_
    rw [nI_add]
    refine gG.iast (n := 6) _ 53 dX5_turn_52 ⟨by decide, by decide⟩ rfl rfl (by omega) (by decide) rfl ?_
    refine kG.goto 70 dX5_turn_53 (by decide) ?_
    refine kG.aload_n 71 dX5_turn_70 rfl rfl ?_
    refine gG.getP 74 dX5_turn_71 fX5_62 ⟨by decide, by decide⟩ rfl rfl rfl rfl ?_
    refine kG.iload_n 75 dX5_turn_74 rfl rfl ?_
    refine kG.dup2 76 dX5_turn_75 rfl rfl rfl ?_
    refine gG.iald (n := 4) _ 77 dX5_turn_76 ⟨by decide, by decide⟩ rfl rfl (by omega) (by decide) rfl ?_
    (repeat rw [uI_off (by decide)])
    rw [w2 _ k3]
    refine kG.iload_n 78 dX5_turn_77 rfl rfl ?_
    rw [hbb]
    refine kG.if_eq 85 81 dX5_turn_78 (by decide) rfl (fun h78 => ?_) (fun h78 => ?_)
    · exact absurd h78 (by decide)
    · refine kG.iconst (v := nI 0) 82 dX5_turn_81 (by decide) rfl ?_
      refine kG.goto 86 dX5_turn_82 (by decide) ?_
      refine kG.iadd 87 dX5_turn_86 rfl ?_
      rw [nI_add]
      refine gG.iast (n := 4) _ 88 dX5_turn_87 ⟨by decide, by decide⟩ rfl rfl (by omega) (by decide) rfl ?_
      refine gG.vret dX5_turn_88 rfl ?_
      rw [hT]
      refine ⟨rfl, rfl, fun k a b c d => by (repeat (first | rw [uI_off (by assumption)] | rw [uI_ne (Or.inr (by assumption))] | rw [uI_off (by decide)])) <;> rfl, fun j a => by (repeat (first | rw [uI_off (by assumption)] | rw [uI_ne (Or.inr (by assumption))] | rw [uI_off (by decide)])) <;> rfl, ?_, ?_, ?_, ?_⟩
      · exact fun x hx => by (repeat (first | rw [uI_same] | rw [uI_ne (Or.inr (by decide))] | rw [uI_off (by decide)])) <;> exact w1 x hx
      · intro x hx
        by_cases e : x = dho D p
        · subst e; rw [uI_same]; rfl
        · rw [uI_ne (Or.inr e), uI_off (by decide), uI_off (by decide)]; exact w2 x hx
      · (repeat (first | rw [uI_same] | rw [uI_ne (Or.inr (by decide))] | rw [uI_off (by decide)])) <;> rfl
      · intro x hx
        rw [show (s.2.2 ||| 2 ^ p).testBit p = true by rw [tb_or_pow]; simp]
        by_cases e : x = p
        · subst e
          rw [fu_s]
          (repeat (first | rw [uI_same] | rw [uI_ne (Or.inr (by decide))] | rw [uI_off (by decide)])) <;> rfl
        · rw [fu_n e]
          (repeat (first | rw [uI_ne (Or.inr e)] | rw [uI_off (by decide)]))
          exact w3 x hx
  · have hbk := of_decide_eq_false (b2_0.mp h14)
    have hbb : decide (10 * dbe D (dho D p) ≤ s.2.1 (dho D p)) = false := decide_eq_false hbk
    refine kG.aload_n 18 dX5_turn_17 rfl rfl ?_
    refine gG.getP 21 dX5_turn_18 fX5_59 ⟨by decide, by decide⟩ rfl rfl rfl rfl ?_
    refine kG.iload_n 22 dX5_turn_21 rfl rfl ?_
    refine gG.iald (n := 4) _ 23 dX5_turn_22 ⟨by decide, by decide⟩ rfl rfl (by omega) (by decide) rfl ?_
    rw [w1 _ k3]
    refine kG.aload_n 24 dX5_turn_23 rfl rfl ?_
    refine kG.iload_n 25 dX5_turn_24 rfl rfl ?_
    refine gG.callV 28 dX5_turn_25 lX5_161 vX5_wants (m_wants Γ h ok p hp) rfl rfl ⟨by decide, by decide⟩ rfl ⟨by decide, rfl⟩ ⟨by decide, by decide⟩ (Nat.le_of_ble_eq_true rfl) rfl (fun r25 μ25 q25 hc25 => ?_)
    obtain ⟨rfl, rfl, rfl⟩ := hc25
    refine kG.icmp_ge 56 31 dX5_turn_28 (by decide) rfl (fun h28 => ?_) (fun h28 => ?_)
    · have hge : waS D p ≤ s.1 (dho D p) := (nI_leI (by omega) (by omega)).mp h28
      have hT : tk1 (cM D sn aw G) p s = (fu s.1 (dho D p) (s.1 (dho D p) - waS D p), fu s.2.1 (dho D p) (s.2.1 (dho D p) + 1), s.2.2) := by unfold tk1; exact (if_neg hbk).trans (if_pos hge)
      refine kG.aload_n 57 dX5_turn_56 rfl rfl ?_
      refine gG.getP 60 dX5_turn_57 fX5_59 ⟨by decide, by decide⟩ rfl rfl rfl rfl ?_
      refine kG.iload_n 61 dX5_turn_60 rfl rfl ?_
      refine kG.dup2 62 dX5_turn_61 rfl rfl rfl ?_
      refine gG.iald (n := 4) _ 63 dX5_turn_62 ⟨by decide, by decide⟩ rfl rfl (by omega) (by decide) rfl ?_
      rw [w1 _ k3]
      refine kG.aload_n 64 dX5_turn_63 rfl rfl ?_
      refine kG.iload_n 65 dX5_turn_64 rfl rfl ?_
      refine gG.callV 68 dX5_turn_65 lX5_161 vX5_wants (m_wants Γ h ok p hp) rfl rfl ⟨by decide, by decide⟩ rfl ⟨by decide, rfl⟩ ⟨by decide, by decide⟩ (Nat.le_of_ble_eq_true rfl) rfl (fun r65 μ65 q65 hc65 => ?_)
      obtain ⟨rfl, rfl, rfl⟩ := hc65
      refine kG.isub 69 dX5_turn_68 rfl ?_
      rw [pk_sub hge]
      refine gG.iast (n := 4) _ 70 dX5_turn_69 ⟨by decide, by decide⟩ rfl rfl (by omega) (by decide) rfl ?_
      refine kG.aload_n 71 dX5_turn_70 rfl rfl ?_
      refine gG.getP 74 dX5_turn_71 fX5_62 ⟨by decide, by decide⟩ rfl rfl rfl rfl ?_
      refine kG.iload_n 75 dX5_turn_74 rfl rfl ?_
      refine kG.dup2 76 dX5_turn_75 rfl rfl rfl ?_
      refine gG.iald (n := 4) _ 77 dX5_turn_76 ⟨by decide, by decide⟩ rfl rfl (by omega) (by decide) rfl ?_
      (repeat rw [uI_off (by decide)])
      rw [w2 _ k3]
      refine kG.iload_n 78 dX5_turn_77 rfl rfl ?_
      rw [hbb]
      refine kG.if_eq 85 81 dX5_turn_78 (by decide) rfl (fun h78 => ?_) (fun h78 => ?_)
      · refine kG.iconst (v := nI 1) 86 dX5_turn_85 (by decide) rfl ?_
        refine kG.iadd 87 dX5_turn_86 rfl ?_
        rw [nI_add]
        refine gG.iast (n := 4) _ 88 dX5_turn_87 ⟨by decide, by decide⟩ rfl rfl (by omega) (by decide) rfl ?_
        refine gG.vret dX5_turn_88 rfl ?_
        rw [hT]
        refine ⟨rfl, rfl, fun k a b c d => by (repeat (first | rw [uI_off (by assumption)] | rw [uI_ne (Or.inr (by assumption))] | rw [uI_off (by decide)])) <;> rfl, fun j a => by (repeat (first | rw [uI_off (by assumption)] | rw [uI_ne (Or.inr (by assumption))] | rw [uI_off (by decide)])) <;> rfl, ?_, ?_, ?_, ?_⟩
        · intro x hx
          (repeat rw [uI_off (by decide)])
          exact An_uI w1 x hx
        · exact An_uI (fun x hx => by rw [uI_off (by decide)]; exact w2 x hx)
        · (repeat rw [uI_off (by decide)])
          exact w4
        · intro x hx
          (repeat rw [uI_off (by decide)])
          rw [w3 x hx, tb]
          by_cases e : x = p
          · subst e; rw [fu_s]; rfl
          · rw [fu_n e]
      · exact absurd (by decide) h78
    · have hlt : ¬ waS D p ≤ s.1 (dho D p) := fun z => h28 (nI_le z (by omega))
      have hT : tk1 (cM D sn aw G) p s = (s.1, fu s.2.1 (dho D p) (s.2.1 (dho D p) + 1), s.2.2 ||| 2 ^ p) := by unfold tk1; exact (if_neg hbk).trans (if_neg hlt)
      refine kG.aload_n 32 dX5_turn_31 rfl rfl ?_
      refine kG.dup 33 dX5_turn_32 rfl rfl ?_
      refine gG.getI 36 dX5_turn_33 fX5_174 ⟨by decide, by decide⟩ rfl rfl rfl ?_
      rw [w4]
      refine kG.iconst (v := nI 1) 37 dX5_turn_36 (by decide) rfl ?_
      refine kG.iload_n 38 dX5_turn_37 rfl rfl ?_
      refine kG.ishl 39 dX5_turn_38 rfl ?_
      rw [n_shl (by omega)]
      refine kG.ior 40 dX5_turn_39 rfl ?_
      rw [n_or]
      refine gG.putI 43 dX5_turn_40 fX5_174 ⟨by decide, by decide⟩ rfl rfl rfl ⟨rfl, rfl⟩ rfl ?_
      refine kG.aload_n 44 dX5_turn_43 rfl rfl ?_
      refine gG.getP 47 dX5_turn_44 fX5_65 ⟨by decide, by decide⟩ rfl rfl rfl rfl ?_
      refine kG.iload_n 48 dX5_turn_47 rfl rfl ?_
      refine kG.dup2 49 dX5_turn_48 rfl rfl rfl ?_
      refine gG.iald (n := 6) _ 50 dX5_turn_49 ⟨by decide, by decide⟩ rfl rfl (by omega) (by decide) rfl ?_
      rw [uI_off (by decide), w3 p hp]
      refine kG.iconst (v := nI 1) 51 dX5_turn_50 (by decide) rfl ?_
      refine kG.iadd 52 dX5_turn_51 rfl ?_
      rw [nI_add]
      refine gG.iast (n := 6) _ 53 dX5_turn_52 ⟨by decide, by decide⟩ rfl rfl (by omega) (by decide) rfl ?_
      refine kG.goto 70 dX5_turn_53 (by decide) ?_
      refine kG.aload_n 71 dX5_turn_70 rfl rfl ?_
      refine gG.getP 74 dX5_turn_71 fX5_62 ⟨by decide, by decide⟩ rfl rfl rfl rfl ?_
      refine kG.iload_n 75 dX5_turn_74 rfl rfl ?_
      refine kG.dup2 76 dX5_turn_75 rfl rfl rfl ?_
      refine gG.iald (n := 4) _ 77 dX5_turn_76 ⟨by decide, by decide⟩ rfl rfl (by omega) (by decide) rfl ?_
      (repeat rw [uI_off (by decide)])
      rw [w2 _ k3]
      refine kG.iload_n 78 dX5_turn_77 rfl rfl ?_
      rw [hbb]
      refine kG.if_eq 85 81 dX5_turn_78 (by decide) rfl (fun h78 => ?_) (fun h78 => ?_)
      · refine kG.iconst (v := nI 1) 86 dX5_turn_85 (by decide) rfl ?_
        refine kG.iadd 87 dX5_turn_86 rfl ?_
        rw [nI_add]
        refine gG.iast (n := 4) _ 88 dX5_turn_87 ⟨by decide, by decide⟩ rfl rfl (by omega) (by decide) rfl ?_
        refine gG.vret dX5_turn_88 rfl ?_
        rw [hT]
        refine ⟨rfl, rfl, fun k a b c d => by (repeat (first | rw [uI_off (by assumption)] | rw [uI_ne (Or.inr (by assumption))] | rw [uI_off (by decide)])) <;> rfl, fun j a => by (repeat (first | rw [uI_off (by assumption)] | rw [uI_ne (Or.inr (by assumption))] | rw [uI_off (by decide)])) <;> rfl, ?_, ?_, ?_, ?_⟩
        · exact fun x hx => by (repeat (first | rw [uI_same] | rw [uI_ne (Or.inr (by decide))] | rw [uI_off (by decide)])) <;> exact w1 x hx
        · exact An_uI (fun x hx => by rw [uI_off (by decide), uI_off (by decide)]; exact w2 x hx)
        · (repeat (first | rw [uI_same] | rw [uI_ne (Or.inr (by decide))] | rw [uI_off (by decide)])) <;> rfl
        · intro x hx
          rw [show (s.2.2 ||| 2 ^ p).testBit p = true by rw [tb_or_pow]; simp]
          by_cases e : x = p
          · subst e
            rw [fu_s]
            (repeat (first | rw [uI_same] | rw [uI_ne (Or.inr (by decide))] | rw [uI_off (by decide)])) <;> rfl
          · rw [fu_n e]
            (repeat (first | rw [uI_ne (Or.inr e)] | rw [uI_off (by decide)]))
            exact w3 x hx
      · exact absurd (by decide) h78
