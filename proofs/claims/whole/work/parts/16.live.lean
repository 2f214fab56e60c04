def cfW (D : Dt) (sn : Nat) (wa : Nat → Nat) (m : Nat) (G : Kp) (mh mw : Nat) : Cf := (dP D, sn, dco D, dbe D, wa, dho D, dme D, fun half p => decide (dtw D p = if half < sn then 0 else 1) && !m.testBit p, fun week h => gsN G h week G.1 + moS mh mw week h)
theorem tkN_cong {c : Cf} {f g : Nat → Bool} {s : St3} : ∀ {n : Nat}, (∀ p, p < n → f p = g p) → tkN c f n s = tkN c g n s
  | 0, _ => rfl
  | n + 1, h => by
    unfold tkN
    rw [h n (Nat.lt_succ_self n), tkN_cong (fun p hp => h p (Nat.lt_succ_of_lt hp))]
theorem mdN_cong {c : Cf} {f g : Nat → Bool} {s : Nat → Nat} : ∀ {n : Nat}, (∀ p, p < n → f p = g p) → mdN c f n s = mdN c g n s
  | 0, _ => rfl
  | n + 1, h => by
    unfold mdN
    rw [h n (Nat.lt_succ_self n), mdN_cong (fun p hp => h p (Nat.lt_succ_of_lt hp))]
/-- none of the set is cold in the first halves -/
def wmB (c : Cf) (S : Nat) : Nat → Bool
  | 0 => true
  | t + 1 => wmB c S t && decide ((smS c (t + 1)).2.2 &&& S = 0)
theorem wmB_0 (c : Cf) : ∀ t, wmB c 0 t = true
  | 0 => rfl
  | t + 1 => by unfold wmB; rw [wmB_0 c t]; simp
theorem wmB_f {c : Cf} {S i : Nat} (h : ¬ (smS c (i + 1)).2.2 &&& S = 0) : ∀ t, i < t → wmB c S t = false
  | 0, hi => absurd hi (Nat.not_lt_zero _)
  | t + 1, hi => by
    unfold wmB
    by_cases e : i = t
    · subst e; simp [h]
    · rw [wmB_f h t (by omega)]; rfl
/-- a Weeks has noted its first T halves -/
def LVd (c : Cf) (w H T : Nat) (μ : kM) : Prop := (∀ j, j < T → μ (w + 1 + 2) j = nI (smS c (j + 1)).2.2) ∧ ∀ h, h < H → ∀ j, j < T → μ (w + 1 + 0) (h * 140 + j) = nI ((smS c (j + 1)).1 h) ∧ μ (w + 1 + 1) (h * 140 + j) = nI ((smS c (j + 1)).2.1 h)
theorem LVd_fr {c : Cf} {w H T : Nat} {μ μ' : kM} (h : LVd c w H T μ) (f0 : μ' (w + 1 + 0) = μ (w + 1 + 0)) (f1 : μ' (w + 1 + 1) = μ (w + 1 + 1)) (f2 : μ' (w + 1 + 2) = μ (w + 1 + 2)) : LVd c w H T μ' := ⟨fun j hj => by rw [f2]; exact h.1 j hj, fun i hi j hj => by rw [f0, f1]; exact h.2 i hi j hj⟩
/-- what a run of a Weeks takes from its memory, and where -/
def LVp (D : Dt) (w sn m : Nat) (wa : Nat → Nat) (G : Kp) (mh mw : Nat) (t : Nat) (μ : kM) : Prop := TD D t μ ∧ KD G 3 μ ∧ μ w 8 = nI m ∧ μ w 9 = nI sn ∧ (∀ h, h < 4 → (nI h = μ w 10 ↔ h = mh)) ∧ μ w 11 = nI mw ∧ An (w + 1 + 5) (dP D) wa μ
theorem LVp_fr {D : Dt} {w sn m : Nat} {wa : Nat → Nat} {G : Kp} {mh mw t : Nat} {μ μ' : kM} (h : LVp D w sn m wa G mh mw t μ) (hw : isW w) (ht : isT t) (hf : ∀ k, (k ≤ w ∨ w + 5 < k) → μ' k = μ k) : LVp D w sn m wa G mh mw t μ' := by
  obtain ⟨a1, a2, a3, a4, a5, a6, a7⟩ := h
  have e := hf w (Or.inl (Nat.le_refl _))
  exact ⟨TD_fr a1 (fun k _ b => by have := TW_lt ht hw b; exact hf k (by omega)), KD_fr a2 (fun k _ b => hf k (by rcases hw with rfl | rfl <;> omega)), by rw [e]; exact a3, by rw [e]; exact a4, by rw [e]; exact a5, by rw [e]; exact a6, An_fr a7 (hf _ (by omega))⟩
theorem cfW_ok {D : Dt} (ok : okD D) {sn aw : Nat} {wa : Nat → Nat} {G : Kp} {mh mw : Nat} (hsn : 1 ≤ sn ∧ sn ≤ 13) (hwa : ∀ p, p < dP D → wa p ≤ 12) (okg : okG G) (hn : G.1 ≤ 7) (hmw : mw ≤ 99) : okC (dH D) (cfW D sn wa aw G mh mw) := by
  refine ⟨ok.1, ok.2.1, hsn.1, hsn.2, fun h hh => ⟨(ok.2.2.1 h hh).1, (ok.2.2.1 h hh).2.2⟩, fun p hp => ⟨hwa p hp, (ok.2.2.2 p hp).2.2.1, (ok.2.2.2 p hp).2.2.2.2⟩, fun week h => ?_⟩
  have := gsN_le (h := h) (w := week) okg G.1 (Nat.le_refl _)
  show gsN G h week G.1 + moS mh mw week h ≤ 1000
  have : moS mh mw week h ≤ 99 := by unfold moS; split <;> omega
  omega
set_option maxHeartbeats 4000000 in
theorem live_155 (Γ : kGm) {μ : kM} {q : kq4} {w : Nat} (hw : isW w) (htq : isT (tq q w)) {D : Dt} (ok : okD D) {sn aw : Nat} {wa : Nat → Nat} {G : Kp} {mh mw : Nat} (hp : LVp D w sn aw wa G mh mw (tq q w) μ) (hsn : 1 ≤ sn ∧ sn ≤ 13) (hm6 : aw < 64) (hwa : ∀ p, p < dP D → wa p ≤ 12) (okg : okG G) (hn : G.1 ≤ 6) (hmw : mw ≤ 99) (n S : Nat) (hn10 : n ≤ 10) (hS : S < 64) (i : Nat) (hi : i < n * 14) (hk : ∀ μ3 : kM, ((∀ k, (k ≤ w ∨ w + 5 < k) → μ3 k = μ k) ∧ An (w + 1 + 3) (dH D) (smS (cfW D sn wa aw G mh mw) (i + 1)).1 μ3 ∧ An (w + 1 + 4) (dH D) (smS (cfW D sn wa aw G mh mw) (i + 1)).2.1 μ3 ∧ LVd (cfW D sn wa aw G mh mw) w (dH D) (i + 1) μ3 ∧ wmB (cfW D sn wa aw G mh mw) S (i + 1) = true) → gG Γ mX3_live 3 63 [some (.ref w), some (.int (nI n)), some (.int (nI S)), some (.int (nI (wo (mk (fun p => decide (dtw D p = 0)) (dP D)) aw))), some (.int (nI (wo (mk (fun p => decide (dtw D p = 1)) (dP D)) aw))), some (.int (nI (i + 1))), none, none, none] [] μ3 q (fun r μ' q' => r = some (.int (b2 (wmB (cfW D sn wa aw G mh mw) S (n * 14)))) ∧ q' = q ∧ (∀ k, (k ≤ w ∨ w + 5 < k) → μ' k = μ k) ∧ (wmB (cfW D sn wa aw G mh mw) S (n * 14) = true → LVd (cfW D sn wa aw G mh mw) w (dH D) (n * 14) μ'))) (X : St3) (hX : smS (cfW D sn wa aw G mh mw) (i + 1) = X) (y6 y7 : Option Value) (μ4 : kM) (h1 : ∀ k, (k ≤ w ∨ w + 5 < k) → μ4 k = μ k) (h2 : An (w + 1 + 3) (dH D) X.1 μ4) (h3 : An (w + 1 + 4) (dH D) X.2.1 μ4) (h4 : LVd (cfW D sn wa aw G mh mw) w (dH D) i μ4) (h5 : wmB (cfW D sn wa aw G mh mw) S i = true) : gG Γ mX3_live 3 155 [some (.ref w), some (.int (nI n)), some (.int (nI S)), some (.int (nI (wo (mk (fun p => decide (dtw D p = 0)) (dP D)) aw))), some (.int (nI (wo (mk (fun p => decide (dtw D p = 1)) (dP D)) aw))), some (.int (nI i)), y6, y7, some (.int (nI X.2.2))] [] μ4 q (fun r μ' q' => r = some (.int (b2 (wmB (cfW D sn wa aw G mh mw) S (n * 14)))) ∧ q' = q ∧ (∀ k, (k ≤ w ∨ w + 5 < k) → μ' k = μ k) ∧ (wmB (cfW D sn wa aw G mh mw) S (n * 14) = true → LVd (cfW D sn wa aw G mh mw) w (dH D) (n * 14) μ')) := by
  have hp4 := LVp_fr hp hw htq h1
  have hH := ok.1
  have okc := cfW_ok (aw := aw) (mh := mh) ok hsn hwa okg (by omega) hmw
  have hlt := sm_lt okc (i + 1)
  rw [hX] at hlt
  have hlt6 : X.2.2 < 2 ^ 6 := Nat.lt_of_lt_of_le hlt (Nat.pow_le_pow_right (by decide) ok.2.1)
  refine kG.aload_n 156 dX3_live_155 rfl rfl ?_
  refine kG.iload 158 dX3_live_156 rfl rfl ?_
  refine kG.iload 160 dX3_live_158 rfl rfl ?_
  refine gG.callV 163 dX3_live_160 lX3_87 vX3_note (c_note Γ hw htq hp4.1 ok i (by omega) _ X.1 X.2.1 h2 h3) rfl rfl (isW_k hw) (isW_s hw) ⟨by decide, rfl⟩ ⟨by decide, by decide⟩ (Nat.le_of_ble_eq_true rfl) rfl (fun r160 μ160 q160 hc160 => ?_)
  obtain ⟨rfl, rfl, g1, g2, g3, g4⟩ := hc160
  refine kG.iload 165 dX3_live_163 rfl rfl ?_
  refine kG.iload_n 166 dX3_live_165 rfl rfl ?_
  refine kG.iand 167 dX3_live_166 rfl ?_
  rw [n_and]
  refine kG.if_eq 172 170 dX3_live_167 (by decide) rfl (fun h167 => ?_) (fun h167 => ?_)
  · have e0 : X.2.2 &&& S = 0 := (nI_eq (b := 0) (by have : X.2.2 &&& S ≤ S := Nat.and_le_right; omega) (by decide)).mp h167
    refine kG.iinc (v := nI (i + 1)) 175 dX3_live_172 rfl (nI_1 i) (by decide) rfl rfl ?_
    dsimp only [List.set]
    refine kG.goto 63 dX3_live_175 (by decide) ?_
    refine kG.sub (kLe_s rfl (kLe_s rfl (kLe_s rfl (kLe_s rfl (kLe_s rfl (kLe_s rfl (kLe_n (kLe_n (kLe_n kLe_0))))))))) (hk μ160 ⟨fun k hk => by rw [g1 k (by omega) (by omega) (by omega)]; exact h1 k hk, ?_, ?_, ⟨fun j hj => ?_, fun h hh j hj => ?_⟩, ?_⟩)
    · rw [hX]; exact An_fr h2 (g1 _ (by omega) (by omega) (by omega))
    · rw [hX]; exact An_fr h3 (g1 _ (by omega) (by omega) (by omega))
    · rw [g2 j]
      by_cases e : j = i
      · subst e; rw [if_pos rfl, hX]
      · rw [if_neg e]; exact h4.1 j (by omega)
    · by_cases e : j = i
      · subst e; rw [hX]; exact g3 h hh
      · have hne : ∀ a, a < dH D → h * 140 + j ≠ a * 140 + i := fun a ha => by omega
        rw [(g4 _ hne).1, (g4 _ hne).2]
        exact h4.2 h hh j (by omega)
    · unfold wmB; rw [h5, hX]; simp [e0]
  · have e0 : ¬ X.2.2 &&& S = 0 := fun z => h167 (by rw [z]; rfl)
    refine kG.iconst (v := nI 0) 171 dX3_live_170 (by decide) rfl ?_
    refine gG.zret dX3_live_171 rfl rfl ?_
    have hf : wmB (cfW D sn wa aw G mh mw) S (n * 14) = false := wmB_f (i := i) (by rw [hX]; exact e0) _ hi
    exact ⟨by rw [hf]; rfl, rfl, fun k hk => by rw [g1 k (by omega) (by omega) (by omega)]; exact h1 k hk, fun z => absurd z (by rw [hf]; decide)⟩
set_option maxHeartbeats 4000000 in
theorem live_101 (Γ : kGm) {μ : kM} {q : kq4} {w : Nat} (hw : isW w) (htq : isT (tq q w)) {D : Dt} (ok : okD D) {sn aw : Nat} {wa : Nat → Nat} {G : Kp} {mh mw : Nat} (hp : LVp D w sn aw wa G mh mw (tq q w) μ) (hsn : 1 ≤ sn ∧ sn ≤ 13) (hm6 : aw < 64) (hwa : ∀ p, p < dP D → wa p ≤ 12) (okg : okG G) (hn : G.1 ≤ 6) (hmw : mw ≤ 99) (n S : Nat) (hn10 : n ≤ 10) (hS : S < 64) (i : Nat) (hi : i < n * 14) (hk : ∀ μ3 : kM, ((∀ k, (k ≤ w ∨ w + 5 < k) → μ3 k = μ k) ∧ An (w + 1 + 3) (dH D) (smS (cfW D sn wa aw G mh mw) (i + 1)).1 μ3 ∧ An (w + 1 + 4) (dH D) (smS (cfW D sn wa aw G mh mw) (i + 1)).2.1 μ3 ∧ LVd (cfW D sn wa aw G mh mw) w (dH D) (i + 1) μ3 ∧ wmB (cfW D sn wa aw G mh mw) S (i + 1) = true) → gG Γ mX3_live 3 63 [some (.ref w), some (.int (nI n)), some (.int (nI S)), some (.int (nI (wo (mk (fun p => decide (dtw D p = 0)) (dP D)) aw))), some (.int (nI (wo (mk (fun p => decide (dtw D p = 1)) (dP D)) aw))), some (.int (nI (i + 1))), none, none, none] [] μ3 q (fun r μ' q' => r = some (.int (b2 (wmB (cfW D sn wa aw G mh mw) S (n * 14)))) ∧ q' = q ∧ (∀ k, (k ≤ w ∨ w + 5 < k) → μ' k = μ k) ∧ (wmB (cfW D sn wa aw G mh mw) S (n * 14) = true → LVd (cfW D sn wa aw G mh mw) w (dH D) (n * 14) μ'))) (WD : Nat → Nat) (hWD : WD = if i % 14 = 0 then bwS (cfW D sn wa aw G mh mw) (i / 14) (smS (cfW D sn wa aw G mh mw) i).1 else (smS (cfW D sn wa aw G mh mw) i).1) (μ2 : kM) (h1 : ∀ k, (k ≤ w ∨ w + 5 < k) → μ2 k = μ k) (h2 : An (w + 1 + 3) (dH D) WD μ2) (h3 : An (w + 1 + 4) (dH D) (smS (cfW D sn wa aw G mh mw) i).2.1 μ2) (h4 : LVd (cfW D sn wa aw G mh mw) w (dH D) i μ2) (h5 : wmB (cfW D sn wa aw G mh mw) S i = true) : gG Γ mX3_live 3 101 [some (.ref w), some (.int (nI n)), some (.int (nI S)), some (.int (nI (wo (mk (fun p => decide (dtw D p = 0)) (dP D)) aw))), some (.int (nI (wo (mk (fun p => decide (dtw D p = 1)) (dP D)) aw))), some (.int (nI i)), some (.int (nI (i % 14))), none, none] [] μ2 q (fun r μ' q' => r = some (.int (b2 (wmB (cfW D sn wa aw G mh mw) S (n * 14)))) ∧ q' = q ∧ (∀ k, (k ≤ w ∨ w + 5 < k) → μ' k = μ k) ∧ (wmB (cfW D sn wa aw G mh mw) S (n * 14) = true → LVd (cfW D sn wa aw G mh mw) w (dH D) (n * 14) μ')) := by
  have hp2 := LVp_fr hp hw htq h1
  have hH := ok.1
  have hP := ok.2.1
  have okc := cfW_ok (aw := aw) (mh := mh) ok hsn hwa okg (by omega) hmw
  have bd0 := sm_bd okc i
  have bd : bdS (dH D) WD (smS (cfW D sn wa aw G mh mw) i).2.1 := by
    rw [hWD]
    split
    · exact bw_bd bd0
    · exact bd0
  have hmod : i % 14 < 14 := Nat.mod_lt _ (by decide)
  obtain ⟨mm, hmm⟩ : ∃ mm, mm = wo (mk (fun p => decide (dtw D p = if i % 14 < sn then 0 else 1)) (dP D)) aw := ⟨_, rfl⟩
  have hm31 : mm < 2 ^ 31 := by rw [hmm]; exact p31 (wo_lt (mk_lt _ _)) (by omega)
  have htb : ∀ p, p < dP D → mm.testBit p = cin (cfW D sn wa aw G mh mw) (i % 14) p := fun p hp => by
    rw [hmm, wo_tb, mk_tb]
    show (decide (p < dP D) && decide (dtw D p = if i % 14 < sn then 0 else 1) && !aw.testBit p) = (decide (dtw D p = if i % 14 < sn then 0 else 1) && !aw.testBit p)
    simp [hp]
  have hTK : tkN (cfW D sn wa aw G mh mw) mm.testBit (dP D) (WD, (smS (cfW D sn wa aw G mh mw) i).2.1, 0) = tkN (cfW D sn wa aw G mh mw) (cin (cfW D sn wa aw G mh mw) (i % 14)) (dP D) (WD, (smS (cfW D sn wa aw G mh mw) i).2.1, 0) := tkN_cong htb
  have hLC : LC D (cfW D sn wa aw G mh mw) := ⟨rfl, rfl, rfl, rfl, rfl⟩
  have hsm : smS (cfW D sn wa aw G mh mw) (i + 1) = hfS (cfW D sn wa aw G mh mw) (i % 14) WD (smS (cfW D sn wa aw G mh mw) i).2.1 := by rw [hWD]; rfl
  refine kG.iload 103 dX3_live_101 rfl rfl ?_
  refine kG.aload_n 104 dX3_live_103 rfl rfl ?_
  refine gG.getI 107 dX3_live_104 fX3_34 (isW_k hw) (isW_s hw) rfl rfl ?_
  rw [hp2.2.2.2.1]
  refine kG.icmp_ge 114 110 dX3_live_107 (by decide) rfl (fun h107 => ?_) (fun h107 => ?_)
  · have e1 : ¬ i % 14 < sn := by have := (nI_leI (by omega) (by omega)).mp h107; omega
    rw [if_neg e1] at hmm
    refine kG.iload 116 dX3_live_114 rfl rfl ?_
    refine kG.topi (fun y hy => ?_)
    rw [← hmm] at hy
    subst hy
    refine kG.istore 118 dX3_live_116 (by decide) rfl rfl ?_
    dsimp only [List.set]
    refine kG.aload_n 119 dX3_live_118 rfl rfl ?_
    refine kG.iload 121 dX3_live_119 rfl rfl ?_
    refine gG.callV 124 dX3_live_121 lX3_80 vX3_takeWood (c_takeWood Γ hw htq hp2.1 ok hLC okc hp2.2.2.2.2.2.2 mm hm31 WD (smS (cfW D sn wa aw G mh mw) i).2.1 bd h2 h3) rfl rfl (isW_k hw) (isW_s hw) ⟨by decide, rfl⟩ ⟨by decide, by decide⟩ (Nat.le_of_ble_eq_true rfl) rfl (fun r121 μ121 q121 hc121 => ?_)
    obtain ⟨rfl, rfl, g1, g2, g3⟩ := hc121
    rw [hTK] at g2 g3 ⊢
    have hf2 : ∀ k, (k ≤ w ∨ w + 5 < k) → μ121 k = μ k := fun k hk => by rw [g1 k (by omega) (by omega)]; exact h1 k hk
    have bd2 : bdS (dH D) (tkN (cfW D sn wa aw G mh mw) (cin (cfW D sn wa aw G mh mw) (i % 14)) (dP D) (WD, (smS (cfW D sn wa aw G mh mw) i).2.1, 0)).1 (tkN (cfW D sn wa aw G mh mw) (cin (cfW D sn wa aw G mh mw) (i % 14)) (dP D) (WD, (smS (cfW D sn wa aw G mh mw) i).2.1, 0)).2.1 := tkN_bd okc bd _ (Nat.le_refl _)
    have hl4 : LVd (cfW D sn wa aw G mh mw) w (dH D) i μ121 := LVd_fr h4 (g1 _ (by omega) (by omega)) (g1 _ (by omega) (by omega)) (g1 _ (by omega) (by omega))
    obtain ⟨s, hs⟩ : ∃ s, s = tkN (cfW D sn wa aw G mh mw) (cin (cfW D sn wa aw G mh mw) (i % 14)) (dP D) (WD, (smS (cfW D sn wa aw G mh mw) i).2.1, 0) := ⟨_, rfl⟩
    rw [← hs] at g2 g3 bd2 ⊢
    have hp3 := LVp_fr hp hw htq hf2
    have hsn1 : nI sn - nI 1 = nI (sn - 1) := pk_sub hsn.1
    refine kG.istore 126 dX3_live_124 (by decide) rfl rfl ?_
    dsimp only [List.set]
    refine kG.iload 128 dX3_live_126 rfl rfl ?_
    refine kG.aload_n 129 dX3_live_128 rfl rfl ?_
    refine gG.getI 132 dX3_live_129 fX3_34 (isW_k hw) (isW_s hw) rfl rfl ?_
    refine kG.iconst (v := nI 1) 133 dX3_live_132 (by decide) rfl ?_
    refine kG.isub 134 dX3_live_133 rfl ?_
    rw [hp3.2.2.2.1, hsn1]
    refine kG.icmp_eq 144 137 dX3_live_134 (by decide) rfl (fun h134 => ?_) (fun h134 => ?_)
    · have e2 := (nI_eq (by omega) (by omega)).mp h134
      have hl : i % 14 + 1 = sn ∨ i % 14 = 13 := Or.inl (by omega)
      refine kG.aload_n 145 dX3_live_144 rfl rfl ?_
      refine kG.iload 147 dX3_live_145 rfl rfl ?_
      refine kG.iload 149 dX3_live_147 rfl rfl ?_
      refine kG.iconst (v := (-1)) 150 dX3_live_149 (by decide) rfl ?_
      refine kG.ixor 151 dX3_live_150 rfl ?_
      refine kG.iand 152 dX3_live_151 rfl ?_
      rw [n_wo]
      refine gG.callV 155 dX3_live_152 lX3_84 vX3_mend (c_mend Γ hw htq hp3.1 ok hLC okc (wo mm s.2.2) (p31 (wo_lt (n := 31) hm31) (by decide)) s.1 s.2.1 bd2 g3) rfl rfl (isW_k hw) (isW_s hw) ⟨by decide, rfl⟩ ⟨by decide, by decide⟩ (Nat.le_of_ble_eq_true rfl) rfl (fun r152 μ152 q152 hc152 => ?_)
      obtain ⟨rfl, rfl, m1, m2⟩ := hc152
      have hMD : mdN (cfW D sn wa aw G mh mw) (wo mm s.2.2).testBit (dP D) s.2.1 = mdN (cfW D sn wa aw G mh mw) (fun p => cin (cfW D sn wa aw G mh mw) (i % 14) p && !s.2.2.testBit p) (dP D) s.2.1 := mdN_cong (fun p hp => by rw [wo_tb, htb p hp])
      rw [hMD] at m2
      have hX : smS (cfW D sn wa aw G mh mw) (i + 1) = (s.1, mdN (cfW D sn wa aw G mh mw) (fun p => cin (cfW D sn wa aw G mh mw) (i % 14) p && !s.2.2.testBit p) (dP D) s.2.1, s.2.2) := by rw [hsm]; show (if i % 14 + 1 = sn ∨ i % 14 = 13 then _ else _) = _; rw [if_pos hl, hs]; rfl
      exact live_155 Γ hw htq ok hp hsn hm6 hwa okg hn hmw n S hn10 hS i hi hk (s.1, _, s.2.2) hX _ _ μ152 (fun k hk => by rw [m1 k (by omega)]; exact hf2 k hk) (An_fr g2 (m1 _ (by omega))) m2 (LVd_fr hl4 (m1 _ (by omega)) (m1 _ (by omega)) (m1 _ (by omega))) h5
    · have e2 : ¬ i % 14 = sn - 1 := fun z => h134 (by rw [z])
      refine kG.iload 139 dX3_live_137 rfl rfl ?_
      refine kG.bipush (v := nI 13) 141 dX3_live_139 (by decide) rfl ?_
      refine kG.icmp_ne 155 144 dX3_live_141 (by decide) rfl (fun h141 => ?_) (fun h141 => ?_)
      · have e3 : ¬ i % 14 = 13 := fun z => h141 (by rw [z])
        have hX : smS (cfW D sn wa aw G mh mw) (i + 1) = s := by rw [hsm]; show (if i % 14 + 1 = sn ∨ i % 14 = 13 then _ else _) = _; rw [if_neg (by omega)]; exact hs.symm
        exact live_155 Γ hw htq ok hp hsn hm6 hwa okg hn hmw n S hn10 hS i hi hk s hX _ _ μ121 hf2 g2 g3 hl4 h5
      · have e3 := (nI_eq (by omega) (by omega)).mp h141
        have hl : i % 14 + 1 = sn ∨ i % 14 = 13 := Or.inr e3
        refine kG.aload_n 145 dX3_live_144 rfl rfl ?_
        refine kG.iload 147 dX3_live_145 rfl rfl ?_
        refine kG.iload 149 dX3_live_147 rfl rfl ?_
        refine kG.iconst (v := (-1)) 150 dX3_live_149 (by decide) rfl ?_
        refine kG.ixor 151 dX3_live_150 rfl ?_
        refine kG.iand 152 dX3_live_151 rfl ?_
        rw [n_wo]
        refine gG.callV 155 dX3_live_152 lX3_84 vX3_mend (c_mend Γ hw htq hp3.1 ok hLC okc (wo mm s.2.2) (p31 (wo_lt (n := 31) hm31) (by decide)) s.1 s.2.1 bd2 g3) rfl rfl (isW_k hw) (isW_s hw) ⟨by decide, rfl⟩ ⟨by decide, by decide⟩ (Nat.le_of_ble_eq_true rfl) rfl (fun r152 μ152 q152 hc152 => ?_)
        obtain ⟨rfl, rfl, m1, m2⟩ := hc152
        have hMD : mdN (cfW D sn wa aw G mh mw) (wo mm s.2.2).testBit (dP D) s.2.1 = mdN (cfW D sn wa aw G mh mw) (fun p => cin (cfW D sn wa aw G mh mw) (i % 14) p && !s.2.2.testBit p) (dP D) s.2.1 := mdN_cong (fun p hp => by rw [wo_tb, htb p hp])
        rw [hMD] at m2
        have hX : smS (cfW D sn wa aw G mh mw) (i + 1) = (s.1, mdN (cfW D sn wa aw G mh mw) (fun p => cin (cfW D sn wa aw G mh mw) (i % 14) p && !s.2.2.testBit p) (dP D) s.2.1, s.2.2) := by rw [hsm]; show (if i % 14 + 1 = sn ∨ i % 14 = 13 then _ else _) = _; rw [if_pos hl, hs]; rfl
        exact live_155 Γ hw htq ok hp hsn hm6 hwa okg hn hmw n S hn10 hS i hi hk (s.1, _, s.2.2) hX _ _ μ152 (fun k hk => by rw [m1 k (by omega)]; exact hf2 k hk) (An_fr g2 (m1 _ (by omega))) m2 (LVd_fr hl4 (m1 _ (by omega)) (m1 _ (by omega)) (m1 _ (by omega))) h5
  · have e1 : i % 14 < sn := Nat.not_le.mp fun z => h107 (nI_le z (by omega))
    rw [if_pos e1] at hmm
    refine kG.iload_n 111 dX3_live_110 rfl rfl ?_
    refine kG.goto 116 dX3_live_111 (by decide) ?_
    refine kG.topi (fun y hy => ?_)
    rw [← hmm] at hy
    subst hy
    refine kG.istore 118 dX3_live_116 (by decide) rfl rfl ?_
    dsimp only [List.set]
    refine kG.aload_n 119 dX3_live_118 rfl rfl ?_
    refine kG.iload 121 dX3_live_119 rfl rfl ?_
    refine gG.callV 124 dX3_live_121 lX3_80 vX3_takeWood (c_takeWood Γ hw htq hp2.1 ok hLC okc hp2.2.2.2.2.2.2 mm hm31 WD (smS (cfW D sn wa aw G mh mw) i).2.1 bd h2 h3) rfl rfl (isW_k hw) (isW_s hw) ⟨by decide, rfl⟩ ⟨by decide, by decide⟩ (Nat.le_of_ble_eq_true rfl) rfl (fun r121 μ121 q121 hc121 => ?_)
    obtain ⟨rfl, rfl, g1, g2, g3⟩ := hc121
    rw [hTK] at g2 g3 ⊢
    have hf2 : ∀ k, (k ≤ w ∨ w + 5 < k) → μ121 k = μ k := fun k hk => by rw [g1 k (by omega) (by omega)]; exact h1 k hk
    have bd2 : bdS (dH D) (tkN (cfW D sn wa aw G mh mw) (cin (cfW D sn wa aw G mh mw) (i % 14)) (dP D) (WD, (smS (cfW D sn wa aw G mh mw) i).2.1, 0)).1 (tkN (cfW D sn wa aw G mh mw) (cin (cfW D sn wa aw G mh mw) (i % 14)) (dP D) (WD, (smS (cfW D sn wa aw G mh mw) i).2.1, 0)).2.1 := tkN_bd okc bd _ (Nat.le_refl _)
    have hl4 : LVd (cfW D sn wa aw G mh mw) w (dH D) i μ121 := LVd_fr h4 (g1 _ (by omega) (by omega)) (g1 _ (by omega) (by omega)) (g1 _ (by omega) (by omega))
    obtain ⟨s, hs⟩ : ∃ s, s = tkN (cfW D sn wa aw G mh mw) (cin (cfW D sn wa aw G mh mw) (i % 14)) (dP D) (WD, (smS (cfW D sn wa aw G mh mw) i).2.1, 0) := ⟨_, rfl⟩
    rw [← hs] at g2 g3 bd2 ⊢
    have hp3 := LVp_fr hp hw htq hf2
    have hsn1 : nI sn - nI 1 = nI (sn - 1) := pk_sub hsn.1
    refine kG.istore 126 dX3_live_124 (by decide) rfl rfl ?_
    dsimp only [List.set]
    refine kG.iload 128 dX3_live_126 rfl rfl ?_
    refine kG.aload_n 129 dX3_live_128 rfl rfl ?_
    refine gG.getI 132 dX3_live_129 fX3_34 (isW_k hw) (isW_s hw) rfl rfl ?_
    refine kG.iconst (v := nI 1) 133 dX3_live_132 (by decide) rfl ?_
    refine kG.isub 134 dX3_live_133 rfl ?_
    rw [hp3.2.2.2.1, hsn1]
    refine kG.icmp_eq 144 137 dX3_live_134 (by decide) rfl (fun h134 => ?_) (fun h134 => ?_)
    · have e2 := (nI_eq (by omega) (by omega)).mp h134
      have hl : i % 14 + 1 = sn ∨ i % 14 = 13 := Or.inl (by omega)
      refine kG.aload_n 145 dX3_live_144 rfl rfl ?_
      refine kG.iload 147 dX3_live_145 rfl rfl ?_
      refine kG.iload 149 dX3_live_147 rfl rfl ?_
      refine kG.iconst (v := (-1)) 150 dX3_live_149 (by decide) rfl ?_
      refine kG.ixor 151 dX3_live_150 rfl ?_
      refine kG.iand 152 dX3_live_151 rfl ?_
      rw [n_wo]
      refine gG.callV 155 dX3_live_152 lX3_84 vX3_mend (c_mend Γ hw htq hp3.1 ok hLC okc (wo mm s.2.2) (p31 (wo_lt (n := 31) hm31) (by decide)) s.1 s.2.1 bd2 g3) rfl rfl (isW_k hw) (isW_s hw) ⟨by decide, rfl⟩ ⟨by decide, by decide⟩ (Nat.le_of_ble_eq_true rfl) rfl (fun r152 μ152 q152 hc152 => ?_)
      obtain ⟨rfl, rfl, m1, m2⟩ := hc152
      have hMD : mdN (cfW D sn wa aw G mh mw) (wo mm s.2.2).testBit (dP D) s.2.1 = mdN (cfW D sn wa aw G mh mw) (fun p => cin (cfW D sn wa aw G mh mw) (i % 14) p && !s.2.2.testBit p) (dP D) s.2.1 := mdN_cong (fun p hp => by rw [wo_tb, htb p hp])
      rw [hMD] at m2
      have hX : smS (cfW D sn wa aw G mh mw) (i + 1) = (s.1, mdN (cfW D sn wa aw G mh mw) (fun p => cin (cfW D sn wa aw G mh mw) (i % 14) p && !s.2.2.testBit p) (dP D) s.2.1, s.2.2) := by rw [hsm]; show (if i % 14 + 1 = sn ∨ i % 14 = 13 then _ else _) = _; rw [if_pos hl, hs]; rfl
      exact live_155 Γ hw htq ok hp hsn hm6 hwa okg hn hmw n S hn10 hS i hi hk (s.1, _, s.2.2) hX _ _ μ152 (fun k hk => by rw [m1 k (by omega)]; exact hf2 k hk) (An_fr g2 (m1 _ (by omega))) m2 (LVd_fr hl4 (m1 _ (by omega)) (m1 _ (by omega)) (m1 _ (by omega))) h5
    · have e2 : ¬ i % 14 = sn - 1 := fun z => h134 (by rw [z])
      refine kG.iload 139 dX3_live_137 rfl rfl ?_
      refine kG.bipush (v := nI 13) 141 dX3_live_139 (by decide) rfl ?_
      refine kG.icmp_ne 155 144 dX3_live_141 (by decide) rfl (fun h141 => ?_) (fun h141 => ?_)
      · have e3 : ¬ i % 14 = 13 := fun z => h141 (by rw [z])
        have hX : smS (cfW D sn wa aw G mh mw) (i + 1) = s := by rw [hsm]; show (if i % 14 + 1 = sn ∨ i % 14 = 13 then _ else _) = _; rw [if_neg (by omega)]; exact hs.symm
        exact live_155 Γ hw htq ok hp hsn hm6 hwa okg hn hmw n S hn10 hS i hi hk s hX _ _ μ121 hf2 g2 g3 hl4 h5
      · have e3 := (nI_eq (by omega) (by omega)).mp h141
        have hl : i % 14 + 1 = sn ∨ i % 14 = 13 := Or.inr e3
        refine kG.aload_n 145 dX3_live_144 rfl rfl ?_
        refine kG.iload 147 dX3_live_145 rfl rfl ?_
        refine kG.iload 149 dX3_live_147 rfl rfl ?_
        refine kG.iconst (v := (-1)) 150 dX3_live_149 (by decide) rfl ?_
        refine kG.ixor 151 dX3_live_150 rfl ?_
        refine kG.iand 152 dX3_live_151 rfl ?_
        rw [n_wo]
        refine gG.callV 155 dX3_live_152 lX3_84 vX3_mend (c_mend Γ hw htq hp3.1 ok hLC okc (wo mm s.2.2) (p31 (wo_lt (n := 31) hm31) (by decide)) s.1 s.2.1 bd2 g3) rfl rfl (isW_k hw) (isW_s hw) ⟨by decide, rfl⟩ ⟨by decide, by decide⟩ (Nat.le_of_ble_eq_true rfl) rfl (fun r152 μ152 q152 hc152 => ?_)
        obtain ⟨rfl, rfl, m1, m2⟩ := hc152
        have hMD : mdN (cfW D sn wa aw G mh mw) (wo mm s.2.2).testBit (dP D) s.2.1 = mdN (cfW D sn wa aw G mh mw) (fun p => cin (cfW D sn wa aw G mh mw) (i % 14) p && !s.2.2.testBit p) (dP D) s.2.1 := mdN_cong (fun p hp => by rw [wo_tb, htb p hp])
        rw [hMD] at m2
        have hX : smS (cfW D sn wa aw G mh mw) (i + 1) = (s.1, mdN (cfW D sn wa aw G mh mw) (fun p => cin (cfW D sn wa aw G mh mw) (i % 14) p && !s.2.2.testBit p) (dP D) s.2.1, s.2.2) := by rw [hsm]; show (if i % 14 + 1 = sn ∨ i % 14 = 13 then _ else _) = _; rw [if_pos hl, hs]; rfl
        exact live_155 Γ hw htq ok hp hsn hm6 hwa okg hn hmw n S hn10 hS i hi hk (s.1, _, s.2.2) hX _ _ μ152 (fun k hk => by rw [m1 k (by omega)]; exact hf2 k hk) (An_fr g2 (m1 _ (by omega))) m2 (LVd_fr hl4 (m1 _ (by omega)) (m1 _ (by omega)) (m1 _ (by omega))) h5
set_option maxHeartbeats 4000000 in
theorem live_loop (Γ : kGm) {μ : kM} {q : kq4} {w : Nat} (hw : isW w) (htq : isT (tq q w)) {D : Dt} (ok : okD D) {sn aw : Nat} {wa : Nat → Nat} {G : Kp} {mh mw : Nat} (hp : LVp D w sn aw wa G mh mw (tq q w) μ) (hsn : 1 ≤ sn ∧ sn ≤ 13) (hm6 : aw < 64) (hwa : ∀ p, p < dP D → wa p ≤ 12) (okg : okG G) (hn : G.1 ≤ 6) (hmw : mw ≤ 99) (n S : Nat) (hn10 : n ≤ 10) (hS : S < 64) : ∀ (m i : Nat) (μ1 : kM), i + m = n * 14 → ((∀ k, (k ≤ w ∨ w + 5 < k) → μ1 k = μ k) ∧ An (w + 1 + 3) (dH D) (smS (cfW D sn wa aw G mh mw) i).1 μ1 ∧ An (w + 1 + 4) (dH D) (smS (cfW D sn wa aw G mh mw) i).2.1 μ1 ∧ LVd (cfW D sn wa aw G mh mw) w (dH D) i μ1 ∧ wmB (cfW D sn wa aw G mh mw) S i = true) → gG Γ mX3_live 3 63 [some (.ref w), some (.int (nI n)), some (.int (nI S)), some (.int (nI (wo (mk (fun p => decide (dtw D p = 0)) (dP D)) aw))), some (.int (nI (wo (mk (fun p => decide (dtw D p = 1)) (dP D)) aw))), some (.int (nI i)), none, none, none] [] (μ1) q (fun r μ' q' => r = some (.int (b2 (wmB (cfW D sn wa aw G mh mw) S (n * 14)))) ∧ q' = q ∧ (∀ k, (k ≤ w ∨ w + 5 < k) → μ' k = μ k) ∧ (wmB (cfW D sn wa aw G mh mw) S (n * 14) = true → LVd (cfW D sn wa aw G mh mw) w (dH D) (n * 14) μ')) := by
  intro m
  induction m with
  | zero =>
    intro i μ1 hm hI
    obtain ⟨h1, h2, h3, h4, h5⟩ := hI
    have hp1 := LVp_fr hp hw htq h1
    have hH := ok.1
    refine kG.iload 65 dX3_live_63 rfl rfl ?_
    refine kG.iload_n 66 dX3_live_65 rfl rfl ?_
    refine kG.bipush (v := nI 14) 68 dX3_live_66 (by decide) rfl ?_
    refine kG.imul 69 dX3_live_68 rfl ?_
    rw [pk_mul]
    refine kG.icmp_ge 178 72 dX3_live_69 (by decide) rfl (fun h69 => ?_) (fun h69 => ?_)
    · refine kG.iconst (v := nI 1) 179 dX3_live_178 (by decide) rfl ?_
      refine gG.zret dX3_live_179 rfl rfl ?_
      rw [show i = n * 14 by omega] at h4 h5
      exact ⟨by rw [h5]; rfl, rfl, h1, fun _ => h4⟩
    · exact absurd (nI_le (by omega) (by omega)) h69
  | succ m ih =>
    intro i μ1 hm hI
    obtain ⟨h1, h2, h3, h4, h5⟩ := hI
    have hp1 := LVp_fr hp hw htq h1
    have hH := ok.1
    refine kG.iload 65 dX3_live_63 rfl rfl ?_
    refine kG.iload_n 66 dX3_live_65 rfl rfl ?_
    refine kG.bipush (v := nI 14) 68 dX3_live_66 (by decide) rfl ?_
    refine kG.imul 69 dX3_live_68 rfl ?_
    rw [pk_mul]
    refine kG.icmp_ge 178 72 dX3_live_69 (by decide) rfl (fun h69 => ?_) (fun h69 => ?_)
    · exact absurd h69 (nI_ge (by omega) (by omega))
    · refine kG.iload 74 dX3_live_72 rfl rfl ?_
      refine kG.sipush (v := nI 140) 77 dX3_live_74 (by decide) rfl ?_
      refine kG.icmp_ge 178 80 dX3_live_77 (by decide) rfl (fun h77 => ?_) (fun h77 => ?_)
      · exact absurd h77 (nI_ge (by omega) (by omega))
      · refine kG.iload 82 dX3_live_80 rfl rfl ?_
        refine kG.bipush (v := nI 14) 84 dX3_live_82 (by decide) rfl ?_
        refine kG.irem 85 dX3_live_84 rfl (by decide) ?_
        rw [pk_rem (by omega) (by decide) (by decide)]
        refine kG.istore 87 dX3_live_85 (by decide) rfl rfl ?_
        dsimp only [List.set]
        refine kG.iload 89 dX3_live_87 rfl rfl ?_
        refine kG.if_ne 101 92 dX3_live_89 (by decide) rfl (fun h89 => ?_) (fun h89 => ?_)
        · have e : ¬ i % 14 = 0 := fun z => h89 (by rw [z]; rfl)
          first
            | exact live_101 Γ hw htq ok hp hsn hm6 hwa okg hn hmw n S hn10 hS i (by omega) (fun μ3 h => ih (i + 1) μ3 (by omega) h) _ (by rw [if_neg e]) μ1 h1 h2 h3 h4 h5
            | exact live_101 Γ hw htq ok hp hsn hm6 hwa okg hn hmw n S hn10 hS i (by omega) (fun μ3 h => ih (i + 1) μ3 (by omega) h) _ (by rw [if_pos e]) μ98 (fun k hk => by rw [g1 k (by omega)]; exact h1 k hk) (fun h hh => by rw [g2 h hh]; simp [bwN, hh, bwS, cfW]) (An_fr h3 (g1 _ (by omega))) (LVd_fr h4 (g1 _ (by omega)) (g1 _ (by omega)) (g1 _ (by omega))) h5
        · have e : i % 14 = 0 := (nI_eq (b := 0) (by omega) (by decide)).mp h89
          refine kG.aload_n 93 dX3_live_92 rfl rfl ?_
          refine kG.iload 95 dX3_live_93 rfl rfl ?_
          refine kG.bipush (v := nI 14) 97 dX3_live_95 (by decide) rfl ?_
          refine kG.idiv 98 dX3_live_97 rfl (by decide) ?_
          rw [pk_div (by omega) (by decide) (by decide)]
          refine gG.callV 101 dX3_live_98 lX3_76 vX3_bringWood (c_bringWood Γ hw htq hp1.1 ok hp1.2.1 okg hn (i / 14) (by omega) mh mw hp1.2.2.2.2.1 hp1.2.2.2.2.2.1 hmw (smS (cfW D sn wa aw G mh mw) i).1 (fun h hh => (sm_bd (cfW_ok (aw := aw) (mh := mh) ok hsn hwa okg (by omega) hmw) i h hh).1) h2) rfl rfl (isW_k hw) (isW_s hw) ⟨by decide, rfl⟩ ⟨by decide, by decide⟩ (Nat.le_of_ble_eq_true rfl) rfl (fun r98 μ98 q98 hc98 => ?_)
          obtain ⟨rfl, rfl, g1, g2⟩ := hc98
          first
            | exact live_101 Γ hw htq ok hp hsn hm6 hwa okg hn hmw n S hn10 hS i (by omega) (fun μ3 h => ih (i + 1) μ3 (by omega) h) _ (by rw [if_neg e]) μ1 h1 h2 h3 h4 h5
            | exact live_101 Γ hw htq ok hp hsn hm6 hwa okg hn hmw n S hn10 hS i (by omega) (fun μ3 h => ih (i + 1) μ3 (by omega) h) _ (by rw [if_pos e]) μ98 (fun k hk => by rw [g1 k (by omega)]; exact h1 k hk) (fun h hh => by rw [g2 h hh]; simp [bwN, hh, bwS, cfW]) (An_fr h3 (g1 _ (by omega))) (LVd_fr h4 (g1 _ (by omega)) (g1 _ (by omega)) (g1 _ (by omega))) h5
set_option maxHeartbeats 4000000 in
theorem c_live (Γ : kGm) {μ : kM} {q : kq4} {w : Nat} (hw : isW w) (htq : isT (tq q w)) {D : Dt} (ok : okD D) {sn aw : Nat} {wa : Nat → Nat} {G : Kp} {mh mw : Nat} (hp : LVp D w sn aw wa G mh mw (tq q w) μ) (hsn : 1 ≤ sn ∧ sn ≤ 13) (hm6 : aw < 64) (hwa : ∀ p, p < dP D → wa p ≤ 12) (okg : okG G) (hn : G.1 ≤ 6) (hmw : mw ≤ 99) (n S : Nat) (hn10 : n ≤ 10) (hS : S < 64) : gC Γ yX3_live mX3_live 3 [.ref w, .int (nI n), .int (nI S)] μ q (fun r μ' q' => r = some (.int (b2 (wmB (cfW D sn wa aw G mh mw) S (n * 14)))) ∧ q' = q ∧ (∀ k, (k ≤ w ∨ w + 5 < k) → μ' k = μ k) ∧ (wmB (cfW D sn wa aw G mh mw) S (n * 14) = true → LVd (cfW D sn wa aw G mh mw) w (dH D) (n * 14) μ')) := by
  refine gC.ofG (n := 0) ⟨by decide +kernel, rfl, rfl, by decide⟩ (Nat.le_of_ble_eq_true rfl) ?_
  show gG Γ mX3_live 3 0 [some (.ref w), some (.int (nI n)), some (.int (nI S)), none, none, none, none, none, none] [] μ q _
  refine kG.aload_n 1 dX3_live_0 rfl rfl ?_
  refine gG.getP 4 dX3_live_1 fX3_21 (isW_k hw) (isW_s hw) rfl (PI_W hw (by decide)) rfl ?_
  refine kG.iconst (v := nI 0) 5 dX3_live_4 (by decide) rfl ?_
  refine gG.callS 8 dX3_live_5 lX3_67 vJ7_fill_53178 (c_fill Γ (arW_k hw (by decide)) (arW_s hw (by decide)) (by decide) _) rfl rfl ⟨by decide, by decide⟩ (Nat.le_of_ble_eq_true rfl) rfl (fun r5 μ5 q5 hc5 => ?_)
  obtain ⟨rfl, rfl, rfl⟩ := hc5
  refine kG.aload_n 9 dX3_live_8 rfl rfl ?_
  refine gG.getP 12 dX3_live_9 fX3_24 (isW_k hw) (isW_s hw) rfl (PI_W hw (by decide)) rfl ?_
  refine kG.iconst (v := nI 0) 13 dX3_live_12 (by decide) rfl ?_
  refine gG.callS 16 dX3_live_13 lX3_67 vJ7_fill_53178 (c_fill Γ (arW_k hw (by decide)) (arW_s hw (by decide)) (by decide) _) rfl rfl ⟨by decide, by decide⟩ (Nat.le_of_ble_eq_true rfl) rfl (fun r13 μ13 q13 hc13 => ?_)
  obtain ⟨rfl, rfl, rfl⟩ := hc13
  have f1 : ∀ k, (k ≤ w ∨ w + 5 < k) → fl (fl μ (w + 1 + 3) (nI 0) (lnW 3)) (w + 1 + 4) (nI 0) (lnW 4) k = μ k := fun k hk => by rw [fl, uA_ne (by omega), fl, uA_ne (by omega)]
  have a3 : An (w + 1 + 3) (dH D) (fun _ => 0) (fl (fl μ (w + 1 + 3) (nI 0) (lnW 3)) (w + 1 + 4) (nI 0) (lnW 4)) := fun h hh => by have := ok.1; rw [fl, uA_ne (by omega), fl, uA_same]; exact if_pos (show h < 4 by omega)
  have a4 : An (w + 1 + 4) (dH D) (fun _ => 0) (fl (fl μ (w + 1 + 3) (nI 0) (lnW 3)) (w + 1 + 4) (nI 0) (lnW 4)) := fun h hh => by have := ok.1; rw [fl, uA_same]; exact if_pos (show h < 4 by omega)
  generalize fl (fl μ (w + 1 + 3) (nI 0) (lnW 3)) (w + 1 + 4) (nI 0) (lnW 4) = μ0 at f1 a3 a4 ⊢
  have hp0 := LVp_fr hp hw htq f1
  refine kG.aload_n 17 dX3_live_16 rfl rfl ?_
  refine gG.getP 20 dX3_live_17 fX3_43 (isW_k hw) (isW_s hw) rfl (PI_W7 hw) rfl ?_
  refine kG.iconst (v := nI 0) 21 dX3_live_20 (by decide) rfl ?_
  refine kG.aload_n 22 dX3_live_21 rfl rfl ?_
  refine gG.getI 25 dX3_live_22 fX3_34 (isW_k hw) (isW_s hw) rfl rfl ?_
  rw [hp0.2.2.2.1]
  refine gG.callV 28 dX3_live_25 lX3_73 vX2_townIn (c_townIn Γ htq hp0.1 ok 0 sn (by decide) (by omega)) rfl rfl (isT_k htq) (isT_s htq) ⟨by decide, rfl⟩ ⟨by decide, by decide⟩ (Nat.le_of_ble_eq_true rfl) rfl (fun r25 μ25 q25 hc25 => ?_)
  obtain ⟨rfl, rfl, rfl⟩ := hc25
  rw [if_pos (show 0 < sn by omega)]
  refine kG.aload_n 29 dX3_live_28 rfl rfl ?_
  refine gG.getI 32 dX3_live_29 fX3_30 (isW_k hw) (isW_s hw) rfl rfl ?_
  refine kG.iconst (v := (-1)) 33 dX3_live_32 (by decide) rfl ?_
  refine kG.ixor 34 dX3_live_33 rfl ?_
  rw [hp0.2.2.1]
  refine kG.iand 35 dX3_live_34 rfl ?_
  rw [n_wo]
  refine kG.istore_n 36 dX3_live_35 (by decide) rfl rfl ?_
  dsimp only [List.set]
  refine kG.aload_n 37 dX3_live_36 rfl rfl ?_
  refine gG.getP 40 dX3_live_37 fX3_43 (isW_k hw) (isW_s hw) rfl (PI_W7 hw) rfl ?_
  refine kG.aload_n 41 dX3_live_40 rfl rfl ?_
  refine gG.getI 44 dX3_live_41 fX3_34 (isW_k hw) (isW_s hw) rfl rfl ?_
  rw [hp0.2.2.2.1]
  refine kG.aload_n 45 dX3_live_44 rfl rfl ?_
  refine gG.getI 48 dX3_live_45 fX3_34 (isW_k hw) (isW_s hw) rfl rfl ?_
  rw [hp0.2.2.2.1]
  refine gG.callV 51 dX3_live_48 lX3_73 vX2_townIn (c_townIn Γ htq hp0.1 ok sn sn (by omega) (by omega)) rfl rfl (isT_k htq) (isT_s htq) ⟨by decide, rfl⟩ ⟨by decide, by decide⟩ (Nat.le_of_ble_eq_true rfl) rfl (fun r48 μ48 q48 hc48 => ?_)
  obtain ⟨rfl, rfl, rfl⟩ := hc48
  rw [if_neg (Nat.lt_irrefl sn)]
  refine kG.aload_n 52 dX3_live_51 rfl rfl ?_
  refine gG.getI 55 dX3_live_52 fX3_30 (isW_k hw) (isW_s hw) rfl rfl ?_
  refine kG.iconst (v := (-1)) 56 dX3_live_55 (by decide) rfl ?_
  refine kG.ixor 57 dX3_live_56 rfl ?_
  rw [hp0.2.2.1]
  refine kG.iand 58 dX3_live_57 rfl ?_
  rw [n_wo]
  refine kG.istore 60 dX3_live_58 (by decide) rfl rfl ?_
  dsimp only [List.set]
  refine kG.iconst (v := nI 0) 61 dX3_live_60 (by decide) rfl ?_
  refine kG.istore 63 dX3_live_61 (by decide) rfl rfl ?_
  dsimp only [List.set]
  exact live_loop Γ hw htq ok hp hsn hm6 hwa okg hn hmw n S hn10 hS (n * 14) 0 μ48 (by omega) ⟨f1, a3, a4, ⟨fun j hj => absurd hj (Nat.not_lt_zero _), fun h hh j hj => absurd hj (Nat.not_lt_zero _)⟩, rfl⟩
