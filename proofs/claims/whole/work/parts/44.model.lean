set_option maxHeartbeats 4000000 in
theorem m_mend (Γ : kGm) {D : Dt} {sn aw : Nat} {G : Kp} {μ : kM} {q : kq4} (h : MC D sn aw G μ) (ok : okD D) (p : Nat) (hp : p < dP D) (wr : Nat → Nat) (bd : ∀ x, x < dH D → wr x ≤ 90) (w2 : An 67 (dH D) wr μ) : gC Γ yX5_mend mX5_mend 2 [.ref 49, .int (nI p)] μ q (fun r μ' q' => r = none ∧ q' = q ∧ (∀ k, k ≠ 67 → μ' k = μ k) ∧ An 67 (dH D) (md1 (cM D sn aw G) p wr) μ') := by
  refine gC.ofG (n := 0) ⟨by decide +kernel, rfl, rfl, by decide⟩ (Nat.le_of_ble_eq_true rfl) ?_
  show gG Γ mX5_mend 2 0 [some (.ref 49), some (.int (nI p)), none] [] μ q _
  obtain ⟨d1, d2, d3, d4, d5⟩ := h.2.2.2.2.2.1 p hp
  obtain ⟨k1, k2, k3, k4, k5⟩ := ok.2.2.2 p hp
  obtain ⟨o1, o2⟩ := ok.2.2.1 _ k3
  have b2_ := bd _ k3
  have hH := ok.1
  have hP := ok.2.1
  refine kG.aload_n 1 dX5_mend_0 rfl rfl ?_
  refine gG.getP 4 dX5_mend_1 fX5_31 ⟨by decide, by decide⟩ rfl rfl rfl rfl ?_
  refine kG.iload_n 5 dX5_mend_4 rfl rfl ?_
  refine gG.iald (n := 6) _ 6 dX5_mend_5 ⟨by decide, by decide⟩ rfl rfl (by omega) (by decide) rfl ?_
  rw [d3]
  refine kG.istore_n 7 dX5_mend_6 (by decide) rfl rfl ?_
  dsimp only [List.set]
  refine kG.aload_n 8 dX5_mend_7 rfl rfl ?_
  refine kG.iload_n 9 dX5_mend_8 rfl rfl ?_
  refine gG.callV 12 dX5_mend_9 lX5_171 vX5_isBroken (m_isBroken Γ (dho D p) (dbe D (dho D p)) (wr (dho D p)) (by omega) (by omega) (by omega) (w2 _ k3) (h.2.2.2.2.1 _ k3).2) rfl rfl ⟨by decide, by decide⟩ rfl ⟨by decide, rfl⟩ ⟨by decide, by decide⟩ (Nat.le_of_ble_eq_true rfl) rfl (fun r9 μ9 q9 hc9 => ?_)
  obtain ⟨rfl, rfl, rfl⟩ := hc9
  refine kG.if_ne 53 15 dX5_mend_12 (by decide) rfl (fun h12 => ?_) (fun h12 => ?_)
  · have hbk := of_decide_eq_true (b2_n0.mp h12)
    have hT : md1 (cM D sn aw G) p wr = wr := by unfold md1; exact if_pos hbk
    refine gG.vret dX5_mend_53 rfl ?_
    rw [hT]
    exact ⟨rfl, rfl, fun _ _ => rfl, w2⟩
  · have hbk := of_decide_eq_false (b2_0.mp h12)
    have hT : md1 (cM D sn aw G) p wr = fu wr (dho D p) (wr (dho D p) - dme D p) := by unfold md1; exact if_neg hbk
    refine kG.aload_n 16 dX5_mend_15 rfl rfl ?_
    refine gG.getP 19 dX5_mend_16 fX5_62 ⟨by decide, by decide⟩ rfl rfl rfl rfl ?_
    refine kG.iload_n 20 dX5_mend_19 rfl rfl ?_
    refine kG.aload_n 21 dX5_mend_20 rfl rfl ?_
    refine gG.getP 24 dX5_mend_21 fX5_62 ⟨by decide, by decide⟩ rfl rfl rfl rfl ?_
    refine kG.iload_n 25 dX5_mend_24 rfl rfl ?_
    refine gG.iald (n := 4) _ 26 dX5_mend_25 ⟨by decide, by decide⟩ rfl rfl (by omega) (by decide) rfl ?_
    rw [w2 _ k3]
    refine kG.aload_n 27 dX5_mend_26 rfl rfl ?_
    refine gG.getP 30 dX5_mend_27 fX5_37 ⟨by decide, by decide⟩ rfl rfl rfl rfl ?_
    refine kG.iload_n 31 dX5_mend_30 rfl rfl ?_
    refine gG.iald (n := 6) _ 32 dX5_mend_31 ⟨by decide, by decide⟩ rfl rfl (by omega) (by decide) rfl ?_
    rw [d5]
    refine kG.icmp_le 51 35 dX5_mend_32 (by decide) rfl (fun h32 => ?_) (fun h32 => ?_)
    · have c1 := (nI_leI (by omega) (by omega)).mp h32
      have eV : (nI 0 : Int32) = nI (wr (dho D p) - dme D p) := by rw [show wr (dho D p) - dme D p = 0 by omega]
      refine kG.iconst (v := nI 0) 52 dX5_mend_51 (by decide) rfl ?_
      rw [eV]
      refine gG.iast (n := 4) _ 53 dX5_mend_52 ⟨by decide, by decide⟩ rfl rfl (by omega) (by decide) rfl ?_
      refine gG.vret dX5_mend_53 rfl ?_
      rw [hT]
      exact ⟨rfl, rfl, fun k a => uI_off a, An_uI w2⟩
    · have c1 : ¬ wr (dho D p) ≤ dme D p := fun z => h32 (nI_le z (by omega))
      have eV : nI (wr (dho D p) - dme D p) = nI (wr (dho D p) - dme D p) := rfl
      refine kG.aload_n 36 dX5_mend_35 rfl rfl ?_
      refine gG.getP 39 dX5_mend_36 fX5_62 ⟨by decide, by decide⟩ rfl rfl rfl rfl ?_
      refine kG.iload_n 40 dX5_mend_39 rfl rfl ?_
      refine gG.iald (n := 4) _ 41 dX5_mend_40 ⟨by decide, by decide⟩ rfl rfl (by omega) (by decide) rfl ?_
      rw [w2 _ k3]
      refine kG.aload_n 42 dX5_mend_41 rfl rfl ?_
      refine gG.getP 45 dX5_mend_42 fX5_37 ⟨by decide, by decide⟩ rfl rfl rfl rfl ?_
      refine kG.iload_n 46 dX5_mend_45 rfl rfl ?_
      refine gG.iald (n := 6) _ 47 dX5_mend_46 ⟨by decide, by decide⟩ rfl rfl (by omega) (by decide) rfl ?_
      rw [d5]
      refine kG.isub 48 dX5_mend_47 rfl ?_
      rw [pk_sub (by omega)]
      refine kG.goto 52 dX5_mend_48 (by decide) ?_
      rw [eV]
      refine gG.iast (n := 4) _ 53 dX5_mend_52 ⟨by decide, by decide⟩ rfl rfl (by omega) (by decide) rfl ?_
      refine gG.vret dX5_mend_53 rfl ?_
      rw [hT]
      exact ⟨rfl, rfl, fun k a => uI_off a, An_uI w2⟩
def nbF (br : Nat → Option Nat) (be wr : Nat → Nat) (T : Nat) : Nat → Option Nat := fun h => match br h with
  | some k => some k
  | none => if 10 * be h ≤ wr h then some T else none
def chF (ch : Nat → Nat) (m : Nat) : Nat → Nat := fun p => ch p + (if m.testBit p then 1 else 0)
def WK (D : Dt) (wd wr ch : Nat → Nat) (co : Nat) (br : Nat → Option Nat) (μ : kM) : Prop := An 66 (dH D) wd μ ∧ An 67 (dH D) wr μ ∧ An 68 (dP D) ch μ ∧ μ 49 30 = nI co ∧ ∀ h, h < dH D → μ 69 h = opI (br h)
def FW (μ μ' : kM) : Prop := (∀ k, k ≠ 49 → (k < 66 ∨ 69 < k) → μ' k = μ k) ∧ ∀ j, j ≠ 30 → μ' 49 j = μ 49 j
theorem FW_tr {μ μ1 μ2 : kM} (h1 : FW μ μ1) (h2 : FW μ1 μ2) : FW μ μ2 := ⟨fun k a b => by rw [h2.1 k a b, h1.1 k a b], fun j a => by rw [h2.2 j a, h1.2 j a]⟩
theorem FW_MC {D : Dt} {sn aw : Nat} {G : Kp} {μ μ' : kM} (h : MC D sn aw G μ) (f : FW μ μ') : MC D sn aw G μ' := MC_fr h (fun j hj => f.2 j (by omega)) (fun k a b c d => f.1 k (by omega) (by omega))
theorem FW_of {μ μ' : kM} {c : Nat} (hc : 66 ≤ c ∧ c ≤ 69) (h : ∀ k, k ≠ c → μ' k = μ k) : FW μ μ' := ⟨fun k a b => h k (by omega), fun j _ => by rw [h 49 (by omega)]⟩
set_option maxHeartbeats 4000000 in
theorem gh3 (Γ : kGm) {D : Dt} {sn aw : Nat} {G : Kp} {μ : kM} {q : kq4} (h : MC D sn aw G μ) (ok : okD D) {wr : Nat → Nat} {br : Nat → Option Nat} {week half : Nat} (hwk : week < 10) (hhf : half < 14) (bd : ∀ x, x < dH D → wr x ≤ 90) (hbr : ∀ x k, br x = some k → k < 140) (w2 : An 67 (dH D) wr μ) {x3 : Option Value} {x4 : Int32} {Q : Option Value → kM → kq4 → Prop} (HQ : ∀ μ2, (∀ k, k ≠ 69 → μ2 k = μ k) → (∀ x, x < dH D → μ2 69 x = opI (nbF br (dbe D) wr (14 * week + half) x)) → Q none μ2 q) : ∀ (m i : Nat) (μ1 : kM), i + m = dH D → (∀ k, k ≠ 69 → μ1 k = μ k) → (∀ x, x < dH D → μ1 69 x = if x < i then opI (nbF br (dbe D) wr (14 * week + half) x) else opI (br x)) → gG Γ mX5_goHalf 3 144 [some (.ref 49), some (.int (nI week)), some (.int (nI half)), x3, some (.int x4), some (.int (nI i))] [] (μ1) q (Q) := by
  intro m
  induction m with
  | zero =>
    intro i μ1 hm h1 h2
    have hH := ok.1
    have hm : MC D sn aw G μ1 := FW_MC h (FW_of (c := 69) (by decide) h1)
    refine kG.iload 146 dX5_goHalf_144 rfl rfl ?_
    refine kG.aload_n 147 dX5_goHalf_146 rfl rfl ?_
    refine gG.getI 150 dX5_goHalf_147 fX5_93 ⟨by decide, by decide⟩ rfl rfl rfl ?_
    rw [hm.2.1]
    refine kG.icmp_ge 203 153 dX5_goHalf_150 (by decide) rfl (fun h150 => ?_) (fun h150 => ?_)
    · refine gG.vret dX5_goHalf_203 rfl ?_
      exact HQ _ h1 (fun x hx => by rw [h2 x hx, if_pos (by omega)])
    · exact absurd (nI_le (by omega) (by omega)) h150
  | succ m ih =>
    intro i μ1 hm h1 h2
    have hH := ok.1
    have hm : MC D sn aw G μ1 := FW_MC h (FW_of (c := 69) (by decide) h1)
    refine kG.iload 146 dX5_goHalf_144 rfl rfl ?_
    refine kG.aload_n 147 dX5_goHalf_146 rfl rfl ?_
    refine gG.getI 150 dX5_goHalf_147 fX5_93 ⟨by decide, by decide⟩ rfl rfl rfl ?_
    rw [hm.2.1]
    refine kG.icmp_ge 203 153 dX5_goHalf_150 (by decide) rfl (fun h150 => ?_) (fun h150 => ?_)
    · exact absurd h150 (nI_ge (by omega) (by omega))
    · refine kG.aload_n 154 dX5_goHalf_153 rfl rfl ?_
      refine gG.getP 157 dX5_goHalf_154 fX5_68 ⟨by decide, by decide⟩ rfl rfl rfl rfl ?_
      refine kG.iload 159 dX5_goHalf_157 rfl rfl ?_
      refine kG.aload_n 160 dX5_goHalf_159 rfl rfl ?_
      refine gG.getP 163 dX5_goHalf_160 fX5_68 ⟨by decide, by decide⟩ rfl rfl rfl rfl ?_
      refine kG.iload 165 dX5_goHalf_163 rfl rfl ?_
      refine gG.iald (n := 4) _ 166 dX5_goHalf_165 ⟨by decide, by decide⟩ rfl rfl (by omega) (by decide) rfl ?_
      have e69 := h2 i (by omega)
      rw [if_neg (Nat.lt_irrefl _)] at e69
      rw [e69]
      refine kG.bipush (v := (-9)) 168 dX5_goHalf_166 (by decide) rfl ?_
      refine kG.icmp_ne 189 171 dX5_goHalf_168 (by decide) rfl (fun h168 => ?_) (fun h168 => ?_)
      · have eV : opI (br i) = opI (nbF br (dbe D) wr (14 * week + half) i) := by
          unfold nbF
          cases hq : br i with
          | none => rw [hq] at h168; exact absurd rfl h168
          | some k => rfl
        refine kG.aload_n 190 dX5_goHalf_189 rfl rfl ?_
        refine gG.getP 193 dX5_goHalf_190 fX5_68 ⟨by decide, by decide⟩ rfl rfl rfl rfl ?_
        refine kG.iload 195 dX5_goHalf_193 rfl rfl ?_
        refine gG.iald (n := 4) _ 196 dX5_goHalf_195 ⟨by decide, by decide⟩ rfl rfl (by omega) (by decide) rfl ?_
        rw [e69]
        refine gG.iast (n := 4) _ 197 dX5_goHalf_196 ⟨by decide, by decide⟩ rfl rfl (by omega) (by decide) rfl ?_
        refine kG.iinc (v := nI (i + 1)) 200 dX5_goHalf_197 rfl (nI_1 i) (by decide) rfl rfl ?_
        dsimp only [List.set]
        refine kG.goto 144 dX5_goHalf_200 (by decide) ?_
        refine ih (i + 1) _ (by omega) (fun k a => by rw [uI_off a]; exact h1 k a) (fun x hx => ?_)
        by_cases e : x = i
        · subst e
          rw [uI_same, if_pos (by omega)]
          exact eV
        · rw [uI_ne (Or.inr e), h2 x hx]
          by_cases z : x < i
          · rw [if_pos z, if_pos (by omega)]
          · rw [if_neg z, if_neg (by omega)]
      · have hq : br i = none := by
          cases hq : br i with
          | none => rfl
          | some k => rw [hq] at h168; exact absurd h168 (nI_m9 (by have := hbr i k hq; omega))
        refine kG.aload_n 172 dX5_goHalf_171 rfl rfl ?_
        refine kG.iload 174 dX5_goHalf_172 rfl rfl ?_
        refine gG.callV 177 dX5_goHalf_174 lX5_171 vX5_isBroken (m_isBroken Γ i (dbe D i) (wr i) (by omega) (ok.2.2.1 i (by omega)).2.2 (by have := bd i (by omega); omega) (by rw [h1 67 (by decide)]; exact w2 i (by omega)) (hm.2.2.2.2.1 i (by omega)).2) rfl rfl ⟨by decide, by decide⟩ rfl ⟨by decide, rfl⟩ ⟨by decide, by decide⟩ (Nat.le_of_ble_eq_true rfl) rfl (fun r174 μ174 q174 hc174 => ?_)
        obtain ⟨rfl, rfl, rfl⟩ := hc174
        refine kG.if_eq 189 180 dX5_goHalf_177 (by decide) rfl (fun h177 => ?_) (fun h177 => ?_)
        · have hbk := of_decide_eq_false (b2_0.mp h177)
          have eV : opI (br i) = opI (nbF br (dbe D) wr (14 * week + half) i) := by
            unfold nbF
            rw [hq]
            simp only []
            rw [if_neg hbk]
          refine kG.aload_n 190 dX5_goHalf_189 rfl rfl ?_
          refine gG.getP 193 dX5_goHalf_190 fX5_68 ⟨by decide, by decide⟩ rfl rfl rfl rfl ?_
          refine kG.iload 195 dX5_goHalf_193 rfl rfl ?_
          refine gG.iald (n := 4) _ 196 dX5_goHalf_195 ⟨by decide, by decide⟩ rfl rfl (by omega) (by decide) rfl ?_
          rw [e69]
          refine gG.iast (n := 4) _ 197 dX5_goHalf_196 ⟨by decide, by decide⟩ rfl rfl (by omega) (by decide) rfl ?_
          refine kG.iinc (v := nI (i + 1)) 200 dX5_goHalf_197 rfl (nI_1 i) (by decide) rfl rfl ?_
          dsimp only [List.set]
          refine kG.goto 144 dX5_goHalf_200 (by decide) ?_
          refine ih (i + 1) _ (by omega) (fun k a => by rw [uI_off a]; exact h1 k a) (fun x hx => ?_)
          by_cases e : x = i
          · subst e
            rw [uI_same, if_pos (by omega)]
            exact eV
          · rw [uI_ne (Or.inr e), h2 x hx]
            by_cases z : x < i
            · rw [if_pos z, if_pos (by omega)]
            · rw [if_neg z, if_neg (by omega)]
        · have hbk := of_decide_eq_true (b2_n0.mp h177)
          have eV : nI (14 * week + half) = opI (nbF br (dbe D) wr (14 * week + half) i) := by
            unfold nbF
            rw [hq]
            simp only []
            rw [if_pos hbk]
            rfl
          refine kG.bipush (v := nI 14) 182 dX5_goHalf_180 (by decide) rfl ?_
          refine kG.iload_n 183 dX5_goHalf_182 rfl rfl ?_
          refine kG.imul 184 dX5_goHalf_183 rfl ?_
          refine kG.iload_n 185 dX5_goHalf_184 rfl rfl ?_
          refine kG.iadd 186 dX5_goHalf_185 rfl ?_
          rw [pk_mul, nI_add]
          refine kG.goto 196 dX5_goHalf_186 (by decide) ?_
          refine gG.iast (n := 4) _ 197 dX5_goHalf_196 ⟨by decide, by decide⟩ rfl rfl (by omega) (by decide) rfl ?_
          refine kG.iinc (v := nI (i + 1)) 200 dX5_goHalf_197 rfl (nI_1 i) (by decide) rfl rfl ?_
          dsimp only [List.set]
          refine kG.goto 144 dX5_goHalf_200 (by decide) ?_
          refine ih (i + 1) _ (by omega) (fun k a => by rw [uI_off a]; exact h1 k a) (fun x hx => ?_)
          by_cases e : x = i
          · subst e
            rw [uI_same, if_pos (by omega)]
            exact eV
          · rw [uI_ne (Or.inr e), h2 x hx]
            by_cases z : x < i
            · rw [if_pos z, if_pos (by omega)]
            · rw [if_neg z, if_neg (by omega)]
set_option maxHeartbeats 4000000 in
theorem gh2 (Γ : kGm) {D : Dt} {sn aw : Nat} {G : Kp} {μ : kM} {q : kq4} (h : MC D sn aw G μ) (ok : okD D) (okc : okC (dH D) (cM D sn aw G)) {wd wr : Nat → Nat} {co : Nat} {week half : Nat} {la : Bool} (hla : la = true) (hco : co < 64) (bd : bdS (dH D) wd wr) (w4 : μ 49 30 = nI co) {Q : Option Value → kM → kq4 → Prop} (HQ : ∀ μ2, (∀ k, k ≠ 67 → μ2 k = μ k) → An 67 (dH D) (mdN (cM D sn aw G) (fun p => cin (cM D sn aw G) half p && !co.testBit p) (dP D) wr) μ2 → gG Γ mX5_goHalf 3 144 [some (.ref 49), some (.int (nI week)), some (.int (nI half)), some (.int (nI (if half < sn then 0 else 1))), some (.int (b2 la)), some (.int (nI 0))] [] μ2 q Q) : ∀ (m i : Nat) (μ1 : kM), i + m = dP D → (∀ k, k ≠ 67 → μ1 k = μ k) → (An 67 (dH D) (mdN (cM D sn aw G) (fun p => cin (cM D sn aw G) half p && !co.testBit p) i wr) μ1) → gG Γ mX5_goHalf 3 82 [some (.ref 49), some (.int (nI week)), some (.int (nI half)), some (.int (nI (if half < sn then 0 else 1))), some (.int (b2 la)), some (.int (nI i))] [] (μ1) q (Q) := by
  intro m
  induction m with
  | zero =>
    intro i μ1 hm h1 h2
    have hH := ok.1
    have hP := ok.2.1
    have hm : MC D sn aw G μ1 := FW_MC h (FW_of (c := 67) (by decide) h1)
    refine kG.iload 84 dX5_goHalf_82 rfl rfl ?_
    refine kG.aload_n 85 dX5_goHalf_84 rfl rfl ?_
    refine gG.getI 88 dX5_goHalf_85 fX5_96 ⟨by decide, by decide⟩ rfl rfl rfl ?_
    rw [hm.2.2.1]
    refine kG.icmp_ge 141 91 dX5_goHalf_88 (by decide) rfl (fun h88 => ?_) (fun h88 => ?_)
    · refine kG.iconst (v := nI 0) 142 dX5_goHalf_141 (by decide) rfl ?_
      refine kG.istore 144 dX5_goHalf_142 (by decide) rfl rfl ?_
      dsimp only [List.set]
      exact HQ _ h1 (by rw [show dP D = i by omega]; exact h2)
    · exact absurd (nI_le (by omega) (by omega)) h88
  | succ m ih =>
    intro i μ1 hm h1 h2
    have hH := ok.1
    have hP := ok.2.1
    have hm : MC D sn aw G μ1 := FW_MC h (FW_of (c := 67) (by decide) h1)
    refine kG.iload 84 dX5_goHalf_82 rfl rfl ?_
    refine kG.aload_n 85 dX5_goHalf_84 rfl rfl ?_
    refine gG.getI 88 dX5_goHalf_85 fX5_96 ⟨by decide, by decide⟩ rfl rfl rfl ?_
    rw [hm.2.2.1]
    obtain ⟨d1, d2, d3, d4, d5⟩ := hm.2.2.2.2.2.1 i (by omega)
    obtain ⟨k1, k2, k3, k4, k5⟩ := ok.2.2.2 i (by omega)
    have hin : (if half < sn then 0 else 1) ≤ 1 := by split <;> omega
    refine kG.icmp_ge 141 91 dX5_goHalf_88 (by decide) rfl (fun h88 => ?_) (fun h88 => ?_)
    · exact absurd h88 (nI_ge (by omega) (by omega))
    · refine kG.iload 93 dX5_goHalf_91 rfl rfl ?_
      refine kG.if_eq 141 96 dX5_goHalf_93 (by decide) rfl (fun h93 => ?_) (fun h93 => ?_)
      · rw [hla] at h93
        exact absurd h93 (by decide)
      · refine kG.aload_n 97 dX5_goHalf_96 rfl rfl ?_
        refine gG.getP 100 dX5_goHalf_97 fX5_28 ⟨by decide, by decide⟩ rfl rfl rfl rfl ?_
        refine kG.iload 102 dX5_goHalf_100 rfl rfl ?_
        refine gG.iald (n := 6) _ 103 dX5_goHalf_102 ⟨by decide, by decide⟩ rfl rfl (by omega) (by decide) rfl ?_
        rw [d2]
        refine kG.iload_n 104 dX5_goHalf_103 rfl rfl ?_
        refine kG.icmp_ne 135 107 dX5_goHalf_104 (by decide) rfl (fun h104 => ?_) (fun h104 => ?_)
        · have c1 : ¬ dtw D i = (if half < sn then 0 else 1) := fun z => h104 (by rw [z])
          have hbf : (fun p => cin (cM D sn aw G) half p && !co.testBit p) i = false := by
            show (decide (dtw D i = (if half < sn then 0 else 1)) && !aw.testBit i && !co.testBit i) = false
            rw [decide_eq_false c1]; rfl
          refine kG.iinc (v := nI (i + 1)) 138 dX5_goHalf_135 rfl (nI_1 i) (by decide) rfl rfl ?_
          dsimp only [List.set]
          refine kG.goto 82 dX5_goHalf_138 (by decide) ?_
          first
            | (refine ih (i + 1) _ (by omega) (fun k a => by rw [f1 k a]; exact h1 k a) ?_; rw [show mdN (cM D sn aw G) (fun p => cin (cM D sn aw G) half p && !co.testBit p) (i + 1) wr = md1 (cM D sn aw G) i (mdN (cM D sn aw G) (fun p => cin (cM D sn aw G) half p && !co.testBit p) i wr) from by rw [mdN, if_pos hbf]]; exact f2)
            | (refine ih (i + 1) _ (by omega) h1 ?_; rw [show mdN (cM D sn aw G) (fun p => cin (cM D sn aw G) half p && !co.testBit p) (i + 1) wr = mdN (cM D sn aw G) (fun p => cin (cM D sn aw G) half p && !co.testBit p) i wr from by rw [mdN, if_neg (Bool.eq_false_iff.mp hbf)]]; exact h2)
        · have c1 : dtw D i = (if half < sn then 0 else 1) := (nI_eq (by omega) (by omega)).mp h104
          refine kG.aload_n 108 dX5_goHalf_107 rfl rfl ?_
          refine gG.getP 111 dX5_goHalf_108 fX5_40 ⟨by decide, by decide⟩ rfl rfl rfl rfl ?_
          refine kG.iload 113 dX5_goHalf_111 rfl rfl ?_
          refine gG.zald (n := 6) _ 114 dX5_goHalf_113 ⟨by decide, by decide⟩ rfl rfl (by omega) (by decide) rfl ?_
          rw [hm.2.2.2.2.2.2.1 i (by omega)]
          refine kG.if_ne 135 117 dX5_goHalf_114 (by decide) rfl (fun h114 => ?_) (fun h114 => ?_)
          · have c2 := b2_n0.mp h114
            have hbf : (fun p => cin (cM D sn aw G) half p && !co.testBit p) i = false := by
              show (decide (dtw D i = (if half < sn then 0 else 1)) && !aw.testBit i && !co.testBit i) = false
              rw [c2, show (!true) = false from rfl, Bool.and_false]; rfl
            refine kG.iinc (v := nI (i + 1)) 138 dX5_goHalf_135 rfl (nI_1 i) (by decide) rfl rfl ?_
            dsimp only [List.set]
            refine kG.goto 82 dX5_goHalf_138 (by decide) ?_
            first
              | (refine ih (i + 1) _ (by omega) (fun k a => by rw [f1 k a]; exact h1 k a) ?_; rw [show mdN (cM D sn aw G) (fun p => cin (cM D sn aw G) half p && !co.testBit p) (i + 1) wr = md1 (cM D sn aw G) i (mdN (cM D sn aw G) (fun p => cin (cM D sn aw G) half p && !co.testBit p) i wr) from by rw [mdN, if_pos hbf]]; exact f2)
              | (refine ih (i + 1) _ (by omega) h1 ?_; rw [show mdN (cM D sn aw G) (fun p => cin (cM D sn aw G) half p && !co.testBit p) (i + 1) wr = mdN (cM D sn aw G) (fun p => cin (cM D sn aw G) half p && !co.testBit p) i wr from by rw [mdN, if_neg (Bool.eq_false_iff.mp hbf)]]; exact h2)
          · have c2 := b2_0.mp h114
            refine kG.aload_n 118 dX5_goHalf_117 rfl rfl ?_
            refine gG.getI 121 dX5_goHalf_118 fX5_174 ⟨by decide, by decide⟩ rfl rfl rfl ?_
            rw [h1 49 (by decide), w4]
            refine kG.iload 123 dX5_goHalf_121 rfl rfl ?_
            refine kG.ishr 124 dX5_goHalf_123 rfl ?_
            refine kG.iconst (v := nI 1) 125 dX5_goHalf_124 (by decide) rfl ?_
            refine kG.iand 126 dX5_goHalf_125 rfl ?_
            rw [n_bit (by omega) (by omega)]
            refine kG.if_ne 135 129 dX5_goHalf_126 (by decide) rfl (fun h126 => ?_) (fun h126 => ?_)
            · have c3 := b2_n0.mp h126
              have hbf : (fun p => cin (cM D sn aw G) half p && !co.testBit p) i = false := by
                show (decide (dtw D i = (if half < sn then 0 else 1)) && !aw.testBit i && !co.testBit i) = false
                rw [c3, show (!true) = false from rfl, Bool.and_false]
              refine kG.iinc (v := nI (i + 1)) 138 dX5_goHalf_135 rfl (nI_1 i) (by decide) rfl rfl ?_
              dsimp only [List.set]
              refine kG.goto 82 dX5_goHalf_138 (by decide) ?_
              first
                | (refine ih (i + 1) _ (by omega) (fun k a => by rw [f1 k a]; exact h1 k a) ?_; rw [show mdN (cM D sn aw G) (fun p => cin (cM D sn aw G) half p && !co.testBit p) (i + 1) wr = md1 (cM D sn aw G) i (mdN (cM D sn aw G) (fun p => cin (cM D sn aw G) half p && !co.testBit p) i wr) from by rw [mdN, if_pos hbf]]; exact f2)
                | (refine ih (i + 1) _ (by omega) h1 ?_; rw [show mdN (cM D sn aw G) (fun p => cin (cM D sn aw G) half p && !co.testBit p) (i + 1) wr = mdN (cM D sn aw G) (fun p => cin (cM D sn aw G) half p && !co.testBit p) i wr from by rw [mdN, if_neg (Bool.eq_false_iff.mp hbf)]]; exact h2)
            · have c3 := b2_0.mp h126
              have hbf : (fun p => cin (cM D sn aw G) half p && !co.testBit p) i = true := by
                show (decide (dtw D i = (if half < sn then 0 else 1)) && !aw.testBit i && !co.testBit i) = true
                rw [decide_eq_true c1, c2, c3]; rfl
              refine kG.aload_n 130 dX5_goHalf_129 rfl rfl ?_
              refine kG.iload 132 dX5_goHalf_130 rfl rfl ?_
              refine gG.callV 135 dX5_goHalf_132 lX5_184 vX5_mend (m_mend Γ hm ok i (by omega) (mdN (cM D sn aw G) (fun p => cin (cM D sn aw G) half p && !co.testBit p) i wr) (fun x hx => (mdN_bd (f := (fun p => cin (cM D sn aw G) half p && !co.testBit p)) okc bd i (show i ≤ dP D by omega) x hx).2) h2) rfl rfl ⟨by decide, by decide⟩ rfl ⟨by decide, rfl⟩ ⟨by decide, by decide⟩ (Nat.le_of_ble_eq_true rfl) rfl (fun r132 μ132 q132 hc132 => ?_)
              obtain ⟨rfl, rfl, f1, f2⟩ := hc132
              refine kG.iinc (v := nI (i + 1)) 138 dX5_goHalf_135 rfl (nI_1 i) (by decide) rfl rfl ?_
              dsimp only [List.set]
              refine kG.goto 82 dX5_goHalf_138 (by decide) ?_
              first
                | (refine ih (i + 1) _ (by omega) (fun k a => by rw [f1 k a]; exact h1 k a) ?_; rw [show mdN (cM D sn aw G) (fun p => cin (cM D sn aw G) half p && !co.testBit p) (i + 1) wr = md1 (cM D sn aw G) i (mdN (cM D sn aw G) (fun p => cin (cM D sn aw G) half p && !co.testBit p) i wr) from by rw [mdN, if_pos hbf]]; exact f2)
                | (refine ih (i + 1) _ (by omega) h1 ?_; rw [show mdN (cM D sn aw G) (fun p => cin (cM D sn aw G) half p && !co.testBit p) (i + 1) wr = mdN (cM D sn aw G) (fun p => cin (cM D sn aw G) half p && !co.testBit p) i wr from by rw [mdN, if_neg (Bool.eq_false_iff.mp hbf)]]; exact h2)
