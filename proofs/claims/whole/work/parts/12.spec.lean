/-! THE DOCUMENT'S WEEKS, in numbers. D: what a TEXT told (houses, persons; comes, bears; kind, town, house, burns, mends). -/
abbrev Dt : Type := Nat × Nat × (Nat → Nat) × (Nat → Nat) × (Nat → Nat) × (Nat → Nat) × (Nat → Nat) × (Nat → Nat) × (Nat → Nat)
abbrev dH (D : Dt) : Nat := D.1
abbrev dP (D : Dt) : Nat := D.2.1
abbrev dco (D : Dt) : Nat → Nat := D.2.2.1
abbrev dbe (D : Dt) : Nat → Nat := D.2.2.2.1
abbrev dkd (D : Dt) : Nat → Nat := D.2.2.2.2.1
abbrev dtw (D : Dt) : Nat → Nat := D.2.2.2.2.2.1
abbrev dho (D : Dt) : Nat → Nat := D.2.2.2.2.2.2.1
abbrev dbu (D : Dt) : Nat → Nat := D.2.2.2.2.2.2.2.1
abbrev dme (D : Dt) : Nat → Nat := D.2.2.2.2.2.2.2.2
def okD (D : Dt) : Prop := dH D ≤ 4 ∧ dP D ≤ 6 ∧ (∀ h, h < dH D → dco D h ≤ 99 ∧ 1 ≤ dbe D h ∧ dbe D h ≤ 9) ∧ ∀ p, p < dP D → dkd D p ≤ 2 ∧ dtw D p ≤ 1 ∧ dho D p < dH D ∧ dbu D p ≤ 5 ∧ dme D p ≤ 9
/-- the class holds D at the cell t -/
def TD (D : Dt) (t : Nat) (μ : kM) : Prop := μ t 8 = nI (dH D) ∧ μ t 9 = nI (dP D) ∧ (∀ h, h < dH D → μ (t + 1 + 0) h = nI (dco D h) ∧ μ (t + 1 + 1) h = nI (dbe D h)) ∧ ∀ p, p < dP D → μ (t + 1 + 2) p = nI (dkd D p) ∧ μ (t + 1 + 3) p = nI (dtw D p) ∧ μ (t + 1 + 4) p = nI (dho D p) ∧ μ (t + 1 + 5) p = nI (dbu D p) ∧ μ (t + 1 + 6) p = nI (dme D p)
theorem TD_fr {D : Dt} {t : Nat} {μ μ' : kM} (h : TD D t μ) (hf : ∀ k, t ≤ k → k ≤ t + 7 → μ' k = μ k) : TD D t μ' := by
  obtain ⟨h1, h2, h3, h4⟩ := h
  have f : ∀ j, j < 7 → μ' (t + 1 + j) = μ (t + 1 + j) := fun j hj => hf _ (by omega) (by omega)
  refine ⟨by rw [hf t (by omega) (by omega)]; exact h1, by rw [hf t (by omega) (by omega)]; exact h2, fun i hi => ?_, fun i hi => ?_⟩
  · rw [f 0 (by omega), f 1 (by omega)]; exact h3 i hi
  · rw [f 2 (by omega), f 3 (by omega), f 4 (by omega), f 5 (by omega), f 6 (by omega)]; exact h4 i hi
/-- what a week's run depends on: persons, seam, comes, bears, wants, house, mends, who is in by half, gifts by week and house -/
abbrev Cf : Type := Nat × Nat × (Nat → Nat) × (Nat → Nat) × (Nat → Nat) × (Nat → Nat) × (Nat → Nat) × (Nat → Nat → Bool) × (Nat → Nat → Nat)
abbrev cP (c : Cf) : Nat := c.1
abbrev cS (c : Cf) : Nat := c.2.1
abbrev cco (c : Cf) : Nat → Nat := c.2.2.1
abbrev cbe (c : Cf) : Nat → Nat := c.2.2.2.1
abbrev cwa (c : Cf) : Nat → Nat := c.2.2.2.2.1
abbrev cho (c : Cf) : Nat → Nat := c.2.2.2.2.2.1
abbrev cme (c : Cf) : Nat → Nat := c.2.2.2.2.2.2.1
abbrev cin (c : Cf) : Nat → Nat → Bool := c.2.2.2.2.2.2.2.1
abbrev cgs (c : Cf) : Nat → Nat → Nat := c.2.2.2.2.2.2.2.2
/-- wood, wear, who is cold -/
abbrev St3 : Type := (Nat → Nat) × (Nat → Nat) × Nat
def tk1 (c : Cf) (p : Nat) (s : St3) : St3 :=
  if 10 * cbe c (cho c p) ≤ s.2.1 (cho c p) then (s.1, s.2.1, s.2.2 ||| 2 ^ p)
  else if cwa c p ≤ s.1 (cho c p) then (fu s.1 (cho c p) (s.1 (cho c p) - cwa c p), fu s.2.1 (cho c p) (s.2.1 (cho c p) + 1), s.2.2)
  else (s.1, fu s.2.1 (cho c p) (s.2.1 (cho c p) + 1), s.2.2 ||| 2 ^ p)
def tkN (c : Cf) (f : Nat → Bool) : Nat → St3 → St3
  | 0, s => s
  | p + 1, s => if f p then tk1 c p (tkN c f p s) else tkN c f p s
def md1 (c : Cf) (p : Nat) (wr : Nat → Nat) : Nat → Nat := if 10 * cbe c (cho c p) ≤ wr (cho c p) then wr else fu wr (cho c p) (wr (cho c p) - cme c p)
def mdN (c : Cf) (f : Nat → Bool) : Nat → (Nat → Nat) → (Nat → Nat)
  | 0, wr => wr
  | p + 1, wr => if f p then md1 c p (mdN c f p wr) else mdN c f p wr
/-- a half -/
def hfS (c : Cf) (half : Nat) (wd wr : Nat → Nat) : St3 :=
  let s := tkN c (cin c half) (cP c) (wd, wr, 0)
  if half + 1 = cS c ∨ half = 13 then (s.1, mdN c (fun p => cin c half p && !s.2.2.testBit p) (cP c) s.2.1, s.2.2) else s
def bwS (c : Cf) (week : Nat) (wd : Nat → Nat) : Nat → Nat := fun h => min 99 (wd h + cco c h + cgs c week h)
/-- behind t halves -/
def smS (c : Cf) : Nat → St3
  | 0 => (fun _ => 0, fun _ => 0, 0)
  | t + 1 => hfS c (t % 14) (if t % 14 = 0 then bwS c (t / 14) (smS c t).1 else (smS c t).1) (smS c t).2.1
/-- bounds -/
def bdS (H : Nat) (wd wr : Nat → Nat) : Prop := ∀ h, h < H → wd h ≤ 99 ∧ wr h ≤ 90
def okC (H : Nat) (c : Cf) : Prop := H ≤ 4 ∧ cP c ≤ 6 ∧ 1 ≤ cS c ∧ cS c ≤ 13 ∧ (∀ h, h < H → cco c h ≤ 99 ∧ cbe c h ≤ 9) ∧ (∀ p, p < cP c → cwa c p ≤ 12 ∧ cho c p < H ∧ cme c p ≤ 9) ∧ ∀ w h, cgs c w h ≤ 1000
theorem bd_fu {H : Nat} {wd wr : Nat → Nat} {k v : Nat} (h : bdS H wd wr) (hv : v ≤ 99) : bdS H (fu wd k v) wr := fun i hi => by
  by_cases e : i = k
  · subst e; rw [fu_s]; exact ⟨hv, (h i hi).2⟩
  · rw [fu_n e]; exact h i hi
theorem bd_fu2 {H : Nat} {wd wr : Nat → Nat} {k v : Nat} (h : bdS H wd wr) (hv : v ≤ 90) : bdS H wd (fu wr k v) := fun i hi => by
  by_cases e : i = k
  · subst e; rw [fu_s]; exact ⟨(h i hi).1, hv⟩
  · rw [fu_n e]; exact h i hi
theorem tk1_bd {H : Nat} {c : Cf} {p : Nat} {s : St3} (hc : okC H c) (hp : p < cP c) (h : bdS H s.1 s.2.1) : bdS H (tk1 c p s).1 (tk1 c p s).2.1 := by
  have hh := (hc.2.2.2.2.2.1 p hp).2.1
  have hb := (hc.2.2.2.2.1 _ hh).2
  have h1 := h _ hh
  unfold tk1
  split
  · exact h
  · split
    · exact bd_fu2 (bd_fu h (by omega)) (by omega)
    · exact bd_fu2 h (by omega)
theorem tk1_lt {c : Cf} {p : Nat} {s : St3} {n : Nat} (hp : p < n) (h : s.2.2 < 2 ^ n) : (tk1 c p s).2.2 < 2 ^ n := by
  unfold tk1
  split
  · exact or_pow_lt h hp
  · split
    · exact h
    · exact or_pow_lt h hp
theorem tkN_bd {H : Nat} {c : Cf} {f : Nat → Bool} {s : St3} (hc : okC H c) (h : bdS H s.1 s.2.1) : ∀ p, p ≤ cP c → bdS H (tkN c f p s).1 (tkN c f p s).2.1
  | 0, _ => h
  | p + 1, hp => by
    have ih := tkN_bd (f := f) hc h p (by omega)
    unfold tkN
    split
    · exact tk1_bd hc (by omega) ih
    · exact ih
theorem tkN_lt {c : Cf} {f : Nat → Bool} {s : St3} {n : Nat} (h : s.2.2 < 2 ^ n) : ∀ p, p ≤ n → (tkN c f p s).2.2 < 2 ^ n
  | 0, _ => h
  | p + 1, hp => by
    have ih := tkN_lt (c := c) (f := f) h p (by omega)
    unfold tkN
    split
    · exact tk1_lt (by omega) ih
    · exact ih
theorem md1_bd {H : Nat} {c : Cf} {p : Nat} {wd wr : Nat → Nat} (h : bdS H wd wr) (hp : cho c p < H) : bdS H wd (md1 c p wr) := by
  unfold md1
  split
  · exact h
  · exact bd_fu2 h (by have := (h _ hp).2; omega)
theorem mdN_bd {H : Nat} {c : Cf} {f : Nat → Bool} {wd wr : Nat → Nat} (hc : okC H c) (h : bdS H wd wr) : ∀ p, p ≤ cP c → bdS H wd (mdN c f p wr)
  | 0, _ => h
  | p + 1, hp => by
    have ih := mdN_bd (f := f) hc h p (by omega)
    unfold mdN
    split
    · exact md1_bd ih (hc.2.2.2.2.2.1 p (by omega)).2.1
    · exact ih
theorem bw_bd {H : Nat} {c : Cf} {w : Nat} {wd wr : Nat → Nat} (h : bdS H wd wr) : bdS H (bwS c w wd) wr := fun i hi => ⟨Nat.min_le_left _ _, (h i hi).2⟩
theorem hf_bd {H : Nat} {c : Cf} {half : Nat} {wd wr : Nat → Nat} (hc : okC H c) (h : bdS H wd wr) : bdS H (hfS c half wd wr).1 (hfS c half wd wr).2.1 := by
  have h1 := tkN_bd (f := cin c half) (s := (wd, wr, 0)) hc h (cP c) (Nat.le_refl _)
  unfold hfS
  by_cases e : half + 1 = cS c ∨ half = 13
  · simp only [e, if_true]
    exact mdN_bd hc h1 _ (Nat.le_refl _)
  · simp only [e, if_false]
    exact h1
theorem hf_lt {H : Nat} {c : Cf} {half : Nat} {wd wr : Nat → Nat} (hc : okC H c) : (hfS c half wd wr).2.2 < 2 ^ cP c := by
  have h1 := tkN_lt (c := c) (f := cin c half) (s := (wd, wr, 0)) (n := cP c) (Nat.two_pow_pos _) (cP c) (Nat.le_refl _)
  unfold hfS
  by_cases e : half + 1 = cS c ∨ half = 13
  · simp only [e, if_true]; exact h1
  · simp only [e, if_false]; exact h1
theorem sm_bd {H : Nat} {c : Cf} (hc : okC H c) : ∀ t, bdS H (smS c t).1 (smS c t).2.1
  | 0 => fun _ _ => ⟨Nat.zero_le _, Nat.zero_le _⟩
  | t + 1 => by
    have ih := sm_bd hc t
    unfold smS
    apply hf_bd hc
    split
    · exact bw_bd ih
    · exact ih
theorem sm_lt {H : Nat} {c : Cf} (hc : okC H c) : ∀ t, (smS c t).2.2 < 2 ^ cP c
  | 0 => Nat.two_pow_pos _
  | t + 1 => by unfold smS; exact hf_lt hc
/-- wants of a kind -/
def wan (k b : Nat) : Nat := if k = 0 then b else if k = 1 then b + 1 else 2 * (b + 1)
theorem wan_le {k b : Nat} (hb : b ≤ 5) : wan k b ≤ 12 := by
  unfold wan
  split
  · omega
  · split <;> omega
/-- gifts, readings: how many, house, when, how much -/
abbrev Kp : Type := Nat × (Nat → Nat) × (Nat → Nat) × (Nat → Nat)
def KD (G : Kp) (k : Nat) (μ : kM) : Prop := μ k 4 = nI G.1 ∧ ∀ i, i < G.1 → μ (k + 1) i = nI (G.2.1 i) ∧ μ (k + 2) i = nI (G.2.2.1 i) ∧ μ (k + 3) i = nI (G.2.2.2 i)
theorem KD_fr {G : Kp} {k : Nat} {μ μ' : kM} (h : KD G k μ) (hf : ∀ i, k ≤ i → i ≤ k + 3 → μ' i = μ i) : KD G k μ' := by
  refine ⟨by rw [hf k (by omega) (by omega)]; exact h.1, fun i hi => ?_⟩
  rw [hf (k + 1) (by omega) (by omega), hf (k + 2) (by omega) (by omega), hf (k + 3) (by omega) (by omega)]
  exact h.2 i hi
def okG (G : Kp) : Prop := ∀ i, i < G.1 → G.2.1 i < 4 ∧ G.2.2.1 i < 1000 ∧ G.2.2.2 i ≤ 99
def gsN (G : Kp) (h w : Nat) : Nat → Nat
  | 0 => 0
  | i + 1 => gsN G h w i + (if G.2.1 i = h ∧ G.2.2.1 i = w then G.2.2.2 i else 0)
theorem gsN_le {G : Kp} {h w : Nat} (hG : okG G) : ∀ n, n ≤ G.1 → gsN G h w n ≤ 99 * n
  | 0, _ => Nat.zero_le _
  | n + 1, hn => by
    have ih := gsN_le (h := h) (w := w) hG n (by omega)
    have := (hG n (by omega)).2.2
    unfold gsN
    split <;> omega
