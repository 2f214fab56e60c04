/-! THE STATE of both, in numbers: told, seam, who is away (bits), gifts, readings, sheets (0 nothing, 1 .. 3 a lane; length; cells), trace, fault -/
abbrev AS : Type := Dt × Nat × Nat × Kp × Kp × (Nat → Nat) × (Nat → Nat) × (Nat → Nat → Int32) × Int32 × Int32
abbrev aD (S : AS) : Dt := S.1
abbrev aS (S : AS) : Nat := S.2.1
abbrev aA (S : AS) : Nat := S.2.2.1
abbrev aG (S : AS) : Kp := S.2.2.2.1
abbrev aR (S : AS) : Kp := S.2.2.2.2.1
abbrev aL (S : AS) : Nat → Nat := S.2.2.2.2.2.1
abbrev aN (S : AS) : Nat → Nat := S.2.2.2.2.2.2.1
abbrev aC (S : AS) : Nat → Nat → Int32 := S.2.2.2.2.2.2.2.1
abbrev aT (S : AS) : Int32 := S.2.2.2.2.2.2.2.2.1
abbrev aF (S : AS) : Int32 := S.2.2.2.2.2.2.2.2.2
def okS (S : AS) : Prop := okD (aD S) ∧ (dH (aD S) = 0 ↔ dP (aD S) = 0) ∧ (0 < dP (aD S) → 1 ≤ aS S ∧ aS S ≤ 13) ∧ aS S ≤ 13 ∧ aA S < 2 ^ dP (aD S) ∧ (okG (aG S) ∧ (aG S).1 ≤ 6) ∧ ((∀ i, i < (aR S).1 → (aR S).2.1 i < dH (aD S) ∧ (aR S).2.2.1 i < 140 ∧ (aR S).2.2.2 i ≤ 99) ∧ (aR S).1 ≤ 8) ∧ ∀ s, s < 4 → aL S s ≤ 3 ∧ aN S s ≤ 60
/-- the config as things are -/
def waS (D : Dt) : Nat → Nat := fun p => wan (dkd D p) (dbu D p)
def cfS (S : AS) : Cf := cfW (aD S) (aS S) (waS (aD S)) (aA S) (aG S) 9 0
theorem waS_le {D : Dt} (ok : okD D) : ∀ p, p < dP D → waS D p ≤ 12 := fun p hp => wan_le (ok.2.2.2 p hp).2.2.2.1
def laI (l : Nat) : Int32 := if l = 0 then -1 else nI (l - 1)
def soI (l : Nat) : Int32 := if l = 0 then -9 else nI (l - 1)
/-! the class -/
def cQ (q : kq4) : Prop := isT q.1 ∧ isT q.2.1 ∧ q.1 ≠ q.2.1 ∧ isT q.2.2.1 ∧ isT q.2.2.2
def cD (S : AS) (μ : kM) (q : kq4) : Prop := TD (aD S) q.1 μ ∧ μ q.1 7 = nI (aS S) ∧ μ 1 7 = nI (aA S)
def cG (S : AS) (μ : kM) : Prop := KD (aG S) 3 μ ∧ μ 3 0 = nI 6 ∧ KD (aR S) 7 μ ∧ μ 7 0 = nI 8
def cSh (S : AS) (μ : kM) : Prop := ∀ s, s < 4 → μ (shc s) 1 = laI (aL S s) ∧ (aL S s ≠ 0 → μ (shc s) 2 = nI (aN S s) ∧ ∀ i, i < aN S s → μ (shc s + 1) i = aC S s i)
def cF (S : AS) (μ : kM) : Prop := μ 1 9 = aT S ∧ μ 1 10 = aF S
def cFr (S : AS) (μ : kM) (q : kq4) : Prop := μ 1 8 = nI 0 ∨ (μ 1 8 = nI 1 ∧ q.2.2.1 = q.1 ∧ LVd (cfS S) 27 (dH (aD S)) 140 μ)
def CS (S : AS) (μ : kM) (q : kq4) : Prop := okS S ∧ cQ q ∧ cD S μ q ∧ cG S μ ∧ cSh S μ ∧ cF S μ ∧ cFr S μ q
theorem cD_fr {S : AS} {μ μ' : kM} {q q' : kq4} (h : cD S μ q) (e : q'.1 = q.1) (h1 : μ' 1 7 = μ 1 7) (hf : ∀ k, q.1 ≤ k → k ≤ q.1 + 7 → μ' k = μ k) : cD S μ' q' := by
  unfold cD
  rw [e]
  exact ⟨TD_fr h.1 hf, by rw [hf _ (Nat.le_refl _) (by omega)]; exact h.2.1, by rw [h1]; exact h.2.2⟩
theorem cG_fr {S : AS} {μ μ' : kM} (h : cG S μ) (hf : ∀ k, 3 ≤ k → k ≤ 10 → μ' k = μ k) : cG S μ' :=
  ⟨KD_fr h.1 (fun i a b => hf i (by omega) (by omega)), by rw [hf 3 (by omega) (by omega)]; exact h.2.1, KD_fr h.2.2.1 (fun i a b => hf i (by omega) (by omega)), by rw [hf 7 (by omega) (by omega)]; exact h.2.2.2⟩
theorem cSh_fr {S : AS} {μ μ' : kM} (h : cSh S μ) (hf : ∀ k, 41 ≤ k → k ≤ 48 → μ' k = μ k) : cSh S μ' := fun s hs => by
  have e1 := hf (shc s) (by unfold shc; omega) (by unfold shc; omega)
  have e2 := hf (shc s + 1) (by unfold shc; omega) (by unfold shc; omega)
  rw [e1, e2]
  exact h s hs
theorem cFr_fr {S : AS} {μ μ' : kM} {q q' : kq4} (h : cFr S μ q) (e : q'.1 = q.1 ∧ q'.2.2.1 = q.2.2.1) (h1 : μ' 1 8 = μ 1 8) (hf : ∀ k, 27 ≤ k → k ≤ 33 → μ' k = μ k) : cFr S μ' q' := by
  rcases h with h | ⟨h, h3, h2⟩
  · exact Or.inl (by rw [h1]; exact h)
  · exact Or.inr ⟨by rw [h1]; exact h, by rw [e.1, e.2]; exact h3, LVd_fr h2 (hf _ (by omega) (by omega)) (hf _ (by omega) (by omega)) (hf _ (by omega) (by omega))⟩
theorem CS_fr {S : AS} {μ μ' : kM} {q q' : kq4} (h : CS S μ q) (hq : cQ q') (e : q'.1 = q.1 ∧ q'.2.2.1 = q.2.2.1) (hf : ∀ k, (k ≤ 10 ∨ (q.1 ≤ k ∧ k ≤ q.1 + 7) ∨ (27 ≤ k ∧ k ≤ 33) ∨ (41 ≤ k ∧ k ≤ 48)) → μ' k = μ k) : CS S μ' q' := by
  obtain ⟨h1, h2, h3, h4, h5, h6, h7⟩ := h
  have e1 := hf 1 (by omega)
  exact ⟨h1, hq, cD_fr h3 e.1 (by rw [e1]) (fun k a b => hf k (by omega)), cG_fr h4 (fun k a b => hf k (by omega)), cSh_fr h5 (fun k a b => hf k (by omega)), ⟨by rw [e1]; exact h6.1, by rw [e1]; exact h6.2⟩, cFr_fr h7 e (by rw [e1]) (fun k a b => hf k (by omega))⟩
/-- nothing of the class that counts lies in the trial's cells -/
theorem CS_tr {S : AS} {μ μ' : kM} {q q' : kq4} (h : CS S μ q) (hq : cQ q') (e : q'.1 = q.1 ∧ q'.2.2.1 = q.2.2.1) (hf : ∀ k, (k < 34 ∨ 40 < k) → μ' k = μ k) : CS S μ' q' := CS_fr h hq e (fun k hk => hf k (by rcases h.2.1.1 with z | z <;> omega))
theorem cQ_st {q : kq4} {t : Nat} (h : cQ q) (ht : isT t) : cQ (stq q 34 t) ∧ cQ (stq q 27 t) := ⟨⟨h.1, h.2.1, h.2.2.1, h.2.2.2.1, ht⟩, ⟨h.1, h.2.1, h.2.2.1, ht, h.2.2.2.2⟩⟩
/-! numbers that come from outside -/
def inB (x : Int32) (n : Nat) : Bool := decide (¬ x < 0 ∧ ¬ nI n ≤ x)
def ixn (x : Int32) : Nat := x.toNatClampNeg
theorem inB_t {x : Int32} {n : Nat} (hn : n < 2 ^ 31) (h : inB x n = true) : ∃ k, k < n ∧ x = nI k ∧ ixn x = k := by
  obtain ⟨k, hk, rfl⟩ := n_lt hn (of_decide_eq_true h).1 (of_decide_eq_true h).2
  exact ⟨k, hk, rfl, nI_clamp (by omega)⟩
theorem inB_n {k n : Nat} (hn : n < 2 ^ 31) (h : k < n) : inB (nI k) n = true := decide_eq_true ⟨nI_pos (by omega), nI_ge h hn⟩
theorem inB_f {k n : Nat} (hn : k < 2 ^ 31) (h : n ≤ k) : inB (nI k) n = false := decide_eq_false (fun z => z.2 (nI_le h hn))
theorem ixn_n {k : Nat} (h : k < 2 ^ 31) : ixn (nI k) = k := nI_clamp h
