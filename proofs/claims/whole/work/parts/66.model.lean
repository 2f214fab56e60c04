/-! THE MODEL READS A TEXT -/
def TX (c : Nat → Int32) (f n : Nat) (μ : kM) : Prop := ∀ j, j < n → μ 52 (f + j) = c j
def FS (μ μ' : kM) : Prop := (∀ k, k ≠ 49 → k ≠ 61 → k ≠ 62 → μ' k = μ k) ∧ ∀ j, (j < 16 ∨ 19 < j) → μ' 49 j = μ 49 j
theorem FS_r (μ : kM) : FS μ μ := ⟨fun _ _ _ _ => rfl, fun _ _ => rfl⟩
theorem FS_tr {μ μ1 μ2 : kM} (h1 : FS μ μ1) (h2 : FS μ1 μ2) : FS μ μ2 := ⟨fun k a b c => by rw [h2.1 k a b c, h1.1 k a b c], fun j a => by rw [h2.2 j a, h1.2 j a]⟩
theorem FS_49 {μ μ1 : kM} {j : Nat} {v : Int32} (h : FS μ μ1) (hj : 16 ≤ j ∧ j ≤ 19) : FS μ (uI μ1 49 j v) := ⟨fun k a b c => by rw [uI_off a]; exact h.1 k a b c, fun i a => by rw [uI_ne (Or.inr (by omega))]; exact h.2 i a⟩
theorem FS_ar {μ μ1 : kM} {k j : Nat} {v : Int32} (h : FS μ μ1) (hk : k = 61 ∨ k = 62) : FS μ (uI μ1 k j v) := ⟨fun i a b c => by rw [uI_off (by omega)]; exact h.1 i a b c, fun i a => by rw [uI_off (by omega)]; exact h.2 i a⟩
theorem FS_adv {μ μ1 : kM} {o : Bool} {a : Nat} (h : FS μ μ1) : FS μ (adv o a μ1) := by
  unfold adv
  split
  · exact FS_49 h (by decide)
  · exact h
theorem TX_FS {c : Nat → Int32} {f n : Nat} {μ μ' : kM} (h : TX c f n μ) (g : FS μ μ') : TX c f n μ' := fun j hj => by rw [g.1 52 (by decide) (by decide) (by decide)]; exact h j hj
theorem dgM_t {x : Int32} {lo hi d : Nat} (hl : lo ≤ 9) (hh : hi ≤ 9) (h : dgM x lo hi = some d) : dg x = some d ∧ lo ≤ d ∧ d ≤ hi := by
  unfold dgM at h
  split at h
  · rename_i hb
    obtain ⟨k, k1, k2, rfl, ek⟩ := bt_t (by omega) (by omega) hb
    rw [ek] at h
    cases h
    refine ⟨?_, by omega, by omega⟩
    unfold dg
    rw [if_pos (bt_n (by decide) (by omega) (by omega)), ek]
  · cases h
theorem dgM_f {x : Int32} {lo hi : Nat} (hh : hi ≤ 9) (h : dgM x lo hi = none) : ∀ d, dg x = some d → ¬ (lo ≤ d ∧ d ≤ hi) := fun d hd c => by
  obtain ⟨h9, rfl⟩ := dg_t hd
  unfold dgM at h
  rw [if_pos (bt_n (by omega) (by omega) (by omega))] at h
  cases h
theorem ff_at {c : Nat → Int32} {n i : Nat} {s : PSt} (hr : rn c i = some s) (hi : i ≤ n) (hw : whl s = false) (hs : i < n → stp s (c i) = none) : ffN c n = some i := by
  rcases Nat.lt_or_ge i n with q | q
  · exact ffN_at hr q (hs q)
  · rw [show n = i by omega, ffN_end hr, hw]; rfl
theorem rn_s {c : Nat → Int32} {i : Nat} {s s' : PSt} (hr : rn c i = some s) (hs : stp s (c i) = some s') : rn c (i + 1) = some s' := by
  unfold rn
  rw [hr]
  exact hs
theorem dg_some {c : Nat → Int32} {n f i lo hi d : Nat} {μ : kM} {s : PSt} {g : Nat → PSt} (tx : TX c f n μ) (hr : rn c i = some s) (hl : lo ≤ 9) (hh : hi ≤ 9) (h1 : ∀ x d, dg x = some d → lo ≤ d → d ≤ hi → stp s x = some (g d)) (ho : dgO μ (f + i) (f + n) lo hi = some d) : i < n ∧ lo ≤ d ∧ d ≤ hi ∧ rn c (i + 1) = some (g d) := by
  unfold dgO at ho
  split at ho
  · rename_i hi
    rw [tx i (by omega)] at ho
    obtain ⟨a, b, e⟩ := dgM_t hl hh ho
    exact ⟨by omega, b, e, rn_s hr (h1 _ _ a b e)⟩
  · cases ho
theorem dg_none {c : Nat → Int32} {n f i lo hi : Nat} {μ : kM} {s : PSt} (tx : TX c f n μ) (hr : rn c i = some s) (hin : i ≤ n) (hh : hi ≤ 9) (hw : whl s = false) (h2 : ∀ x, (∀ d, dg x = some d → ¬ (lo ≤ d ∧ d ≤ hi)) → stp s x = none) (ho : dgO μ (f + i) (f + n) lo hi = none) : ffN c n = some i := by
  refine ff_at hr hin hw (fun hlt => h2 _ (dgM_f hh ?_))
  unfold dgO at ho
  rw [if_pos (by omega), tx i hlt] at ho
  exact ho
theorem sg_some {c : Nat → Int32} {n f i : Nat} {μ : kM} {x : Int32} (tx : TX c f n μ) (ho : sgO μ (f + i) (f + n) x = true) : i < n ∧ c i = x := by
  unfold sgO at ho
  rw [Bool.and_eq_true, decide_eq_true_iff, decide_eq_true_iff] at ho
  exact ⟨by omega, by rw [← tx i (by omega)]; exact ho.2⟩
theorem sg_none {c : Nat → Int32} {n f i : Nat} {μ : kM} {x : Int32} (tx : TX c f n μ) (ho : sgO μ (f + i) (f + n) x = false) : i < n → ¬ c i = x := fun hi e => by
  unfold sgO at ho
  rw [tx i hi, e, decide_eq_true (by omega), decide_eq_true rfl] at ho
  cases ho
/-- the post of a reader -/
def RD (c : Nat → Int32) (n f : Nat) (μ : kM) (q : kq4) (Z : Nat → kM → Prop) (r : Option Value) (μ' : kM) (q' : kq4) : Prop := q' = q ∧ FS μ μ' ∧ ∃ ok : Bool, r = some (.int (b2 ok)) ∧ (ok = false → ∃ i, i ≤ n ∧ μ' 49 16 = nI (f + i) ∧ ffN c n = some i) ∧ (ok = true → ∃ i, i ≤ n ∧ μ' 49 16 = nI (f + i) ∧ Z i μ')
def RH (D : Dt) (μ : kM) : Prop := ∀ h, h < dH D → μ 61 (2 * h) = nI (dco D h) ∧ μ 61 (2 * h + 1) = nI (dbe D h)
def RP (D : Dt) (μ : kM) : Prop := ∀ p, p < dP D → μ 62 (5 * p) = nI (dkd D p) ∧ μ 62 (5 * p + 1) = nI (dtw D p) ∧ μ 62 (5 * p + 2) = nI (dho D p) ∧ μ 62 (5 * p + 3) = nI (dbu D p) ∧ μ 62 (5 * p + 4) = nI (dme D p)
def RS (sn : Nat) (D : Dt) (μ : kM) : Prop := μ 49 17 = nI sn ∧ μ 49 18 = nI (dH D) ∧ μ 49 19 = nI (dP D) ∧ RH D μ ∧ RP D μ
theorem RS_16 {sn : Nat} {D : Dt} {μ : kM} {v : Int32} (h : RS sn D μ) : RS sn D (uI μ 49 16 v) := by
  unfold RS RH RP
  rw [uI_ne (Or.inr (by decide)), uI_ne (Or.inr (by decide)), uI_ne (Or.inr (by decide)), uI_off (by decide), uI_off (by decide)]
  exact h
theorem adv_t {μ : kM} {a : Nat} : adv true a μ = uI μ 49 16 (nI (a + 1)) := rfl
theorem adv_f {μ : kM} {a : Nat} : adv false a μ = μ := rfl
/-- the steps of a TEXT, by digits -/
theorem t_A {D : Dt} {x : Int32} {d : Nat} (h : dg x = some d) (h2 : d ≤ 1) : stp (0, 1, 0, D) x = some (0, 2, 10 * d, D) := by
  show (dg x).bind (fun d => oIf (d ≤ 1) (0, 2, 10 * d, D)) = _
  rw [h]; exact if_pos h2
theorem n_A {D : Dt} {x : Int32} (h : ∀ d, dg x = some d → ¬ (0 ≤ d ∧ d ≤ 1)) : stp (0, 1, 0, D) x = none := by
  show (dg x).bind (fun d => oIf (d ≤ 1) (0, 2, 10 * d, D)) = _
  cases hd : dg x with
  | none => rfl
  | some d => exact if_neg (fun z => h d hd ⟨Nat.zero_le _, z⟩)
theorem t_B {D : Dt} {x : Int32} {t d lo hi : Nat} (e : t = 0 ∧ lo = 1 ∧ hi = 9 ∨ t = 1 ∧ lo = 0 ∧ hi = 3) (h : dg x = some d) (h1 : lo ≤ d) (h2 : d ≤ hi) : stp (0, 2, 10 * t, D) x = some (3, 0, 10 * t + d, D) := by
  show (dg x).bind (fun d => oIf (1 ≤ 10 * t + d ∧ 10 * t + d ≤ 13) (3, 0, 10 * t + d, D)) = _
  rw [h]; exact if_pos (by omega)
theorem n_B {D : Dt} {x : Int32} {t lo hi : Nat} (e : t = 0 ∧ lo = 1 ∧ hi = 9 ∨ t = 1 ∧ lo = 0 ∧ hi = 3) (h : ∀ d, dg x = some d → ¬ (lo ≤ d ∧ d ≤ hi)) : stp (0, 2, 10 * t, D) x = none := by
  show (dg x).bind (fun d => oIf (1 ≤ 10 * t + d ∧ 10 * t + d ≤ 13) (3, 0, 10 * t + d, D)) = _
  cases hd : dg x with
  | none => rfl
  | some d => exact if_neg (fun z => h d hd (by have := (dg_t hd).1; omega))
theorem dg_no {x : Int32} (h : ∀ d, dg x = some d → ¬ (0 ≤ d ∧ d ≤ 9)) : dg x = none := by
  cases hd : dg x with
  | none => rfl
  | some d => exact absurd ⟨Nat.zero_le _, (dg_t hd).1⟩ (h d hd)
theorem t_C {sn : Nat} {D : Dt} {x : Int32} {d : Nat} (h : dg x = some d) : stp (1, 1, sn, D) x = some (1, 2, sn, uCo D (10 * d)) := by
  show (dg x).bind (fun d => some (1, 2, sn, uCo D (10 * d))) = _
  rw [h]; rfl
theorem n_C {sn : Nat} {D : Dt} {x : Int32} (h : ∀ d, dg x = some d → ¬ (0 ≤ d ∧ d ≤ 9)) : stp (1, 1, sn, D) x = none := by
  show (dg x).bind (fun d => some (1, 2, sn, uCo D (10 * d))) = _
  rw [dg_no h]; rfl
theorem t_D {sn : Nat} {D : Dt} {x : Int32} {d : Nat} (h : dg x = some d) : stp (1, 2, sn, D) x = some (1, 3, sn, uCo D (dco D (dH D - 1) + d)) := by
  show (dg x).bind (fun d => some (1, 3, sn, uCo D (dco D (dH D - 1) + d))) = _
  rw [h]; rfl
theorem n_D {sn : Nat} {D : Dt} {x : Int32} (h : ∀ d, dg x = some d → ¬ (0 ≤ d ∧ d ≤ 9)) : stp (1, 2, sn, D) x = none := by
  show (dg x).bind (fun d => some (1, 3, sn, uCo D (dco D (dH D - 1) + d))) = _
  rw [dg_no h]; rfl
theorem t_E {sn : Nat} {D : Dt} {x : Int32} {d : Nat} (h : dg x = some d) (h1 : 1 ≤ d) : stp (1, 3, sn, D) x = some (3, 0, sn, uBe D d) := by
  show (dg x).bind (fun d => oIf (1 ≤ d) (3, 0, sn, uBe D d)) = _
  rw [h]; exact if_pos h1
theorem n_E {sn : Nat} {D : Dt} {x : Int32} (h : ∀ d, dg x = some d → ¬ (1 ≤ d ∧ d ≤ 9)) : stp (1, 3, sn, D) x = none := by
  show (dg x).bind (fun d => oIf (1 ≤ d) (3, 0, sn, uBe D d)) = _
  cases hd : dg x with
  | none => rfl
  | some d => exact if_neg (fun z => h d hd ⟨z, (dg_t hd).1⟩)
theorem t_F {sn : Nat} {D : Dt} {x : Int32} {d : Nat} (h : dg x = some d) (h2 : d ≤ 1) : stp (2, 2, sn, D) x = some (2, 3, sn, uTw D d) := by
  show (dg x).bind (fun d => oIf (d ≤ 1) (2, 3, sn, uTw D d)) = _
  rw [h]; exact if_pos h2
theorem n_F {sn : Nat} {D : Dt} {x : Int32} (h : ∀ d, dg x = some d → ¬ (0 ≤ d ∧ d ≤ 1)) : stp (2, 2, sn, D) x = none := by
  show (dg x).bind (fun d => oIf (d ≤ 1) (2, 3, sn, uTw D d)) = _
  cases hd : dg x with
  | none => rfl
  | some d => exact if_neg (fun z => h d hd ⟨Nat.zero_le _, z⟩)
theorem t_G {sn : Nat} {D : Dt} {x : Int32} {d m : Nat} (hm : m + 1 = dH D) (h : dg x = some d) (h2 : d ≤ m) : stp (2, 3, sn, D) x = some (2, 4, sn, uHo D d) := by
  show (dg x).bind (fun d => oIf (d < dH D) (2, 4, sn, uHo D d)) = _
  rw [h]; exact if_pos (by omega)
theorem n_G {sn : Nat} {D : Dt} {x : Int32} {m : Nat} (hm : m + 1 = dH D) (h : ∀ d, dg x = some d → ¬ (0 ≤ d ∧ d ≤ m)) : stp (2, 3, sn, D) x = none := by
  show (dg x).bind (fun d => oIf (d < dH D) (2, 4, sn, uHo D d)) = _
  cases hd : dg x with
  | none => rfl
  | some d => exact if_neg (fun z => h d hd ⟨Nat.zero_le _, by omega⟩)
theorem t_H {sn : Nat} {D : Dt} {x : Int32} {d : Nat} (h : dg x = some d) (h2 : d ≤ 5) : stp (2, 4, sn, D) x = some (2, 5, sn, uBu D d) := by
  show (dg x).bind (fun d => oIf (d ≤ 5) (2, 5, sn, uBu D d)) = _
  rw [h]; exact if_pos h2
theorem n_H {sn : Nat} {D : Dt} {x : Int32} (h : ∀ d, dg x = some d → ¬ (0 ≤ d ∧ d ≤ 5)) : stp (2, 4, sn, D) x = none := by
  show (dg x).bind (fun d => oIf (d ≤ 5) (2, 5, sn, uBu D d)) = _
  cases hd : dg x with
  | none => rfl
  | some d => exact if_neg (fun z => h d hd ⟨Nat.zero_le _, z⟩)
theorem t_I {sn : Nat} {D : Dt} {x : Int32} {d : Nat} (h : dg x = some d) : stp (2, 5, sn, D) x = some (3, 0, sn, uMe D d) := by
  show (dg x).bind (fun d => some (3, 0, sn, uMe D d)) = _
  rw [h]; rfl
theorem n_I {sn : Nat} {D : Dt} {x : Int32} (h : ∀ d, dg x = some d → ¬ (0 ≤ d ∧ d ≤ 9)) : stp (2, 5, sn, D) x = none := by
  show (dg x).bind (fun d => some (3, 0, sn, uMe D d)) = _
  rw [dg_no h]; rfl
theorem t_K {sn : Nat} {D : Dt} {x : Int32} {d : Nat} (h : kdF x = some d) : stp (2, 1, sn, D) x = some (2, 2, sn, uKd D d) := by
  show (kdF x).bind (fun d => some (2, 2, sn, uKd D d)) = _
  rw [h]; rfl
theorem n_K {sn : Nat} {D : Dt} {x : Int32} (h : kdF x = none) : stp (2, 1, sn, D) x = none := by
  show (kdF x).bind (fun d => some (2, 2, sn, uKd D d)) = _
  rw [h]; rfl
/-- only the place has moved -/
def AV (μ μ' : kM) (v : Int32) : Prop := μ' 49 16 = v ∧ (∀ j, j ≠ 16 → μ' 49 j = μ 49 j) ∧ ∀ k, k ≠ 49 → μ' k = μ k
theorem AV_i (μ : kM) (v : Int32) : AV μ (uI μ 49 16 v) v := ⟨uI_same _ _ _ _, fun j hj => uI_ne (Or.inr hj), fun k hk => uI_off hk⟩
theorem FS_AV {μ μ1 μ2 : kM} {v : Int32} (h : FS μ μ1) (a : AV μ1 μ2 v) : FS μ μ2 := ⟨fun k b c d => by rw [a.2.2 k b]; exact h.1 k b c d, fun j hj => by rw [a.2.1 j (by omega)]; exact h.2 j hj⟩
theorem TX_AV {c : Nat → Int32} {f n : Nat} {μ μ' : kM} {v : Int32} (h : TX c f n μ) (a : AV μ μ' v) : TX c f n μ' := fun j hj => by rw [a.2.2 52 (by decide)]; exact h j hj
theorem RS_AV {sn : Nat} {D : Dt} {μ μ' : kM} {v : Int32} (h : RS sn D μ) (a : AV μ μ' v) : RS sn D μ' := by
  unfold RS RH RP
  rw [a.2.1 17 (by decide), a.2.1 18 (by decide), a.2.1 19 (by decide), a.2.2 61 (by decide), a.2.2 62 (by decide)]
  exact h
theorem m_dig (Γ : kGm) {c : Nat → Int32} {n f i : Nat} {μ : kM} {q : kq4} {s : PSt} {g : Nat → PSt} (tx : TX c f n μ) (hin : i ≤ n) (hfn : f + n ≤ 240) (e : μ 49 16 = nI (f + i)) (hr : rn c i = some s) (lo hi : Nat) (hlo : lo ≤ 9) (hhi : hi ≤ 9) (hw : whl s = false) (h1 : ∀ x d, dg x = some d → lo ≤ d → d ≤ hi → stp s x = some (g d)) (h2 : ∀ x, (∀ d, dg x = some d → ¬ (lo ≤ d ∧ d ≤ hi)) → stp s x = none) : gC Γ yX5_digit mX5_digit 2 [.ref 49, .int (nI (f + n)), .int (nI lo), .int (nI hi)] μ q (fun r μ' q' => q' = q ∧ ((r = some (.int (-9)) ∧ μ' = μ ∧ ffN c n = some i) ∨ ∃ d, r = some (.int (nI d)) ∧ AV μ μ' (nI (f + (i + 1))) ∧ i < n ∧ lo ≤ d ∧ d ≤ hi ∧ rn c (i + 1) = some (g d))) := by
  refine gC.weak (m_digit Γ (by omega) (by omega) e lo hi hlo hhi) (fun r μ' q' z => ?_)
  obtain ⟨z1, z2, z3⟩ := z
  refine ⟨z3, ?_⟩
  cases ho : dgO μ (f + i) (f + n) lo hi with
  | none =>
    rw [ho] at z1 z2
    exact Or.inl ⟨z1, z2, dg_none tx hr hin hhi hw h2 ho⟩
  | some d =>
    rw [ho] at z1 z2
    obtain ⟨a, b, b2, b3⟩ := dg_some tx hr hlo hhi h1 ho
    refine Or.inr ⟨d, z1, ?_, a, b, b2, b3⟩
    rw [z2]
    exact AV_i μ _
theorem m_sgn (Γ : kGm) {c : Nat → Int32} {n f i : Nat} {μ : kM} {q : kq4} (tx : TX c f n μ) (hin : i ≤ n) (hfn : f + n ≤ 240) (e : μ 49 16 = nI (f + i)) (x : Int32) : gC Γ yX5_isSign mX5_isSign 1 [.ref 49, .int (nI (f + n)), .int x] μ q (fun r μ' q' => q' = q ∧ ((r = some (.int (b2 false)) ∧ μ' = μ ∧ (i < n → ¬ c i = x)) ∨ (r = some (.int (b2 true)) ∧ AV μ μ' (nI (f + (i + 1))) ∧ i < n ∧ c i = x))) := by
  refine gC.weak (m_isSign Γ (by omega) (by omega) e x) (fun r μ' q' z => ?_)
  obtain ⟨z1, z2, z3⟩ := z
  refine ⟨z3, ?_⟩
  cases ho : sgO μ (f + i) (f + n) x with
  | false =>
    rw [ho] at z1 z2
    exact Or.inl ⟨z1, z2, sg_none tx ho⟩
  | true =>
    rw [ho] at z1 z2
    obtain ⟨a, b⟩ := sg_some tx ho
    refine Or.inr ⟨z1, ?_, a, b⟩
    rw [z2]
    exact AV_i μ _
theorem RS_ho {sn : Nat} {D : Dt} {μ μ' : kM} {d1 d2 d3 : Nat} (h : RS sn D μ) (e17 : μ' 49 17 = μ 49 17) (e18 : μ' 49 18 = nI (dH D + 1)) (e19 : μ' 49 19 = μ 49 19) (e62 : μ' 62 = μ 62) (a : μ' 61 (2 * dH D) = nI (10 * d1 + d2)) (b : μ' 61 (2 * dH D + 1) = nI d3) (g : ∀ x, x < 2 * dH D → μ' 61 x = μ 61 x) : RS sn (uBe (uCo (uCo (dH D + 1, D.2) (10 * d1)) (dco (uCo (dH D + 1, D.2) (10 * d1)) (dH (uCo (dH D + 1, D.2) (10 * d1)) - 1) + d2)) d3) μ' := by
  refine ⟨by rw [e17]; exact h.1, e18, by rw [e19]; exact h.2.2.1, fun i hi => ?_, fun p hp => by rw [e62]; exact h.2.2.2.2 p hp⟩
  have hi : i < dH D + 1 := hi
  show μ' 61 (2 * i) = nI (fu (fu (dco D) (dH D) (10 * d1)) (dH D) (fu (dco D) (dH D) (10 * d1) (dH D) + d2) i) ∧ μ' 61 (2 * i + 1) = nI (fu (dbe D) (dH D) d3 i)
  by_cases ei : i = dH D
  · rw [ei, fu_s, fu_s, fu_s]; exact ⟨a, b⟩
  · rw [fu_n ei, fu_n ei, fu_n ei, g _ (by omega), g _ (by omega)]; exact h.2.2.2.1 i (by omega)
theorem RS_pe {sn : Nat} {D : Dt} {μ μ' : kM} {d0 d1 d2 d3 d4 : Nat} (h : RS sn D μ) (e17 : μ' 49 17 = nI sn) (e18 : μ' 49 18 = nI (dH D)) (e19 : μ' 49 19 = nI (dP D + 1)) (e61 : μ' 61 = μ 61) (a0 : μ' 62 (5 * dP D + 0) = nI d0) (a1 : μ' 62 (5 * dP D + 1) = nI d1) (a2 : μ' 62 (5 * dP D + 2) = nI d2) (a3 : μ' 62 (5 * dP D + 3) = nI d3) (a4 : μ' 62 (5 * dP D + 4) = nI d4) (g : ∀ x, x < 5 * dP D → μ' 62 x = μ 62 x) : RS sn (uMe (uBu (uHo (uTw (uKd (D.1, dP D + 1, D.2.2) d0) d1) d2) d3) d4) μ' := by
  refine ⟨e17, e18, e19, fun p hp => by rw [e61]; exact h.2.2.2.1 p hp, fun i hi => ?_⟩
  have hi : i < dP D + 1 := hi
  show μ' 62 (5 * i) = nI (fu (dkd D) (dP D) d0 i) ∧ μ' 62 (5 * i + 1) = nI (fu (dtw D) (dP D) d1 i) ∧ μ' 62 (5 * i + 2) = nI (fu (dho D) (dP D) d2 i) ∧ μ' 62 (5 * i + 3) = nI (fu (dbu D) (dP D) d3 i) ∧ μ' 62 (5 * i + 4) = nI (fu (dme D) (dP D) d4 i)
  by_cases ei : i = dP D
  · rw [ei, fu_s, fu_s, fu_s, fu_s, fu_s]; exact ⟨a0, a1, a2, a3, a4⟩
  · rw [fu_n ei, fu_n ei, fu_n ei, fu_n ei, fu_n ei, g _ (by omega), g _ (by omega), g _ (by omega), g _ (by omega), g _ (by omega)]; exact h.2.2.2.2 i (by omega)
