/-! A TEXT, code by code: part (0 head, 1 house, 2 person, 3 between), place, seam, what is told so far -/
abbrev PSt : Type := Nat × Nat × Nat × Dt
def dg (x : Int32) : Option Nat := if bt x 48 57 then some (ixn x - 48) else none
def kdF (x : Int32) : Option Nat := if x = nI 100 then some 0 else if x = nI 104 then some 1 else if x = nI 102 then some 2 else none
def uCo (D : Dt) (v : Nat) : Dt := (D.1, D.2.1, fu (dco D) (dH D - 1) v, D.2.2.2)
def uBe (D : Dt) (v : Nat) : Dt := (D.1, D.2.1, D.2.2.1, fu (dbe D) (dH D - 1) v, D.2.2.2.2)
def uKd (D : Dt) (v : Nat) : Dt := (D.1, D.2.1, D.2.2.1, D.2.2.2.1, fu (dkd D) (dP D - 1) v, D.2.2.2.2.2)
def uTw (D : Dt) (v : Nat) : Dt := (D.1, D.2.1, D.2.2.1, D.2.2.2.1, D.2.2.2.2.1, fu (dtw D) (dP D - 1) v, D.2.2.2.2.2.2)
def uHo (D : Dt) (v : Nat) : Dt := (D.1, D.2.1, D.2.2.1, D.2.2.2.1, D.2.2.2.2.1, D.2.2.2.2.2.1, fu (dho D) (dP D - 1) v, D.2.2.2.2.2.2.2)
def uBu (D : Dt) (v : Nat) : Dt := (D.1, D.2.1, D.2.2.1, D.2.2.2.1, D.2.2.2.2.1, D.2.2.2.2.2.1, D.2.2.2.2.2.2.1, fu (dbu D) (dP D - 1) v, D.2.2.2.2.2.2.2.2)
def uMe (D : Dt) (v : Nat) : Dt := (D.1, D.2.1, D.2.2.1, D.2.2.2.1, D.2.2.2.2.1, D.2.2.2.2.2.1, D.2.2.2.2.2.2.1, D.2.2.2.2.2.2.2.1, fu (dme D) (dP D - 1) v)
def oIf (c : Prop) [Decidable c] (s : PSt) : Option PSt := if c then some s else none
def stH (l sn : Nat) (D : Dt) (x : Int32) : Option PSt :=
  if l = 0 then oIf (x = nI 117) (0, 1, 0, D) else if l = 1 then (dg x).bind (fun d => oIf (d ≤ 1) (0, 2, 10 * d, D)) else (dg x).bind (fun d => oIf (1 ≤ sn + d ∧ sn + d ≤ 13) (3, 0, sn + d, D))
def st1 (l sn : Nat) (D : Dt) (x : Int32) : Option PSt :=
  if l = 1 then (dg x).bind (fun d => some (1, 2, sn, uCo D (10 * d))) else if l = 2 then (dg x).bind (fun d => some (1, 3, sn, uCo D (dco D (dH D - 1) + d))) else (dg x).bind (fun d => oIf (1 ≤ d) (3, 0, sn, uBe D d))
def st2 (l sn : Nat) (D : Dt) (x : Int32) : Option PSt :=
  if l = 1 then (kdF x).bind (fun d => some (2, 2, sn, uKd D d)) else if l = 2 then (dg x).bind (fun d => oIf (d ≤ 1) (2, 3, sn, uTw D d)) else if l = 3 then (dg x).bind (fun d => oIf (d < dH D) (2, 4, sn, uHo D d)) else if l = 4 then (dg x).bind (fun d => oIf (d ≤ 5) (2, 5, sn, uBu D d)) else (dg x).bind (fun d => some (3, 0, sn, uMe D d))
def st3 (sn : Nat) (D : Dt) (x : Int32) : Option PSt :=
  if x = nI 59 ∧ dP D = 0 ∧ dH D < 4 then some (1, 1, sn, (dH D + 1, D.2)) else oIf (x = nI 44 ∧ 0 < dH D ∧ dP D < 6) (2, 1, sn, (D.1, dP D + 1, D.2.2))
def stp (s : PSt) (x : Int32) : Option PSt := if s.1 = 0 then stH s.2.1 s.2.2.1 s.2.2.2 x else if s.1 = 1 then st1 s.2.1 s.2.2.1 s.2.2.2 x else if s.1 = 2 then st2 s.2.1 s.2.2.1 s.2.2.2 x else st3 s.2.2.1 s.2.2.2 x
def D0 : Dt := (0, 0, fun _ => 0, fun _ => 0, fun _ => 0, fun _ => 0, fun _ => 0, fun _ => 0, fun _ => 0)
def rn (c : Nat → Int32) : Nat → Option PSt
  | 0 => some (0, 0, 0, D0)
  | n + 1 => (rn c n).bind (fun s => stp s (c n))
def whl (s : PSt) : Bool := decide (s.1 = 3) && decide (0 < dP s.2.2.2)
/-- how many of the current lists are read -/
def cC (p l H : Nat) : Nat := if p = 1 ∧ l = 1 then H - 1 else H
def cB (p H : Nat) : Nat := if p = 1 then H - 1 else H
def cK (p l P k : Nat) : Nat := if p = 2 ∧ l ≤ k then P - 1 else P
def okQ (p l sn : Nat) (D : Dt) : Prop := p ≤ 3 ∧ dH D ≤ 4 ∧ dP D ≤ 6 ∧ (p = 0 → dH D = 0 ∧ dP D = 0 ∧ l ≤ 2 ∧ sn ≤ 10) ∧ (p = 1 → 1 ≤ dH D ∧ dP D = 0 ∧ 1 ≤ l ∧ l ≤ 3) ∧ (p = 2 → 1 ≤ dP D ∧ 1 ≤ l ∧ l ≤ 5) ∧ (0 < dP D → 0 < dH D) ∧ (0 < p → 1 ≤ sn ∧ sn ≤ 13)
  ∧ (∀ i, i < cC p l (dH D) → dco D i ≤ 99 ∧ (p = 1 → l = 2 → i = dH D - 1 → dco D i ≤ 90)) ∧ (∀ i, i < cB p (dH D) → 1 ≤ dbe D i ∧ dbe D i ≤ 9)
  ∧ (∀ i, i < cK p l (dP D) 1 → dkd D i ≤ 2) ∧ (∀ i, i < cK p l (dP D) 2 → dtw D i ≤ 1) ∧ (∀ i, i < cK p l (dP D) 3 → dho D i < dH D) ∧ (∀ i, i < cK p l (dP D) 4 → dbu D i ≤ 5) ∧ (∀ i, i < cK p l (dP D) 5 → dme D i ≤ 9)
def okP (s : PSt) : Prop := okQ s.1 s.2.1 s.2.2.1 s.2.2.2
theorem dg_t {x : Int32} {d : Nat} (h : dg x = some d) : d ≤ 9 ∧ x = nI (d + 48) := by
  unfold dg at h
  split at h
  · rename_i hb
    obtain ⟨k, k1, k2, rfl, ek⟩ := bt_t (by decide) (by decide) hb
    rw [ek] at h
    cases h
    exact ⟨by omega, by rw [show k - 48 + 48 = k by omega]⟩
  · cases h
theorem dg_f {x : Int32} (h : dg x = none) : bt x 48 57 = false := by
  unfold dg at h
  split at h
  · cases h
  · rename_i hb; exact Bool.eq_false_iff.mpr hb
theorem kdF_t {x : Int32} {d : Nat} (h : kdF x = some d) : d ≤ 2 := by
  unfold kdF at h
  split at h
  · cases h; decide
  · split at h
    · cases h; decide
    · split at h
      · cases h; decide
      · cases h
theorem oIf_t {c : Prop} [Decidable c] {s s' : PSt} (h : oIf c s = some s') : c ∧ s' = s := by
  unfold oIf at h
  split at h
  · rename_i hc; cases h; exact ⟨hc, rfl⟩
  · cases h
theorem fu_bd {g : Nat → Nat} {Q : Nat → Prop} {n m v : Nat} (h : ∀ i, i < n → Q (g i)) (hv : Q v) (hm : m ≤ n + 1) : ∀ i, i < m → Q (fu g n v i) := fun i hi => by
  by_cases e : i = n
  · subst e; rw [fu_s]; exact hv
  · rw [fu_n e]; exact h i (by omega)
theorem okP_st {s s' : PSt} {x : Int32} (h : okP s) (e : stp s x = some s') : okP s' := by
  obtain ⟨p, l, sn, D⟩ := s
  have h : okQ p l sn D := h
  obtain ⟨o1, o2, o3, o4, o5, o6, o7, o8, o9, o10, o11, o12, o13, o14, o15⟩ := h
  have o1 : p ≤ 3 := o1
  have zz : p = 0 ∨ p = 1 ∨ p = 2 ∨ p = 3 := by omega
  rcases zz with rfl | rfl | rfl | rfl
  · have z4 := o4 rfl
    have zl : l = 0 ∨ l = 1 ∨ l = 2 := by have := z4.2.2.1; omega
    have e : stH l sn D x = some s' := e
    rcases zl with rfl | rfl | rfl
    · obtain ⟨hc, rfl⟩ := oIf_t (show oIf _ _ = some s' from e)
      exact (id ⟨by decide, o2, o3, fun _ => ⟨z4.1, z4.2.1, by decide, by decide⟩, fun z => absurd z (by decide), fun z => absurd z (by decide), o7, fun z => absurd z (by decide), fun i hi => ⟨(o9 i hi).1, fun z => absurd z (by decide)⟩, o10, o11, o12, o13, o14, o15⟩ : okQ 0 1 0 D)
    · have e : (dg x).bind (fun d => oIf (d ≤ 1) (0, 2, 10 * d, D)) = some s' := e
      cases hd : dg x with
      | none => rw [hd] at e; cases e
      | some d =>
        rw [hd] at e
        obtain ⟨hc, rfl⟩ := oIf_t e
        have hd9 := dg_t hd
        exact (id ⟨by decide, o2, o3, fun _ => ⟨z4.1, z4.2.1, by decide, show 10 * d ≤ 10 by omega⟩, fun z => absurd z (by decide), fun z => absurd z (by decide), o7, fun z => absurd z (by decide), fun i hi => ⟨(o9 i hi).1, fun z => absurd z (by decide)⟩, o10, o11, o12, o13, o14, o15⟩ : okQ 0 2 (10 * d) D)
    · have e : (dg x).bind (fun d => oIf (1 ≤ sn + d ∧ sn + d ≤ 13) (3, 0, sn + d, D)) = some s' := e
      cases hd : dg x with
      | none => rw [hd] at e; cases e
      | some d =>
        rw [hd] at e
        obtain ⟨hc, rfl⟩ := oIf_t e
        have hd9 := dg_t hd
        exact (id ⟨by decide, o2, o3, fun z => absurd z (by decide), fun z => absurd z (by decide), fun z => absurd z (by decide), o7, fun _ => hc, fun i hi => ⟨(o9 i hi).1, fun z => absurd z (by decide)⟩, o10, o11, o12, o13, o14, o15⟩ : okQ 3 0 (sn + d) D)
  · have z5 : 1 ≤ dH D ∧ dP D = 0 ∧ 1 ≤ l ∧ l ≤ 3 := o5 rfl
    have zl : l = 1 ∨ l = 2 ∨ l = 3 := by omega
    have e : st1 l sn D x = some s' := e
    rcases zl with rfl | rfl | rfl
    · have e : (dg x).bind (fun d => some (1, 2, sn, uCo D (10 * d))) = some s' := e
      cases hd : dg x with
      | none => rw [hd] at e; cases e
      | some d =>
        rw [hd] at e
        cases e
        have hd9 := dg_t hd
        exact (id ⟨by decide, o2, o3, fun z => absurd z (by decide), fun _ => ⟨z5.1, z5.2.1, by decide, by decide⟩, fun z => absurd z (by decide), o7, fun _ => o8 (by decide), fun i (hi : i < dH D) => ⟨fu_bd (Q := fun z => z ≤ 99) (show ∀ i, i < dH D - 1 → dco D i ≤ 99 from fun i hi => (o9 i hi).1) (show 10 * d ≤ 99 by omega) (Nat.le_refl _) i (by omega), fun _ _ (ei : i = dH D - 1) => by rw [ei]; show fu (dco D) (dH D - 1) (10 * d) (dH D - 1) ≤ 90; rw [fu_s]; omega⟩, o10, o11, o12, o13, o14, o15⟩ : okQ 1 2 sn (uCo D (10 * d)))
    · have e : (dg x).bind (fun d => some (1, 3, sn, uCo D (dco D (dH D - 1) + d))) = some s' := e
      have zc : dco D (dH D - 1) ≤ 90 := (o9 (dH D - 1) (show dH D - 1 < dH D by omega)).2 rfl rfl rfl
      cases hd : dg x with
      | none => rw [hd] at e; cases e
      | some d =>
        rw [hd] at e
        cases e
        have hd9 := dg_t hd
        exact (id ⟨by decide, o2, o3, fun z => absurd z (by decide), fun _ => ⟨z5.1, z5.2.1, by decide, by decide⟩, fun z => absurd z (by decide), o7, fun _ => o8 (by decide), fun i (hi : i < dH D) => ⟨fu_bd (Q := fun z => z ≤ 99) (show ∀ i, i < dH D - 1 → dco D i ≤ 99 from fun i hi => (o9 i (show i < dH D by omega)).1) (show dco D (dH D - 1) + d ≤ 99 by omega) (Nat.le_refl _) i (by omega), fun _ z => absurd z (by decide)⟩, o10, o11, o12, o13, o14, o15⟩ : okQ 1 3 sn (uCo D (dco D (dH D - 1) + d)))
    · have e : (dg x).bind (fun d => oIf (1 ≤ d) (3, 0, sn, uBe D d)) = some s' := e
      cases hd : dg x with
      | none => rw [hd] at e; cases e
      | some d =>
        rw [hd] at e
        obtain ⟨hc, rfl⟩ := oIf_t e
        have hd9 := dg_t hd
        exact (id ⟨by decide, o2, o3, fun z => absurd z (by decide), fun z => absurd z (by decide), fun z => absurd z (by decide), o7, fun _ => o8 (by decide), fun i hi => ⟨(o9 i hi).1, fun z => absurd z (by decide)⟩, fun i (hi : i < dH D) => fu_bd (g := dbe D) (n := dH D - 1) (Q := fun z => 1 ≤ z ∧ z ≤ 9) o10 ⟨hc, hd9.1⟩ (Nat.le_refl _) i (by omega), o11, o12, o13, o14, o15⟩ : okQ 3 0 sn (uBe D d))
  · have z6 : 1 ≤ dP D ∧ 1 ≤ l ∧ l ≤ 5 := o6 rfl
    have zl : l = 1 ∨ l = 2 ∨ l = 3 ∨ l = 4 ∨ l = 5 := by omega
    have e : st2 l sn D x = some s' := e
    rcases zl with rfl | rfl | rfl | rfl | rfl
    · have e : (kdF x).bind (fun d => some (2, 2, sn, uKd D d)) = some s' := e
      cases hd : kdF x with
      | none => rw [hd] at e; cases e
      | some d =>
        rw [hd] at e
        cases e
        have hd9 := kdF_t hd
        exact (id ⟨by decide, o2, o3, fun z => absurd z (by decide), fun z => absurd z (by decide), fun _ => ⟨z6.1, by decide, by decide⟩, o7, fun _ => o8 (by decide), fun i hi => ⟨(o9 i hi).1, fun z => absurd z (by decide)⟩, o10, fun i (hi : i < dP D) => fu_bd (g := dkd D) (n := dP D - 1) (Q := fun z => z ≤ 2) o11 (hd9) (Nat.le_refl _) i (by omega), o12, o13, o14, o15⟩ : okQ 2 2 sn (uKd D d))
    · have e : (dg x).bind (fun d => oIf (d ≤ 1) (2, 3, sn, uTw D d)) = some s' := e
      cases hd : dg x with
      | none => rw [hd] at e; cases e
      | some d =>
        rw [hd] at e
        obtain ⟨hc, rfl⟩ := oIf_t e
        have hd9 := dg_t hd
        exact (id ⟨by decide, o2, o3, fun z => absurd z (by decide), fun z => absurd z (by decide), fun _ => ⟨z6.1, by decide, by decide⟩, o7, fun _ => o8 (by decide), fun i hi => ⟨(o9 i hi).1, fun z => absurd z (by decide)⟩, o10, o11, fun i (hi : i < dP D) => fu_bd (g := dtw D) (n := dP D - 1) (Q := fun z => z ≤ 1) o12 (hc) (Nat.le_refl _) i (by omega), o13, o14, o15⟩ : okQ 2 3 sn (uTw D d))
    · have e : (dg x).bind (fun d => oIf (d < dH D) (2, 4, sn, uHo D d)) = some s' := e
      cases hd : dg x with
      | none => rw [hd] at e; cases e
      | some d =>
        rw [hd] at e
        obtain ⟨hc, rfl⟩ := oIf_t e
        have hd9 := dg_t hd
        exact (id ⟨by decide, o2, o3, fun z => absurd z (by decide), fun z => absurd z (by decide), fun _ => ⟨z6.1, by decide, by decide⟩, o7, fun _ => o8 (by decide), fun i hi => ⟨(o9 i hi).1, fun z => absurd z (by decide)⟩, o10, o11, o12, fun i (hi : i < dP D) => fu_bd (g := dho D) (n := dP D - 1) (Q := fun z => z < dH D) o13 (hc) (Nat.le_refl _) i (by omega), o14, o15⟩ : okQ 2 4 sn (uHo D d))
    · have e : (dg x).bind (fun d => oIf (d ≤ 5) (2, 5, sn, uBu D d)) = some s' := e
      cases hd : dg x with
      | none => rw [hd] at e; cases e
      | some d =>
        rw [hd] at e
        obtain ⟨hc, rfl⟩ := oIf_t e
        have hd9 := dg_t hd
        exact (id ⟨by decide, o2, o3, fun z => absurd z (by decide), fun z => absurd z (by decide), fun _ => ⟨z6.1, by decide, by decide⟩, o7, fun _ => o8 (by decide), fun i hi => ⟨(o9 i hi).1, fun z => absurd z (by decide)⟩, o10, o11, o12, o13, fun i (hi : i < dP D) => fu_bd (g := dbu D) (n := dP D - 1) (Q := fun z => z ≤ 5) o14 (hc) (Nat.le_refl _) i (by omega), o15⟩ : okQ 2 5 sn (uBu D d))
    · have e : (dg x).bind (fun d => some (3, 0, sn, uMe D d)) = some s' := e
      cases hd : dg x with
      | none => rw [hd] at e; cases e
      | some d =>
        rw [hd] at e
        cases e
        have hd9 := dg_t hd
        exact (id ⟨by decide, o2, o3, fun z => absurd z (by decide), fun z => absurd z (by decide), fun z => absurd z (by decide), o7, fun _ => o8 (by decide), fun i hi => ⟨(o9 i hi).1, fun z => absurd z (by decide)⟩, o10, o11, o12, o13, o14, fun i (hi : i < dP D) => fu_bd (g := dme D) (n := dP D - 1) (Q := fun z => z ≤ 9) o15 (hd9.1) (Nat.le_refl _) i (by omega)⟩ : okQ 3 0 sn (uMe D d))
  · have e : st3 sn D x = some s' := e
    unfold st3 at e
    split at e
    · rename_i hc
      cases e
      exact (id ⟨by decide, show dH D + 1 ≤ 4 by omega, o3, fun z => absurd z (by decide), fun _ => ⟨show 1 ≤ dH D + 1 by omega, hc.2.1, by decide, by decide⟩, fun z => absurd z (by decide), fun _ => Nat.succ_pos _, fun _ => o8 (by decide), fun i hi => ⟨(o9 i hi).1, fun _ z => absurd z (by decide)⟩, o10, o11, o12, fun i (hi : i < dP D) => absurd hi (by omega), o14, o15⟩ : okQ 1 1 sn (dH D + 1, D.2))
    · obtain ⟨hc, rfl⟩ := oIf_t e
      exact (id ⟨by decide, o2, show dP D + 1 ≤ 6 by omega, fun z => absurd z (by decide), fun z => absurd z (by decide), fun _ => ⟨show 1 ≤ dP D + 1 by omega, by decide, by decide⟩, fun _ => hc.2.1, fun _ => o8 (by decide), fun i hi => ⟨(o9 i hi).1, fun z => absurd z (by decide)⟩, o10, o11, o12, o13, o14, o15⟩ : okQ 2 1 sn (D.1, dP D + 1, D.2.2))
theorem okP_0 : okP (0, 0, 0, D0) := show okQ 0 0 0 D0 from ⟨by decide, by decide, by decide, fun _ => ⟨rfl, rfl, by decide, by decide⟩, fun z => absurd z (by decide), fun z => absurd z (by decide), fun z => absurd z (by decide), fun z => absurd z (by decide), fun i hi => absurd hi (Nat.not_lt_zero _), fun i hi => absurd hi (Nat.not_lt_zero _), fun i hi => absurd hi (Nat.not_lt_zero _), fun i hi => absurd hi (Nat.not_lt_zero _), fun i hi => absurd hi (Nat.not_lt_zero _), fun i hi => absurd hi (Nat.not_lt_zero _), fun i hi => absurd hi (Nat.not_lt_zero _)⟩
theorem okP_rn {c : Nat → Int32} : ∀ {n : Nat} {s : PSt}, rn c n = some s → okP s
  | 0, s, h => by cases h; exact okP_0
  | n + 1, s, h => by
    unfold rn at h
    cases hr : rn c n with
    | none => rw [hr] at h; cases h
    | some s0 => rw [hr] at h; exact okP_st (okP_rn hr) h
theorem okP_D {s : PSt} (h : okP s) (hw : whl s = true) : okD s.2.2.2 ∧ 0 < dH s.2.2.2 ∧ 0 < dP s.2.2.2 ∧ 1 ≤ s.2.2.1 ∧ s.2.2.1 ≤ 13 := by
  obtain ⟨p, l, sn, D⟩ := s
  have h : okQ p l sn D := h
  obtain ⟨o1, o2, o3, o4, o5, o6, o7, o8, o9, o10, o11, o12, o13, o14, o15⟩ := h
  have hw := Bool.and_eq_true_iff.mp hw
  have e3 : p = 3 := of_decide_eq_true hw.1
  have e4 : 0 < dP D := of_decide_eq_true hw.2
  subst e3
  exact ⟨⟨o2, o3, fun i hi => ⟨(o9 i hi).1, o10 i hi⟩, fun i hi => ⟨o11 i hi, o12 i hi, o13 i hi, o14 i hi, o15 i hi⟩⟩, o7 e4, e4, o8 (by decide)⟩
