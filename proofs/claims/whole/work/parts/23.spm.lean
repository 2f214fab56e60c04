/-! WHAT EACH CALL ANSWERS, and the state behind it -/
def sSn (S : AS) (v : Nat) : AS := (aD S, v, S.2.2)
def sAw (S : AS) (v : Nat) : AS := (aD S, aS S, v, S.2.2.2)
def sGf (S : AS) (G : Kp) : AS := (aD S, aS S, aA S, G, S.2.2.2.2)
def sRd (S : AS) (R : Kp) : AS := (aD S, aS S, aA S, aG S, R, S.2.2.2.2.2)
def sTr (S : AS) (t : Int32) : AS := (aD S, aS S, aA S, aG S, aR S, aL S, aN S, aC S, t, aF S)
def sFa (S : AS) (f : Int32) : AS := (aD S, aS S, aA S, aG S, aR S, aL S, aN S, aC S, aT S, f)
def sSh (S : AS) (l n : Nat → Nat) (c : Nat → Nat → Int32) : AS := (aD S, aS S, aA S, aG S, aR S, l, n, c, aT S, aF S)
def s_ofHouse (S : AS) (x y : Int32) : Int32 := if inB x (dH (aD S)) then (if y = nI 0 then nI (dco (aD S) (ixn x)) else if y = nI 1 then nI (dbe (aD S) (ixn x)) else -2) else -1
def s_ofPerson (S : AS) (x y : Int32) : Int32 := if inB x (dP (aD S)) then (if y = nI 0 then nI (dkd (aD S) (ixn x)) else if y = nI 1 then nI (dtw (aD S) (ixn x)) else if y = nI 2 then nI (dho (aD S) (ixn x)) else if y = nI 3 then nI (dbu (aD S) (ixn x)) else if y = nI 4 then nI (dme (aD S) (ixn x)) else if y = nI 5 then nI (waS (aD S) (ixn x)) else if y = nI 6 then b2 ((aA S).testBit (ixn x)) else -2) else -1
def s_seam (S : AS) (x : Int32) : Int32 := if bt x 1 13 then (if dP (aD S) = 0 then -3 else nI (aS S)) else -2
def n_seam (S : AS) (x : Int32) : AS := if bt x 1 13 = true ∧ dP (aD S) ≠ 0 then sSn S (ixn x) else S
def s_away (S : AS) (x : Int32) (b : Bool) : Int32 := if inB x (dP (aD S)) then (if (aA S).testBit (ixn x) = b then nI 0 else nI 1) else -1
def n_away (S : AS) (x : Int32) (b : Bool) : AS := if inB x (dP (aD S)) = true ∧ ¬ (aA S).testBit (ixn x) = b then sAw S (aA S ^^^ 2 ^ ixn x) else S
def kpAdd (G : Kp) (h w a : Nat) : Kp := (G.1 + 1, fu G.2.1 G.1 h, fu G.2.2.1 G.1 w, fu G.2.2.2 G.1 a)
def s_gift (S : AS) (x y z : Int32) : Int32 := if inB x (dH (aD S)) then (if inB y 10 && bt z 1 99 then (if (aG S).1 = 6 then -4 else nI (aG S).1) else -2) else -1
def n_gift (S : AS) (x y z : Int32) : AS := if inB x (dH (aD S)) = true ∧ inB y 10 = true ∧ bt z 1 99 = true ∧ (aG S).1 ≠ 6 then sGf S (kpAdd (aG S) (ixn x) (ixn y) (ixn z)) else S
def s_undo (S : AS) (x : Int32) : Int32 := if bt x 0 (aG S).1 then nI ((aG S).1 - ixn x) else -2
def n_undo (S : AS) (x : Int32) : AS := if bt x 0 (aG S).1 then sGf S ((aG S).1 - ixn x, (aG S).2) else S
def s_wood (S : AS) (x y z : Int32) : Int32 := if inB x (dH (aD S)) then (if inB y 10 && inB z 14 then nI ((smS (cfS S) (ixn y * 14 + ixn z + 1)).1 (ixn x)) else -2) else -1
def s_wear (S : AS) (x y z : Int32) : Int32 := if inB x (dH (aD S)) then (if inB y 10 && inB z 14 then nI (xW (cfS S) (ixn x) (ixn y * 14 + ixn z)) else -2) else -1
def s_cold (S : AS) (y z : Int32) : Int32 := if inB y 10 && inB z 14 then (if dP (aD S) = 0 then -3 else nI (coC (cfS S) (ixn y * 14 + ixn z))) else -2
def s_chills (S : AS) (x y : Int32) : Int32 := if inB x (dP (aD S)) then (if inB y 10 then nI (chP (cfS S) (ixn x) ((ixn y + 1) * 14)) else -2) else -1
def s_all (S : AS) : Int32 := if dP (aD S) = 0 then -3 else nI (allC (cfS S) 140)
def brF (S : AS) (h : Nat) : Nat → Bool := fun t => decide (10 * dbe (aD S) h ≤ xW (cfS S) h t)
def s_breaks (S : AS) (x : Int32) : Int32 := if inB x (dH (aD S)) then opI (fsN (brF S (ixn x)) 140) else -1
def bsF (S : AS) : Nat → Nat := fun v => allC (cfV S v) 140
def s_best (S : AS) (x : Int32) : Int32 := if bt x 0 1 then (if dP (aD S) = 0 then -3 else if x = nI 0 then nI (bsN (bsF S) 13).1 else nI (bsN (bsF S) 13).2) else -2
def othC (c : Cf) (p : Nat) : Nat := allC c 140 - chP c p 140
def s_blame (S : AS) (x : Int32) : Int32 := if inB x (dP (aD S)) then nI 1000 + nI (othC (cfS S) (ixn x)) - nI (othC (cfA S (aA S ||| 2 ^ ixn x)) (ixn x)) else -1
def wmF (S : AS) (p : Nat) : Nat → Bool := fun s => decide (s &&& (aA S ||| 2 ^ p) = 0) && decide (chP (cfA S (aA S ||| s)) p 140 = 0)
def s_warm (S : AS) (x : Int32) : Int32 := if inB x (dP (aD S)) then opI (wmN (wmF S (ixn x)) (2 ^ dP (aD S))) else -1
def lgF (S : AS) (h : Nat) : Nat → Bool := fun m => decide (cnt (fun p => decide (dho (aD S) p = h) && !decide (chP (cfL S h m) p 14 = 0)) (dP (aD S)) = 0)
def s_logs (S : AS) (x : Int32) : Int32 := if inB x (dH (aD S)) then opI (fsN (lgF S (ixn x)) 100) else -1
def lwN (S : AS) (p T : Nat) : Nat := wtC (dH (aD S)) (cfS S) T - wtC (dH (aD S)) (cfA S (aA S ||| 2 ^ p)) T
def s_pays (S : AS) (x y z : Int32) : Int64 := if inB x (dP (aD S)) && inB y 10 && bt z 0 1 then shN (lwN S (ixn x) ((ixn y + 1) * 14)) (smN (fun p => lwN S p ((ixn y + 1) * 14)) (dP (aD S))) (decide (z = nI 0)) else -9223372036854775808
def tmT (S : AS) (t : Nat) : Nat := if t = 0 then aS S else 14 - aS S
def s_together (S : AS) (x y z : Int32) : Int32 := if inB x (dP (aD S)) && inB y (dP (aD S)) && !decide (x = y) then (if inB z 14 then (if dho (aD S) (ixn x) = dho (aD S) (ixn y) then (if dtw (aD S) (ixn x) = dtw (aD S) (ixn y) then nI (tmT S (dtw (aD S) (ixn y))) else nI (min (ixn z) (tmT S (dtw (aD S) (ixn y))))) else nI 0) else -2) else -1
/-- who of a house is in, in a half -/
def inH (S : AS) (half p : Nat) : Bool := decide (dtw (aD S) p = if half < aS S then 0 else 1) && !(aA S).testBit p
def thF (S : AS) (h : Nat) : Nat → Bool := fun half => decide (cnt (fun p => inH S half p && decide (dho (aD S) p = h)) (dP (aD S)) = 0)
def s_third (S : AS) (x : Int32) : Int32 := if inB x (dH (aD S)) then nI (mk (thF S (ixn x)) 14) else -1
def s_reading (S : AS) (x y z v : Int32) : Int32 := if inB x (dH (aD S)) then (if inB y 10 && inB z 14 && bt v 0 99 then (if (aR S).1 = 8 then -4 else nI (aR S).1) else -2) else -1
def n_reading (S : AS) (x y z v : Int32) : AS := if inB x (dH (aD S)) = true ∧ inB y 10 = true ∧ inB z 14 = true ∧ bt v 0 99 = true ∧ (aR S).1 ≠ 8 then sRd S (kpAdd (aR S) (ixn x) (ixn y * 14 + ixn z) (ixn v)) else S
def s_back (S : AS) (x : Int32) : Int32 := if bt x 0 (aR S).1 then nI ((aR S).1 - ixn x) else -2
def n_back (S : AS) (x : Int32) : AS := if bt x 0 (aR S).1 then sRd S ((aR S).1 - ixn x, (aR S).2) else S
def rdS (S : AS) (c : Cf) : Bool := rdB (xW c) (aR S) (aR S).1
def s_gone (S : AS) : Int32 := if dP (aD S) = 0 then -3 else nI (mk (fun p => rdS S (cfA S (aA S ||| 2 ^ p))) (dP (aD S)))
def s_seams (S : AS) : Int32 := if dP (aD S) = 0 then -3 else nI (mk (fun v => decide (1 ≤ v) && rdS S (cfV S v)) 14)
def s_kinds (S : AS) (x : Int32) : Int32 := if inB x (dP (aD S)) then nI (mk (fun k => rdS S (cfK S (ixn x) k)) 3) else -1
def odF (S : AS) (T : Nat) : Nat → Bool := fun s => decide (allC (cfA S s) T = 0)
def s_odds (S : AS) (y z : Int32) : Int64 := if inB y 10 && bt z 0 1 && !decide (dP (aD S) = 0) then shN (cnt (odF S ((ixn y + 1) * 14)) (2 ^ dP (aD S))) (2 ^ dP (aD S)) (decide (z = nI 0)) else -9223372036854775808
def s_tell (S : AS) (x : Int32) : Int32 := if inB x (dP (aD S)) then (if dkd (aD S) (ixn x) = 0 then nI (dbu (aD S) (ixn x)) else if dkd (aD S) (ixn x) = 1 then nI (dbu (aD S) (ixn x) + 100) else nI (2 * dbu (aD S) (ixn x) + 100)) else -1
def tr1 (t x : Int32) : Int32 := nI 31 * t + x
def n_tell (S : AS) (x : Int32) : AS := if inB x (dP (aD S)) then (if dkd (aD S) (ixn x) = 0 then sTr S (tr1 (aT S) (nI 1)) else if dkd (aD S) (ixn x) = 1 then sTr S (tr1 (tr1 (aT S) (nI 2)) (nI 1)) else sTr S (tr1 (tr1 (tr1 (tr1 (aT S) (nI 3)) (nI 2)) (nI 1)) (nI 1))) else S
def s_knock (S : AS) (x : Int32) : Int32 := if inB x (dP (aD S)) then (if dkd (aD S) (ixn x) = 2 then nI 50 else x) else -1
def n_knock (S : AS) (x : Int32) : AS := if inB x (dP (aD S)) then (if dkd (aD S) (ixn x) = 2 then sTr S (tr1 (aT S) (nI 5)) else sTr S (tr1 (aT S) (nI 4))) else S
def s_as (S : AS) (x y : Int32) : Int32 := if inB x (dP (aD S)) then (if bt y 0 2 then (if dkd (aD S) (ixn x) < ixn y then -12 else nI 1) else -2) else -1
def n_as (S : AS) (x y : Int32) : AS := sFa S (if inB x (dP (aD S)) = true ∧ bt y 0 2 = true ∧ dkd (aD S) (ixn x) < ixn y then nI 2 else nI 0)
def s_many (S : AS) (x : Int32) : Int32 := if x = nI 0 then nI (dH (aD S)) else if x = nI 1 then nI (dP (aD S)) else if x = nI 2 then nI (aS S) else if x = nI 3 then nI (aG S).1 else if x = nI 4 then nI (aR S).1 else -2
/-! sheets -/
def s_sheet (S : AS) (k l n : Int32) : Int32 := if inB k 4 then (if inB l 3 && !decide (nI 60 < n) then (if n < 0 then -14 else nI 1) else -2) else -1
def n_sheet (S : AS) (k l n : Int32) : AS := if inB k 4 = true ∧ inB l 3 = true ∧ ¬ nI 60 < n then (if n < 0 then sFa S (nI 4) else sFa (sSh S (fu (aL S) (ixn k) (ixn l + 1)) (fu (aN S) (ixn k) (ixn n)) (fu (aC S) (ixn k) (fun _ => 0))) (nI 0)) else sFa S (nI 0)
def s_lose (S : AS) (k : Int32) : Int32 := if inB k 4 then (if aL S (ixn k) = 0 then nI 0 else nI 1) else -1
def n_lose (S : AS) (k : Int32) : AS := if inB k 4 then sSh S (fu (aL S) (ixn k) 0) (aN S) (aC S) else S
def cutL (l : Nat) (v : Int32) : Int32 := if l = 1 then v.toInt8.toInt32 else if l = 2 then v.toInt16.toInt32 else v
def s_put (S : AS) (k i v : Int32) : Int32 := if inB k 4 then (if aL S (ixn k) = 0 then -11 else if inB i (aN S (ixn k)) then nI 1 else -13) else -1
def n_put (S : AS) (k i v : Int32) : AS := if inB k 4 then (if aL S (ixn k) = 0 then sFa S (nI 1) else if inB i (aN S (ixn k)) then sFa (sSh S (aL S) (aN S) (fu (aC S) (ixn k) (fu (aC S (ixn k)) (ixn i) (cutL (aL S (ixn k)) v)))) (nI 0) else sFa S (nI 3)) else sFa S (nI 0)
/-- what keeps a sheet from being taken as a row of a lane -/
def laF (S : AS) (k l : Int32) : Option (Int32 × Int32) := if inB k 4 then (if inB l 3 then (if aL S (ixn k) = 0 then some (-11, nI 1) else if nI (aL S (ixn k) - 1) = l then none else some (-12, nI 2)) else some (-2, nI 0)) else some (-1, nI 0)
def ceF (S : AS) (k l i n : Int32) : Option (Int32 × Int32) := match laF S k l with
  | some e => some e
  | none => if n < 0 then some (-14, nI 4) else if ¬ i < 0 ∧ ¬ nI (aN S (ixn k)) < i ∧ ¬ nI (aN S (ixn k)) - i < n then none else some (-13, nI 3)
def s_cell (S : AS) (k i l : Int32) : Int64 := match laF S k l with
  | some _ => -9223372036854775808
  | none => if inB i (aN S (ixn k)) then (aC S (ixn k) (ixn i)).toInt64 else -9223372036854775808
def n_cell (S : AS) (k i l : Int32) : AS := match laF S k l with
  | some e => sFa S e.2
  | none => if inB i (aN S (ixn k)) then sFa S (nI 0) else sFa S (nI 3)
def cpOk (S : AS) (k i o j n : Int32) : Bool := decide (¬ i < 0 ∧ ¬ nI (aN S (ixn k)) < i ∧ ¬ n < 0 ∧ ¬ nI (aN S (ixn k)) - i < n) && decide (¬ j < 0 ∧ ¬ nI (aN S (ixn o)) < j ∧ ¬ n < 0 ∧ ¬ nI (aN S (ixn o)) - j < n)
def s_copy (S : AS) (k i o j n : Int32) : Int32 := if inB k 4 && inB o 4 then (if aL S (ixn k) = 0 ∨ aL S (ixn o) = 0 then -11 else if aL S (ixn k) = aL S (ixn o) then (if cpOk S k i o j n then n else -13) else -12) else -1
def n_copy (S : AS) (k i o j n : Int32) : AS := if inB k 4 && inB o 4 then (if aL S (ixn k) = 0 ∨ aL S (ixn o) = 0 then sFa S (nI 1) else if aL S (ixn k) = aL S (ixn o) then (if cpOk S k i o j n then sFa (sSh S (aL S) (aN S) (fu (aC S) (ixn o) (va_cpy (aC S (ixn k)) (aC S (ixn o)) (ixn i) (ixn j) (ixn n)))) (nI 0) else sFa S (nI 3)) else sFa S (nI 2)) else sFa S (nI 0)
/-- a row: how many are in, one behind another -/
def rwN (f : Nat → Bool) : Nat → Nat
  | 0 => 0
  | n + 1 => if rwN f n = n ∧ f n = true then n + 1 else rwN f n
def s_row (S : AS) (k l i n : Int32) : Int32 := match ceF S k l i n with
  | some e => e.1
  | none => if dP (aD S) = 0 then -3 else if nI 14 < n then -2 else if cnt (fun j => !inB (aC S (ixn k) (ixn i + j)) (dP (aD S))) (ixn n) = 0 then nI (rwN (fun j => inH S j (ixn (aC S (ixn k) (ixn i + j)))) (ixn n)) else -1
def n_row (S : AS) (k l i n : Int32) : AS := match ceF S k l i n with
  | some e => sFa S e.2
  | none => sFa S (nI 0)
/-! a class's call -/
def PCi (R : Int32) (S' : AS) (μ : kM) (r : Option Value) (μ' : kM) (q' : kq4) : Prop := r = some (.int R) ∧ CS S' μ' q' ∧ ∀ k, 49 ≤ k → μ' k = μ k
def PCl (R : Int64) (S' : AS) (μ : kM) (r : Option Value) (μ' : kM) (q' : kq4) : Prop := r = some (.long R) ∧ CS S' μ' q' ∧ ∀ k, 49 ≤ k → μ' k = μ k
theorem c_isH (Γ : kGm) {S : AS} {μ : kM} {q : kq4} (h : CS S μ q) (x : Int32) : gC Γ yX4_isHouse mX4_isHouse 1 [.ref 1, .int x] μ q (fun r μ' q' => r = some (.int (b2 (inB x (dH (aD S))))) ∧ μ' = μ ∧ q' = q) := gC.weak (c_isHouse Γ h.2.1.1 x) (fun r μ' q' z => by rw [h.2.2.1.1.1] at z; exact z)
theorem c_isP (Γ : kGm) {S : AS} {μ : kM} {q : kq4} (h : CS S μ q) (x : Int32) : gC Γ yX4_isPerson mX4_isPerson 1 [.ref 1, .int x] μ q (fun r μ' q' => r = some (.int (b2 (inB x (dP (aD S))))) ∧ μ' = μ ∧ q' = q) := gC.weak (c_isPerson Γ h.2.1.1 x) (fun r μ' q' z => by rw [h.2.2.1.1.2.1] at z; exact z)
theorem c_isTm (Γ : kGm) {μ : kM} {q : kq4} (x y : Int32) : gC Γ yX4_isTime mX4_isTime 2 [.int x, .int y] μ q (fun r μ' q' => r = some (.int (b2 (inB x 10 && inB y 14))) ∧ μ' = μ ∧ q' = q) := gC.weak (c_isTime Γ x y) (fun r μ' q' z => by
  rw [show decide ((¬ x < 0 ∧ ¬ nI 10 ≤ x) ∧ ¬ y < 0 ∧ ¬ nI 14 ≤ y) = (inB x 10 && inB y 14) by unfold inB; rw [Bool.decide_and]] at z; exact z)
theorem c_isWk (Γ : kGm) {μ : kM} {q : kq4} (x : Int32) : gC Γ yX4_isWeek mX4_isWeek 1 [.int x] μ q (fun r μ' q' => r = some (.int (b2 (inB x 10))) ∧ μ' = μ ∧ q' = q) := c_isWeek Γ x
theorem bt01 (x : Int32) : decide (x = 0 ∨ x = nI 1) = bt x 0 1 := by
  rw [Bool.eq_iff_iff, decide_eq_true_iff]
  constructor
  · rintro (rfl | rfl)
    · decide
    · decide
  · intro h
    obtain ⟨k, h1, h2, rfl, -⟩ := bt_t (by decide) (by decide) h
    rcases (by omega : k = 0 ∨ k = 1) with rfl | rfl
    · exact Or.inl rfl
    · exact Or.inr rfl
theorem c_isWh (Γ : kGm) {μ : kM} {q : kq4} (x : Int32) : gC Γ yX4_isWhich mX4_isWhich 1 [.int x] μ q (fun r μ' q' => r = some (.int (b2 (bt x 0 1))) ∧ μ' = μ ∧ q' = q) := gC.weak (c_isWhich Γ x) (fun r μ' q' z => by rw [bt01] at z; exact z)
