/-! THE GROUND: one world for all methods. Cell 0 is the script; the cells 1 .. are those that the run makes, in the order in which they are made. mu: whole numbers of a cell; pi: its references. -/
def kTS : List Cond := lw_tbl.filter goodWord
abbrev kWd : Type := Nat × (Nat → Nat → Int32) × (Nat → Nat → Option Nat)
abbrev kGm : Type := Launch × va_G × (Nat → ClassId) × Nat × Nat × Nat × (Nat → Int32)
abbrev kMI : Type := String × ByteArray × Nat × Option FieldType × String
abbrev kZ : Type := List Frame → Array Value → State → State → Prop
abbrev kb (Γ : kGm) : Nat := Γ.2.2.2.1
abbrev kbs (Γ : kGm) : Nat := Γ.2.2.2.2.1
abbrev kLn (Γ : kGm) : Nat := Γ.2.2.2.2.2.1
abbrev kxs (Γ : kGm) : Nat → Int32 := Γ.2.2.2.2.2.2
def kad (Γ : kGm) (k : Nat) : Nat := if k = 0 then kb Γ else kbs Γ + k
def kcv (Γ : kGm) : Value → Value
  | .ref k => .ref (kad Γ k)
  | v => v
def kA (Γ : kGm) : Nat → Prop := fun q => kbs Γ < q
/-- the kind of each cell (0 .. 5 a class, 10 ints, 11 booleans, 12 references) and its length -/
def kSH : List (Nat × Nat) := [(10, 0),
  (4, 11), (12, 4), (0, 5), (10, 6), (10, 6), (10, 6), (0, 5), (10, 8), (10, 8), (10, 8),
  (2, 12), (10, 4), (10, 4), (10, 6), (10, 6), (10, 6), (10, 6), (10, 6), (2, 12), (10, 4), (10, 4), (10, 6), (10, 6), (10, 6), (10, 6), (10, 6),
  (3, 12), (10, 560), (10, 560), (10, 140), (10, 4), (10, 4), (10, 6), (3, 12), (10, 560), (10, 560), (10, 140), (10, 4), (10, 4), (10, 6),
  (1, 3), (10, 60), (1, 3), (10, 60), (1, 3), (10, 60), (1, 3), (10, 60),
  (5, 36), (10, 4), (10, 4), (10, 240), (10, 4), (10, 4), (10, 6), (10, 6), (10, 6), (10, 6), (10, 6), (11, 6), (10, 8), (10, 30), (10, 7), (10, 7), (10, 7), (10, 4), (10, 4), (10, 6), (10, 4), (10, 8), (10, 8), (10, 8), (10, 8)]
def ksh (k : Nat) : Nat × Nat := kSH.getD k (99, 0)
/-- which fields of a class are whole numbers -/
def kint (c j : Nat) : Bool := match c with
  | 0 => j == 0 || j == 4
  | 1 => j == 1 || j == 2
  | 2 => decide (7 ≤ j)
  | 3 => decide (8 ≤ j)
  | 4 => decide (7 ≤ j)
  | _ => j == 0 || j == 1 || j == 5 || j == 6 || j == 7 || j == 16 || j == 17 || j == 18 || j == 19 || j == 22 || j == 30 || j == 31
def kN (c : Nat) : Nat := match c with
  | 0 => 5
  | 1 => 3
  | 2 => 12
  | 3 => 12
  | 4 => 11
  | _ => 36
def kT (c : Nat) : u_T := match c with
  | 0 => TX0
  | 1 => TX1
  | 2 => TX2
  | 3 => TX3
  | 4 => TX4
  | _ => TX5
def kR (c : Nat) : String := match c with
  | 0 => RX0
  | 1 => RX1
  | 2 => RX2
  | 3 => RX3
  | 4 => RX4
  | _ => RX5
def kTy (c : Nat) : Nat → FieldType := match c with
  | 0 => tyX0
  | 1 => tyX1
  | 2 => tyX2
  | 3 => tyX3
  | 4 => tyX4
  | _ => tyX5
def kFE (own : String) (i ci j : Nat) : Prop := ci < 6 ∧ j < kN ci ∧ Cond.fieldLink own i (kT ci j).1 (kT ci j).2.1 (kT ci j).2.2.1 ∈ kTS
def kfv (Γ : kGm) (ω : kWd) (c k j : Nat) : Value := if kint c j = true then .int (ω.2.1 k j) else va_rf ((ω.2.2 k j).map (kad Γ))
def kfs (Γ : kGm) (ω : kWd) (c k : Nat) : List Value := (List.range (kN c)).map (kfv Γ ω c k)
def kent (Γ : kGm) (ω : kWd) (k : Nat) : va_E :=
  if (ksh k).1 = 10 then .inl (Γ.2.2.1 0, (ksh k).2, .inl (ω.2.1 k)) else
  if (ksh k).1 = 11 then .inl (Γ.2.2.1 1, (ksh k).2, .inl (ω.2.1 k)) else
  if (ksh k).1 = 12 then .inl (Γ.2.2.1 2, (ksh k).2, .inr (.inr (.inr (.inr (fun j => (ω.2.2 k j).map (kad Γ)))))) else
  .inr ((ksh k).1, kfs Γ ω (ksh k).1 k)
def kws (Γ : kGm) (ω : kWd) : va_W := (List.range (ω.1 - 1)).map (fun k => (kbs Γ + (k + 1), kent Γ ω (k + 1)))
def kRep (Γ : kGm) (ω : kWd) (H : Heap) : Prop := 0 < ω.1 ∧ (ω.1 < 74 → H.size = kbs Γ + ω.1) ∧ va_P Γ.2.1 vwCl (kws Γ ω) H
def sA (ω : kWd) (k : Nat) (f : Nat → Int32) : kWd := (ω.1, fun a => if a = k then f else ω.2.1 a, ω.2.2)
def sI (ω : kWd) (k j : Nat) (v : Int32) : kWd := sA ω k (upd (ω.2.1 k) j v)
def sP (ω : kWd) (k j : Nat) (p : Option Nat) : kWd := (ω.1, ω.2.1, fun a => if a = k then va_up (ω.2.2 k) j p else ω.2.2 a)
abbrev kN1 : Cond := .methodLinkNest RX4 31 yX2_init RX4
abbrev kN2 : Cond := .methodLinkNest RX4 65 yX1_init RX4
abbrev kN3 : Cond := .methodLinkNest RX3 63 yX4_wantsOf RX4
def kty (Γ : kGm) : List (ClassId × FieldType) := [(Γ.2.2.1 0, .int), (Γ.2.2.1 1, .boolean), (Γ.2.2.1 2, .object RX1)]
def kKS (Γ : kGm) (U : State) : Prop := va_K Γ.2.1 vwCl (kty Γ) U ∧ va_Nw kN1 U ∧ va_Nw kN2 U ∧ va_Nw kN3 U ∧ va_AO RX1 U
def kCx (Γ : kGm) (mi : kMI) (p : Program) (s : State) (m : MethodId) (args : Array Value) (meth : Method) (c : Code) : Prop :=
  p.tables.exec = Jvm.exec ∧ c.code = mi.2.1 ∧ meth.sig.returnType = mi.2.2.2.1 ∧ c.maxLocals = mi.2.2.1 ∧ s.vm.findClass mi.1 = some m.cls ∧ (∀ w ∈ kTS, w.before args s = true) ∧ meth.locks = false ∧ (mi.2.2.2.2 = "<init>" → meth.name = "<init>") ∧ kKS Γ s ∧ kbs Γ < s.heap.size ∧ (mi.1 = RL → va_X (kb Γ) (kLn Γ) (kxs Γ) s s.heap ∧ kb Γ < s.heap.size ∧ kb Γ ≤ kbs Γ)
def kLv (Γ : kGm) (nL : Nat) (L : List (Option Value)) (ls : Array Slot) : Prop := ls.size = nL ∧ lv_wf ls ∧ ∀ (k : Nat) (v : Value), L[k]? = some (some v) → ls[k]? = some (Slot.val (kcv Γ v))
def kG (Γ : kGm) (mi : kMI) (R : Room) (cs : Nat × Nat) (pc : Nat) (L : List (Option Value)) (st : List Value) (ω : kWd) (Z : kZ) : Prop :=
  ∀ (p : Program) (e : Env) (s : State) (m : MethodId) (args : Array Value) (below : List Frame) (meth : Method) (c : Code) (H : Heap) (locs : List Loc) (ls : Array Slot),
    kCx Γ mi p s m args meth c → kRep Γ ω H → va_S (kA Γ) s.heap H locs → kLv Γ mi.2.2.1 L ls → W p Γ.1 e R s m args below meth c H locs cs.1 cs.2 (Z below args s) (F0 m pc ls (st.map (kcv Γ)))
def kQc (Γ : kGm) (Q : Option Value → kWd → Prop) : Array Value → State → Outcome → State → Prop := fun _ st oc t => (∃ (r : Option Value) (ω : kWd), oc = .returned (r.map (kcv Γ)) ∧ Q r ω ∧ kRep Γ ω t.heap) ∧ va_F (kA Γ) st t
def kMZ (Γ : kGm) (R : Room) (Q : Option Value → kWd → Prop) : kZ := fun below args s => MQ below (kQc Γ Q) args s R.cells R.slots (kA Γ)
abbrev kWs (y : MethodName) (mi : kMI) : List Cond := Cond.code y mi.2.1 mi.2.2.1 mi.2.2.2.1 :: kTS
def kC (Γ : kGm) (y : MethodName) (mi : kMI) (R : Room) (as : List Value) (ω : kWd) (Q : Option Value → kWd → Prop) : Prop :=
  Met Γ.1 y (kWs y mi) R (va_Pc (as.map (kcv Γ)) (fun U => kRep Γ ω U.heap ∧ kKS Γ U)) (kQc Γ Q) R.cells R.slots (kA Γ)
abbrev kRm (d mc ms : Nat) : Room := { frames := d, cells := mc, slots := ms, locals := 40 * d }
/-! what the world's list is -/
theorem kws_len (Γ : kGm) (ω : kWd) : (kws Γ ω).length = ω.1 - 1 := by simp [kws]
theorem kws_at {Γ : kGm} {ω : kWd} {k : Nat} (h : 0 < k) (h2 : k < ω.1) : (kws Γ ω)[k - 1]? = some (kad Γ k, kent Γ ω k) := by
  have e : k - 1 + 1 = k := by omega
  have h3 : k - 1 < ω.1 - 1 := by omega
  simp [kws, List.getElem?_map, List.getElem?_range h3, e, kad, Nat.ne_of_gt h]
theorem kws_get {Γ : kGm} {ω : kWd} {i : Nat} {q : Nat × va_E} (h : (kws Γ ω)[i]? = some q) : i < ω.1 - 1 ∧ q = (kbs Γ + (i + 1), kent Γ ω (i + 1)) := by
  have hl : i < (kws Γ ω).length := (List.getElem?_eq_some_iff.mp h).1
  rw [kws_len] at hl
  refine ⟨hl, ?_⟩
  rw [kws, List.getElem?_map, List.getElem?_range hl] at h
  exact (Option.some.inj h).symm
theorem kws_D (Γ : kGm) (ω : kWd) : va_D (kA Γ) (kws Γ ω) := by
  refine ⟨fun i j p q hi hj hpq => ?_, fun k q hk => ?_⟩
  · obtain ⟨-, rfl⟩ := kws_get hi
    obtain ⟨-, rfl⟩ := kws_get hj
    simp only at hpq
    omega
  · obtain ⟨-, rfl⟩ := kws_get hk
    show kbs Γ < kbs Γ + (k + 1)
    omega
theorem kws_set {Γ : kGm} {ω ω' : kWd} {k : Nat} (h : 0 < k) (h2 : k < ω.1) (e1 : ω'.1 = ω.1) (e2 : ∀ a, a ≠ k → kent Γ ω' a = kent Γ ω a) : (kws Γ ω).set (k - 1) (kad Γ k, kent Γ ω' k) = kws Γ ω' := by
  apply List.ext_getElem?
  intro i
  by_cases hi : i = k - 1
  · subst hi
    rw [List.getElem?_set_self (by rw [kws_len]; omega), kws_at h (by rw [e1]; exact h2)]
  · rw [List.getElem?_set_ne (Ne.symm hi)]
    simp only [kws, List.getElem?_map, e1]
    by_cases hl : i < ω.1 - 1
    · rw [List.getElem?_range hl]
      simp only [Option.map_some]
      rw [e2 (i + 1) (by omega)]
    · rw [List.getElem?_eq_none (by simpa using hl)]
      rfl
theorem kent_off_sA {Γ : kGm} {ω : kWd} {k a : Nat} {f : Nat → Int32} (h : a ≠ k) : kent Γ (sA ω k f) a = kent Γ ω a := by
  have e : ∀ c, kfs Γ (sA ω k f) c a = kfs Γ ω c a := fun c => by
    unfold kfs
    congr 1
    funext j
    simp [kfv, sA, h]
  simp only [kent, e]
  simp [sA, h]
theorem kent_off_sP {Γ : kGm} {ω : kWd} {k a j : Nat} {p : Option Nat} (h : a ≠ k) : kent Γ (sP ω k j p) a = kent Γ ω a := by
  have e : ∀ c, kfs Γ (sP ω k j p) c a = kfs Γ ω c a := fun c => by
    unfold kfs
    congr 1
    funext i
    simp [kfv, sP, h]
  simp only [kent, e]
  simp [sP, h]
theorem kws_sA {Γ : kGm} {ω : kWd} {k : Nat} {f : Nat → Int32} (h : 0 < k) (h2 : k < ω.1) : (kws Γ ω).set (k - 1) (kad Γ k, kent Γ (sA ω k f) k) = kws Γ (sA ω k f) := kws_set h h2 rfl (fun _ ha => kent_off_sA ha)
theorem kws_sP {Γ : kGm} {ω : kWd} {k j : Nat} {p : Option Nat} (h : 0 < k) (h2 : k < ω.1) : (kws Γ ω).set (k - 1) (kad Γ k, kent Γ (sP ω k j p) k) = kws Γ (sP ω k j p) := kws_set h h2 rfl (fun _ ha => kent_off_sP ha)
theorem kent_obj {Γ : kGm} {ω : kWd} {k c : Nat} (h : (ksh k).1 = c) (hc : c < 6) : kent Γ ω k = .inr (c, kfs Γ ω c k) := by
  unfold kent
  rw [h, if_neg (by omega), if_neg (by omega), if_neg (by omega)]
theorem kent_i {Γ : kGm} {ω : kWd} {k n : Nat} (h : ksh k = (10, n)) : kent Γ ω k = .inl (Γ.2.2.1 0, n, .inl (ω.2.1 k)) := by
  unfold kent
  rw [h]; rfl
theorem kent_z {Γ : kGm} {ω : kWd} {k n : Nat} (h : ksh k = (11, n)) : kent Γ ω k = .inl (Γ.2.2.1 1, n, .inl (ω.2.1 k)) := by
  unfold kent
  rw [h]; rfl
theorem kent_q {Γ : kGm} {ω : kWd} {k n : Nat} (h : ksh k = (12, n)) : kent Γ ω k = .inl (Γ.2.2.1 2, n, .inr (.inr (.inr (.inr (fun j => (ω.2.2 k j).map (kad Γ)))))) := by
  unfold kent
  rw [h]; rfl
theorem kfs_get {Γ : kGm} {ω : kWd} {c k j : Nat} (h : j < kN c) : (kfs Γ ω c k)[j]? = some (kfv Γ ω c k j) := by
  simp [kfs, List.getElem?_map, List.getElem?_range h]
theorem kfs_len (Γ : kGm) (ω : kWd) (c k : Nat) : (kfs Γ ω c k).length = kN c := by simp [kfs]
theorem kfs_set {Γ : kGm} {ω ω' : kWd} {c k j : Nat} {v : Value} (h : j < kN c) (e : kfv Γ ω' c k j = v) (e2 : ∀ i, i ≠ j → kfv Γ ω' c k i = kfv Γ ω c k i) : (kfs Γ ω c k).set j v = kfs Γ ω' c k := by
  apply List.ext_getElem?
  intro i
  by_cases hi : i = j
  · subst hi
    rw [List.getElem?_set_self (by rw [kfs_len]; exact h), kfs_get h, e]
  · rw [List.getElem?_set_ne (Ne.symm hi)]
    simp only [kfs, List.getElem?_map]
    by_cases hl : i < kN c
    · rw [List.getElem?_range hl]
      simp only [Option.map_some]
      rw [e2 i hi]
    · rw [List.getElem?_eq_none (by simpa using hl)]
      rfl
theorem kfv_int {Γ : kGm} {ω : kWd} {c k j : Nat} (h : kint c j = true) : kfv Γ ω c k j = .int (ω.2.1 k j) := by simp [kfv, h]
theorem kfv_ref {Γ : kGm} {ω : kWd} {c k j : Nat} (h : kint c j = false) : kfv Γ ω c k j = va_rf ((ω.2.2 k j).map (kad Γ)) := by simp [kfv, h]
theorem kfs_sI {Γ : kGm} {ω : kWd} {c k j : Nat} {x : Int32} (h : j < kN c) (hi : kint c j = true) : (kfs Γ ω c k).set j (.int x) = kfs Γ (sI ω k j x) c k := by
  refine kfs_set h ?_ (fun i hij => ?_)
  · rw [kfv_int hi]; simp [sI, sA, upd]
  · simp [kfv, sI, sA, upd, hij]
theorem kfs_sP {Γ : kGm} {ω : kWd} {c k j i : Nat} (h : j < kN c) (hi : kint c j = false) : (kfs Γ ω c k).set j (.ref (kad Γ i)) = kfs Γ (sP ω k j (some i)) c k := by
  refine kfs_set h ?_ (fun a haj => ?_)
  · rw [kfv_ref hi]; simp [sP, va_up, va_rf]
  · simp [kfv, sP, va_up, haj]
/-! words -/
theorem kTS_good : ∀ w ∈ kTS, (w.onTables && w.keeps) = true ∨ ∃ ty, w = .arrayClass ty := fun w h => good_of_word (List.mem_filter.mp h).2
theorem kTS_i {w : Cond} (i : Nat) (h : lw_tbl[i]? = some w) (hg : goodWord w = true) : w ∈ kTS := List.mem_filter.mpr ⟨List.mem_of_getElem? h, hg⟩
theorem kGood_sub {ws : List Cond} (h : ∀ w ∈ ws, w ∈ kTS) : GoodIn kTS ws := fun w hw => ⟨h w hw, kTS_good w (h w hw)⟩
theorem kKS.warm {Γ : kGm} {s U : State} (h : kKS Γ s) (hW : s.WarmedH U.vm) : kKS Γ U := ⟨va_K.moved hW.alike h.1, va_Nw.warmM hW h.2.1, va_Nw.warmM hW h.2.2.1, va_Nw.warmM hW h.2.2.2.1, va_AO.moved hW.alike h.2.2.2.2⟩
theorem kKS.call {Γ : kGm} {U : State} {g : JFrame} {mk : MethodId} {a : Array Value} (h : kKS Γ U) : kKS Γ (U.calling g mk a) := ⟨va_K.moved (u := U) (U := U.calling g mk a) (Vm.Alike.refl U.vm) h.1, va_Nw.same rfl rfl h.2.1, va_Nw.same rfl rfl h.2.2.1, va_Nw.same rfl rfl h.2.2.2.1, va_AO.moved (u := U) (U := U.calling g mk a) (Vm.Alike.refl U.vm) h.2.2.2.2⟩
theorem kTS_l {ws : List Cond} (ps : List Nat) (h : ws = ps.filterMap (fun i => lw_tbl[i]?)) (hg : ws.all goodWord = true) : ∀ w ∈ ws, w ∈ kTS := fun w hw => by
  refine List.mem_filter.mpr ⟨?_, List.all_eq_true.mp hg w hw⟩
  rw [h] at hw
  obtain ⟨i, -, hi⟩ := List.mem_filterMap.mp hw
  exact List.mem_of_getElem? hi
theorem kin0 : ∀ w ∈ u_ws RX0 TX0 5, w ∈ kTS := kTS_l [93, 95, 97, 99, 101] (by decide +kernel) (by decide +kernel)
theorem kin1 : ∀ w ∈ u_ws RX1 TX1 3, w ∈ kTS := kTS_l [223, 225, 227] (by decide +kernel) (by decide +kernel)
theorem kin2 : ∀ w ∈ u_ws RX2 TX2 12, w ∈ kTS := kTS_l [141, 143, 145, 147, 149, 151, 153, 155, 157, 159, 161, 163] (by decide +kernel) (by decide +kernel)
theorem kin3 : ∀ w ∈ u_ws RX3 TX3 12, w ∈ kTS := kTS_l [188, 190, 192, 194, 196, 198, 200, 202, 204, 206, 208, 210] (by decide +kernel) (by decide +kernel)
theorem kin4 : ∀ w ∈ u_ws RX4 TX4 11, w ∈ kTS := kTS_l [241, 243, 245, 247, 249, 251, 253, 255, 257, 259, 261] (by decide +kernel) (by decide +kernel)
theorem kin5 : ∀ w ∈ u_ws RX5 TX5 36, w ∈ kTS := kTS_l [713, 715, 717, 719, 721, 723, 725, 727, 729, 731, 733, 735, 737, 739, 741, 743, 745, 747, 749, 751, 753, 755, 757, 759, 761, 763, 765, 767, 769, 771, 773, 775, 777, 779, 781, 783] (by decide +kernel) (by decide +kernel)
theorem kcl {ci : Nat} (h : ci < 6) : vwCl[ci]? = some (kR ci, kT ci, kN ci) ∧ (∀ w ∈ u_ws (kR ci) (kT ci) (kN ci), w ∈ kTS) ∧ (∀ k, k < kN ci → parseFieldDescriptor (kT ci k).2.2.1 = some (kTy ci k)) ∧ (∀ a, a < kN ci → ∀ b, b < kN ci → a ≠ b → (kT ci a).2.1 ≠ (kT ci b).2.1) := by
  match ci, h with
  | 0, _ => exact ⟨rfl, kin0, tyX0_ok, nmX0⟩
  | 1, _ => exact ⟨rfl, kin1, tyX1_ok, nmX1⟩
  | 2, _ => exact ⟨rfl, kin2, tyX2_ok, nmX2⟩
  | 3, _ => exact ⟨rfl, kin3, tyX3_ok, nmX3⟩
  | 4, _ => exact ⟨rfl, kin4, tyX4_ok, nmX4⟩
  | 5, _ => exact ⟨rfl, kin5, tyX5_ok, nmX5⟩
theorem kmax_s : Cond.static Lib.Math.max.name ∈ kTS := kTS_i 85 (by decide +kernel) (by decide +kernel)
theorem kmin_s : Cond.static Lib.Math.min.name ∈ kTS := kTS_i 429 (by decide +kernel) (by decide +kernel)
theorem kmath_i : Cond.initialized "java/lang/Math" ∈ kTS := kTS_i 60 (by decide +kernel) (by decide +kernel)
theorem kmax_c : Cond.code Lib.Math.max.name Lib.Math.max.code 2 (some .int) ∈ kTS := kTS_i 86 (by decide +kernel) (by decide +kernel)
theorem kmin_c : Cond.code Lib.Math.min.name Lib.Math.min.code 2 (some .int) ∈ kTS := kTS_i 430 (by decide +kernel) (by decide +kernel)
theorem kobj_i : Cond.instanceMethod objectInit ∈ kTS := kTS_i 74 (by decide +kernel) (by decide +kernel)
theorem kobj_c : Cond.code objectInit ⟨#[0xb1]⟩ 1 none ∈ kTS := kTS_i 75 (by decide +kernel) (by decide +kernel)
theorem karr_i : Cond.arrayClass .int ∈ kTS := kTS_i 104 (by decide +kernel) (by decide +kernel)
theorem karr_z : Cond.arrayClass .boolean ∈ kTS := kTS_i 786 (by decide +kernel) (by decide +kernel)
theorem kcopy_n : Cond.native arraycopyName ∈ kTS := kTS_i 630 (by decide +kernel) (by decide +kernel)
theorem kcopy_s : Cond.static arraycopyName ∈ kTS := kTS_i 629 (by decide +kernel) (by decide +kernel)
theorem kcopy_i : Cond.initialized "java/lang/System" ∈ kTS := kTS_i 67 (by decide +kernel) (by decide +kernel)
/-! locals by their places -/
theorem kcv_cat (Γ : kGm) (v : Value) : (kcv Γ v).category = v.category := by cases v <;> rfl
def kok (L : List (Option Value)) (i : Nat) : Bool := match i with
  | 0 => true
  | i + 1 => match L[i]? with
    | some (some v) => v.category == 1
    | _ => true
def kLl (Γ : kGm) (L : List (Option Value)) : List (Nat × Value) := (List.range L.length).filterMap (fun k => (L[k]?.join).map (fun v => (k, kcv Γ v)))
theorem kLl_mem {Γ : kGm} {L : List (Option Value)} {q : Nat × Value} : q ∈ kLl Γ L ↔ ∃ v, L[q.1]? = some (some v) ∧ q.2 = kcv Γ v := by
  constructor
  · intro h
    obtain ⟨k, hk, e⟩ := List.mem_filterMap.mp h
    cases hL : L[k]? with
    | none => rw [hL] at e; cases e
    | some o =>
      cases o with
      | none => rw [hL] at e; cases e
      | some v =>
        rw [hL] at e
        obtain rfl := Option.some.inj e
        exact ⟨v, hL, rfl⟩
  · rintro ⟨v, h1, h2⟩
    refine List.mem_filterMap.mpr ⟨q.1, List.mem_range.mpr (List.getElem?_eq_some_iff.mp h1).1, ?_⟩
    rw [h1]
    show some (q.1, kcv Γ v) = some q
    rw [← h2]
theorem kLl_get {Γ : kGm} {L : List (Option Value)} {i : Nat} {x : Int32} (h : L[i]? = some (some (.int x))) : ∃ j : Nat, (kLl Γ L)[j]? = some (i, Value.int x) := List.getElem?_of_mem (kLl_mem.mpr ⟨_, h, rfl⟩)
theorem kLv_has {Γ : kGm} {nL : Nat} {L : List (Option Value)} {ls : Array Slot} (V : kLv Γ nL L ls) : lv_has ls nL (kLl Γ L) := ⟨V.1, V.2.1, fun q hq => by
  obtain ⟨v, h1, h2⟩ := kLl_mem.mp hq
  rw [h2]
  exact V.2.2 _ _ h1⟩
theorem kok_use {L : List (Option Value)} {i k : Nat} {v : Value} (h : kok L i = true) (hk : k + 1 = i) (hv : L[k]? = some (some v)) : v.category = 1 := by
  subst hk
  simp only [kok, hv] at h
  simpa using h
theorem kLv_set1 {Γ : kGm} {nL i : Nat} {L : List (Option Value)} {ls ls' : Array Slot} {x : Value} {y : Value} (V : kLv Γ nL L ls) (hxy : kcv Γ x = y) (ho : kok L i = true) (h : lv_has ls' nL ((i, y) :: (kLl Γ L).filter (fun q => !(q.1 == i) && !(q.1 + 1 == i && q.2.category == 2)))) : kLv Γ nL (L.set i (some x)) ls' := by
  refine ⟨h.1, h.2.1, fun k v hk => ?_⟩
  by_cases hki : k = i
  · subst hki
    have hl : k < (L.set k (some x)).length := (List.getElem?_eq_some_iff.mp hk).1
    rw [List.length_set] at hl
    rw [List.getElem?_set_self hl] at hk
    cases hk
    rw [hxy]
    exact h.2.2 (k, y) List.mem_cons_self
  · rw [List.getElem?_set_ne (Ne.symm hki)] at hk
    refine h.2.2 (k, kcv Γ v) (List.mem_cons_of_mem _ (List.mem_filter.mpr ⟨kLl_mem.mpr ⟨v, hk, rfl⟩, ?_⟩))
    have h2 : ¬ (k + 1 = i ∧ (kcv Γ v).category = 2) := by
      rintro ⟨a, b⟩
      rw [kcv_cat, kok_use ho a hk] at b
      cases b
    simp only [Bool.and_eq_true, Bool.not_eq_true', beq_eq_false_iff_ne, ne_eq]
    refine ⟨hki, ?_⟩
    rw [Bool.and_eq_false_iff]
    by_cases ha : k + 1 = i
    · exact Or.inr (by simp only [beq_eq_false_iff_ne, ne_eq]; exact fun b => h2 ⟨ha, b⟩)
    · exact Or.inl (by simp only [beq_eq_false_iff_ne, ne_eq]; exact ha)
theorem kLv_set2 {Γ : kGm} {nL i : Nat} {L : List (Option Value)} {ls ls' : Array Slot} {x : Int64} (V : kLv Γ nL L ls) (ho : kok L i = true) (h : lv_has ls' nL ((i, .long x) :: (kLl Γ L).filter (fun q => !(q.1 == i) && (!(q.1 == i + 1) && !(q.1 + 1 == i && q.2.category == 2))))) : kLv Γ nL ((L.set i (some (.long x))).set (i + 1) none) ls' := by
  refine ⟨h.1, h.2.1, fun k v hk => ?_⟩
  by_cases hk1 : k = i + 1
  · subst hk1
    have hl : i + 1 < ((L.set i (some (.long x))).set (i + 1) none).length := (List.getElem?_eq_some_iff.mp hk).1
    rw [List.length_set] at hl
    rw [List.getElem?_set_self hl] at hk
    cases hk
  · rw [List.getElem?_set_ne (Ne.symm hk1)] at hk
    by_cases hki : k = i
    · subst hki
      have hl : k < (L.set k (some (Value.long x))).length := (List.getElem?_eq_some_iff.mp hk).1
      rw [List.length_set] at hl
      rw [List.getElem?_set_self hl] at hk
      cases hk
      exact h.2.2 (k, .long x) List.mem_cons_self
    · rw [List.getElem?_set_ne (Ne.symm hki)] at hk
      refine h.2.2 (k, kcv Γ v) (List.mem_cons_of_mem _ (List.mem_filter.mpr ⟨kLl_mem.mpr ⟨v, hk, rfl⟩, ?_⟩))
      have h2 : ¬ (k + 1 = i ∧ (kcv Γ v).category = 2) := by
        rintro ⟨a, b⟩
        rw [kcv_cat, kok_use ho a hk] at b
        cases b
      simp only [Bool.and_eq_true, Bool.not_eq_true', beq_eq_false_iff_ne, ne_eq]
      refine ⟨hki, hk1, ?_⟩
      rw [Bool.and_eq_false_iff]
      by_cases ha : k + 1 = i
      · exact Or.inr (by simp only [beq_eq_false_iff_ne, ne_eq]; exact fun b => h2 ⟨ha, b⟩)
      · exact Or.inl (by simp only [beq_eq_false_iff_ne, ne_eq]; exact ha)
/-- L' knows no more than L -/
def kLe : List (Option Value) → List (Option Value) → Prop
  | [], _ => True
  | none :: a, _ :: b => kLe a b
  | some v :: a, x :: b => x = some v ∧ kLe a b
  | none :: a, [] => kLe a []
  | some _ :: _, [] => False
theorem kLe_get : ∀ {L' L : List (Option Value)} (_ : kLe L' L) {k : Nat} {v : Value}, L'[k]? = some (some v) → L[k]? = some (some v)
  | [], _, _, k, v, hk => by simp at hk
  | none :: a, x :: b, h, 0, v, hk => by simp at hk
  | none :: a, x :: b, h, k + 1, v, hk => by
    rw [List.getElem?_cons_succ] at hk ⊢
    exact kLe_get (L' := a) (L := b) h hk
  | some w :: a, x :: b, h, 0, v, hk => by
    rw [List.getElem?_cons_zero] at hk ⊢
    cases hk
    rw [h.1]
  | some w :: a, x :: b, h, k + 1, v, hk => by
    rw [List.getElem?_cons_succ] at hk ⊢
    exact kLe_get (L' := a) (L := b) h.2 hk
  | none :: a, [], h, 0, v, hk => by simp at hk
  | none :: a, [], h, k + 1, v, hk => by
    rw [List.getElem?_cons_succ] at hk
    have := kLe_get (L' := a) (L := []) h hk
    simp at this
/-- the locals with which a method begins -/
def kEnA : List Value → List (Option Value)
  | [] => []
  | v :: vs => if v.category = 2 then some v :: none :: kEnA vs else some v :: kEnA vs
def kEn (n : Nat) (vs : List Value) : List (Option Value) := kEnA vs ++ List.replicate (n - (kEnA vs).length) none
theorem kEnA_args (Γ : kGm) : ∀ (vs : List Value) (i k : Nat) (v : Value), (kEnA vs)[k]? = some (some v) → (i + k, kcv Γ v) ∈ lv_args i (vs.map (kcv Γ))
  | [], i, k, v, h => by simp [kEnA] at h
  | w :: vs, i, k, v, h => by
    simp only [kEnA] at h
    simp only [List.map_cons, lv_args, kcv_cat]
    by_cases hc : w.category = 2
    · rw [if_pos hc] at h ⊢
      match k, h with
      | 0, h =>
        rw [List.getElem?_cons_zero] at h
        cases h
        exact List.mem_cons_self
      | 1, h =>
        rw [List.getElem?_cons_succ, List.getElem?_cons_zero] at h
        cases h
      | k + 2, h =>
        rw [List.getElem?_cons_succ, List.getElem?_cons_succ] at h
        have := kEnA_args Γ vs (i + 2) k v h
        rw [show i + (k + 2) = i + 2 + k by omega]
        exact List.mem_cons_of_mem _ this
    · rw [if_neg hc] at h ⊢
      match k, h with
      | 0, h =>
        rw [List.getElem?_cons_zero] at h
        cases h
        exact List.mem_cons_self
      | k + 1, h =>
        rw [List.getElem?_cons_succ] at h
        have := kEnA_args Γ vs (i + 1) k v h
        rw [show i + (k + 1) = i + 1 + k by omega]
        exact List.mem_cons_of_mem _ this
theorem kEnA_len (Γ : kGm) : ∀ (vs : List Value), (lg_sl (vs.map (kcv Γ))).length = (kEnA vs).length
  | [] => rfl
  | w :: vs => by
    have ih := kEnA_len Γ vs
    simp only [lg_sl, List.map_cons, List.flatMap_cons, List.length_append, kcv_cat, kEnA] at ih ⊢
    by_cases hc : w.category = 2
    · rw [if_pos hc, if_pos hc]
      simp only [List.length_cons, List.length_nil]
      omega
    · rw [if_neg hc, if_neg hc]
      simp only [List.length_cons, List.length_nil]
      omega
theorem kEn_get {n : Nat} {vs : List Value} {k : Nat} {v : Value} (h : (kEn n vs)[k]? = some (some v)) : (kEnA vs)[k]? = some (some v) := by
  unfold kEn at h
  by_cases hl : k < (kEnA vs).length
  · rwa [List.getElem?_append_left hl] at h
  · rw [List.getElem?_append_right (by omega)] at h
    have := List.eq_of_mem_replicate (List.mem_of_getElem? h)
    cases this
section KR
variable {Γ : kGm} {mi : kMI} {R : Room} {cs : Nat × Nat} {pc : Nat} {L : List (Option Value)} {st : List Value} {ω : kWd} {Z : kZ}
theorem kG.iconst {n : Int} {v : Int32} (pc' : Nat) (hd : decode mi.2.1 pc = .ok (.iconst n, 1)) (hv : Int32.ofInt n = v) (hp : pc + 1 = pc') (kk : kG Γ mi R cs pc' L (.int v :: st) ω Z) : kG Γ mi R cs pc L st ω Z := by
  intro p e s m args below meth c H locs ls C P S V
  exact lv_iconst C.1 C.2.1 hd hv (by subst hp; exact kk p e s m args below meth c H locs ls C P S V)
theorem kG.bipush {n : Int} {v : Int32} (pc' : Nat) (hd : decode mi.2.1 pc = .ok (.bipush n, 2)) (hv : (Int8.ofInt n).toInt32 = v) (hp : pc + 2 = pc') (kk : kG Γ mi R cs pc' L (.int v :: st) ω Z) : kG Γ mi R cs pc L st ω Z := by
  intro p e s m args below meth c H locs ls C P S V
  exact lv_bipush C.1 C.2.1 hd hv (by subst hp; exact kk p e s m args below meth c H locs ls C P S V)
theorem kG.sipush {n : Int} {v : Int32} (pc' : Nat) (hd : decode mi.2.1 pc = .ok (.sipush n, 3)) (hv : (Int16.ofInt n).toInt32 = v) (hp : pc + 3 = pc') (kk : kG Γ mi R cs pc' L (.int v :: st) ω Z) : kG Γ mi R cs pc L st ω Z := by
  intro p e s m args below meth c H locs ls C P S V
  exact lv_sipush C.1 C.2.1 hd hv (by subst hp; exact kk p e s m args below meth c H locs ls C P S V)
theorem kG.lconst {n : Fin 2} {v : Int64} (pc' : Nat) (hd : decode mi.2.1 pc = .ok (.lconst n, 1)) (hv : Int64.ofNat (n : Nat) = v) (hp : pc + 1 = pc') (kk : kG Γ mi R cs pc' L (.long v :: st) ω Z) : kG Γ mi R cs pc L st ω Z := by
  intro p e s m args below meth c H locs ls C P S V
  exact lv_lconst C.1 C.2.1 hd hv (by subst hp; exact kk p e s m args below meth c H locs ls C P S V)
theorem kG.ldc2 {i : Nat} {v : Int64} (pc' : Nat) (hd : decode mi.2.1 pc = .ok (.ldc2_w i, 3)) (hc : Cond.constantLong mi.1 i v ∈ kTS) (hp : pc + 3 = pc') (kk : kG Γ mi R cs pc' L (.long v :: st) ω Z) : kG Γ mi R cs pc L st ω Z := by
  intro p e s m args below meth c H locs ls C P S V
  exact lv_ldc2 C.1 C.2.1 C.2.2.2.2.1 (C.2.2.2.2.2.1 _ hc) hd (by subst hp; exact kk p e s m args below meth c H locs ls C P S V)
theorem kG.ldcw {i : Nat} {v : Int32} (pc' : Nat) (hd : decode mi.2.1 pc = .ok (.ldc_w i, 3)) (hc : Cond.constant mi.1 i v ∈ kTS) (hp : pc + 3 = pc') (kk : kG Γ mi R cs pc' L (.int v :: st) ω Z) : kG Γ mi R cs pc L st ω Z := by
  intro p e s m args below meth c H locs ls C P S V
  exact lv_ldcw C.1 C.2.1 C.2.2.2.2.1 (C.2.2.2.2.2.1 _ hc) hd (by subst hp; exact kk p e s m args below meth c H locs ls C P S V)
theorem kG.iload_n {k : Fin 4} {x : Int32} (pc' : Nat) (hd : decode mi.2.1 pc = .ok (.iload_n k, 1)) (hl : L[(k : Nat)]? = some (some (.int x))) (hp : pc + 1 = pc') (kk : kG Γ mi R cs pc' L (.int x :: st) ω Z) : kG Γ mi R cs pc L st ω Z := by
  intro p e s m args below meth c H locs ls C P S V
  exact lv_iload_n C.1 C.2.1 hd rfl (V.2.2 _ _ hl) (by subst hp; exact kk p e s m args below meth c H locs ls C P S V)
theorem kG.iload {i : Nat} {x : Int32} (pc' : Nat) (hd : decode mi.2.1 pc = .ok (.iload i, 2)) (hl : L[i]? = some (some (.int x))) (hp : pc + 2 = pc') (kk : kG Γ mi R cs pc' L (.int x :: st) ω Z) : kG Γ mi R cs pc L st ω Z := by
  intro p e s m args below meth c H locs ls C P S V
  exact lv_iload C.1 C.2.1 hd (V.2.2 _ _ hl) (by subst hp; exact kk p e s m args below meth c H locs ls C P S V)
theorem kG.lload_n {k : Fin 4} {x : Int64} (pc' : Nat) (hd : decode mi.2.1 pc = .ok (.lload_n k, 1)) (hl : L[(k : Nat)]? = some (some (.long x))) (hp : pc + 1 = pc') (kk : kG Γ mi R cs pc' L (.long x :: st) ω Z) : kG Γ mi R cs pc L st ω Z := by
  intro p e s m args below meth c H locs ls C P S V
  exact lv_lload_n C.1 C.2.1 hd rfl (V.2.2 _ _ hl) (by subst hp; exact kk p e s m args below meth c H locs ls C P S V)
theorem kG.lload {i : Nat} {x : Int64} (pc' : Nat) (hd : decode mi.2.1 pc = .ok (.lload i, 2)) (hl : L[i]? = some (some (.long x))) (hp : pc + 2 = pc') (kk : kG Γ mi R cs pc' L (.long x :: st) ω Z) : kG Γ mi R cs pc L st ω Z := by
  intro p e s m args below meth c H locs ls C P S V
  exact lv_lload C.1 C.2.1 hd (V.2.2 _ _ hl) (by subst hp; exact kk p e s m args below meth c H locs ls C P S V)
theorem kG.aload_n {k : Fin 4} {x : Nat} (pc' : Nat) (hd : decode mi.2.1 pc = .ok (.aload_n k, 1)) (hl : L[(k : Nat)]? = some (some (.ref x))) (hp : pc + 1 = pc') (kk : kG Γ mi R cs pc' L (.ref x :: st) ω Z) : kG Γ mi R cs pc L st ω Z := by
  intro p e s m args below meth c H locs ls C P S V
  exact lv_aload_n C.1 C.2.1 hd rfl (V.2.2 _ _ hl) (by subst hp; exact kk p e s m args below meth c H locs ls C P S V)
theorem kG.aload {i : Nat} {x : Nat} (pc' : Nat) (hd : decode mi.2.1 pc = .ok (.aload i, 2)) (hl : L[i]? = some (some (.ref x))) (hp : pc + 2 = pc') (kk : kG Γ mi R cs pc' L (.ref x :: st) ω Z) : kG Γ mi R cs pc L st ω Z := by
  intro p e s m args below meth c H locs ls C P S V
  exact lv_aload C.1 C.2.1 hd (V.2.2 _ _ hl) (by subst hp; exact kk p e s m args below meth c H locs ls C P S V)
theorem kG.istore_n {k : Fin 4} {x : Int32} (pc' : Nat) (hd : decode mi.2.1 pc = .ok (.istore_n k, 1)) (hn : (k : Nat) < mi.2.2.1) (ho : kok L k = true) (hp : pc + 1 = pc') (kk : kG Γ mi R cs pc' (L.set k (some (.int x))) st ω Z) : kG Γ mi R cs pc L (.int x :: st) ω Z := by
  intro p e s m args below meth c H locs ls C P S V
  refine lv_istore_n (x := x) C.1 C.2.1 hd rfl (kLv_has V) hn rfl (fun ls' hl => ?_)
  subst hp
  exact kk p e s m args below meth c H locs ls' C P S (kLv_set1 V rfl ho hl)
theorem kG.istore {i : Nat} {x : Int32} (pc' : Nat) (hd : decode mi.2.1 pc = .ok (.istore i, 2)) (hn : i < mi.2.2.1) (ho : kok L i = true) (hp : pc + 2 = pc') (kk : kG Γ mi R cs pc' (L.set i (some (.int x))) st ω Z) : kG Γ mi R cs pc L (.int x :: st) ω Z := by
  intro p e s m args below meth c H locs ls C P S V
  refine lv_istore (x := x) C.1 C.2.1 hd (kLv_has V) hn rfl (fun ls' hl => ?_)
  subst hp
  exact kk p e s m args below meth c H locs ls' C P S (kLv_set1 V rfl ho hl)
theorem kG.astore_n {k : Fin 4} {x : Nat} (pc' : Nat) (hd : decode mi.2.1 pc = .ok (.astore_n k, 1)) (hn : (k : Nat) < mi.2.2.1) (ho : kok L k = true) (hp : pc + 1 = pc') (kk : kG Γ mi R cs pc' (L.set k (some (.ref x))) st ω Z) : kG Γ mi R cs pc L (.ref x :: st) ω Z := by
  intro p e s m args below meth c H locs ls C P S V
  refine lv_astore_n (x := (kad Γ x)) C.1 C.2.1 hd rfl (kLv_has V) hn rfl (fun ls' hl => ?_)
  subst hp
  exact kk p e s m args below meth c H locs ls' C P S (kLv_set1 V rfl ho hl)
theorem kG.astore {i : Nat} {x : Nat} (pc' : Nat) (hd : decode mi.2.1 pc = .ok (.astore i, 2)) (hn : i < mi.2.2.1) (ho : kok L i = true) (hp : pc + 2 = pc') (kk : kG Γ mi R cs pc' (L.set i (some (.ref x))) st ω Z) : kG Γ mi R cs pc L (.ref x :: st) ω Z := by
  intro p e s m args below meth c H locs ls C P S V
  refine lv_astore (x := (kad Γ x)) C.1 C.2.1 hd (kLv_has V) hn rfl (fun ls' hl => ?_)
  subst hp
  exact kk p e s m args below meth c H locs ls' C P S (kLv_set1 V rfl ho hl)
theorem kG.lstore_n {k : Fin 4} {x : Int64} (pc' : Nat) (hd : decode mi.2.1 pc = .ok (.lstore_n k, 1)) (hn : (k : Nat) + 1 < mi.2.2.1) (ho : kok L k = true) (hp : pc + 1 = pc') (kk : kG Γ mi R cs pc' ((L.set k (some (.long x))).set (k + 1) none) st ω Z) : kG Γ mi R cs pc L (.long x :: st) ω Z := by
  intro p e s m args below meth c H locs ls C P S V
  refine lv_lstore_n (x := x) C.1 C.2.1 hd rfl (kLv_has V) hn rfl (fun ls' hl => ?_)
  subst hp
  exact kk p e s m args below meth c H locs ls' C P S (kLv_set2 V ho hl)
theorem kG.lstore {i : Nat} {x : Int64} (pc' : Nat) (hd : decode mi.2.1 pc = .ok (.lstore i, 2)) (hn : i + 1 < mi.2.2.1) (ho : kok L i = true) (hp : pc + 2 = pc') (kk : kG Γ mi R cs pc' ((L.set i (some (.long x))).set (i + 1) none) st ω Z) : kG Γ mi R cs pc L (.long x :: st) ω Z := by
  intro p e s m args below meth c H locs ls C P S V
  refine lv_lstore (x := x) C.1 C.2.1 hd (kLv_has V) hn rfl (fun ls' hl => ?_)
  subst hp
  exact kk p e s m args below meth c H locs ls' C P S (kLv_set2 V ho hl)
theorem kG.iinc {i : Nat} {n : Int} {x v : Int32} (pc' : Nat) (hd : decode mi.2.1 pc = .ok (.iinc i n, 3)) (hl : L[i]? = some (some (.int x))) (hv : x + Int32.ofInt n = v) (hn : i < mi.2.2.1) (ho : kok L i = true) (hp : pc + 3 = pc') (kk : kG Γ mi R cs pc' (L.set i (some (.int v))) st ω Z) : kG Γ mi R cs pc L st ω Z := by
  intro p e s m args below meth c H locs ls C P S V
  obtain ⟨j, hj⟩ := kLl_get (Γ := Γ) hl
  refine lv_iinc (x := x) (v := v) C.1 C.2.1 hd (kLv_has V) hj hv hn rfl (fun ls' hl => ?_)
  subst hp
  exact kk p e s m args below meth c H locs ls' C P S (kLv_set1 (x := .int v) V rfl ho hl)
theorem kG.iadd {x y : Int32} (pc' : Nat) (hd : decode mi.2.1 pc = .ok (.iadd, 1)) (hp : pc + 1 = pc') (kk : kG Γ mi R cs pc' L (.int (x + y) :: st) ω Z) : kG Γ mi R cs pc L (.int y :: .int x :: st) ω Z := by
  intro p e s m args below meth c H locs ls C P S V
  exact lv_iadd C.1 C.2.1 hd (by subst hp; exact kk p e s m args below meth c H locs ls C P S V)
theorem kG.isub {x y : Int32} (pc' : Nat) (hd : decode mi.2.1 pc = .ok (.isub, 1)) (hp : pc + 1 = pc') (kk : kG Γ mi R cs pc' L (.int (x - y) :: st) ω Z) : kG Γ mi R cs pc L (.int y :: .int x :: st) ω Z := by
  intro p e s m args below meth c H locs ls C P S V
  exact lv_isub C.1 C.2.1 hd (by subst hp; exact kk p e s m args below meth c H locs ls C P S V)
theorem kG.imul {x y : Int32} (pc' : Nat) (hd : decode mi.2.1 pc = .ok (.imul, 1)) (hp : pc + 1 = pc') (kk : kG Γ mi R cs pc' L (.int (x * y) :: st) ω Z) : kG Γ mi R cs pc L (.int y :: .int x :: st) ω Z := by
  intro p e s m args below meth c H locs ls C P S V
  exact lv_imul C.1 C.2.1 hd (by subst hp; exact kk p e s m args below meth c H locs ls C P S V)
theorem kG.iand {x y : Int32} (pc' : Nat) (hd : decode mi.2.1 pc = .ok (.iand, 1)) (hp : pc + 1 = pc') (kk : kG Γ mi R cs pc' L (.int (x &&& y) :: st) ω Z) : kG Γ mi R cs pc L (.int y :: .int x :: st) ω Z := by
  intro p e s m args below meth c H locs ls C P S V
  exact lv_iand C.1 C.2.1 hd (by subst hp; exact kk p e s m args below meth c H locs ls C P S V)
theorem kG.ior {x y : Int32} (pc' : Nat) (hd : decode mi.2.1 pc = .ok (.ior, 1)) (hp : pc + 1 = pc') (kk : kG Γ mi R cs pc' L (.int (x ||| y) :: st) ω Z) : kG Γ mi R cs pc L (.int y :: .int x :: st) ω Z := by
  intro p e s m args below meth c H locs ls C P S V
  exact lv_ior C.1 C.2.1 hd (by subst hp; exact kk p e s m args below meth c H locs ls C P S V)
theorem kG.ixor {x y : Int32} (pc' : Nat) (hd : decode mi.2.1 pc = .ok (.ixor, 1)) (hp : pc + 1 = pc') (kk : kG Γ mi R cs pc' L (.int (x ^^^ y) :: st) ω Z) : kG Γ mi R cs pc L (.int y :: .int x :: st) ω Z := by
  intro p e s m args below meth c H locs ls C P S V
  exact lv_ixor C.1 C.2.1 hd (by subst hp; exact kk p e s m args below meth c H locs ls C P S V)
theorem kG.ishl {x y : Int32} (pc' : Nat) (hd : decode mi.2.1 pc = .ok (.ishl, 1)) (hp : pc + 1 = pc') (kk : kG Γ mi R cs pc' L (.int (x <<< (y &&& 31)) :: st) ω Z) : kG Γ mi R cs pc L (.int y :: .int x :: st) ω Z := by
  intro p e s m args below meth c H locs ls C P S V
  exact lv_ishl C.1 C.2.1 hd (by subst hp; exact kk p e s m args below meth c H locs ls C P S V)
theorem kG.ishr {x y : Int32} (pc' : Nat) (hd : decode mi.2.1 pc = .ok (.ishr, 1)) (hp : pc + 1 = pc') (kk : kG Γ mi R cs pc' L (.int (x >>> (y &&& 31)) :: st) ω Z) : kG Γ mi R cs pc L (.int y :: .int x :: st) ω Z := by
  intro p e s m args below meth c H locs ls C P S V
  exact lv_ishr C.1 C.2.1 hd (by subst hp; exact kk p e s m args below meth c H locs ls C P S V)
theorem kG.ladd {x y : Int64} (pc' : Nat) (hd : decode mi.2.1 pc = .ok (.ladd, 1)) (hp : pc + 1 = pc') (kk : kG Γ mi R cs pc' L (.long (x + y) :: st) ω Z) : kG Γ mi R cs pc L (.long y :: .long x :: st) ω Z := by
  intro p e s m args below meth c H locs ls C P S V
  exact lv_ladd C.1 C.2.1 hd (by subst hp; exact kk p e s m args below meth c H locs ls C P S V)
theorem kG.idiv {x y : Int32} (pc' : Nat) (hd : decode mi.2.1 pc = .ok (.idiv, 1)) (hp : pc + 1 = pc') (hne : ¬ y = 0) (kk : kG Γ mi R cs pc' L (.int (x / y) :: st) ω Z) : kG Γ mi R cs pc L (.int y :: .int x :: st) ω Z := by
  intro p e s m args below meth c H locs ls C P S V
  exact lv_idiv C.1 C.2.1 hd hne (by subst hp; exact kk p e s m args below meth c H locs ls C P S V)
theorem kG.irem {x y : Int32} (pc' : Nat) (hd : decode mi.2.1 pc = .ok (.irem, 1)) (hp : pc + 1 = pc') (hne : ¬ y = 0) (kk : kG Γ mi R cs pc' L (.int (x - x / y * y) :: st) ω Z) : kG Γ mi R cs pc L (.int y :: .int x :: st) ω Z := by
  intro p e s m args below meth c H locs ls C P S V
  exact lv_irem C.1 C.2.1 hd hne (by subst hp; exact kk p e s m args below meth c H locs ls C P S V)
theorem kG.ldiv {x y : Int64} (pc' : Nat) (hd : decode mi.2.1 pc = .ok (.ldiv, 1)) (hp : pc + 1 = pc') (hne : ¬ y = 0) (kk : kG Γ mi R cs pc' L (.long (x / y) :: st) ω Z) : kG Γ mi R cs pc L (.long y :: .long x :: st) ω Z := by
  intro p e s m args below meth c H locs ls C P S V
  exact lv_ldiv C.1 C.2.1 hd hne (by subst hp; exact kk p e s m args below meth c H locs ls C P S V)
theorem kG.lrem {x y : Int64} (pc' : Nat) (hd : decode mi.2.1 pc = .ok (.lrem, 1)) (hp : pc + 1 = pc') (hne : ¬ y = 0) (kk : kG Γ mi R cs pc' L (.long (x - x / y * y) :: st) ω Z) : kG Γ mi R cs pc L (.long y :: .long x :: st) ω Z := by
  intro p e s m args below meth c H locs ls C P S V
  exact lv_lrem C.1 C.2.1 hd hne (by subst hp; exact kk p e s m args below meth c H locs ls C P S V)
theorem kG.iushr {x y : Int32} (pc' : Nat) (hd : decode mi.2.1 pc = .ok (.iushr, 1)) (hp : pc + 1 = pc') (kk : kG Γ mi R cs pc' L (.int ((x.toUInt32 >>> (y.toUInt32 &&& Int32.toUInt32 31)).toInt32) :: st) ω Z) : kG Γ mi R cs pc L (.int y :: .int x :: st) ω Z := by
  intro p e s m args below meth c H locs ls C P S V
  exact lv_iushr C.1 C.2.1 hd rfl (by subst hp; exact kk p e s m args below meth c H locs ls C P S V)
theorem kG.lshl {x : Int64} {y : Int32} (pc' : Nat) (hd : decode mi.2.1 pc = .ok (.lshl, 1)) (hp : pc + 1 = pc') (kk : kG Γ mi R cs pc' L (.long (x <<< (y.toInt64 &&& 63)) :: st) ω Z) : kG Γ mi R cs pc L (.int y :: .long x :: st) ω Z := by
  intro p e s m args below meth c H locs ls C P S V
  exact lv_lshl C.1 C.2.1 hd rfl (by subst hp; exact kk p e s m args below meth c H locs ls C P S V)
theorem kG.lcmp {x y : Int64} (pc' : Nat) (hd : decode mi.2.1 pc = .ok (.lcmp, 1)) (hp : pc + 1 = pc') (kk : kG Γ mi R cs pc' L (.int (lg_cmp x y) :: st) ω Z) : kG Γ mi R cs pc L (.long y :: .long x :: st) ω Z := by
  intro p e s m args below meth c H locs ls C P S V
  exact W.lcmp C.1 C.2.1 hd (by subst hp; exact kk p e s m args below meth c H locs ls C P S V)
theorem kG.i2l {x : Int32} (pc' : Nat) (hd : decode mi.2.1 pc = .ok (.i2l, 1)) (hp : pc + 1 = pc') (kk : kG Γ mi R cs pc' L (.long x.toInt64 :: st) ω Z) : kG Γ mi R cs pc L (.int x :: st) ω Z := by
  intro p e s m args below meth c H locs ls C P S V
  exact lv_i2l C.1 C.2.1 hd rfl (by subst hp; exact kk p e s m args below meth c H locs ls C P S V)
theorem kG.i2b {x : Int32} (pc' : Nat) (hd : decode mi.2.1 pc = .ok (.i2b, 1)) (hp : pc + 1 = pc') (kk : kG Γ mi R cs pc' L (.int x.toInt8.toInt32 :: st) ω Z) : kG Γ mi R cs pc L (.int x :: st) ω Z := by
  intro p e s m args below meth c H locs ls C P S V
  exact lv_i2b C.1 C.2.1 hd rfl (by subst hp; exact kk p e s m args below meth c H locs ls C P S V)
theorem kG.i2s {x : Int32} (pc' : Nat) (hd : decode mi.2.1 pc = .ok (.i2s, 1)) (hp : pc + 1 = pc') (kk : kG Γ mi R cs pc' L (.int x.toInt16.toInt32 :: st) ω Z) : kG Γ mi R cs pc L (.int x :: st) ω Z := by
  intro p e s m args below meth c H locs ls C P S V
  exact lv_i2s C.1 C.2.1 hd rfl (by subst hp; exact kk p e s m args below meth c H locs ls C P S V)
theorem kG.dup {v : Value} (pc' : Nat) (hd : decode mi.2.1 pc = .ok (.dup, 1)) (hv : v.category = 1) (hp : pc + 1 = pc') (kk : kG Γ mi R cs pc' L (v :: v :: st) ω Z) : kG Γ mi R cs pc L (v :: st) ω Z := by
  intro p e s m args below meth c H locs ls C P S V
  exact lv_dup C.1 C.2.1 hd (by rw [kcv_cat]; exact hv) (by subst hp; exact kk p e s m args below meth c H locs ls C P S V)
theorem kG.dup_x1 {v w : Value} (pc' : Nat) (hd : decode mi.2.1 pc = .ok (.dup_x1, 1)) (hv : v.category = 1) (hw : w.category = 1) (hp : pc + 1 = pc') (kk : kG Γ mi R cs pc' L (v :: w :: v :: st) ω Z) : kG Γ mi R cs pc L (v :: w :: st) ω Z := by
  intro p e s m args below meth c H locs ls C P S V
  exact lv_dup_x1 C.1 C.2.1 hd (by rw [kcv_cat]; exact hv) (by rw [kcv_cat]; exact hw) (by subst hp; exact kk p e s m args below meth c H locs ls C P S V)
theorem kG.dup2 {v w : Value} (pc' : Nat) (hd : decode mi.2.1 pc = .ok (.dup2, 1)) (hv : v.category = 1) (hw : w.category = 1) (hp : pc + 1 = pc') (kk : kG Γ mi R cs pc' L (v :: w :: v :: w :: st) ω Z) : kG Γ mi R cs pc L (v :: w :: st) ω Z := by
  intro p e s m args below meth c H locs ls C P S V
  exact lv_dup2_11 C.1 C.2.1 hd (by rw [kcv_cat]; exact hv) (by rw [kcv_cat]; exact hw) (by subst hp; exact kk p e s m args below meth c H locs ls C P S V)
theorem kG.pop {v : Value} (pc' : Nat) (hd : decode mi.2.1 pc = .ok (.pop, 1)) (hv : v.category = 1) (hp : pc + 1 = pc') (kk : kG Γ mi R cs pc' L st ω Z) : kG Γ mi R cs pc L (v :: st) ω Z := by
  intro p e s m args below meth c H locs ls C P S V
  exact lv_pop C.1 C.2.1 hd (by rw [kcv_cat]; exact hv) (by subst hp; exact kk p e s m args below meth c H locs ls C P S V)
theorem kG.icmp_eq {x y : Int32} {off : Int} (tgt pc' : Nat) (hd : decode mi.2.1 pc = .ok (.if_icmp .eq off, 3)) (ht : (pc : Int) + off = (tgt : Int)) (hp : pc + 3 = pc') (kt : x = y → kG Γ mi R cs tgt L st ω Z) (kf : ¬ x = y → kG Γ mi R cs pc' L st ω Z) : kG Γ mi R cs pc L (.int y :: .int x :: st) ω Z := by
  intro p e s m args below meth c H locs ls C P S V
  subst hp
  exact lv_icmp_eq C.1 C.2.1 hd ht (fun h => kt h p e s m args below meth c H locs ls C P S V) (fun h => kf h p e s m args below meth c H locs ls C P S V)
theorem kG.if_eq {x : Int32} {off : Int} (tgt pc' : Nat) (hd : decode mi.2.1 pc = .ok (.ifCond .eq off, 3)) (ht : (pc : Int) + off = (tgt : Int)) (hp : pc + 3 = pc') (kt : x = 0 → kG Γ mi R cs tgt L st ω Z) (kf : ¬ x = 0 → kG Γ mi R cs pc' L st ω Z) : kG Γ mi R cs pc L (.int x :: st) ω Z := by
  intro p e s m args below meth c H locs ls C P S V
  subst hp
  exact lv_if_eq C.1 C.2.1 hd ht (fun h => kt h p e s m args below meth c H locs ls C P S V) (fun h => kf h p e s m args below meth c H locs ls C P S V)
theorem kG.icmp_ne {x y : Int32} {off : Int} (tgt pc' : Nat) (hd : decode mi.2.1 pc = .ok (.if_icmp .ne off, 3)) (ht : (pc : Int) + off = (tgt : Int)) (hp : pc + 3 = pc') (kt : ¬ x = y → kG Γ mi R cs tgt L st ω Z) (kf : x = y → kG Γ mi R cs pc' L st ω Z) : kG Γ mi R cs pc L (.int y :: .int x :: st) ω Z := by
  intro p e s m args below meth c H locs ls C P S V
  subst hp
  exact lv_icmp_ne C.1 C.2.1 hd ht (fun h => kt h p e s m args below meth c H locs ls C P S V) (fun h => kf h p e s m args below meth c H locs ls C P S V)
theorem kG.if_ne {x : Int32} {off : Int} (tgt pc' : Nat) (hd : decode mi.2.1 pc = .ok (.ifCond .ne off, 3)) (ht : (pc : Int) + off = (tgt : Int)) (hp : pc + 3 = pc') (kt : ¬ x = 0 → kG Γ mi R cs tgt L st ω Z) (kf : x = 0 → kG Γ mi R cs pc' L st ω Z) : kG Γ mi R cs pc L (.int x :: st) ω Z := by
  intro p e s m args below meth c H locs ls C P S V
  subst hp
  exact lv_if_ne C.1 C.2.1 hd ht (fun h => kt h p e s m args below meth c H locs ls C P S V) (fun h => kf h p e s m args below meth c H locs ls C P S V)
theorem kG.icmp_lt {x y : Int32} {off : Int} (tgt pc' : Nat) (hd : decode mi.2.1 pc = .ok (.if_icmp .lt off, 3)) (ht : (pc : Int) + off = (tgt : Int)) (hp : pc + 3 = pc') (kt : x < y → kG Γ mi R cs tgt L st ω Z) (kf : ¬ x < y → kG Γ mi R cs pc' L st ω Z) : kG Γ mi R cs pc L (.int y :: .int x :: st) ω Z := by
  intro p e s m args below meth c H locs ls C P S V
  subst hp
  exact lv_icmp_lt C.1 C.2.1 hd ht (fun h => kt h p e s m args below meth c H locs ls C P S V) (fun h => kf h p e s m args below meth c H locs ls C P S V)
theorem kG.if_lt {x : Int32} {off : Int} (tgt pc' : Nat) (hd : decode mi.2.1 pc = .ok (.ifCond .lt off, 3)) (ht : (pc : Int) + off = (tgt : Int)) (hp : pc + 3 = pc') (kt : x < 0 → kG Γ mi R cs tgt L st ω Z) (kf : ¬ x < 0 → kG Γ mi R cs pc' L st ω Z) : kG Γ mi R cs pc L (.int x :: st) ω Z := by
  intro p e s m args below meth c H locs ls C P S V
  subst hp
  exact lv_if_lt C.1 C.2.1 hd ht (fun h => kt h p e s m args below meth c H locs ls C P S V) (fun h => kf h p e s m args below meth c H locs ls C P S V)
theorem kG.icmp_ge {x y : Int32} {off : Int} (tgt pc' : Nat) (hd : decode mi.2.1 pc = .ok (.if_icmp .ge off, 3)) (ht : (pc : Int) + off = (tgt : Int)) (hp : pc + 3 = pc') (kt : y ≤ x → kG Γ mi R cs tgt L st ω Z) (kf : ¬ y ≤ x → kG Γ mi R cs pc' L st ω Z) : kG Γ mi R cs pc L (.int y :: .int x :: st) ω Z := by
  intro p e s m args below meth c H locs ls C P S V
  subst hp
  exact lv_icmp_ge C.1 C.2.1 hd ht (fun h => kt h p e s m args below meth c H locs ls C P S V) (fun h => kf h p e s m args below meth c H locs ls C P S V)
theorem kG.if_ge {x : Int32} {off : Int} (tgt pc' : Nat) (hd : decode mi.2.1 pc = .ok (.ifCond .ge off, 3)) (ht : (pc : Int) + off = (tgt : Int)) (hp : pc + 3 = pc') (kt : 0 ≤ x → kG Γ mi R cs tgt L st ω Z) (kf : ¬ 0 ≤ x → kG Γ mi R cs pc' L st ω Z) : kG Γ mi R cs pc L (.int x :: st) ω Z := by
  intro p e s m args below meth c H locs ls C P S V
  subst hp
  exact lv_if_ge C.1 C.2.1 hd ht (fun h => kt h p e s m args below meth c H locs ls C P S V) (fun h => kf h p e s m args below meth c H locs ls C P S V)
theorem kG.icmp_gt {x y : Int32} {off : Int} (tgt pc' : Nat) (hd : decode mi.2.1 pc = .ok (.if_icmp .gt off, 3)) (ht : (pc : Int) + off = (tgt : Int)) (hp : pc + 3 = pc') (kt : y < x → kG Γ mi R cs tgt L st ω Z) (kf : ¬ y < x → kG Γ mi R cs pc' L st ω Z) : kG Γ mi R cs pc L (.int y :: .int x :: st) ω Z := by
  intro p e s m args below meth c H locs ls C P S V
  subst hp
  exact lv_icmp_gt C.1 C.2.1 hd ht (fun h => kt h p e s m args below meth c H locs ls C P S V) (fun h => kf h p e s m args below meth c H locs ls C P S V)
theorem kG.if_gt {x : Int32} {off : Int} (tgt pc' : Nat) (hd : decode mi.2.1 pc = .ok (.ifCond .gt off, 3)) (ht : (pc : Int) + off = (tgt : Int)) (hp : pc + 3 = pc') (kt : 0 < x → kG Γ mi R cs tgt L st ω Z) (kf : ¬ 0 < x → kG Γ mi R cs pc' L st ω Z) : kG Γ mi R cs pc L (.int x :: st) ω Z := by
  intro p e s m args below meth c H locs ls C P S V
  subst hp
  exact lv_if_gt C.1 C.2.1 hd ht (fun h => kt h p e s m args below meth c H locs ls C P S V) (fun h => kf h p e s m args below meth c H locs ls C P S V)
theorem kG.icmp_le {x y : Int32} {off : Int} (tgt pc' : Nat) (hd : decode mi.2.1 pc = .ok (.if_icmp .le off, 3)) (ht : (pc : Int) + off = (tgt : Int)) (hp : pc + 3 = pc') (kt : x ≤ y → kG Γ mi R cs tgt L st ω Z) (kf : ¬ x ≤ y → kG Γ mi R cs pc' L st ω Z) : kG Γ mi R cs pc L (.int y :: .int x :: st) ω Z := by
  intro p e s m args below meth c H locs ls C P S V
  subst hp
  exact lv_icmp_le C.1 C.2.1 hd ht (fun h => kt h p e s m args below meth c H locs ls C P S V) (fun h => kf h p e s m args below meth c H locs ls C P S V)
theorem kG.if_le {x : Int32} {off : Int} (tgt pc' : Nat) (hd : decode mi.2.1 pc = .ok (.ifCond .le off, 3)) (ht : (pc : Int) + off = (tgt : Int)) (hp : pc + 3 = pc') (kt : x ≤ 0 → kG Γ mi R cs tgt L st ω Z) (kf : ¬ x ≤ 0 → kG Γ mi R cs pc' L st ω Z) : kG Γ mi R cs pc L (.int x :: st) ω Z := by
  intro p e s m args below meth c H locs ls C P S V
  subst hp
  exact lv_if_le C.1 C.2.1 hd ht (fun h => kt h p e s m args below meth c H locs ls C P S V) (fun h => kf h p e s m args below meth c H locs ls C P S V)
theorem kG.goto {off : Int} (tgt : Nat) (hd : decode mi.2.1 pc = .ok (.goto off, 3)) (ht : (pc : Int) + off = (tgt : Int)) (kk : kG Γ mi R cs tgt L st ω Z) : kG Γ mi R cs pc L st ω Z := by
  intro p e s m args below meth c H locs ls C P S V
  exact lv_goto C.1 C.2.1 hd ht (kk p e s m args below meth c H locs ls C P S V)
theorem kG.tableIn {dflt lo hi : Int} {offs : Array Int} {len : Nat} {x : Int32} {off : Int} (tgt : Nat) (hd : decode mi.2.1 pc = .ok (.tableswitch dflt lo hi offs, len)) (h1 : ¬ x.toInt < lo) (h2 : ¬ hi < x.toInt) (ho : offs[(x.toInt - lo).toNat]? = some off) (ht : (pc : Int) + off = (tgt : Int)) (kk : kG Γ mi R cs tgt L st ω Z) : kG Γ mi R cs pc L (.int x :: st) ω Z := by
  intro p e s m args below meth c H locs ls C P S V
  exact lv_tableIn C.1 C.2.1 hd h1 h2 ho ht (kk p e s m args below meth c H locs ls C P S V)
theorem kG.tableOut {dflt lo hi : Int} {offs : Array Int} {len : Nat} {x : Int32} (tgt : Nat) (hd : decode mi.2.1 pc = .ok (.tableswitch dflt lo hi offs, len)) (h : x.toInt < lo ∨ hi < x.toInt) (ht : (pc : Int) + dflt = (tgt : Int)) (kk : kG Γ mi R cs tgt L st ω Z) : kG Γ mi R cs pc L (.int x :: st) ω Z := by
  intro p e s m args below meth c H locs ls C P S V
  exact lv_tableOut C.1 C.2.1 hd h ht (kk p e s m args below meth c H locs ls C P S V)
theorem kG.lookup {dflt : Int} {ps : Array (Int × Int)} {len : Nat} {x : Int32} {off : Int} (tgt : Nat) (hd : decode mi.2.1 pc = .ok (.lookupswitch dflt ps, len)) (hps : (ps.toList.zip (ps.toList.drop 1)).all (fun (a, next) => a.1 < next.1) = true) (ho : Op.lookupswitch.offset ps.toList dflt x.toInt = off) (ht : (pc : Int) + off = (tgt : Int)) (kk : kG Γ mi R cs tgt L st ω Z) : kG Γ mi R cs pc L (.int x :: st) ω Z := by
  intro p e s m args below meth c H locs ls C P S V
  exact lv_lookup C.1 C.2.1 hd hps ho ht (kk p e s m args below meth c H locs ls C P S V)
theorem kG.sub {L' : List (Option Value)} (h : kLe L' L) (kk : kG Γ mi R cs pc L' st ω Z) : kG Γ mi R cs pc L st ω Z := by
  intro p e s m args below meth c H locs ls C P S V
  exact kk p e s m args below meth c H locs ls C P S ⟨V.1, V.2.1, fun k v hk => V.2.2 k v (kLe_get h hk)⟩
theorem kG.topi {x : Int32} (kk : ∀ y : Int32, y = x → kG Γ mi R cs pc L (.int y :: st) ω Z) : kG Γ mi R cs pc L (.int x :: st) ω Z := kk x rfl
theorem kG.widen {a b : Nat} (h1 : cs.1 ≤ a) (h2 : cs.2 ≤ b) (kk : kG Γ mi R (a, b) pc L st ω Z) : kG Γ mi R cs pc L st ω Z := by
  intro p e s m args below meth c H locs ls C P S V
  exact W.widen h1 h2 (kk p e s m args below meth c H locs ls C P S V)
/-! fields -/
theorem kS_put {A : Nat → Prop} {H0 H H1 : Heap} {locs : List Loc} {a k : Nat} (h : va_S A H0 H locs) (z : H1.size = H.size) (oq : ∀ q : Nat, q ≠ a → H1[q]? = H[q]?) (ha : A a) : va_S A H0 H1 (locs ++ [⟨a, k⟩]) := va_S.put h z oq ha
theorem kad_A {Γ : kGm} {k : Nat} (h : 0 < k) : kA Γ (kad Γ k) := by
  unfold kad kA
  rw [if_neg (by omega)]
  omega
theorem kG.getI {i ci j k : Nat} (pc' : Nat) (hd : decode mi.2.1 pc = .ok (.getfield i, 3)) (hf : kFE mi.1 i ci j) (hk : 0 < k ∧ k < ω.1) (hs : (ksh k).1 = ci) (hi : kint ci j = true) (hp : pc + 3 = pc') (kk : kG Γ mi R cs pc' L (.int (ω.2.1 k j) :: st) ω Z) : kG Γ mi R cs pc L (.ref k :: st) ω Z := by
  intro p e s m args below meth c H locs ls C P S V
  obtain ⟨hc6, hj, hlink⟩ := hf
  obtain ⟨hc, hin, hty, hnm⟩ := kcl hc6
  subst hp
  exact va_get C.1 C.2.1 C.2.2.2.2.2.1 hin C.2.2.2.2.1 C.2.2.2.2.2.2.2.2.1.1 P.2.2 (k - 1) (by rw [kws_at hk.1 hk.2, kent_obj hs hc6]) hc j hj (C.2.2.2.2.2.1 _ hlink) (fun x h => h) (by rw [kfs_get hj, kfv_int hi]; rfl) hd (kk p e s m args below meth c H locs ls C P S V)
theorem kG.getP {i ci j k q : Nat} (pc' : Nat) (hd : decode mi.2.1 pc = .ok (.getfield i, 3)) (hf : kFE mi.1 i ci j) (hk : 0 < k ∧ k < ω.1) (hs : (ksh k).1 = ci) (hi : kint ci j = false) (hq : ω.2.2 k j = some q) (hp : pc + 3 = pc') (kk : kG Γ mi R cs pc' L (.ref q :: st) ω Z) : kG Γ mi R cs pc L (.ref k :: st) ω Z := by
  intro p e s m args below meth c H locs ls C P S V
  obtain ⟨hc6, hj, hlink⟩ := hf
  obtain ⟨hc, hin, hty, hnm⟩ := kcl hc6
  subst hp
  exact va_get C.1 C.2.1 C.2.2.2.2.2.1 hin C.2.2.2.2.1 C.2.2.2.2.2.2.2.2.1.1 P.2.2 (k - 1) (by rw [kws_at hk.1 hk.2, kent_obj hs hc6]) hc j hj (C.2.2.2.2.2.1 _ hlink) (fun x h => h) (v := .ref (kad Γ q)) (by rw [kfs_get hj, kfv_ref hi, hq]; rfl) hd (kk p e s m args below meth c H locs ls C P S V)
/-- a put, with what it leaves of the heap -/
theorem kput {p : Program} {l : Launch} {e : Env} {s : State} {m : MethodId} {args : Array Value} {below : List Frame} {meth : Method} {c : Code} {H : Heap} {locs : List Loc} {cells slots : Nat} {Q : State → Prop} {ls : Array Slot} {rest : List Value} {i ci j k : Nat} {v : Value} {ω' : kWd} (C : kCx Γ mi p s m args meth c) (P : kRep Γ ω H) (S : va_S (kA Γ) s.heap H locs)
    (hd : decode mi.2.1 pc = .ok (.putfield i, 3)) (hf : kFE mi.1 i ci j) (hk : 0 < k ∧ k < ω.1) (hs : (ksh k).1 = ci) (hfin : (kT ci j).2.2.2 = false ∨ (mi.2.2.2.2 = "<init>" ∧ (kT ci j).1 = mi.1)) (hn : narrow (kTy ci j) v = v) (hfit : fits (kTy ci j) v = true)
    (e1 : (kws Γ ω).set (k - 1) (kad Γ k, .inr (ci, (kfs Γ ω ci k).set j v)) = kws Γ ω') (e0 : ω'.1 = ω.1)
    (kk : ∀ (H1 : Heap) (locs1 : List Loc), kRep Γ ω' H1 → va_S (kA Γ) s.heap H1 locs1 → W p l e R s m args below meth c H1 locs1 cells slots Q (F0 m (pc + 3) ls rest)) : W p l e R s m args below meth c H locs cells slots Q (F0 m pc ls (v :: .ref (kad Γ k) :: rest)) := by
  obtain ⟨hc6, hj, hlink⟩ := hf
  obtain ⟨hc, hin, hty, hnm⟩ := kcl hc6
  have hts := C.2.2.2.2.2.1
  have hown := C.2.2.2.2.1
  have hK := C.2.2.2.2.2.2.2.2.1.1
  have he : (kws Γ ω)[k - 1]? = some (kad Γ k, .inr (ci, kfs Γ ω ci k)) := by rw [kws_at hk.1 hk.2, kent_obj hs hc6]
  have hap := va_apart (own := mi.1) hts hin (kTy ci) hty hnm hK hc
  obtain ⟨r, h1, cell, q1, q2, q3, q4⟩ := P.2.2 (k - 1) _ he
  have hr : r = (kR ci, kT ci, kN ci) := Option.some.inj (h1.symm.trans hc)
  subst hr
  obtain ⟨hS, hfc, kC, hkC, hkind⟩ := hK.1 ci _ hc
  obtain ⟨cf, kf, fi, f, hi, hsl⟩ := hS j hj
  have hst := (u_facts hfc hkC (u_lays hts hin hj) hi).1
  have hlt : f.slot < cell.slots.size := by rw [hsl]; exact k2_hasslot (q4 j hj)
  have fin : ∀ H1 : Heap, H1[kad Γ k]? = some (cell.setSlot f.slot v) → H1.size = H.size → (∀ q, q ≠ kad Γ k → H1[q]? = H[q]?) → kRep Γ ω' H1 ∧ va_S (kA Γ) s.heap H1 (locs ++ [⟨kad Γ k, f.slot⟩]) := by
    intro H1 a1 a2 a3
    rw [hsl] at a1 ⊢
    refine ⟨⟨by rw [e0]; exact P.1, fun h => by rw [a2, e0]; exact P.2.1 (by rw [← e0]; exact h), ?_⟩, S.put a2 a3 (kad_A hk.1)⟩
    rw [← e1]
    exact P.2.2.set (kws_D Γ ω) he ⟨_, hc, t_OB.to (V := updV (vp_V (kfs Γ ω ci k)) j v) ⟨_, a1, q2, q3, t_set q4 hap hj v⟩ (fun a _ => vp_updV_set (by rw [kfs_len]; exact hj) v a)⟩ a3
  have hlay := hts _ (hin _ (u_in_lay hj))
  unfold u_lay at hlay
  cases hfb : (kT ci j).2.2.2 with
  | false =>
    rw [hfb, if_neg (by decide)] at hlay
    have h6 := u_store hfc hkC hkind hlay hi (hty j hj) hn hfit
    refine W.putK C.1 C.2.1 (f := f) ⟨hown, hts _ hlink, ⟨_, _, _, hi⟩, hst⟩ (by rw [q2]; exact h6) q1 q3 hlt rfl rfl hd fun H1 a1 a2 a3 => ?_
    exact kk H1 _ (fin H1 a1 a2 a3).1 (fin H1 a1 a2 a3).2
  | true =>
    rw [hfb, if_pos rfl] at hlay
    rcases hfin with h | ⟨hin2, hdecl⟩
    · rw [hfb] at h; cases h
    have hcf : m.cls = cf := by
      obtain ⟨_, _, c', _, _, _, -, -, hf', -, -, -, hown2, -⟩ := Cond.laysFinal_spec hlay
      have e3 : c' = cf := by have := hi.symm.trans hf'; simp at this; exact this.1.symm
      rw [hdecl] at hown2
      rw [← e3]; exact Option.some.inj (hown.symm.trans hown2)
    have h6 := u_fits hfc hkC hkind (Or.inr hlay) hi (hty j hj) hn hfit
    refine W.putFinK C.1 C.2.1 hown (hts _ hlink) hi hst hcf (C.2.2.2.2.2.2.2.1 hin2) (by rw [q2]; exact h6) q1 q3 hlt rfl rfl hd fun H1 a1 a2 a3 => ?_
    exact kk H1 _ (fin H1 a1 a2 a3).1 (fin H1 a1 a2 a3).2
theorem kG.putI {i ci j k : Nat} {x : Int32} (pc' : Nat) (hd : decode mi.2.1 pc = .ok (.putfield i, 3)) (hf : kFE mi.1 i ci j) (hk : 0 < k ∧ k < ω.1) (hs : (ksh k).1 = ci) (hi : kint ci j = true) (hfin : (kT ci j).2.2.2 = false ∨ (mi.2.2.2.2 = "<init>" ∧ (kT ci j).1 = mi.1)) (hn : narrow (kTy ci j) (.int x) = .int x ∧ fits (kTy ci j) (.int x) = true) (hp : pc + 3 = pc') (kk : kG Γ mi R cs pc' L st (sI ω k j x) Z) : kG Γ mi R cs pc L (.int x :: .ref k :: st) ω Z := by
  intro p e s m args below meth c H locs ls C P S V
  subst hp
  refine kput (ω' := sI ω k j x) C P S hd hf hk hs hfin hn.1 hn.2 ?_ rfl (fun H1 locs1 P1 S1 => kk p e s m args below meth c H1 locs1 ls C P1 S1 V)
  show (kws Γ ω).set (k - 1) (kad Γ k, .inr (ci, (kfs Γ ω ci k).set j (.int x))) = _
  rw [kfs_sI hf.2.1 hi, ← kent_obj (ω := sI ω k j x) hs hf.1]
  exact kws_sA hk.1 hk.2
theorem kG.putP {i ci j k q : Nat} (pc' : Nat) (hd : decode mi.2.1 pc = .ok (.putfield i, 3)) (hf : kFE mi.1 i ci j) (hk : 0 < k ∧ k < ω.1) (hs : (ksh k).1 = ci) (hi : kint ci j = false) (hfin : (kT ci j).2.2.2 = false ∨ (mi.2.2.2.2 = "<init>" ∧ (kT ci j).1 = mi.1)) (hn : (∀ x, narrow (kTy ci j) (.ref x) = .ref x) ∧ ∀ x, fits (kTy ci j) (.ref x) = true) (hp : pc + 3 = pc') (kk : kG Γ mi R cs pc' L st (sP ω k j (some q)) Z) : kG Γ mi R cs pc L (.ref q :: .ref k :: st) ω Z := by
  intro p e s m args below meth c H locs ls C P S V
  subst hp
  refine kput (ω' := sP ω k j (some q)) C P S hd hf hk hs hfin (hn.1 _) (hn.2 _) ?_ rfl (fun H1 locs1 P1 S1 => kk p e s m args below meth c H1 locs1 ls C P1 S1 V)
  show (kws Γ ω).set (k - 1) (kad Γ k, .inr (ci, (kfs Γ ω ci k).set j (.ref (kad Γ q)))) = _
  rw [kfs_sP hf.2.1 hi, ← kent_obj (ω := sP ω k j (some q)) hs hf.1]
  exact kws_sP hk.1 hk.2
/-! arrays -/
theorem kG.iald {k n q : Nat} {x : Int32} (pc' : Nat) (hd : decode mi.2.1 pc = .ok (.iaload, 1)) (hk : 0 < k ∧ k < ω.1) (hs : ksh k = (10, n)) (hx : x = nI q) (hq : q < n) (hb : n < 1000) (hp : pc + 1 = pc') (kk : kG Γ mi R cs pc' L (.int (ω.2.1 k q) :: st) ω Z) : kG Γ mi R cs pc L (.int x :: .ref k :: st) ω Z := by
  intro p e s m args below meth c H locs ls C P S V
  subst hp; subst hx
  have h := kk p e s m args below meth c H locs ls C P S V
  refine va_iald C.1 C.2.1 C.2.2.2.2.2.2.2.2.1.1 P.2.2 (k - 1) 0 (by rw [kws_at hk.1 hk.2, kent_i hs]) rfl (vp_in_nI hq (by omega)) hd ?_
  rw [nI_clamp (by omega)]
  exact h
theorem kG.zald {k n q : Nat} {x : Int32} (pc' : Nat) (hd : decode mi.2.1 pc = .ok (.baload, 1)) (hk : 0 < k ∧ k < ω.1) (hs : ksh k = (11, n)) (hx : x = nI q) (hq : q < n) (hb : n < 1000) (hp : pc + 1 = pc') (kk : kG Γ mi R cs pc' L (.int (ω.2.1 k q) :: st) ω Z) : kG Γ mi R cs pc L (.int x :: .ref k :: st) ω Z := by
  intro p e s m args below meth c H locs ls C P S V
  subst hp; subst hx
  have h := kk p e s m args below meth c H locs ls C P S V
  refine va_zald C.1 C.2.1 C.2.2.2.2.2.2.2.2.1.1 P.2.2 (k - 1) 1 (by rw [kws_at hk.1 hk.2, kent_z hs]) rfl (vp_in_nI hq (by omega)) hd ?_
  rw [nI_clamp (by omega)]
  exact h
theorem kG.aald {k n q r : Nat} {x : Int32} (pc' : Nat) (hd : decode mi.2.1 pc = .ok (.aaload, 1)) (hk : 0 < k ∧ k < ω.1) (hs : ksh k = (12, n)) (hx : x = nI q) (hq : q < n) (hb : n < 1000) (hr : ω.2.2 k q = some r) (hp : pc + 1 = pc') (kk : kG Γ mi R cs pc' L (.ref r :: st) ω Z) : kG Γ mi R cs pc L (.int x :: .ref k :: st) ω Z := by
  intro p e s m args below meth c H locs ls C P S V
  subst hp; subst hx
  have h := kk p e s m args below meth c H locs ls C P S V
  refine va_aldq C.1 C.2.1 C.2.2.2.2.2.2.2.2.1.1 P.2.2 (k - 1) 2 (by rw [kws_at hk.1 hk.2, kent_q hs]) rfl (vp_in_nI hq (by omega)) hd ?_
  rw [nI_clamp (by omega)]
  simp only [hr]
  exact h
theorem kast {p : Program} {l : Launch} {e : Env} {s : State} {m : MethodId} {args : Array Value} {below : List Frame} {meth : Method} {c : Code} {H : Heap} {locs : List Loc} {cells slots : Nat} {Q : State → Prop} {g : JFrame} {k q : Nat} {ω' : kWd} (P : kRep Γ ω H) (S : va_S (kA Γ) s.heap H locs) (hk : 0 < k ∧ k < ω.1) (e0 : ω'.1 = ω.1) {x0 : va_E}
    (he : (kws Γ ω)[k - 1]? = some (kad Γ k, x0)) {x1 : va_E} (e1 : (kws Γ ω).set (k - 1) (kad Γ k, x1) = kws Γ ω') {cell' : Cell} (h' : ∀ H1 : Heap, H1[kad Γ k]? = some cell' → va_at Γ.2.1 vwCl (kad Γ k, x1) H1)
    (kk : ∀ (H1 : Heap) (locs1 : List Loc), kRep Γ ω' H1 → va_S (kA Γ) s.heap H1 locs1 → W p l e R s m args below meth c H1 locs1 cells slots Q g) :
    ∀ H1 : Heap, H1[kad Γ k]? = some cell' → H1.size = H.size → (∀ z, z ≠ kad Γ k → H1[z]? = H[z]?) → W p l e R s m args below meth c H1 (locs ++ [⟨kad Γ k, q⟩]) cells slots Q g := by
  intro H1 a1 a2 a3
  refine kk H1 _ ⟨by rw [e0]; exact P.1, fun h => by rw [a2, e0]; exact P.2.1 (by rw [← e0]; exact h), ?_⟩ (S.put a2 a3 (kad_A hk.1))
  rw [← e1]
  exact P.2.2.set (kws_D Γ ω) he (h' H1 a1) a3
theorem kG.iast {k n q : Nat} {i x : Int32} (pc' : Nat) (hd : decode mi.2.1 pc = .ok (.iastore, 1)) (hk : 0 < k ∧ k < ω.1) (hs : ksh k = (10, n)) (hx : i = nI q) (hq : q < n) (hb : n < 1000) (hp : pc + 1 = pc') (kk : kG Γ mi R cs pc' L st (sI ω k q x) Z) : kG Γ mi R cs pc L (.int x :: .int i :: .ref k :: st) ω Z := by
  intro p e s m args below meth c H locs ls C P S V
  subst hp; subst hx
  have he : (kws Γ ω)[k - 1]? = some (kad Γ k, .inl (Γ.2.2.1 0, n, .inl (ω.2.1 k))) := by rw [kws_at hk.1 hk.2, kent_i hs]
  have hin : ¬ (nI q < 0 ∨ n ≤ (nI q).toNatClampNeg) := vp_in_nI hq (by omega)
  refine W.iast (cell := vp_cell (Γ.2.2.1 0) (n, .inl (ω.2.1 k))) C.1 C.2.1 (P.2.2 (k - 1) _ he) ((C.2.2.2.2.2.2.2.2.1.1.2 0 _ rfl).1 n (fun j => .int (ω.2.1 k j))) (fun h => by cases h) (by show ¬ (nI q < 0 ∨ (arrV _ _ _).slots.size ≤ _); rw [arrV_size]; exact hin) rfl rfl hd ?_
  refine kast (ω := ω) (ω' := sI ω k q x) P S hk rfl he (x1 := .inl (Γ.2.2.1 0, n, .inl (upd (ω.2.1 k) q x))) ?_ (fun H1 h => ?_) (fun H1 locs1 P1 S1 => kk p e s m args below meth c H1 locs1 ls C P1 S1 V)
  · have h := kws_sA (Γ := Γ) (ω := ω) (f := upd (ω.2.1 k) q x) hk.1 hk.2
    rw [kent_i hs] at h
    have e2 : (sA ω k (upd (ω.2.1 k) q x)).2.1 k = upd (ω.2.1 k) q x := by simp [sA]
    rw [e2] at h
    exact h
  · show H1[kad Γ k]? = some (vp_cell _ _)
    rw [h, nI_clamp (by omega), vp_cell_i, vp_cell_i, arrV_store]
    congr 2
    funext z
    by_cases hz : z = q
    · subst hz; simp [updV, upd]
    · simp [updV, upd, hz]
theorem kG.zast {k n q : Nat} {i x : Int32} (pc' : Nat) (hd : decode mi.2.1 pc = .ok (.bastore, 1)) (hk : 0 < k ∧ k < ω.1) (hs : ksh k = (11, n)) (hx : i = nI q) (hq : q < n) (hb : n < 1000) (hx1 : x &&& 1 = x) (hp : pc + 1 = pc') (kk : kG Γ mi R cs pc' L st (sI ω k q x) Z) : kG Γ mi R cs pc L (.int x :: .int i :: .ref k :: st) ω Z := by
  intro p e s m args below meth c H locs ls C P S V
  subst hp; subst hx
  have he : (kws Γ ω)[k - 1]? = some (kad Γ k, .inl (Γ.2.2.1 1, n, .inl (ω.2.1 k))) := by rw [kws_at hk.1 hk.2, kent_z hs]
  have hin : ¬ (nI q < 0 ∨ n ≤ (nI q).toNatClampNeg) := vp_in_nI hq (by omega)
  refine W.zast (cell := vp_cell (Γ.2.2.1 1) (n, .inl (ω.2.1 k))) C.1 C.2.1 (P.2.2 (k - 1) _ he) ((C.2.2.2.2.2.2.2.2.1.1.2 1 _ rfl).1 n (fun j => .int (ω.2.1 k j))) (fun h => by cases h) (by show ¬ (nI q < 0 ∨ (arrV _ _ _).slots.size ≤ _); rw [arrV_size]; exact hin) rfl rfl hd ?_
  refine kast (ω := ω) (ω' := sI ω k q x) P S hk rfl he (x1 := .inl (Γ.2.2.1 1, n, .inl (upd (ω.2.1 k) q x))) ?_ (fun H1 h => ?_) (fun H1 locs1 P1 S1 => kk p e s m args below meth c H1 locs1 ls C P1 S1 V)
  · have h := kws_sA (Γ := Γ) (ω := ω) (f := upd (ω.2.1 k) q x) hk.1 hk.2
    rw [kent_z hs] at h
    have e2 : (sA ω k (upd (ω.2.1 k) q x)).2.1 k = upd (ω.2.1 k) q x := by simp [sA]
    rw [e2] at h
    exact h
  · show H1[kad Γ k]? = some (vp_cell _ _)
    rw [h, nI_clamp (by omega), vp_cell_i, vp_cell_i, arrV_store]
    congr 2
    funext z
    by_cases hz : z = q
    · subst hz; simp [updV, upd, narrow, hx1]
    · simp [updV, upd, hz]
theorem kG.aast {k n q v ci : Nat} {i : Int32} (pc' : Nat) (hd : decode mi.2.1 pc = .ok (.aastore, 1)) (hk : 0 < k ∧ k < ω.1) (hs : ksh k = (12, n)) (hx : i = nI q) (hq : q < n) (hb : n < 1000) (hv : 0 < v ∧ v < ω.1) (hsv : (ksh v).1 = 1) (hp : pc + 1 = pc') (kk : kG Γ mi R cs pc' L st (sP ω k q (some v)) Z) : kG Γ mi R cs pc L (.ref v :: .int i :: .ref k :: st) ω Z := by
  intro p e s m args below meth c H locs ls C P S V
  subst hp; subst hx
  have he : (kws Γ ω)[k - 1]? = some (kad Γ k, .inl (Γ.2.2.1 2, n, .inr (.inr (.inr (.inr (fun j => (ω.2.2 k j).map (kad Γ))))))) := by rw [kws_at hk.1 hk.2, kent_q hs]
  have hev : (kws Γ ω)[v - 1]? = some (kad Γ v, .inr (1, kfs Γ ω 1 v)) := by rw [kws_at hv.1 hv.2, kent_obj hsv (by omega)]
  have hK := C.2.2.2.2.2.2.2.2.1.1
  have hin : ¬ (nI q < 0 ∨ n ≤ (nI q).toNatClampNeg) := vp_in_nI hq (by omega)
  have hlt : (nI q).toNatClampNeg < n := Nat.not_le.mp fun z => hin (Or.inr z)
  have h0 : ¬ nI q < 0 := fun z => hin (Or.inl z)
  obtain ⟨r', hr', cellV, g1, g2, g3, -⟩ := P.2.2 (v - 1) _ hev
  have hcls := (hK.1 1 (RX1, TX1, 3) rfl).2
  obtain ⟨kA', comp, k1, k2, k3, -⟩ := (hK.2 2 _ rfl).2
  have hcomp : comp = Γ.2.1.1 1 := Option.some.inj (k3.symm.trans hcls.1)
  subst hcomp
  obtain ⟨kC, hkC, -⟩ := hcls.2
  refine W.aast (cell := vp_cell (Γ.2.2.1 2) (n, .inr (.inr (.inr (.inr (fun j => (ω.2.2 k j).map (kad Γ))))))) C.1 C.2.1 (P.2.2 (k - 1) _ he) (fun q h => by cases h) (fun h => by cases h) k1 k2 rfl hkC ⟨h0, by show _ < (arrV _ _ _).slots.size; rw [arrV_size]; exact hlt⟩ g1 (fun q h => by rw [g3] at h; cases h) (by rw [g2]; exact hkC) (by rw [g2]; exact va_assign hcls) rfl rfl hd ?_
  refine kast (ω := ω) (ω' := sP ω k q (some v)) P S hk rfl he (x1 := .inl (Γ.2.2.1 2, n, .inr (.inr (.inr (.inr (va_up (fun j => (ω.2.2 k j).map (kad Γ)) q (some (kad Γ v)))))))) ?_ (fun H1 h => ?_) (fun H1 locs1 P1 S1 => kk p e s m args below meth c H1 locs1 ls C P1 S1 V)
  · have h := kws_sP (Γ := Γ) (ω := ω) (j := q) (p := some v) hk.1 hk.2
    rw [kent_q hs] at h
    have e2 : (fun j => ((sP ω k q (some v)).2.2 k j).map (kad Γ)) = va_up (fun j => (ω.2.2 k j).map (kad Γ)) q (some (kad Γ v)) := by
      funext j
      by_cases hj : j = q
      · subst hj; simp [sP, va_up]
      · simp [sP, va_up, hj]
    rw [e2] at h
    exact h
  · show H1[kad Γ k]? = some (vp_cell _ _)
    rw [h, nI_clamp (by omega), vp_cell_q, vp_cell_q, arrV_store]
    congr 2
    funext z
    by_cases hz : z = q
    · subst hz; simp [updV, va_up, va_rf]
    · simp [updV, va_up, hz]
theorem kG.alen {k n : Nat} {v : Int32} (pc' : Nat) (hd : decode mi.2.1 pc = .ok (.arraylength, 1)) (hk : 0 < k ∧ k < ω.1) (hs : ksh k = (10, n)) (hv : nI n = v) (hp : pc + 1 = pc') (kk : kG Γ mi R cs pc' L (.int v :: st) ω Z) : kG Γ mi R cs pc L (.ref k :: st) ω Z := by
  intro p e s m args below meth c H locs ls C P S V
  subst hp
  exact va_alen (x := (n, .inl (ω.2.1 k))) C.1 C.2.1 C.2.2.2.2.2.2.2.2.1.1 P.2.2 (k - 1) 0 (by rw [kws_at hk.1 hk.2, kent_i hs]) (ty := .int) rfl hv hd (kk p e s m args below meth c H locs ls C P S V)
/-! the law's script -/
theorem kG.sld {q : Nat} {x : Int32} (pc' : Nat) (hd : decode mi.2.1 pc = .ok (.iaload, 1)) (hm : mi.1 = RL) (hx : x = nI q) (hq : q < kLn Γ) (hb : q < 1000) (hp : pc + 1 = pc') (kk : kG Γ mi R cs pc' L (.int (kxs Γ q) :: st) ω Z) : kG Γ mi R cs pc L (.int x :: .ref 0 :: st) ω Z := by
  intro p e s m args below meth c H locs ls C P S V
  subst hp; subst hx
  obtain ⟨hX, hbl, hbA⟩ := C.2.2.2.2.2.2.2.2.2.2 hm
  have h := kk p e s m args below meth c H locs ls C P S V
  refine va_sld C.1 C.2.1 hX hbl (show ¬ kA Γ (kb Γ) from Nat.not_lt.mpr hbA) S (i := nI q) ?_ hd ?_
  · intro z
    rcases z with z | z
    · exact nI_pos (by omega) z
    · rw [nI_clamp (by omega)] at z; omega
  · rw [nI_clamp (by omega)]
    exact h
theorem kG.slen {v : Int32} (pc' : Nat) (hd : decode mi.2.1 pc = .ok (.arraylength, 1)) (hm : mi.1 = RL) (hv : nI (kLn Γ) = v) (hp : pc + 1 = pc') (kk : kG Γ mi R cs pc' L (.int v :: st) ω Z) : kG Γ mi R cs pc L (.ref 0 :: st) ω Z := by
  intro p e s m args below meth c H locs ls C P S V
  subst hp; subst hv
  obtain ⟨hX, hbl, hbA⟩ := C.2.2.2.2.2.2.2.2.2.2 hm
  exact va_slen C.1 C.2.1 hX hbl (show ¬ kA Γ (kb Γ) from Nat.not_lt.mpr hbA) S hd (kk p e s m args below meth c H locs ls C P S V)
/-! returns -/
theorem kret {s : State} {args : Array Value} {H : Heap} {locs : List Loc} {Q : Option Value → kWd → Prop} {r : Option Value} (P : kRep Γ ω H) (S : va_S (kA Γ) s.heap H locs) (hq : Q r ω) : ∀ t : State, t.heap = H → s.WarmedH t.vm → kQc Γ Q args s (.returned (r.map (kcv Γ))) t :=
  fun t ht _ => ⟨⟨r, ω, rfl, hq, by rw [ht]; exact P⟩, S.F ht⟩
theorem kG.iret {Q : Option Value → kWd → Prop} {x : Int32} (hd : decode mi.2.1 pc = .ok (.ireturn, 1)) (hr : mi.2.2.2.1 = some .int) (hc : cs.1 ≤ R.cells ∧ cs.2 ≤ R.slots) (hq : Q (some (.int x)) ω) : kG Γ mi R cs pc L [.int x] ω (kMZ Γ R Q) := by
  intro p e s m args below meth c H locs ls C P S V
  exact W.widen hc.1 hc.2 (W.iret C.1 C.2.1 (C.2.2.1.trans hr) (kret (r := some (.int x)) P S hq) S.2.2 hd C.2.2.2.2.2.2.1)
theorem kG.zret {Q : Option Value → kWd → Prop} {x : Int32} (hd : decode mi.2.1 pc = .ok (.ireturn, 1)) (hr : mi.2.2.2.1 = some .boolean) (hx : x &&& 1 = x) (hc : cs.1 ≤ R.cells ∧ cs.2 ≤ R.slots) (hq : Q (some (.int x)) ω) : kG Γ mi R cs pc L [.int x] ω (kMZ Γ R Q) := by
  intro p e s m args below meth c H locs ls C P S V
  exact W.widen hc.1 hc.2 (W.zret C.1 C.2.1 (C.2.2.1.trans hr) (by show Value.int (x &&& 1) = _; rw [hx]) (kret (r := some (.int x)) P S hq) S.2.2 hd C.2.2.2.2.2.2.1)
theorem kG.lret {Q : Option Value → kWd → Prop} {x : Int64} (hd : decode mi.2.1 pc = .ok (.lreturn, 1)) (hr : mi.2.2.2.1 = some .long) (hc : cs.1 ≤ R.cells ∧ cs.2 ≤ R.slots) (hq : Q (some (.long x)) ω) : kG Γ mi R cs pc L [.long x] ω (kMZ Γ R Q) := by
  intro p e s m args below meth c H locs ls C P S V
  exact W.widen hc.1 hc.2 (W.lret C.1 C.2.1 (C.2.2.1.trans hr) (kret (r := some (.long x)) P S hq) S.2.2 hd C.2.2.2.2.2.2.1)
theorem kG.aret {Q : Option Value → kWd → Prop} {k : Nat} {n : String} (hd : decode mi.2.1 pc = .ok (.areturn, 1)) (hr : mi.2.2.2.1 = some (.object n)) (hc : cs.1 ≤ R.cells ∧ cs.2 ≤ R.slots) (hq : Q (some (.ref k)) ω) : kG Γ mi R cs pc L [.ref k] ω (kMZ Γ R Q) := by
  intro p e s m args below meth c H locs ls C P S V
  exact W.widen hc.1 hc.2 (W.aret C.1 C.2.1 (C.2.2.1.trans hr) (Or.inl ⟨n, rfl⟩) (Or.inr ⟨_, rfl⟩) (kret (r := some (.ref k)) P S hq) S.2.2 hd C.2.2.2.2.2.2.1)
theorem kG.vret {Q : Option Value → kWd → Prop} (hd : decode mi.2.1 pc = .ok (.return_, 1)) (hr : mi.2.2.2.1 = none) (hc : cs.1 ≤ R.cells ∧ cs.2 ≤ R.slots) (hq : Q none ω) : kG Γ mi R cs pc L [] ω (kMZ Γ R Q) := by
  intro p e s m args below meth c H locs ls C P S V
  exact W.widen hc.1 hc.2 (W.vret C.1 C.2.1 (C.2.2.1.trans hr) (kret (r := none) P S hq) S.2.2 hd C.2.2.2.2.2.2.1)
/-! a method's contract out of its body -/
theorem kC.ofG {y : MethodName} {as : List Value} {Q : Option Value → kWd → Prop} (hy : plainName y.cls = true) (hcl : y.cls = mi.1) (hnm : y.name = mi.2.2.2.2) (hL : mi.1 ≠ RL) (hn : (kEnA as).length ≤ mi.2.2.1) (h : kG Γ mi R (0, 0) 0 (kEn mi.2.2.1 as) [] ω (kMZ Γ R Q)) : kC Γ y mi R as ω Q := by
  refine Met.ofW (cc := mi.2.1) (maxL := mi.2.2.1) (ret := mi.2.2.2.1) hy rfl ?_
  intro p e s m args below meth c s₁ B hml hv
  obtain ⟨rfl, hP, hK⟩ := hv
  have hts := atoms_spec (ws := kWs y mi) B.pre
  have hown : s.vm.findClass y.cls = some m.cls := findClass_of_methodNamed B.named
  have hin : meth.name = y.name := (name_of_methodNamed B.named B.method).1
  have hl := lv_entry (as.map (kcv Γ)) (n := mi.2.2.1) (by rw [kEnA_len]; exact hn)
  rw [lg_entry_eq]
  refine h p e s m _ below meth c s.heap [] _ ⟨B.exec, B.bytes, B.returns, hml, by rw [← hcl]; exact hown, fun w hw => hts w (List.mem_cons_of_mem _ hw), B.notSynchronized, fun e => by rw [hin, hnm]; exact e, hK, ?_, fun e => absurd e hL⟩ hP va_S.rf ⟨hl.1, hl.2.1, fun k v hk => ?_⟩
  · by_cases h74 : ω.1 < 74
    · rw [hP.2.1 h74]; have := hP.1; omega
    · have := (hP.2.2 0 _ (kws_at (k := 1) (by omega) (by omega))).lt
      have h2 : kbs Γ + 1 < s.heap.size := by simpa [kad] using this
      omega
  · have := kEnA_args Γ as 0 k v (kEn_get hk)
    rw [Nat.zero_add] at this
    exact hl.2.2 _ this
theorem kC.weak {y : MethodName} {as : List Value} {Q Q' : Option Value → kWd → Prop} (h : kC Γ y mi R as ω Q) (hq : ∀ r ω', Q r ω' → Q' r ω') : kC Γ y mi R as ω Q' := by
  intro p e ha hc hk s m args below hf hpre hP hK
  obtain ⟨k, o, h1, h2, h3, ⟨⟨r, ω', e1, e2, e3⟩, hF⟩, hE⟩ := h p e ha hc hk s m args below hf hpre hP hK
  exact ⟨k, o, h1, h2, h3, ⟨⟨r, ω', e1, hq r ω' e2, e3⟩, hF⟩, hE⟩
/-! calls -/
theorem kblind (Γ : kGm) (av : List Value) (ω : kWd) : FrameBlind (va_Pc av (fun U => kRep Γ ω U.heap ∧ kKS Γ U)) := fun _ _ _ _ q => ⟨q.1, q.2.1, q.2.2.call⟩
theorem krun {p : Program} {e : Env} {s : State} {m : MethodId} {args : Array Value} {below : List Frame} {meth : Method} {c : Code} {H : Heap} {locs : List Loc} {cells slots mc ms : Nat} {Qw : State → Prop} {ls : Array Slot} {st0 rest : List Value} {Q' : Option Value → kWd → Prop} {a : Array Value}
    (hr : va_Run p Γ.1 e R s m args below meth c H locs cells slots mc ms (F0 m pc ls st0) rest (kQc Γ Q' a) (kA Γ)) (S : va_S (kA Γ) s.heap H locs)
    (kk : ∀ (r : Option Value) (ω' : kWd) (H1 : Heap) (locs1 : List Loc), Q' r ω' → kRep Γ ω' H1 → va_S (kA Γ) s.heap H1 locs1 → W p Γ.1 e R s m args below meth c H1 locs1 (cells + mc) (slots + ms) Qw (F0 m (pc + 3) ls ((r.map (kcv Γ)).toList ++ rest))) : W p Γ.1 e R s m args below meth c H locs cells slots Qw (F0 m pc ls st0) := by
  intro T hT X
  obtain ⟨v, st₀, t, T', L', h0, X', hL, e1, e2, ⟨⟨r, ω', hv, hq, hb⟩, hz, hk⟩, st⟩ := hr T hT X
  cases hv
  rw [h0] at hz hk
  obtain ⟨t2, a1, b1⟩ := kk r ω' T'.heap (locs ++ L') hq (by rw [e1]; exact hb)
    ⟨Nat.le_trans S.1 (by rw [e1]; exact hz), fun q h1 h2 => by rw [e1, hk q (Nat.lt_of_lt_of_le h1 S.1) h2]; exact S.2.1 q h1 h2, fun q hq => by
      rcases List.mem_append.mp hq with h | h
      · exact S.2.2 q h
      · exact hL q h⟩ T' rfl X'
  exact ⟨t2, st t2 a1, b1⟩
theorem kmap_st {stk As st : List Value} {v : List Value} (h : stk = As.reverse ++ (v ++ st)) : stk.map (kcv Γ) = (As.map (kcv Γ)).reverse ++ (v.map (kcv Γ) ++ st.map (kcv Γ)) := by
  rw [h, List.map_append, List.map_reverse, List.map_append]
theorem ksum_st (st : List Value) : ((st.map (kcv Γ)).map fun v => v.category).sum = (st.map fun v => v.category).sum := by
  rw [List.map_map]
  congr 1
  apply List.map_congr_left
  intro v _
  exact kcv_cat Γ v
theorem kret_st {r : Option Value} {st : List Value} : (r.map (kcv Γ)).toList ++ st.map (kcv Γ) = (r.toList ++ st).map (kcv Γ) := by
  cases r <;> rfl
def kDs (y : MethodName) (n : Nat) : Prop := y.cls ≠ "java/lang/invoke/MethodHandle" ∧ y.cls ≠ "java/lang/invoke/VarHandle" ∧ (parseMethodDescriptor y.desc).map (fun d => d.parameters.length) = some n
def kVm (y : MethodName) (mi : kMI) (n : Nat) : Prop := Cond.instanceMethod y ∈ kTS ∧ Cond.selects y.cls y y ∈ kTS ∧ Cond.initialized y.cls ∈ kTS ∧ Cond.code y mi.2.1 mi.2.2.1 mi.2.2.2.1 ∈ kTS ∧ kDs y n
def kSm (y : MethodName) (mi : kMI) (n : Nat) : Prop := Cond.static y ∈ kTS ∧ Cond.initialized y.cls ∈ kTS ∧ Cond.code y mi.2.1 mi.2.2.1 mi.2.2.2.1 ∈ kTS ∧ kDs y n
def kIm (y : MethodName) (mi : kMI) (n : Nat) : Prop := Cond.instanceMethod y ∈ kTS ∧ Cond.initialized y.cls ∈ kTS ∧ Cond.code y mi.2.1 mi.2.2.1 mi.2.2.2.1 ∈ kTS ∧ kDs y n ∧ y.name = "<init>" ∧ mi.2.2.2.1 = none
theorem kWs_in {y : MethodName} {mi' : kMI} (h : Cond.code y mi'.2.1 mi'.2.2.1 mi'.2.2.2.1 ∈ kTS) : GoodIn kTS (kWs y mi') := kGood_sub fun w hw => by
  rcases List.mem_cons.mp hw with rfl | hw
  · exact h
  · exact hw
theorem kG.callV {i n k ci : Nat} {y : MethodName} {mi' : kMI} {R' : Room} {As stk : List Value} {Q' : Option Value → kWd → Prop} (pc' : Nat) (hd : decode mi.2.1 pc = .ok (.invokevirtual i, 3)) (hl : Cond.methodLink mi.1 i y ∈ kTS) (hv : kVm y mi' n) (hM : kC Γ y mi' R' (.ref k :: As) ω Q') (hst : stk = As.reverse ++ ([.ref k] ++ st)) (hn : As.length = n) (hk : 0 < k ∧ k < ω.1) (hs : (ksh k).1 = ci ∧ ci < 6) (hcls : kR ci = y.cls)
    (hR : R'.frames + 1 ≤ R.frames ∧ 8 + (mi'.2.2.1 + 11) + R'.locals ≤ R.locals) (hW : (st.map fun v => v.category).sum ≤ 8) (hcs : cs.1 + R'.cells ≤ R.cells ∧ cs.2 + R'.slots ≤ R.slots) (hp : pc + 3 = pc')
    (kk : ∀ (r : Option Value) (ω' : kWd), Q' r ω' → kG Γ mi R (cs.1 + R'.cells, cs.2 + R'.slots) pc' L (r.toList ++ st) ω' Z) : kG Γ mi R cs pc L stk ω Z := by
  intro p e s m args below meth c H locs ls C P S V
  subst hp
  obtain ⟨hi, hse, hini, hcode, hds⟩ := hv
  have hts := C.2.2.2.2.2.1
  have hKS := C.2.2.2.2.2.2.2.2.1
  obtain ⟨hc, -, -, -⟩ := kcl hs.2
  have he : (kws Γ ω)[k - 1]? = some (kad Γ k, .inr (ci, kfs Γ ω ci k)) := by rw [kws_at hk.1 hk.2, kent_obj hs.1 hs.2]
  have hrecv : ∃ cellB : Cell, H[kad Γ k]? = some cellB ∧ cellB.vm.isStatics = false ∧ s.vm.findClass y.cls = some cellB.cls := by
    have := va_recv hKS.1 P.2.2 hc he
    rw [← hcls]
    exact this
  have run := va_runV (l := Γ.1) (e := e) (R := R) (below := below) (meth := meth) (H := H) (locs := locs) (cells := cs.1) (slots := cs.2) (As := As.map (kcv Γ)) (rest := st.map (kcv Γ)) (n := n) (C := y.cls) (g := F0 m pc ls (stk.map (kcv Γ))) ⟨C.1, C.2.1, C.2.2.2.1, C.2.2.2.2.1, hts⟩ hM
    ⟨callB_of n hts (kWs_in hcode) rfl rfl rfl (hts _ hini) (hts _ hl) hds hR, hts _ hi, hts _ hse⟩
    ⟨kblind Γ _ ω, hrecv, fun U hU hW => ⟨rfl, by rw [hU]; exact P, hKS.warm hW⟩⟩ rfl (by rw [List.length_map]; exact hn) V.1 (kmap_st (v := [.ref k]) hst) (by show 2 * 0 + _ ≤ 8; rw [ksum_st]; omega) hd hcs
  refine krun run S (fun r ω' H1 locs1 hq P1 S1 => ?_)
  rw [kret_st]
  exact kk r ω' hq p e s m args below meth c H1 locs1 ls C P1 S1 V
theorem kG.callS {i n : Nat} {y : MethodName} {mi' : kMI} {R' : Room} {As stk : List Value} {Q' : Option Value → kWd → Prop} (pc' : Nat) (hd : decode mi.2.1 pc = .ok (.invokestatic i, 3)) (hl : Cond.methodLink mi.1 i y ∈ kTS) (hv : kSm y mi' n) (hM : kC Γ y mi' R' As ω Q') (hst : stk = As.reverse ++ ([] ++ st)) (hn : As.length = n)
    (hR : R'.frames + 1 ≤ R.frames ∧ 8 + (mi'.2.2.1 + 11) + R'.locals ≤ R.locals) (hW : (st.map fun v => v.category).sum ≤ 8) (hcs : cs.1 + R'.cells ≤ R.cells ∧ cs.2 + R'.slots ≤ R.slots) (hp : pc + 3 = pc')
    (kk : ∀ (r : Option Value) (ω' : kWd), Q' r ω' → kG Γ mi R (cs.1 + R'.cells, cs.2 + R'.slots) pc' L (r.toList ++ st) ω' Z) : kG Γ mi R cs pc L stk ω Z := by
  intro p e s m args below meth c H locs ls C P S V
  subst hp
  obtain ⟨hi, hini, hcode, hds⟩ := hv
  have hts := C.2.2.2.2.2.1
  have hKS := C.2.2.2.2.2.2.2.2.1
  have run := va_runS (l := Γ.1) (e := e) (R := R) (below := below) (meth := meth) (H := H) (locs := locs) (cells := cs.1) (slots := cs.2) (As := As.map (kcv Γ)) (rest := st.map (kcv Γ)) (n := n) (g := F0 m pc ls (stk.map (kcv Γ))) ⟨C.1, C.2.1, C.2.2.2.1, C.2.2.2.2.1, hts⟩ hM
    ⟨callB_of n hts (kWs_in hcode) rfl rfl rfl (hts _ hini) (hts _ hl) hds hR, hts _ hi⟩
    ⟨kblind Γ _ ω, fun U hU hW => ⟨rfl, by rw [hU]; exact P, hKS.warm hW⟩⟩ rfl (by rw [List.length_map]; exact hn) V.1 (kmap_st (v := []) hst) (by show 2 * 0 + _ ≤ 8; rw [ksum_st]; omega) hd hcs
  refine krun run S (fun r ω' H1 locs1 hq P1 S1 => ?_)
  rw [kret_st]
  exact kk r ω' hq p e s m args below meth c H1 locs1 ls C P1 S1 V
/-- wantsOf, out of Weeks (a nest mate's private method) -/
theorem kG.callSN {i n : Nat} {y : MethodName} {host : String} {mi' : kMI} {R' : Room} {As stk : List Value} {Q' : Option Value → kWd → Prop} (pc' : Nat) (hd : decode mi.2.1 pc = .ok (.invokestatic i, 3)) (hl : ∀ s, kKS Γ s → va_Nw (.methodLinkNest mi.1 i y host) s) (hv : kSm y mi' n) (hM : kC Γ y mi' R' As ω Q') (hst : stk = As.reverse ++ ([] ++ st)) (hn : As.length = n)
    (hR : R'.frames + 1 ≤ R.frames ∧ 8 + (mi'.2.2.1 + 11) + R'.locals ≤ R.locals) (hW : (st.map fun v => v.category).sum ≤ 8) (hcs : cs.1 + R'.cells ≤ R.cells ∧ cs.2 + R'.slots ≤ R.slots) (hp : pc + 3 = pc')
    (kk : ∀ (r : Option Value) (ω' : kWd), Q' r ω' → kG Γ mi R (cs.1 + R'.cells, cs.2 + R'.slots) pc' L (r.toList ++ st) ω' Z) : kG Γ mi R cs pc L stk ω Z := by
  intro p e s m args below meth c H locs ls C P S V
  subst hp
  obtain ⟨hi, hini, hcode, hds⟩ := hv
  have hts := C.2.2.2.2.2.1
  have hKS := C.2.2.2.2.2.2.2.2.1
  have run := va_runSN (l := Γ.1) (e := e) (R := R) (below := below) (meth := meth) (H := H) (locs := locs) (cells := cs.1) (slots := cs.2) (As := As.map (kcv Γ)) (rest := st.map (kcv Γ)) (n := n) (g := F0 m pc ls (stk.map (kcv Γ))) ⟨C.1, C.2.1, C.2.2.2.1, C.2.2.2.2.1, hts⟩ hM
    ⟨va_cnB n hts (kWs_in hcode) rfl rfl rfl (hl s hKS) (hts _ hini) hds hR, hts _ hi, trivial⟩
    ⟨kblind Γ _ ω, fun U hU hW => ⟨rfl, by rw [hU]; exact P, hKS.warm hW⟩⟩ rfl (by rw [List.length_map]; exact hn) V.1 (kmap_st (v := []) hst) (by show 2 * 0 + _ ≤ 8; rw [ksum_st]; omega) hd hcs
  refine krun run S (fun r ω' H1 locs1 hq P1 S1 => ?_)
  rw [kret_st]
  exact kk r ω' hq p e s m args below meth c H1 locs1 ls C P1 S1 V
theorem kG.callI {i n k : Nat} {y : MethodName} {mi' : kMI} {R' : Room} {As stk : List Value} {Q' : Option Value → kWd → Prop} (pc' : Nat) (hd : decode mi.2.1 pc = .ok (.invokespecial i, 3)) (hl : Cond.methodLink mi.1 i y ∈ kTS) (hv : kIm y mi' n) (hM : kC Γ y mi' R' (.ref k :: As) ω Q') (hst : stk = As.reverse ++ ([.ref k] ++ st)) (hn : As.length = n)
    (hR : R'.frames + 1 ≤ R.frames ∧ 8 + (mi'.2.2.1 + 11) + R'.locals ≤ R.locals) (hW : (st.map fun v => v.category).sum ≤ 8) (hcs : cs.1 + R'.cells ≤ R.cells ∧ cs.2 + R'.slots ≤ R.slots) (hp : pc + 3 = pc')
    (kk : ∀ (r : Option Value) (ω' : kWd), Q' r ω' → kG Γ mi R (cs.1 + R'.cells, cs.2 + R'.slots) pc' L (r.toList ++ st) ω' Z) : kG Γ mi R cs pc L stk ω Z := by
  intro p e s m args below meth c H locs ls C P S V
  subst hp
  obtain ⟨hi, hini, hcode, hds, hnm, hno⟩ := hv
  have hts := C.2.2.2.2.2.1
  have hKS := C.2.2.2.2.2.2.2.2.1
  have hcode' : Cond.code y mi'.2.1 mi'.2.2.1 none ∈ kTS := by rw [← hno]; exact hcode
  have run := va_runI (l := Γ.1) (e := e) (R := R) (below := below) (meth := meth) (H := H) (locs := locs) (cells := cs.1) (slots := cs.2) (b := kad Γ k) (As := As.map (kcv Γ)) (rest := st.map (kcv Γ)) (n := n) (maxL := mi'.2.2.1) (bytes := mi'.2.1) (g := F0 m pc ls (stk.map (kcv Γ))) ⟨C.1, C.2.1, C.2.2.2.1, C.2.2.2.2.1, hts⟩ hM
    ⟨callB_of (ws' := kTS) n hts (kWs_in hcode) (by show Cond.code y _ _ mi'.2.2.2.1 :: _ = _; rw [hno]) rfl rfl (hts _ hini) (hts _ hl) hds hR, hnm, hts _ hi⟩
    ⟨kblind Γ _ ω, fun U hU hW => ⟨rfl, by rw [hU]; exact P, hKS.warm hW⟩⟩ rfl (by rw [List.length_map]; exact hn) V.1 (kmap_st (v := [.ref k]) hst) (by show 2 * 0 + _ ≤ 8; rw [ksum_st]; omega) hd hcs
  refine krun run S (fun r ω' H1 locs1 hq P1 S1 => ?_)
  rw [kret_st]
  exact kk r ω' hq p e s m args below meth c H1 locs1 ls C P1 S1 V
theorem kG.callIN {i n k : Nat} {y : MethodName} {host : String} {mi' : kMI} {R' : Room} {As stk : List Value} {Q' : Option Value → kWd → Prop} (pc' : Nat) (hd : decode mi.2.1 pc = .ok (.invokespecial i, 3)) (hl : ∀ s, kKS Γ s → va_Nw (.methodLinkNest mi.1 i y host) s) (hv : kIm y mi' n) (hM : kC Γ y mi' R' (.ref k :: As) ω Q') (hst : stk = As.reverse ++ ([.ref k] ++ st)) (hn : As.length = n)
    (hR : R'.frames + 1 ≤ R.frames ∧ 8 + (mi'.2.2.1 + 11) + R'.locals ≤ R.locals) (hW : (st.map fun v => v.category).sum ≤ 8) (hcs : cs.1 + R'.cells ≤ R.cells ∧ cs.2 + R'.slots ≤ R.slots) (hp : pc + 3 = pc')
    (kk : ∀ (r : Option Value) (ω' : kWd), Q' r ω' → kG Γ mi R (cs.1 + R'.cells, cs.2 + R'.slots) pc' L (r.toList ++ st) ω' Z) : kG Γ mi R cs pc L stk ω Z := by
  intro p e s m args below meth c H locs ls C P S V
  subst hp
  obtain ⟨hi, hini, hcode, hds, hnm, hno⟩ := hv
  have hts := C.2.2.2.2.2.1
  have hKS := C.2.2.2.2.2.2.2.2.1
  have run := va_runIN (l := Γ.1) (e := e) (R := R) (below := below) (meth := meth) (H := H) (locs := locs) (cells := cs.1) (slots := cs.2) (b := kad Γ k) (As := As.map (kcv Γ)) (rest := st.map (kcv Γ)) (n := n) (maxL := mi'.2.2.1) (bytes := mi'.2.1) (g := F0 m pc ls (stk.map (kcv Γ))) ⟨C.1, C.2.1, C.2.2.2.1, C.2.2.2.2.1, hts⟩ hM
    ⟨va_cnB (ws' := kTS) n hts (kWs_in hcode) (by show Cond.code y _ _ mi'.2.2.2.1 :: _ = _; rw [hno]) rfl rfl (hl s hKS) (hts _ hini) hds hR, hnm, hts _ hi⟩
    ⟨kblind Γ _ ω, fun U hU hW => ⟨rfl, by rw [hU]; exact P, hKS.warm hW⟩⟩ rfl (by rw [List.length_map]; exact hn) V.1 (kmap_st (v := [.ref k]) hst) (by show 2 * 0 + _ ≤ 8; rw [ksum_st]; omega) hd hcs
  refine krun run S (fun r ω' H1 locs1 hq P1 S1 => ?_)
  rw [kret_st]
  exact kk r ω' hq p e s m args below meth c H1 locs1 ls C P1 S1 V
/-! the library's own -/
theorem kG.mmax {i : Nat} {x y : Int32} (pc' : Nat) (hd : decode mi.2.1 pc = .ok (.invokestatic i, 3)) (hl : Cond.methodLink mi.1 i Lib.Math.max.name ∈ kTS) (hc : cs.1 ≤ R.cells ∧ cs.2 ≤ R.slots) (hR : 1 ≤ R.frames ∧ (st.map fun v => v.category).sum + 13 ≤ R.locals) (hp : pc + 3 = pc') (kk : kG Γ mi R cs pc' L (.int (if x < y then y else x) :: st) ω Z) : kG Γ mi R cs pc L (.int y :: .int x :: st) ω Z := by
  intro p e s m args below meth c H locs ls C P S V
  subst hp
  have hts := C.2.2.2.2.2.1
  exact va_mmax C.1 C.2.1 (C.2.2.2.1.trans V.1.symm) C.2.2.2.2.1 (hts _ hl) (hts _ kmax_s) (hts _ kmath_i) (hts _ kmax_c) hR.1 (by rw [ksum_st]; exact hR.2) hc.1 hc.2 hd (kk p e s m args below meth c H locs ls C P S V)
theorem kG.mmin {i : Nat} {x y : Int32} (pc' : Nat) (hd : decode mi.2.1 pc = .ok (.invokestatic i, 3)) (hl : Cond.methodLink mi.1 i Lib.Math.min.name ∈ kTS) (hc : cs.1 ≤ R.cells ∧ cs.2 ≤ R.slots) (hR : 1 ≤ R.frames ∧ (st.map fun v => v.category).sum + 13 ≤ R.locals) (hp : pc + 3 = pc') (kk : kG Γ mi R cs pc' L (.int (if y < x then y else x) :: st) ω Z) : kG Γ mi R cs pc L (.int y :: .int x :: st) ω Z := by
  intro p e s m args below meth c H locs ls C P S V
  subst hp
  have hts := C.2.2.2.2.2.1
  exact va_mmin C.1 C.2.1 (C.2.2.2.1.trans V.1.symm) C.2.2.2.2.1 (hts _ hl) (hts _ kmin_s) (hts _ kmath_i) (hts _ kmin_c) hR.1 (by rw [ksum_st]; exact hR.2) hc.1 hc.2 hd (kk p e s m args below meth c H locs ls C P S V)
theorem kG.objInit {i k : Nat} (pc' : Nat) (hd : decode mi.2.1 pc = .ok (.invokespecial i, 3)) (hl : Cond.methodLink mi.1 i objectInit ∈ kTS) (hR : 1 ≤ R.frames ∧ (st.map fun v => v.category).sum + 12 ≤ R.locals) (hp : pc + 3 = pc') (kk : kG Γ mi R cs pc' L st ω Z) : kG Γ mi R cs pc L (.ref k :: st) ω Z := by
  intro p e s m args below meth c H locs ls C P S V
  subst hp
  have hts := C.2.2.2.2.2.1
  exact W.objInit C.1 C.2.1 C.2.2.2.2.1 (hts _ hl) (hts _ kobj_i) (hts _ kobj_c) rfl (V.1.trans C.2.2.2.1.symm) rfl hd hR.1 (by show 2 * 0 + _ + 12 ≤ _; rw [ksum_st]; omega) (kk p e s m args below meth c H locs ls C P S V)
/-! new cells -/
theorem kws_push {Γ : kGm} {ω : kWd} (h : 0 < ω.1) : kws Γ (ω.1 + 1, ω.2) = kws Γ ω ++ [(kad Γ ω.1, kent Γ ω ω.1)] := by
  have e : ω.1 + 1 - 1 = (ω.1 - 1) + 1 := by omega
  have e2 : ω.1 - 1 + 1 = ω.1 := by omega
  unfold kws
  show (List.range (ω.1 + 1 - 1)).map _ = _
  rw [e, List.range_succ, List.map_append]
  have e3 : kad Γ ω.1 = kbs Γ + ω.1 := by unfold kad; rw [if_neg (by omega)]
  simp only [List.map_cons, List.map_nil, e2, e3]
  rfl
theorem knew {p : Program} {e : Env} {s : State} {m : MethodId} {args : Array Value} {below : List Frame} {meth : Method} {c : Code} {H H1 : Heap} {locs : List Loc} {cells slots : Nat} {Qw : State → Prop} {g : JFrame} (P : kRep Γ ω H) (S : va_S (kA Γ) s.heap H locs) (z : H1.size = H.size + 1) (o : ∀ q, q < H.size → H1[q]? = H[q]?) (ha : va_at Γ.2.1 vwCl (kad Γ ω.1, kent Γ ω ω.1) H1)
    (kk : kRep Γ (ω.1 + 1, ω.2) H1 → va_S (kA Γ) s.heap H1 locs → W p Γ.1 e R s m args below meth c H1 locs cells slots Qw g) : W p Γ.1 e R s m args below meth c H1 locs cells slots Qw g := by
  refine kk ⟨Nat.succ_pos _, fun h => by rw [z, P.2.1 (Nat.lt_of_succ_lt h)]; rfl, ?_⟩ ⟨Nat.le_trans S.1 (by omega), fun q h1 h2 => (o q (Nat.lt_of_lt_of_le h1 S.1)).trans (S.2.1 q h1 h2), S.2.2⟩
  rw [kws_push P.1]
  refine va_P.app (P.2.2.kept (fun k q hk => o q.1 ((P.2.2 k q hk).lt))) (fun k q hk => ?_)
  have hz : k < 1 := (List.getElem?_eq_some_iff.mp hk).1
  rw [show k = 0 by omega] at hk
  cases hk
  exact ha
theorem kad_sz {Γ : kGm} {ω : kWd} {H : Heap} (P : kRep Γ ω H) (h74 : ω.1 < 74) : H.size = kad Γ ω.1 := by
  rw [P.2.1 h74]
  unfold kad
  rw [if_neg (by have := P.1; omega)]
theorem kG.new {i ci : Nat} (pc' : Nat) (h74 : ω.1 < 74) (hd : decode mi.2.1 pc = .ok (.new i, 3)) (hc6 : ci < 6) (hl : Cond.classLink mi.1 i (kR ci) ∈ kTS) (hin : Cond.instantiable (kR ci) (kN ci) ∈ kTS) (hini : Cond.initialized (kR ci) ∈ kTS) (hs : (ksh ω.1).1 = ci) (h0 : ∀ j, ω.2.1 ω.1 j = 0) (h1 : ∀ j, ω.2.2 ω.1 j = none) (hdf : ∀ j, j < kN ci → defaultValue (kTy ci j) = if kint ci j = true then .int 0 else .null) (hcs : cs.1 + 1 ≤ R.cells ∧ cs.2 + kN ci ≤ R.slots) (hp : pc + 3 = pc') (kk : kG Γ mi R (cs.1 + 1, cs.2 + kN ci) pc' L (.ref ω.1 :: st) (ω.1 + 1, ω.2) Z) : kG Γ mi R cs pc L st ω Z := by
  intro p e s m args below meth c H locs ls C P S V
  subst hp
  obtain ⟨hc, hw, hty, hnm⟩ := kcl hc6
  have hts := C.2.2.2.2.2.1
  have hKn := C.2.2.2.2.2.2.2.2.1.1.1 ci _ hc
  refine W.newcK C.1 C.2.1 C.2.2.2.2.1 (hts _ hl) (hts _ hin) (hts _ hini) rfl hd hcs.1 hcs.2 hKn.2.1 (kad_sz P h74) fun H1 kC hkC e1 z1 o1 => ?_
  rw [← kad_sz P h74] at z1 o1
  refine knew P S z1 o1 ?_ (fun P1 S1 => kk p e s m args below meth c H1 locs ls C P1 S1 V)
  rw [kent_obj hs hc6]
  refine ⟨_, hc, (u_born (kTy ci) hts hw hKn hkC e1 hty).to (fun j hj => ?_)⟩
  rw [hdf j hj]
  unfold vp_V
  rw [List.getD_eq_getElem?_getD, kfs_get hj]
  simp only [kfv, h0, h1, Option.getD_some]
  rfl
theorem kG.newa {n : Nat} {x : Int32} (pc' : Nat) (h74 : ω.1 < 74) (hd : decode mi.2.1 pc = .ok (.newarray .int, 2)) (hs : ksh ω.1 = (10, n)) (hx : x = nI n) (hb : n < 1000) (h0 : ∀ j, ω.2.1 ω.1 j = 0) (hcs : cs.1 + 1 ≤ R.cells ∧ cs.2 + n ≤ R.slots) (hp : pc + 2 = pc') (kk : kG Γ mi R (cs.1 + 1, cs.2 + n) pc' L (.ref ω.1 :: st) (ω.1 + 1, ω.2) Z) : kG Γ mi R cs pc L (.int x :: st) ω Z := by
  intro p e s m args below meth c H locs ls C P S V
  subst hp; subst hx
  have hts := C.2.2.2.2.2.1
  have hK := C.2.2.2.2.2.2.2.2.1.1
  refine va_newaK (atype := .int) C.1 C.2.1 (hts _ karr_i) rfl hd (n := nI n) (N := n) rfl (nI_pos (by omega)) (nI_clamp (by omega)) (by show n * 4 ≤ _; omega) hcs.1 hcs.2 (kad_sz P h74) fun H1 cA e1 z1 o1 hA hNm => ?_
  rw [← kad_sz P h74] at z1 o1
  refine knew P S z1 o1 ?_ (fun P1 S1 => kk p e s m args below meth c H1 locs ls C P1 S1 V)
  have hcA : Γ.2.2.1 0 = cA := Option.some.inj ((show s.vm.findClass _ = some (Γ.2.2.1 0) from (hK.2 0 _ rfl).2).symm.trans hNm)
  rw [kent_i hs]
  show H1[_]? = some (vp_cell _ _)
  rw [e1, hcA, vp_cell_i]
  congr 2
  funext j
  rw [h0]
  rfl
theorem kG.newz {n : Nat} {x : Int32} (pc' : Nat) (h74 : ω.1 < 74) (hd : decode mi.2.1 pc = .ok (.newarray .boolean, 2)) (hs : ksh ω.1 = (11, n)) (hx : x = nI n) (hb : n < 1000) (h0 : ∀ j, ω.2.1 ω.1 j = 0) (hcs : cs.1 + 1 ≤ R.cells ∧ cs.2 + n ≤ R.slots) (hp : pc + 2 = pc') (kk : kG Γ mi R (cs.1 + 1, cs.2 + n) pc' L (.ref ω.1 :: st) (ω.1 + 1, ω.2) Z) : kG Γ mi R cs pc L (.int x :: st) ω Z := by
  intro p e s m args below meth c H locs ls C P S V
  subst hp; subst hx
  have hts := C.2.2.2.2.2.1
  have hK := C.2.2.2.2.2.2.2.2.1.1
  refine va_newaK (atype := .boolean) C.1 C.2.1 (hts _ karr_z) rfl hd (n := nI n) (N := n) rfl (nI_pos (by omega)) (nI_clamp (by omega)) (by show n * 1 ≤ _; omega) hcs.1 hcs.2 (kad_sz P h74) fun H1 cA e1 z1 o1 hA hNm => ?_
  rw [← kad_sz P h74] at z1 o1
  refine knew P S z1 o1 ?_ (fun P1 S1 => kk p e s m args below meth c H1 locs ls C P1 S1 V)
  have hcA : Γ.2.2.1 1 = cA := Option.some.inj ((show s.vm.findClass _ = some (Γ.2.2.1 1) from (hK.2 1 _ rfl).2).symm.trans hNm)
  rw [kent_z hs]
  show H1[_]? = some (vp_cell _ _)
  rw [e1, hcA, vp_cell_i]
  congr 2
  funext j
  rw [h0]
  rfl
theorem kG.newq {i n : Nat} {x : Int32} (pc' : Nat) (h74 : ω.1 < 74) (hd : decode mi.2.1 pc = .ok (.anewarray i, 3)) (hl : Cond.classLink mi.1 i RX1 ∈ kTS) (hs : ksh ω.1 = (12, n)) (hx : x = nI n) (hb : n < 1000) (h1 : ∀ j, ω.2.2 ω.1 j = none) (hcs : cs.1 + 1 ≤ R.cells ∧ cs.2 + n ≤ R.slots) (hp : pc + 3 = pc') (kk : kG Γ mi R (cs.1 + 1, cs.2 + n) pc' L (.ref ω.1 :: st) (ω.1 + 1, ω.2) Z) : kG Γ mi R cs pc L (.int x :: st) ω Z := by
  intro p e s m args below meth c H locs ls C P S V
  subst hp; subst hx
  have hts := C.2.2.2.2.2.1
  have hKS := C.2.2.2.2.2.2.2.2.1
  have hK := hKS.1
  have hcl : (nI n).toNatClampNeg = n := nI_clamp (by omega)
  refine W.anew C.1 C.2.1 C.2.2.2.2.1 (hts _ hl) (va_AO.use hKS.2.2.2.2) rfl hd rfl (nI_pos (by omega)) (by rw [hcl]; omega) hcs.1 (by rw [hcl]; exact hcs.2) fun cA kA' comp f1 f2 f3 f4 => ?_
  rw [hcl]
  generalize hH1 : H.push ({ cls := cA, slots := Array.replicate n .null, vm := .none } : Cell) = H1
  have z1 : H1.size = H.size + 1 := by rw [← hH1, Array.size_push]
  have e1 : H1[H.size]? = some (arrV cA n (fun _ => .null)) := by rw [← hH1, Array.getElem?_push_size, ← arrV_new]
  have o1 : ∀ q : Nat, q < H.size → H1[q]? = H[q]? := fun q hq => by rw [← hH1, Array.getElem?_push, if_neg (Nat.ne_of_lt hq)]
  have hk2 := kk p e s m args below meth c H1 locs ls C
  rw [kad_sz P h74]
  refine knew P S z1 o1 ?_ (fun P1 S1 => hk2 P1 S1 V)
  obtain ⟨kA2, comp2, k1, k2, k3, k4⟩ := (hK.2 2 _ rfl).2
  have hcA : Γ.2.2.1 2 = cA := Option.some.inj (k4.symm.trans f1)
  rw [kent_q hs]
  show H1[_]? = some (vp_cell _ _)
  rw [← kad_sz P h74, e1, hcA, vp_cell_q]
  congr 2
  funext j
  rw [h1]
  rfl
/-! System.arraycopy of ints -/
theorem kG.copy {i k0 k1 n0 n1 sp dp n : Nat} {xs xd xn : Int32} (pc' : Nat) (h74 : ω.1 = 74) (hd : decode mi.2.1 pc = .ok (.invokestatic i, 3)) (hl : Cond.methodLink mi.1 i arraycopyName ∈ kTS) (hk0 : 0 < k0 ∧ k0 < ω.1) (hk1 : 0 < k1 ∧ k1 < ω.1) (hs0 : ksh k0 = (10, n0)) (hs1 : ksh k1 = (10, n1)) (e0 : xs = nI sp) (e1 : xd = nI dp) (e2 : xn = nI n) (h0 : sp + n ≤ n0) (h1 : dp + n ≤ n1) (hb : n0 < 1000 ∧ n1 < 1000) (hR : 1 ≤ R.frames ∧ (st.map fun v => v.category).sum + (nativeFrameWords "java/lang/System" "arraycopy" 5 + 11) ≤ R.locals) (hp : pc + 3 = pc') (kk : kG Γ mi R cs pc' L st (sA ω k1 (va_cpy (ω.2.1 k0) (ω.2.1 k1) sp dp n)) Z) : kG Γ mi R cs pc L (.int xn :: .int xd :: .ref k1 :: .int xs :: .ref k0 :: st) ω Z := by
  intro p e s m args below meth c H locs ls C P S V
  subst hp; subst e0; subst e1; subst e2
  have hts := C.2.2.2.2.2.1
  have hK := C.2.2.2.2.2.2.2.2.1.1
  have c0 : (nI sp).toNatClampNeg = sp := nI_clamp (by omega)
  have c1 : (nI dp).toNatClampNeg = dp := nI_clamp (by omega)
  have c2 : (nI n).toNatClampNeg = n := nI_clamp (by omega)
  have he0 : (kws Γ ω)[k0 - 1]? = some (kad Γ k0, .inl (Γ.2.2.1 0, n0, .inl (ω.2.1 k0))) := by rw [kws_at hk0.1 hk0.2, kent_i hs0]
  have he1 : (kws Γ ω)[k1 - 1]? = some (kad Γ k1, .inl (Γ.2.2.1 0, n1, .inl (ω.2.1 k1))) := by rw [kws_at hk1.1 hk1.2, kent_i hs1]
  refine va_copyi C.1 C.2.1 (C.2.2.2.1.trans V.1.symm) C.2.2.2.2.1 (hts _ hl) (hts _ kcopy_n) (hts _ kcopy_s) (hts _ kcopy_i) hK P.2.2 (kws_D Γ ω) S (k0 - 1) (k1 - 1) 0 0 he0 he1 (ty := .int) rfl rfl rfl (nI_pos (by omega)) (nI_pos (by omega)) (nI_pos (by omega)) (by rw [c0, c2]; exact h0) (by rw [c1, c2]; exact h1) (fun _ _ => rfl) hR.1 (by rw [ksum_st]; exact hR.2) hd (fun H1 locs1 hP hD hS => ?_)
  rw [c0, c1, c2] at hP
  refine kk p e s m args below meth c H1 locs1 ls C ⟨P.1, fun h => absurd h (by show ¬ ω.1 < 74; omega), ?_⟩ hS V
  have h := kws_sA (Γ := Γ) (ω := ω) (f := va_cpy (ω.2.1 k0) (ω.2.1 k1) sp dp n) hk1.1 hk1.2
  rw [kent_i hs1] at h
  have e2 : (sA ω k1 (va_cpy (ω.2.1 k0) (ω.2.1 k1) sp dp n)).2.1 k1 = va_cpy (ω.2.1 k0) (ω.2.1 k1) sp dp n := by simp [sA]
  rw [e2] at h
  rw [← h]
  exact hP

end KR
