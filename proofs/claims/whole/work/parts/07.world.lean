/-! THE WORLD BEHIND THE TWO CONSTRUCTORS: 74 cells; which references they hold is fixed, but for four: told, draft, what real and trial were told. -/
abbrev kq4 : Type := Nat × Nat × Nat × Nat
def PT (q : kq4) : List (List (Option Nat)) := [[],
  [some 2, some 3, some 7, some q.1, some q.2.1, some 27, some 34], [some 41, some 43, some 45, some 47],
  [none, some 4, some 5, some 6], [], [], [], [none, some 8, some 9, some 10], [], [], [],
  [some 12, some 13, some 14, some 15, some 16, some 17, some 18], [], [], [], [], [], [], [],
  [some 20, some 21, some 22, some 23, some 24, some 25, some 26], [], [], [], [], [], [], [],
  [some 28, some 29, some 30, some 31, some 32, some 33, some 3, some q.2.2.1], [], [], [], [], [], [],
  [some 35, some 36, some 37, some 38, some 39, some 40, some 3, some q.2.2.2], [], [], [], [], [], [],
  [some 42], [], [some 44], [], [some 46], [], [some 48], [],
  [none, none, some 50, some 51, some 52, none, none, none, some 53, some 54, some 55, some 56, some 57, some 58, some 59, some 60, none, none, none, none, some 61, some 62, none, some 63, some 64, some 65, some 66, some 67, some 68, some 69, none, none, some 70, some 71, some 72, some 73]]
def PI (q : kq4) (k j : Nat) : Option Nat := ((PT q).getD k []).getD j none
abbrev kM : Type := Nat → Nat → Int32
def kW (μ : kM) (q : kq4) : kWd := (74, μ, PI q)
def uA (μ : kM) (k : Nat) (f : Nat → Int32) : kM := fun a => if a = k then f else μ a
def uI (μ : kM) (k j : Nat) (v : Int32) : kM := uA μ k (upd (μ k) j v)
theorem uA_same (μ : kM) (k : Nat) (f : Nat → Int32) : uA μ k f k = f := by simp [uA]
theorem uA_ne {μ : kM} {k a : Nat} {f : Nat → Int32} (h : a ≠ k) : uA μ k f a = μ a := by simp [uA, h]
theorem uI_same (μ : kM) (k j : Nat) (v : Int32) : uI μ k j v k j = v := by simp [uI, uA, upd]
theorem uI_ne {μ : kM} {k j a i : Nat} {v : Int32} (h : a ≠ k ∨ i ≠ j) : uI μ k j v a i = μ a i := by
  unfold uI uA
  by_cases ha : a = k
  · subst ha
    simp [upd, h.resolve_left (fun z => z rfl)]
  · simp [ha]
theorem uI_off {μ : kM} {k j a : Nat} {v : Int32} (h : a ≠ k) : uI μ k j v a = μ a := by simp [uI, uA, h]
abbrev gG (Γ : kGm) (mi : kMI) (d pc : Nat) (L : List (Option Value)) (st : List Value) (μ : kM) (q : kq4) (Q : Option Value → kM → kq4 → Prop) : Prop := kG Γ mi (kRm d 0 0) (0, 0) pc L st (kW μ q) (kMZ Γ (kRm d 0 0) (fun r ω => ∃ (μ' : kM) (q' : kq4), ω = kW μ' q' ∧ Q r μ' q'))
def gC (Γ : kGm) (y : MethodName) (mi : kMI) (d : Nat) (as : List Value) (μ : kM) (q : kq4) (Q : Option Value → kM → kq4 → Prop) : Prop := kC Γ y mi (kRm d 0 0) as (kW μ q) (fun r ω => ∃ (μ' : kM) (q' : kq4), ω = kW μ' q' ∧ Q r μ' q')
section GR
variable {Γ : kGm} {mi : kMI} {d pc : Nat} {L : List (Option Value)} {st : List Value} {μ : kM} {q : kq4} {Q : Option Value → kM → kq4 → Prop}
theorem gC.ofG {y : MethodName} {as : List Value} {n : Nat} (hy : plainName y.cls = true ∧ y.cls = mi.1 ∧ y.name = mi.2.2.2.2 ∧ mi.1 ≠ RL) (hn : (kEnA as).length ≤ mi.2.2.1) (h : gG Γ mi d 0 (kEn mi.2.2.1 as) [] μ q Q) : gC Γ y mi d as μ q Q := kC.ofG hy.1 hy.2.1 hy.2.2.1 hy.2.2.2 hn h
theorem gC.weak {y : MethodName} {as : List Value} {Q' : Option Value → kM → kq4 → Prop} (h : gC Γ y mi d as μ q Q) (hq : ∀ r μ' q', Q r μ' q' → Q' r μ' q') : gC Γ y mi d as μ q Q' := kC.weak h (fun r ω ⟨μ', q', e, h⟩ => ⟨μ', q', e, hq r μ' q' h⟩)
theorem gG.getI {i ci j k : Nat} (pc' : Nat) (hd : decode mi.2.1 pc = .ok (.getfield i, 3)) (hf : kFE mi.1 i ci j) (hk : 0 < k ∧ k < 74) (hs : (ksh k).1 = ci) (hi : kint ci j = true) (hp : pc + 3 = pc') (kk : gG Γ mi d pc' L (.int (μ k j) :: st) μ q Q) : gG Γ mi d pc L (.ref k :: st) μ q Q := kG.getI pc' hd hf hk hs hi hp kk
theorem gG.getP {i ci j k r : Nat} (pc' : Nat) (hd : decode mi.2.1 pc = .ok (.getfield i, 3)) (hf : kFE mi.1 i ci j) (hk : 0 < k ∧ k < 74) (hs : (ksh k).1 = ci) (hi : kint ci j = false) (hq : PI q k j = some r) (hp : pc + 3 = pc') (kk : gG Γ mi d pc' L (.ref r :: st) μ q Q) : gG Γ mi d pc L (.ref k :: st) μ q Q := kG.getP pc' hd hf hk hs hi hq hp kk
theorem gG.putI {i ci j k : Nat} {x : Int32} (pc' : Nat) (hd : decode mi.2.1 pc = .ok (.putfield i, 3)) (hf : kFE mi.1 i ci j) (hk : 0 < k ∧ k < 74) (hs : (ksh k).1 = ci) (hi : kint ci j = true) (hfin : (kT ci j).2.2.2 = false) (hn : narrow (kTy ci j) (.int x) = .int x ∧ fits (kTy ci j) (.int x) = true) (hp : pc + 3 = pc') (kk : gG Γ mi d pc' L st (uI μ k j x) q Q) : gG Γ mi d pc L (.int x :: .ref k :: st) μ q Q := kG.putI pc' hd hf hk hs hi (Or.inl hfin) hn hp kk
theorem gG.putP {i ci j k r : Nat} {q' : kq4} (pc' : Nat) (hd : decode mi.2.1 pc = .ok (.putfield i, 3)) (hf : kFE mi.1 i ci j) (hk : 0 < k ∧ k < 74) (hs : (ksh k).1 = ci) (hi : kint ci j = false) (hfin : (kT ci j).2.2.2 = false) (hn : (∀ x, narrow (kTy ci j) (.ref x) = .ref x) ∧ ∀ x, fits (kTy ci j) (.ref x) = true) (he : sP (kW μ q) k j (some r) = kW μ q') (hp : pc + 3 = pc') (kk : gG Γ mi d pc' L st μ q' Q) : gG Γ mi d pc L (.ref r :: .ref k :: st) μ q Q := kG.putP pc' hd hf hk hs hi (Or.inl hfin) hn hp (by rw [he]; exact kk)
theorem gG.iald {k n : Nat} {x : Int32} (i pc' : Nat) (hd : decode mi.2.1 pc = .ok (.iaload, 1)) (hk : 0 < k ∧ k < 74) (hs : ksh k = (10, n)) (hx : x = nI i) (hq : i < n) (hb : n < 1000) (hp : pc + 1 = pc') (kk : gG Γ mi d pc' L (.int (μ k i) :: st) μ q Q) : gG Γ mi d pc L (.int x :: .ref k :: st) μ q Q := kG.iald pc' hd hk hs hx hq hb hp kk
theorem gG.zald {k n : Nat} {x : Int32} (i pc' : Nat) (hd : decode mi.2.1 pc = .ok (.baload, 1)) (hk : 0 < k ∧ k < 74) (hs : ksh k = (11, n)) (hx : x = nI i) (hq : i < n) (hb : n < 1000) (hp : pc + 1 = pc') (kk : gG Γ mi d pc' L (.int (μ k i) :: st) μ q Q) : gG Γ mi d pc L (.int x :: .ref k :: st) μ q Q := kG.zald pc' hd hk hs hx hq hb hp kk
theorem gG.aald {k n r : Nat} {x : Int32} (i pc' : Nat) (hd : decode mi.2.1 pc = .ok (.aaload, 1)) (hk : 0 < k ∧ k < 74) (hs : ksh k = (12, n)) (hx : x = nI i) (hq : i < n) (hb : n < 1000) (hr : PI q k i = some r) (hp : pc + 1 = pc') (kk : gG Γ mi d pc' L (.ref r :: st) μ q Q) : gG Γ mi d pc L (.int x :: .ref k :: st) μ q Q := kG.aald pc' hd hk hs hx hq hb hr hp kk
theorem gG.iast {k n : Nat} {x v : Int32} (i pc' : Nat) (hd : decode mi.2.1 pc = .ok (.iastore, 1)) (hk : 0 < k ∧ k < 74) (hs : ksh k = (10, n)) (hx : x = nI i) (hq : i < n) (hb : n < 1000) (hp : pc + 1 = pc') (kk : gG Γ mi d pc' L st (uI μ k i v) q Q) : gG Γ mi d pc L (.int v :: .int x :: .ref k :: st) μ q Q := kG.iast pc' hd hk hs hx hq hb hp kk
theorem gG.zast {k n : Nat} {x v : Int32} (i pc' : Nat) (hd : decode mi.2.1 pc = .ok (.bastore, 1)) (hk : 0 < k ∧ k < 74) (hs : ksh k = (11, n)) (hx : x = nI i) (hq : i < n) (hb : n < 1000) (hv : v &&& 1 = v) (hp : pc + 1 = pc') (kk : gG Γ mi d pc' L st (uI μ k i v) q Q) : gG Γ mi d pc L (.int v :: .int x :: .ref k :: st) μ q Q := kG.zast pc' hd hk hs hx hq hb hv hp kk
theorem gG.alen {k n : Nat} (pc' : Nat) (hd : decode mi.2.1 pc = .ok (.arraylength, 1)) (hk : 0 < k ∧ k < 74) (hs : ksh k = (10, n)) (hp : pc + 1 = pc') (kk : gG Γ mi d pc' L (.int (nI n) :: st) μ q Q) : gG Γ mi d pc L (.ref k :: st) μ q Q := kG.alen pc' hd hk hs rfl hp kk
theorem gG.iret {x : Int32} (hd : decode mi.2.1 pc = .ok (.ireturn, 1)) (hr : mi.2.2.2.1 = some .int) (hq : Q (some (.int x)) μ q) : gG Γ mi d pc L [.int x] μ q Q := kG.iret hd hr ⟨Nat.le_refl _, Nat.le_refl _⟩ ⟨μ, q, rfl, hq⟩
theorem gG.zret {x : Int32} (hd : decode mi.2.1 pc = .ok (.ireturn, 1)) (hr : mi.2.2.2.1 = some .boolean) (hx : x &&& 1 = x) (hq : Q (some (.int x)) μ q) : gG Γ mi d pc L [.int x] μ q Q := kG.zret hd hr hx ⟨Nat.le_refl _, Nat.le_refl _⟩ ⟨μ, q, rfl, hq⟩
theorem gG.lret {x : Int64} (hd : decode mi.2.1 pc = .ok (.lreturn, 1)) (hr : mi.2.2.2.1 = some .long) (hq : Q (some (.long x)) μ q) : gG Γ mi d pc L [.long x] μ q Q := kG.lret hd hr ⟨Nat.le_refl _, Nat.le_refl _⟩ ⟨μ, q, rfl, hq⟩
theorem gG.aret {k : Nat} {n : String} (hd : decode mi.2.1 pc = .ok (.areturn, 1)) (hr : mi.2.2.2.1 = some (.object n)) (hq : Q (some (.ref k)) μ q) : gG Γ mi d pc L [.ref k] μ q Q := kG.aret hd hr ⟨Nat.le_refl _, Nat.le_refl _⟩ ⟨μ, q, rfl, hq⟩
theorem gG.vret (hd : decode mi.2.1 pc = .ok (.return_, 1)) (hr : mi.2.2.2.1 = none) (hq : Q none μ q) : gG Γ mi d pc L [] μ q Q := kG.vret hd hr ⟨Nat.le_refl _, Nat.le_refl _⟩ ⟨μ, q, rfl, hq⟩
theorem groom {d' d nL : Nat} (h : d' < d) (hn : nL ≤ 21) : (kRm d' 0 0).frames + 1 ≤ (kRm d 0 0).frames ∧ 8 + (nL + 11) + (kRm d' 0 0).locals ≤ (kRm d 0 0).locals := by
  show d' + 1 ≤ d ∧ 8 + (nL + 11) + 40 * d' ≤ 40 * d
  omega
theorem gG.callV {i n k ci d' : Nat} {y : MethodName} {mi' : kMI} {As stk : List Value} {Q' : Option Value → kM → kq4 → Prop} (pc' : Nat) (hd : decode mi.2.1 pc = .ok (.invokevirtual i, 3)) (hl : Cond.methodLink mi.1 i y ∈ kTS) (hv : kVm y mi' n) (hM : gC Γ y mi' d' (.ref k :: As) μ q Q') (hst : stk = As.reverse ++ ([.ref k] ++ st)) (hn : As.length = n) (hk : 0 < k ∧ k < 74) (hs : (ksh k).1 = ci) (hcls : ci < 6 ∧ kR ci = y.cls) (hdd : d' < d ∧ mi'.2.2.1 ≤ 21) (hW : (st.map fun v => v.category).sum ≤ 8) (hp : pc + 3 = pc')
    (kk : ∀ (r : Option Value) (μ' : kM) (q' : kq4), Q' r μ' q' → gG Γ mi d pc' L (r.toList ++ st) μ' q' Q) : gG Γ mi d pc L stk μ q Q := by
  refine kG.callV pc' hd hl hv hM hst hn hk ⟨hs, hcls.1⟩ hcls.2 (groom hdd.1 hdd.2) hW ⟨Nat.le_refl _, Nat.le_refl _⟩ hp (fun r ω' h => ?_)
  obtain ⟨μ', q', rfl, h⟩ := h
  exact kk r μ' q' h
theorem gG.callS {i n d' : Nat} {y : MethodName} {mi' : kMI} {As stk : List Value} {Q' : Option Value → kM → kq4 → Prop} (pc' : Nat) (hd : decode mi.2.1 pc = .ok (.invokestatic i, 3)) (hl : Cond.methodLink mi.1 i y ∈ kTS) (hv : kSm y mi' n) (hM : gC Γ y mi' d' As μ q Q') (hst : stk = As.reverse ++ ([] ++ st)) (hn : As.length = n) (hdd : d' < d ∧ mi'.2.2.1 ≤ 21) (hW : (st.map fun v => v.category).sum ≤ 8) (hp : pc + 3 = pc')
    (kk : ∀ (r : Option Value) (μ' : kM) (q' : kq4), Q' r μ' q' → gG Γ mi d pc' L (r.toList ++ st) μ' q' Q) : gG Γ mi d pc L stk μ q Q := by
  refine kG.callS pc' hd hl hv hM hst hn (groom hdd.1 hdd.2) hW ⟨Nat.le_refl _, Nat.le_refl _⟩ hp (fun r ω' h => ?_)
  obtain ⟨μ', q', rfl, h⟩ := h
  exact kk r μ' q' h
theorem gG.callSN {i n d' : Nat} {y : MethodName} {host : String} {mi' : kMI} {As stk : List Value} {Q' : Option Value → kM → kq4 → Prop} (pc' : Nat) (hd : decode mi.2.1 pc = .ok (.invokestatic i, 3)) (hl : ∀ s, kKS Γ s → va_Nw (.methodLinkNest mi.1 i y host) s) (hv : kSm y mi' n) (hM : gC Γ y mi' d' As μ q Q') (hst : stk = As.reverse ++ ([] ++ st)) (hn : As.length = n) (hdd : d' < d ∧ mi'.2.2.1 ≤ 21) (hW : (st.map fun v => v.category).sum ≤ 8) (hp : pc + 3 = pc')
    (kk : ∀ (r : Option Value) (μ' : kM) (q' : kq4), Q' r μ' q' → gG Γ mi d pc' L (r.toList ++ st) μ' q' Q) : gG Γ mi d pc L stk μ q Q := by
  refine kG.callSN pc' hd hl hv hM hst hn (groom hdd.1 hdd.2) hW ⟨Nat.le_refl _, Nat.le_refl _⟩ hp (fun r ω' h => ?_)
  obtain ⟨μ', q', rfl, h⟩ := h
  exact kk r μ' q' h
theorem gG.mmax {i : Nat} {x y : Int32} (pc' : Nat) (hd : decode mi.2.1 pc = .ok (.invokestatic i, 3)) (hl : Cond.methodLink mi.1 i Lib.Math.max.name ∈ kTS) (hdd : 0 < d) (hW : (st.map fun v => v.category).sum ≤ 8) (hp : pc + 3 = pc') (kk : gG Γ mi d pc' L (.int (if x < y then y else x) :: st) μ q Q) : gG Γ mi d pc L (.int y :: .int x :: st) μ q Q := kG.mmax pc' hd hl ⟨Nat.le_refl _, Nat.le_refl _⟩ ⟨hdd, by show _ ≤ 40 * d; omega⟩ hp kk
theorem gG.mmin {i : Nat} {x y : Int32} (pc' : Nat) (hd : decode mi.2.1 pc = .ok (.invokestatic i, 3)) (hl : Cond.methodLink mi.1 i Lib.Math.min.name ∈ kTS) (hdd : 0 < d) (hW : (st.map fun v => v.category).sum ≤ 8) (hp : pc + 3 = pc') (kk : gG Γ mi d pc' L (.int (if y < x then y else x) :: st) μ q Q) : gG Γ mi d pc L (.int y :: .int x :: st) μ q Q := kG.mmin pc' hd hl ⟨Nat.le_refl _, Nat.le_refl _⟩ ⟨hdd, by show _ ≤ 40 * d; omega⟩ hp kk
theorem gG.copy {i k0 k1 n0 n1 : Nat} {xs xd xn : Int32} (sp dp n pc' : Nat) (hd : decode mi.2.1 pc = .ok (.invokestatic i, 3)) (hl : Cond.methodLink mi.1 i arraycopyName ∈ kTS) (hk0 : 0 < k0 ∧ k0 < 74) (hk1 : 0 < k1 ∧ k1 < 74) (hs0 : ksh k0 = (10, n0)) (hs1 : ksh k1 = (10, n1)) (e0 : xs = nI sp) (e1 : xd = nI dp) (e2 : xn = nI n) (h0 : sp + n ≤ n0) (h1 : dp + n ≤ n1) (hb : n0 < 1000 ∧ n1 < 1000) (hdd : 0 < d) (hW : (st.map fun v => v.category).sum ≤ 8) (hp : pc + 3 = pc') (kk : gG Γ mi d pc' L st (uA μ k1 (va_cpy (μ k0) (μ k1) sp dp n)) q Q) : gG Γ mi d pc L (.int xn :: .int xd :: .ref k1 :: .int xs :: .ref k0 :: st) μ q Q := kG.copy pc' rfl hd hl hk0 hk1 hs0 hs1 e0 e1 e2 h0 h1 hb ⟨hdd, by
  have e : nativeFrameWords "java/lang/System" "arraycopy" 5 + 11 ≤ 32 := by decide +kernel
  show _ ≤ 40 * d
  omega⟩ hp kk
end GR
/-! the cells of a kind -/
def isT (a : Nat) : Prop := a = 11 ∨ a = 19
def isW (a : Nat) : Prop := a = 27 ∨ a = 34
def isK (a : Nat) : Prop := a = 3 ∨ a = 7
def isS (a : Nat) : Prop := a = 41 ∨ a = 43 ∨ a = 45 ∨ a = 47
theorem isT_k {a : Nat} (h : isT a) : 0 < a ∧ a < 74 := by rcases h with rfl | rfl <;> decide
theorem isW_k {a : Nat} (h : isW a) : 0 < a ∧ a < 74 := by rcases h with rfl | rfl <;> decide
theorem isK_k {a : Nat} (h : isK a) : 0 < a ∧ a < 74 := by rcases h with rfl | rfl <;> decide
theorem isS_k {a : Nat} (h : isS a) : 0 < a ∧ a < 74 := by rcases h with rfl | rfl | rfl | rfl <;> decide
theorem isT_s {a : Nat} (h : isT a) : (ksh a).1 = 2 := by rcases h with rfl | rfl <;> rfl
theorem isW_s {a : Nat} (h : isW a) : (ksh a).1 = 3 := by rcases h with rfl | rfl <;> rfl
theorem isK_s {a : Nat} (h : isK a) : (ksh a).1 = 0 := by rcases h with rfl | rfl <;> rfl
theorem isS_s {a : Nat} (h : isS a) : (ksh a).1 = 1 := by rcases h with rfl | rfl | rfl | rfl <;> rfl
/-- their arrays -/
theorem arT_k {a j : Nat} (h : isT a) (hj : j < 7) : 0 < a + 1 + j ∧ a + 1 + j < 74 := by rcases h with rfl | rfl <;> omega
theorem arW_k {a j : Nat} (h : isW a) (hj : j < 6) : 0 < a + 1 + j ∧ a + 1 + j < 74 := by rcases h with rfl | rfl <;> omega
theorem arK_k {a j : Nat} (h : isK a) (hj : j < 4) : 0 < a + j ∧ a + j < 74 := by rcases h with rfl | rfl <;> omega
theorem arS_k {a : Nat} (h : isS a) : 0 < a + 1 ∧ a + 1 < 74 := by rcases h with rfl | rfl | rfl | rfl <;> decide
def lnT (j : Nat) : Nat := [4, 4, 6, 6, 6, 6, 6].getD j 0
def lnW (j : Nat) : Nat := [560, 560, 140, 4, 4, 6].getD j 0
theorem arT_s {a j : Nat} (h : isT a) (hj : j < 7) : ksh (a + 1 + j) = (10, lnT j) := by
  rcases h with rfl | rfl <;> match j, hj with
  | 0, _ => rfl
  | 1, _ => rfl
  | 2, _ => rfl
  | 3, _ => rfl
  | 4, _ => rfl
  | 5, _ => rfl
  | 6, _ => rfl
theorem arW_s {a j : Nat} (h : isW a) (hj : j < 6) : ksh (a + 1 + j) = (10, lnW j) := by
  rcases h with rfl | rfl <;> match j, hj with
  | 0, _ => rfl
  | 1, _ => rfl
  | 2, _ => rfl
  | 3, _ => rfl
  | 4, _ => rfl
  | 5, _ => rfl
def lnK (a : Nat) : Nat := if a = 3 then 6 else 8
theorem arK_s {a j : Nat} (h : isK a) (h0 : 0 < j) (hj : j < 4) : ksh (a + j) = (10, lnK a) := by
  rcases h with rfl | rfl <;> match j, h0, hj with
  | 1, _, _ => rfl
  | 2, _, _ => rfl
  | 3, _, _ => rfl
theorem arS_s {a : Nat} (h : isS a) : ksh (a + 1) = (10, 60) := by rcases h with rfl | rfl | rfl | rfl <;> rfl
theorem PI_T {a j : Nat} {q : kq4} (h : isT a) (hj : j < 7) : PI q a j = some (a + 1 + j) := by
  rcases h with rfl | rfl <;> match j, hj with
  | 0, _ => rfl
  | 1, _ => rfl
  | 2, _ => rfl
  | 3, _ => rfl
  | 4, _ => rfl
  | 5, _ => rfl
  | 6, _ => rfl
theorem PI_W {a j : Nat} {q : kq4} (h : isW a) (hj : j < 6) : PI q a j = some (a + 1 + j) := by
  rcases h with rfl | rfl <;> match j, hj with
  | 0, _ => rfl
  | 1, _ => rfl
  | 2, _ => rfl
  | 3, _ => rfl
  | 4, _ => rfl
  | 5, _ => rfl
theorem PI_W6 {a : Nat} {q : kq4} (h : isW a) : PI q a 6 = some 3 := by rcases h with rfl | rfl <;> rfl
/-- what a Weeks was told -/
def tq (q : kq4) (w : Nat) : Nat := if w = 27 then q.2.2.1 else q.2.2.2
theorem PI_W7 {a : Nat} {q : kq4} (h : isW a) : PI q a 7 = some (tq q a) := by rcases h with rfl | rfl <;> rfl
theorem PI_K {a j : Nat} {q : kq4} (h : isK a) (h0 : 0 < j) (hj : j < 4) : PI q a j = some (a + j) := by
  rcases h with rfl | rfl <;> match j, h0, hj with
  | 1, _, _ => rfl
  | 2, _, _ => rfl
  | 3, _, _ => rfl
theorem PI_S {a : Nat} {q : kq4} (h : isS a) : PI q a 0 = some (a + 1) := by rcases h with rfl | rfl | rfl | rfl <;> rfl
/-- which sheet -/
def shc (s : Nat) : Nat := 41 + 2 * s
theorem shc_S {s : Nat} (h : s < 4) : isS (shc s) := by
  match s, h with
  | 0, _ => exact Or.inl rfl
  | 1, _ => exact Or.inr (Or.inl rfl)
  | 2, _ => exact Or.inr (Or.inr (Or.inl rfl))
  | 3, _ => exact Or.inr (Or.inr (Or.inr rfl))
theorem PI_sh {s : Nat} {q : kq4} (h : s < 4) : PI q 2 s = some (shc s) := by
  match s, h with
  | 0, _ => rfl
  | 1, _ => rfl
  | 2, _ => rfl
  | 3, _ => rfl
/-- the four references that change -/
theorem sP_told {μ : kM} {q : kq4} {r : Nat} : sP (kW μ q) 1 3 (some r) = kW μ (r, q.2) := by
  unfold sP kW
  refine congrArg (fun z => ((74, μ, z) : kWd)) ?_
  funext k j
  by_cases hk : k = 1
  · subst hk
    by_cases hj : j = 3
    · subst hj; rfl
    · simp only [if_pos, va_up, hj, if_false]
      match j, hj with
      | 0, _ => rfl
      | 1, _ => rfl
      | 2, _ => rfl
      | 4, _ => rfl
      | 5, _ => rfl
      | 6, _ => rfl
      | j + 7, _ => rfl
  · simp only [hk, if_false]
    match k, hk with
    | 0, _ => rfl
    | k + 2, _ => rfl
theorem sP_draft {μ : kM} {q : kq4} {r : Nat} : sP (kW μ q) 1 4 (some r) = kW μ (q.1, r, q.2.2) := by
  unfold sP kW
  refine congrArg (fun z => ((74, μ, z) : kWd)) ?_
  funext k j
  by_cases hk : k = 1
  · subst hk
    by_cases hj : j = 4
    · subst hj; rfl
    · simp only [if_pos, va_up, hj, if_false]
      match j, hj with
      | 0, _ => rfl
      | 1, _ => rfl
      | 2, _ => rfl
      | 3, _ => rfl
      | 5, _ => rfl
      | 6, _ => rfl
      | j + 7, _ => rfl
  · simp only [hk, if_false]
    match k, hk with
    | 0, _ => rfl
    | k + 2, _ => rfl
def stq (q : kq4) (w t : Nat) : kq4 := if w = 27 then (q.1, q.2.1, t, q.2.2.2) else (q.1, q.2.1, q.2.2.1, t)
theorem sP_wk {μ : kM} {q : kq4} {w r : Nat} (hw : isW w) : sP (kW μ q) w 7 (some r) = kW μ (stq q w r) := by
  have key : ∀ (w : Nat), isW w → ∀ k j, (if k = w then va_up (PI q w) 7 (some r) else PI q k) j = PI (stq q w r) k j := by
    intro w hw k j
    rcases hw with rfl | rfl
    · by_cases hk : k = 27
      · subst hk
        by_cases hj : j = 7
        · subst hj; rfl
        · simp only [if_pos, va_up, hj, if_false]
          match j, hj with
          | 0, _ => rfl
          | 1, _ => rfl
          | 2, _ => rfl
          | 3, _ => rfl
          | 4, _ => rfl
          | 5, _ => rfl
          | 6, _ => rfl
          | j + 8, _ => rfl
      · simp only [hk, if_false]
        unfold PI
        congr 1
        show (PT q).getD k [] = (PT (q.1, q.2.1, r, q.2.2.2)).getD k []
        rw [List.getD_eq_getElem?_getD, List.getD_eq_getElem?_getD]
        congr 1
        rcases Nat.lt_or_ge k 27 with h | h
        · have e : ∀ q : kq4, (PT q)[k]? = ((PT q).take 27)[k]? := fun q => by rw [List.getElem?_take]; simp [h]
          rw [e, e]; rfl
        · have h2 : 28 ≤ k := by omega
          have e : ∀ q : kq4, (PT q)[k]? = ((PT q).drop 28)[k - 28]? := fun q => by rw [List.getElem?_drop]; congr 1; omega
          rw [e, e]; rfl
    · by_cases hk : k = 34
      · subst hk
        by_cases hj : j = 7
        · subst hj; rfl
        · simp only [if_pos, va_up, hj, if_false]
          match j, hj with
          | 0, _ => rfl
          | 1, _ => rfl
          | 2, _ => rfl
          | 3, _ => rfl
          | 4, _ => rfl
          | 5, _ => rfl
          | 6, _ => rfl
          | j + 8, _ => rfl
      · simp only [hk, if_false]
        unfold PI
        congr 1
        show (PT q).getD k [] = (PT (q.1, q.2.1, q.2.2.1, r)).getD k []
        rw [List.getD_eq_getElem?_getD, List.getD_eq_getElem?_getD]
        congr 1
        rcases Nat.lt_or_ge k 34 with h | h
        · have e : ∀ q : kq4, (PT q)[k]? = ((PT q).take 34)[k]? := fun q => by rw [List.getElem?_take]; simp [h]
          rw [e, e]; rfl
        · have h2 : 35 ≤ k := by omega
          have e : ∀ q : kq4, (PT q)[k]? = ((PT q).drop 35)[k - 35]? := fun q => by rw [List.getElem?_drop]; congr 1; omega
          rw [e, e]; rfl
  unfold sP kW
  refine congrArg (fun z => ((74, μ, z) : kWd)) ?_
  funext k j
  exact key w hw k j
