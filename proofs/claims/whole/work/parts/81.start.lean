/-! THE CLAIM OUT OF ONE WALK OF THE LAW'S BODY. Your part is whole_start (and what it stands on); all else here is the same for every law, but numbers. -/
def R_law : String := "TwoTownsLaw"
def lw_P (b : Addr) (xs : List Int32) (args : Array Value) (s : State) : Prop := args = #[.ref b] ∧ s.IntsAt b xs ∧ xs.length ≤ 384 ∧ (Jvm.Cond.and given_1 narrow_1).before args s = true
def lw_Q (_ : Array Value) (s : State) (o : Outcome) (t : State) : Prop := o = .returned (some (.int 1)) ∧ Framed s o t [] 600000 7302250
def lw_Z (below : List Frame) (a : Array Value) (s : State) : State → Prop := fun t => ∃ o, t.status = .running ∧ Ended t below o ∧ lw_Q a s o t
/-- the law's own end, with 1 on the stack, nothing written that was there before, its room as the claim has it -/
theorem lw_ret {p : Program} {l : Launch} {e : Env} {s : State} {m : MethodId} {below : List Frame} {meth : Method} {c : Code} {b : Nat} (hx : p.tables.exec = Jvm.exec) (hb : c.code = code) (hr : meth.sig.returnType = ret) (hlocks : meth.locks = false) {pc : Nat} {H : Heap} {ls : Array Slot} (hdg : decode code pc = .ok (.ireturn, 1)) : W p l e room_1 s m #[Value.ref b] below meth c H [] 600000 7302250 (lw_Z below #[Value.ref b] s) (F0 m pc ls [.int 1]) := by
  intro T hT X
  obtain ⟨fs, hret, hrun, hended, hW, hframe⟩ := X.leave (v := some (.int 1)) (hlocks := hlocks) (fun h => by rw [hr] at h; cases h)
  have hmeth' : T.vm.method? m = some meth := X.method'
  refine ⟨T.setFrames fs, ?_, .returned (some (.int 1)), hrun, hended, rfl, ⟨_, rfl⟩, hW, hframe⟩
  jvm_step X.here [X.here.top, hx, hb, hdg, hmeth', hr, ret, narrow_b1]
  (try refine ⟨rfl, ?_⟩); (try refine ⟨rfl, ?_⟩)
  first | (intro acts; rw [hret _ acts rfl rfl rfl]) | rw [hret _ _ rfl rfl rfl]
  exact Steps.refl _
/-- what holds at the law's entry: the machine, the code, the tables' words (any of lw_tbl by 'hts w (by decide +kernel)'), the script of L ints xs at the cell b, what the Statement gives of the start (any of its parts by flat_of_before) -/
def lw_At (p : Program) (s : State) (m : MethodId) (meth : Method) (c : Code) (b L : Nat) (xs : Nat → Int32) : Prop :=
  p.tables.exec = Jvm.exec ∧ c.code = code ∧ meth.sig.returnType = ret ∧ c.maxLocals = 4 ∧ s.vm.findClass R_law = some m.cls ∧ (∀ w ∈ lw_tbl, w.before #[Value.ref b] s = true) ∧ va_X b L xs s s.heap ∧ b < s.heap.size ∧ meth.locks = false ∧ (Jvm.Cond.and given_1 narrow_1).before #[Value.ref b] s = true
theorem lw_ret2 {p : Program} {l : Launch} {e : Env} {s : State} {m : MethodId} {below : List Frame} {meth : Method} {c : Code} {args : Array Value} (hx : p.tables.exec = Jvm.exec) (hb : c.code = code) (hr : meth.sig.returnType = ret) (hlocks : meth.locks = false) {pc : Nat} {H : Heap} {ls : Array Slot} (hdg : decode code pc = .ok (.ireturn, 1)) : W p l e room_1 s m args below meth c H [] 600000 7302250 (lw_Z below args s) (F0 m pc ls [.int 1]) := by
  intro T hT X
  obtain ⟨fs, hret, hrun, hended, hW, hframe⟩ := X.leave (v := some (.int 1)) (hlocks := hlocks) (fun h => by rw [hr] at h; cases h)
  have hmeth' : T.vm.method? m = some meth := X.method'
  refine ⟨T.setFrames fs, ?_, .returned (some (.int 1)), hrun, hended, rfl, ⟨_, rfl⟩, hW, hframe⟩
  jvm_step X.here [X.here.top, hx, hb, hdg, hmeth', hr, ret, narrow_b1]
  (try refine ⟨rfl, ?_⟩); (try refine ⟨rfl, ?_⟩)
  first | (intro acts; rw [hret _ acts rfl rfl rfl]) | rw [hret _ _ rfl rfl rfl]
  exact Steps.refl _
def q0 : kq4 := (11, 19, 11, 11)
theorem pi_ok : ∀ k, k < 74 → ∀ j, j < 36 → PI q0 k j = w_186.2.2 k j := by decide +kernel
theorem kN_le (c : Nat) : kN c ≤ 36 := by
  unfold kN
  split <;> decide
theorem ent_same (Γ : kGm) {k : Nat} (h : k < 74) : kent Γ (kW w_186.2.1 q0) k = kent Γ w_186 k := by
  have e : ∀ c, kfs Γ (kW w_186.2.1 q0) c k = kfs Γ w_186 c k := fun c => by
    unfold kfs
    apply List.map_congr_left
    intro j hj
    have hj := List.mem_range.mp hj
    have := kN_le c
    unfold kfv
    show (if kint c j = true then Value.int (w_186.2.1 k j) else va_rf ((PI q0 k j).map (kad Γ))) = _
    rw [pi_ok k h j (by omega)]
  unfold kent
  by_cases c10 : (ksh k).1 = 10
  · rw [if_pos c10, if_pos c10]; rfl
  · rw [if_neg c10, if_neg c10]
    by_cases c11 : (ksh k).1 = 11
    · rw [if_pos c11, if_pos c11]; rfl
    · rw [if_neg c11, if_neg c11]
      by_cases c12 : (ksh k).1 = 12
      · have e2 : k = 2 := (show ∀ k, k < 74 → (ksh k).1 = 12 → k = 2 by decide +kernel) k h c12
        subst e2
        rw [if_pos c12, if_pos c12]
        have e3 : (fun j => (PI q0 2 j).map (kad Γ)) = fun j => (w_186.2.2 2 j).map (kad Γ) := by
          funext j
          congr 1
          match j with
          | 0 => rfl
          | 1 => rfl
          | 2 => rfl
          | 3 => rfl
          | j + 4 => rfl
        show Sum.inl (_, _, Sum.inr (Sum.inr (Sum.inr (Sum.inr (fun j => (PI q0 2 j).map (kad Γ)))))) = _
        rw [e3]
      · rw [if_neg c12, if_neg c12, e]
theorem kG.same {Γ : kGm} {mi : kMI} {R : Room} {cs : Nat × Nat} {pc : Nat} {L : List (Option Value)} {st : List Value} {ω ω' : kWd} {Z : kZ} (e1 : ω'.1 = ω.1) (e : ∀ k, k < ω.1 → kent Γ ω' k = kent Γ ω k) (kk : kG Γ mi R cs pc L st ω' Z) : kG Γ mi R cs pc L st ω Z := by
  intro p e' s m args below meth c H locs ls C P S V
  have h : kws Γ ω' = kws Γ ω := by
    unfold kws
    rw [e1]
    apply List.map_congr_left
    intro k hk
    have := List.mem_range.mp hk
    rw [e (k + 1) (by omega)]
  exact kk p e' s m args below meth c H locs ls C ⟨by rw [e1]; exact P.1, by rw [e1]; exact P.2.1, by rw [h]; exact P.2.2⟩ S V
/-! the start -/
def S0 : AS := (D0, 0, 0, (0, fun _ => 0, fun _ => 0, fun _ => 0), (0, fun _ => 0, fun _ => 0, fun _ => 0), fun _ => 0, fun _ => 0, fun _ _ => 0, 0, 0)
theorem okS0 : okS S0 := ⟨⟨by decide, by decide, fun h hh => absurd hh (Nat.not_lt_zero _), fun h hh => absurd hh (Nat.not_lt_zero _)⟩, Iff.rfl, fun h => absurd h (Nat.lt_irrefl _), by decide, by decide, ⟨fun h hh => absurd hh (Nat.not_lt_zero _), by decide⟩, ⟨fun h hh => absurd hh (Nat.not_lt_zero _), by decide⟩, fun s _ => ⟨Nat.zero_le _, Nat.zero_le _⟩⟩
theorem CS_0 : CS S0 w_186.2.1 q0 := by
  refine ⟨okS0, ⟨Or.inl rfl, Or.inr rfl, by decide, Or.inl rfl, Or.inl rfl⟩, ⟨⟨rfl, rfl, fun h hh => absurd hh (Nat.not_lt_zero _), fun h hh => absurd hh (Nat.not_lt_zero _)⟩, rfl, rfl⟩, ⟨⟨rfl, fun h hh => absurd hh (Nat.not_lt_zero _)⟩, rfl, ⟨rfl, fun h hh => absurd hh (Nat.not_lt_zero _)⟩, rfl⟩, fun s hs => ⟨?_, fun h => absurd rfl h⟩, ⟨rfl, rfl⟩, Or.inl rfl⟩
  match s, hs with
  | 0, _ => rfl
  | 1, _ => rfl
  | 2, _ => rfl
  | 3, _ => rfl
theorem MS_0 : MS S0 w_186.2.1 := by
  refine ⟨⟨rfl, rfl, rfl, rfl, fun h hh => absurd hh (Nat.not_lt_zero _), fun h hh => absurd hh (Nat.not_lt_zero _), fun h hh => absurd hh (Nat.not_lt_zero _), fun h hh => absurd hh (Nat.not_lt_zero _)⟩, ⟨rfl, fun h hh => absurd hh (Nat.not_lt_zero _)⟩, fun s hs => ⟨?_, fun h => absurd rfl h⟩, rfl, rfl⟩
  match s, hs with
  | 0, _ => rfl
  | 1, _ => rfl
  | 2, _ => rfl
  | 3, _ => rfl
/-! the law's walk -/
abbrev hZ (Γ : kGm) : kZ := fun below args s t => s.heap.size ≤ kbs Γ + 1 → lw_Z below args s t
abbrev hG (Γ : kGm) (pc : Nat) (L : List (Option Value)) (st : List Value) (μ : kM) (q : kq4) : Prop := kG Γ mL_law room_1 (73, 3428) pc L st (kW μ q) (hZ Γ)
theorem MS_up {S : AS} {μ μ' : kM} (h : MS S μ) (f : ∀ k, 49 ≤ k → μ' k = μ k) : MS S μ' := MS_sc h (fun j _ => by rw [f 49 (by decide)]) (fun k a _ _ => f k (by omega))
theorem CS_dn {S : AS} {μ μ' : kM} {q : kq4} (h : CS S μ q) (f : ∀ k, k < 49 → μ' k = μ k) : CS S μ' q := CS_fr h h.2.1 ⟨rfl, rfl⟩ (fun k hk => f k (by rcases h.2.1.1 with z | z <;> omega))
theorem lroom {d nL : Nat} (h : d ≤ 8) (hn : nL ≤ 21) : (kRm d 0 0).frames + 1 ≤ room_1.frames ∧ 8 + (nL + 11) + (kRm d 0 0).locals ≤ room_1.locals := by
  show d + 1 ≤ 10 ∧ 8 + (nL + 11) + 40 * d ≤ 380
  omega
section HR
variable {Γ : kGm} {pc : Nat} {L : List (Option Value)} {st : List Value} {μ : kM} {q : kq4}
theorem hG.cV {i n d' k ci : Nat} {y : MethodName} {mi' : kMI} {As stk : List Value} {Q' : Option Value → kM → kq4 → Prop} (pc' : Nat) (hd : decode code pc = .ok (.invokevirtual i, 3)) (hl : Cond.methodLink RL i y ∈ kTS) (hv : kVm y mi' n) (hM : gC Γ y mi' d' (.ref k :: As) μ q Q') (hst : stk = As.reverse ++ ([.ref k] ++ st)) (hn : As.length = n) (hk : 0 < k ∧ k < 74) (hs : (ksh k).1 = ci) (hcls : ci < 6 ∧ kR ci = y.cls) (hdd : d' ≤ 8 ∧ mi'.2.2.1 ≤ 21) (hW : (st.map fun v => v.category).sum ≤ 8) (hp : pc + 3 = pc')
    (kk : ∀ (r : Option Value) (μ' : kM) (q' : kq4), Q' r μ' q' → hG Γ pc' L (r.toList ++ st) μ' q') : hG Γ pc L stk μ q := by
  refine kG.callV pc' hd hl hv hM hst hn hk ⟨hs, hcls.1⟩ hcls.2 (lroom hdd.1 hdd.2) hW ⟨(by decide : 73 ≤ 600000), (by decide : 3428 ≤ 7302250)⟩ hp (fun r ω' h => ?_)
  obtain ⟨μ', q', rfl, h⟩ := h
  exact kk r μ' q' h
theorem hG.cX {i n d' : Nat} {y : MethodName} {mi' : kMI} {As stk : List Value} {R : Int32} {S' : AS} (pc' : Nat) (hd : decode code pc = .ok (.invokevirtual i, 3)) (hl : Cond.methodLink RL i y ∈ kTS) (hv : kVm y mi' n) (hM : gC Γ y mi' d' (.ref 1 :: As) μ q (PCi R S' μ)) (hst : stk = As.reverse ++ ([.ref 1] ++ st)) (hn : As.length = n) (hcls : RX4 = y.cls) (hdd : d' ≤ 8 ∧ mi'.2.2.1 ≤ 21) (hW : (st.map fun v => v.category).sum ≤ 8) (hp : pc + 3 = pc')
    (kk : ∀ (μ' : kM) (q' : kq4), CS S' μ' q' → (∀ k, 49 ≤ k → μ' k = μ k) → hG Γ pc' L (.int R :: st) μ' q') : hG Γ pc L stk μ q :=
  hG.cV pc' hd hl hv hM hst hn (by decide) rfl ⟨by decide, hcls⟩ hdd hW hp (fun r μ' q' h => by obtain ⟨rfl, h2, h3⟩ := h; exact kk μ' q' h2 h3)
theorem hG.cXl {i n d' : Nat} {y : MethodName} {mi' : kMI} {As stk : List Value} {R : Int64} {S' : AS} (pc' : Nat) (hd : decode code pc = .ok (.invokevirtual i, 3)) (hl : Cond.methodLink RL i y ∈ kTS) (hv : kVm y mi' n) (hM : gC Γ y mi' d' (.ref 1 :: As) μ q (PCl R S' μ)) (hst : stk = As.reverse ++ ([.ref 1] ++ st)) (hn : As.length = n) (hcls : RX4 = y.cls) (hdd : d' ≤ 8 ∧ mi'.2.2.1 ≤ 21) (hW : (st.map fun v => v.category).sum ≤ 8) (hp : pc + 3 = pc')
    (kk : ∀ (μ' : kM) (q' : kq4), CS S' μ' q' → (∀ k, 49 ≤ k → μ' k = μ k) → hG Γ pc' L (.long R :: st) μ' q') : hG Γ pc L stk μ q :=
  hG.cV pc' hd hl hv hM hst hn (by decide) rfl ⟨by decide, hcls⟩ hdd hW hp (fun r μ' q' h => by obtain ⟨rfl, h2, h3⟩ := h; exact kk μ' q' h2 h3)
theorem hG.cM {i n d' : Nat} {y : MethodName} {mi' : kMI} {As stk : List Value} {R : Int32} {S' : AS} (pc' : Nat) (hd : decode code pc = .ok (.invokevirtual i, 3)) (hl : Cond.methodLink RL i y ∈ kTS) (hv : kVm y mi' n) (hM : gC Γ y mi' d' (.ref 49 :: As) μ q (PMi R S' μ q)) (hst : stk = As.reverse ++ ([.ref 49] ++ st)) (hn : As.length = n) (hcls : RX5 = y.cls) (hdd : d' ≤ 8 ∧ mi'.2.2.1 ≤ 21) (hW : (st.map fun v => v.category).sum ≤ 8) (hp : pc + 3 = pc')
    (kk : ∀ (μ' : kM), MS S' μ' → (∀ k, k < 49 → μ' k = μ k) → hG Γ pc' L (.int R :: st) μ' q) : hG Γ pc L stk μ q :=
  hG.cV pc' hd hl hv hM hst hn (by decide) rfl ⟨by decide, hcls⟩ hdd hW hp (fun r μ' q' h => by obtain ⟨rfl, h2, rfl, h3⟩ := h; exact kk μ' h2 h3)
theorem hG.cMl {i n d' : Nat} {y : MethodName} {mi' : kMI} {As stk : List Value} {R : Int64} {S' : AS} (pc' : Nat) (hd : decode code pc = .ok (.invokevirtual i, 3)) (hl : Cond.methodLink RL i y ∈ kTS) (hv : kVm y mi' n) (hM : gC Γ y mi' d' (.ref 49 :: As) μ q (PMl R S' μ q)) (hst : stk = As.reverse ++ ([.ref 49] ++ st)) (hn : As.length = n) (hcls : RX5 = y.cls) (hdd : d' ≤ 8 ∧ mi'.2.2.1 ≤ 21) (hW : (st.map fun v => v.category).sum ≤ 8) (hp : pc + 3 = pc')
    (kk : ∀ (μ' : kM), MS S' μ' → (∀ k, k < 49 → μ' k = μ k) → hG Γ pc' L (.long R :: st) μ' q) : hG Γ pc L stk μ q :=
  hG.cV pc' hd hl hv hM hst hn (by decide) rfl ⟨by decide, hcls⟩ hdd hW hp (fun r μ' q' h => by obtain ⟨rfl, h2, rfl, h3⟩ := h; exact kk μ' h2 h3)
theorem law_ret : hG Γ 1410 L [.int (nI 1)] μ q := by
  intro p e s m args below meth c H locs ls C P S V
  by_cases hz : s.heap.size ≤ kbs Γ + 1
  · refine va_forget (fun l hl => ?_) (W.widen (k := 600000) (n := 7302250) (by decide) (by decide) ?_)
    · have : kbs Γ < l.base := S.2.2 l hl
      omega
    · have K : W p Γ.1 e room_1 s m args below meth c H [] 600000 7302250 (lw_Z below args s) (F0 m 1410 ls [.int 1]) := lw_ret2 C.1 C.2.1 C.2.2.1 C.2.2.2.2.2.2.1 dL_law_1410
      intro T hT X
      obtain ⟨t, a, b⟩ := K T hT X
      exact ⟨t, a, fun _ => b⟩
  · exact fun T hT X => ⟨_, Steps.refl _, fun h => absurd h hz⟩
end HR
theorem lg_same (x : Int64) : lg_cmp x x = 0 := by
  unfold lg_cmp
  rw [if_neg (show ¬ x > x from Int64.lt_irrefl), if_pos rfl]
theorem gt24 {n i : Nat} (hn : n < 2 ^ 30) (hi : i < 2 ^ 30) : nI n - nI 6 < nI i ↔ n < i + 6 := by
  rw [Int32.lt_iff_toInt_lt, pk_sub_toInt hn (by decide), nI_toInt (by omega)]
  omega
theorem ksw_38 {x : Int32} (h0 : ¬ x = nI 0) (h1 : ¬ x = nI 1) (h2 : ¬ x = nI 2) (h3 : ¬ x = nI 3) (h4 : ¬ x = nI 4) (h5 : ¬ x = nI 5) (h6 : ¬ x = nI 6) (h7 : ¬ x = nI 7) (h8 : ¬ x = nI 8) (h9 : ¬ x = nI 9) (h10 : ¬ x = nI 10) (h11 : ¬ x = nI 11) (h12 : ¬ x = nI 12) (h13 : ¬ x = nI 13) (h14 : ¬ x = nI 14) (h15 : ¬ x = nI 15) (h16 : ¬ x = nI 16) (h17 : ¬ x = nI 17) (h18 : ¬ x = nI 18) (h19 : ¬ x = nI 19) (h20 : ¬ x = nI 20) (h21 : ¬ x = nI 21) (h22 : ¬ x = nI 22) (h23 : ¬ x = nI 23) (h24 : ¬ x = nI 24) (h25 : ¬ x = nI 25) (h26 : ¬ x = nI 26) (h27 : ¬ x = nI 27) (h28 : ¬ x = nI 28) (h29 : ¬ x = nI 29) (h30 : ¬ x = nI 30) (h31 : ¬ x = nI 31) (h32 : ¬ x = nI 32) (h33 : ¬ x = nI 33) (h34 : ¬ x = nI 34) (h35 : ¬ x = nI 35) (h36 : ¬ x = nI 36) (h37 : ¬ x = nI 37) : x.toInt < 0 ∨ (37 : Int) < x.toInt := ksw_out 37 (by decide) (fun k hk => by
  match k, hk with
  | 0, _ => exact h0
  | 1, _ => exact h1
  | 2, _ => exact h2
  | 3, _ => exact h3
  | 4, _ => exact h4
  | 5, _ => exact h5
  | 6, _ => exact h6
  | 7, _ => exact h7
  | 8, _ => exact h8
  | 9, _ => exact h9
  | 10, _ => exact h10
  | 11, _ => exact h11
  | 12, _ => exact h12
  | 13, _ => exact h13
  | 14, _ => exact h14
  | 15, _ => exact h15
  | 16, _ => exact h16
  | 17, _ => exact h17
  | 18, _ => exact h18
  | 19, _ => exact h19
  | 20, _ => exact h20
  | 21, _ => exact h21
  | 22, _ => exact h22
  | 23, _ => exact h23
  | 24, _ => exact h24
  | 25, _ => exact h25
  | 26, _ => exact h26
  | 27, _ => exact h27
  | 28, _ => exact h28
  | 29, _ => exact h29
  | 30, _ => exact h30
  | 31, _ => exact h31
  | 32, _ => exact h32
  | 33, _ => exact h33
  | 34, _ => exact h34
  | 35, _ => exact h35
  | 36, _ => exact h36
  | 37, _ => exact h37
  | k + 38, h => omega)
