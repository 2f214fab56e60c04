theorem hdf0 : ∀ j, j < kN 0 → defaultValue (kTy 0 j) = if kint 0 j = true then .int 0 else .null := fun j hj => by
  match j, hj with
  | 0, _ => rfl
  | 1, _ => rfl
  | 2, _ => rfl
  | 3, _ => rfl
  | 4, _ => rfl
theorem hdf1 : ∀ j, j < kN 1 → defaultValue (kTy 1 j) = if kint 1 j = true then .int 0 else .null := fun j hj => by
  match j, hj with
  | 0, _ => rfl
  | 1, _ => rfl
  | 2, _ => rfl
theorem hdf2 : ∀ j, j < kN 2 → defaultValue (kTy 2 j) = if kint 2 j = true then .int 0 else .null := fun j hj => by
  match j, hj with
  | 0, _ => rfl
  | 1, _ => rfl
  | 2, _ => rfl
  | 3, _ => rfl
  | 4, _ => rfl
  | 5, _ => rfl
  | 6, _ => rfl
  | 7, _ => rfl
  | 8, _ => rfl
  | 9, _ => rfl
  | 10, _ => rfl
  | 11, _ => rfl
theorem hdf3 : ∀ j, j < kN 3 → defaultValue (kTy 3 j) = if kint 3 j = true then .int 0 else .null := fun j hj => by
  match j, hj with
  | 0, _ => rfl
  | 1, _ => rfl
  | 2, _ => rfl
  | 3, _ => rfl
  | 4, _ => rfl
  | 5, _ => rfl
  | 6, _ => rfl
  | 7, _ => rfl
  | 8, _ => rfl
  | 9, _ => rfl
  | 10, _ => rfl
  | 11, _ => rfl
theorem hdf4 : ∀ j, j < kN 4 → defaultValue (kTy 4 j) = if kint 4 j = true then .int 0 else .null := fun j hj => by
  match j, hj with
  | 0, _ => rfl
  | 1, _ => rfl
  | 2, _ => rfl
  | 3, _ => rfl
  | 4, _ => rfl
  | 5, _ => rfl
  | 6, _ => rfl
  | 7, _ => rfl
  | 8, _ => rfl
  | 9, _ => rfl
  | 10, _ => rfl
theorem hdf5 : ∀ j, j < kN 5 → defaultValue (kTy 5 j) = if kint 5 j = true then .int 0 else .null := fun j hj => by
  match j, hj with
  | 0, _ => rfl
  | 1, _ => rfl
  | 2, _ => rfl
  | 3, _ => rfl
  | 4, _ => rfl
  | 5, _ => rfl
  | 6, _ => rfl
  | 7, _ => rfl
  | 8, _ => rfl
  | 9, _ => rfl
  | 10, _ => rfl
  | 11, _ => rfl
  | 12, _ => rfl
  | 13, _ => rfl
  | 14, _ => rfl
  | 15, _ => rfl
  | 16, _ => rfl
  | 17, _ => rfl
  | 18, _ => rfl
  | 19, _ => rfl
  | 20, _ => rfl
  | 21, _ => rfl
  | 22, _ => rfl
  | 23, _ => rfl
  | 24, _ => rfl
  | 25, _ => rfl
  | 26, _ => rfl
  | 27, _ => rfl
  | 28, _ => rfl
  | 29, _ => rfl
  | 30, _ => rfl
  | 31, _ => rfl
  | 32, _ => rfl
  | 33, _ => rfl
  | 34, _ => rfl
  | 35, _ => rfl
  | j + 36, h => exact absurd h (by show ¬ j + 36 < 36; omega)
section NR
variable {Γ : kGm} {mi : kMI} {R : Room} {cs : Nat × Nat} {pc : Nat} {L : List (Option Value)} {st : List Value} {ω : kWd} {Z : kZ}
theorem nG.new {i ci : Nat} (k : Nat) (ω' : kWd) (cs' : Nat × Nat) (pc' : Nat) (hd : decode mi.2.1 pc = .ok (.new i, 3)) (hc6 : ci < 6) (hl : Cond.classLink mi.1 i (kR ci) ∈ kTS) (hin : Cond.instantiable (kR ci) (kN ci) ∈ kTS) (hini : Cond.initialized (kR ci) ∈ kTS) (hk : ω.1 = k) (h74 : k < 74) (hs : (ksh k).1 = ci) (h0 : ∀ j, ω.2.1 k j = 0) (h1 : ∀ j, ω.2.2 k j = none) (hdf : ∀ j, j < kN ci → defaultValue (kTy ci j) = if kint ci j = true then .int 0 else .null) (hcs : cs.1 + 1 ≤ R.cells ∧ cs.2 + kN ci ≤ R.slots) (hc' : (cs.1 + 1, cs.2 + kN ci) = cs') (hw : (ω.1 + 1, ω.2) = ω') (hp : pc + 3 = pc') (kk : kG Γ mi R cs' pc' L (.ref k :: st) ω' Z) : kG Γ mi R cs pc L st ω Z := by
  subst hk; subst hc'; subst hw
  exact kG.new pc' h74 hd hc6 hl hin hini hs h0 h1 hdf hcs hp kk
theorem nG.newa {x : Int32} (k : Nat) (ω' : kWd) (cs' : Nat × Nat) (pc' : Nat) (hd : decode mi.2.1 pc = .ok (.newarray .int, 2)) {n : Nat} (hk : ω.1 = k) (h74 : k < 74) (hs : ksh k = (10, n)) (hx : x = nI n) (hb : n < 1000) (h0 : ∀ j, ω.2.1 k j = 0) (hcs : cs.1 + 1 ≤ R.cells ∧ cs.2 + n ≤ R.slots) (hc' : (cs.1 + 1, cs.2 + n) = cs') (hw : (ω.1 + 1, ω.2) = ω') (hp : pc + 2 = pc') (kk : kG Γ mi R cs' pc' L (.ref k :: st) ω' Z) : kG Γ mi R cs pc L (.int x :: st) ω Z := by
  subst hk; subst hc'; subst hw
  exact kG.newa pc' h74 hd hs hx hb h0 hcs hp kk
theorem nG.newz {x : Int32} (k : Nat) (ω' : kWd) (cs' : Nat × Nat) (pc' : Nat) (hd : decode mi.2.1 pc = .ok (.newarray .boolean, 2)) {n : Nat} (hk : ω.1 = k) (h74 : k < 74) (hs : ksh k = (11, n)) (hx : x = nI n) (hb : n < 1000) (h0 : ∀ j, ω.2.1 k j = 0) (hcs : cs.1 + 1 ≤ R.cells ∧ cs.2 + n ≤ R.slots) (hc' : (cs.1 + 1, cs.2 + n) = cs') (hw : (ω.1 + 1, ω.2) = ω') (hp : pc + 2 = pc') (kk : kG Γ mi R cs' pc' L (.ref k :: st) ω' Z) : kG Γ mi R cs pc L (.int x :: st) ω Z := by
  subst hk; subst hc'; subst hw
  exact kG.newz pc' h74 hd hs hx hb h0 hcs hp kk
theorem nG.newq {i : Nat} {x : Int32} (k : Nat) (ω' : kWd) (cs' : Nat × Nat) (pc' : Nat) (hd : decode mi.2.1 pc = .ok (.anewarray i, 3)) (hl : Cond.classLink mi.1 i RX1 ∈ kTS) {n : Nat} (hk : ω.1 = k) (h74 : k < 74) (hs : ksh k = (12, n)) (hx : x = nI n) (hb : n < 1000) (h1 : ∀ j, ω.2.2 k j = none) (hcs : cs.1 + 1 ≤ R.cells ∧ cs.2 + n ≤ R.slots) (hc' : (cs.1 + 1, cs.2 + n) = cs') (hw : (ω.1 + 1, ω.2) = ω') (hp : pc + 3 = pc') (kk : kG Γ mi R cs' pc' L (.ref k :: st) ω' Z) : kG Γ mi R cs pc L (.int x :: st) ω Z := by
  subst hk; subst hc'; subst hw
  exact kG.newq pc' h74 hd hl hs hx hb h1 hcs hp kk
theorem nG.putI {i ci j k : Nat} {x : Int32} (ω' : kWd) (pc' : Nat) (hd : decode mi.2.1 pc = .ok (.putfield i, 3)) (hf : kFE mi.1 i ci j) (hk : 0 < k ∧ k < ω.1) (hs : (ksh k).1 = ci) (hi : kint ci j = true) (hfin : (kT ci j).2.2.2 = false ∨ (mi.2.2.2.2 = "<init>" ∧ (kT ci j).1 = mi.1)) (hn : narrow (kTy ci j) (.int x) = .int x ∧ fits (kTy ci j) (.int x) = true) (hp : pc + 3 = pc') (hw : sI ω k j x = ω') (kk : kG Γ mi R cs pc' L st ω' Z) : kG Γ mi R cs pc L (.int x :: .ref k :: st) ω Z := by
  subst hw
  exact kG.putI pc' hd hf hk hs hi hfin hn hp kk
theorem nG.putP {i ci j k q : Nat} (ω' : kWd) (pc' : Nat) (hd : decode mi.2.1 pc = .ok (.putfield i, 3)) (hf : kFE mi.1 i ci j) (hk : 0 < k ∧ k < ω.1) (hs : (ksh k).1 = ci) (hi : kint ci j = false) (hfin : (kT ci j).2.2.2 = false ∨ (mi.2.2.2.2 = "<init>" ∧ (kT ci j).1 = mi.1)) (hn : (∀ x, narrow (kTy ci j) (.ref x) = .ref x) ∧ ∀ x, fits (kTy ci j) (.ref x) = true) (hp : pc + 3 = pc') (hw : sP ω k j (some q) = ω') (kk : kG Γ mi R cs pc' L st ω' Z) : kG Γ mi R cs pc L (.ref q :: .ref k :: st) ω Z := by
  subst hw
  exact kG.putP pc' hd hf hk hs hi hfin hn hp kk
theorem nG.getI {i ci j k : Nat} {v : Int32} (pc' : Nat) (hd : decode mi.2.1 pc = .ok (.getfield i, 3)) (hf : kFE mi.1 i ci j) (hk : 0 < k ∧ k < ω.1) (hs : (ksh k).1 = ci) (hi : kint ci j = true) (hv : ω.2.1 k j = v) (hp : pc + 3 = pc') (kk : kG Γ mi R cs pc' L (.int v :: st) ω Z) : kG Γ mi R cs pc L (.ref k :: st) ω Z := by
  subst hv
  exact kG.getI pc' hd hf hk hs hi hp kk
theorem nG.iast {k : Nat} {i x : Int32} (ω' : kWd) {n q : Nat} (pc' : Nat) (hd : decode mi.2.1 pc = .ok (.iastore, 1)) (hk : 0 < k ∧ k < ω.1) (hs : ksh k = (10, n)) (hx : i = nI q) (hq : q < n) (hb : n < 1000) (hp : pc + 1 = pc') (hw : sI ω k q x = ω') (kk : kG Γ mi R cs pc' L st ω' Z) : kG Γ mi R cs pc L (.int x :: .int i :: .ref k :: st) ω Z := by
  subst hw
  exact kG.iast pc' hd hk hs hx hq hb hp kk
theorem nG.aast {k v : Nat} {i : Int32} (ω' : kWd) {n q : Nat} (pc' : Nat) (hd : decode mi.2.1 pc = .ok (.aastore, 1)) (hk : 0 < k ∧ k < ω.1) (hs : ksh k = (12, n)) (hx : i = nI q) (hq : q < n) (hb : n < 1000) (hv : 0 < v ∧ v < ω.1) (hsv : (ksh v).1 = 1) (hp : pc + 1 = pc') (hw : sP ω k q (some v) = ω') (kk : kG Γ mi R cs pc' L st ω' Z) : kG Γ mi R cs pc L (.ref v :: .int i :: .ref k :: st) ω Z := by
  subst hw
  exact kG.aast (ci := 1) pc' hd hk hs hx hq hb hv hsv hp kk
theorem nG.callI {i n k : Nat} {y : MethodName} {mi' : kMI} {R' : Room} {As stk : List Value} {ω' : kWd} (cs' : Nat × Nat) (pc' : Nat) (hd : decode mi.2.1 pc = .ok (.invokespecial i, 3)) (hl : Cond.methodLink mi.1 i y ∈ kTS) (hv : kIm y mi' n) (hM : kC Γ y mi' R' (.ref k :: As) ω (fun r o => r = none ∧ o = ω')) (hst : stk = As.reverse ++ ([.ref k] ++ st)) (hn : As.length = n) (hR : R'.frames + 1 ≤ R.frames ∧ 8 + (mi'.2.2.1 + 11) + R'.locals ≤ R.locals) (hW : (st.map fun v => v.category).sum ≤ 8) (hcs : cs.1 + R'.cells ≤ R.cells ∧ cs.2 + R'.slots ≤ R.slots) (hc' : (cs.1 + R'.cells, cs.2 + R'.slots) = cs') (hp : pc + 3 = pc') (kk : kG Γ mi R cs' pc' L st ω' Z) : kG Γ mi R cs pc L stk ω Z := by
  refine kG.callI pc' hd hl hv hM hst hn hR hW hcs hp (fun r o h => ?_)
  obtain ⟨rfl, rfl⟩ := h
  rw [hc']
  exact kk
theorem nG.callIN {i n k : Nat} {y : MethodName} {host : String} {mi' : kMI} {R' : Room} {As stk : List Value} {ω' : kWd} (cs' : Nat × Nat) (pc' : Nat) (hd : decode mi.2.1 pc = .ok (.invokespecial i, 3)) (hl : ∀ s, kKS Γ s → va_Nw (.methodLinkNest mi.1 i y host) s) (hv : kIm y mi' n) (hM : kC Γ y mi' R' (.ref k :: As) ω (fun r o => r = none ∧ o = ω')) (hst : stk = As.reverse ++ ([.ref k] ++ st)) (hn : As.length = n) (hR : R'.frames + 1 ≤ R.frames ∧ 8 + (mi'.2.2.1 + 11) + R'.locals ≤ R.locals) (hW : (st.map fun v => v.category).sum ≤ 8) (hcs : cs.1 + R'.cells ≤ R.cells ∧ cs.2 + R'.slots ≤ R.slots) (hc' : (cs.1 + R'.cells, cs.2 + R'.slots) = cs') (hp : pc + 3 = pc') (kk : kG Γ mi R cs' pc' L st ω' Z) : kG Γ mi R cs pc L stk ω Z := by
  refine kG.callIN pc' hd hl hv hM hst hn hR hW hcs hp (fun r o h => ?_)
  obtain ⟨rfl, rfl⟩ := h
  rw [hc']
  exact kk
end NR
def w_0 : kWd := (1, fun _ _ => 0, fun _ _ => none)
def w_1 : kWd := (w_0.1 + 1, w_0.2)
def w_2 : kWd := (w_1.1 + 1, w_1.2)
def w_3 : kWd := sP w_2 1 0 (some 2)
def w_4 : kWd := (w_3.1 + 1, w_3.2)
def w_5 : kWd := sI w_4 3 4 (nI 0)
def w_6 : kWd := sI w_5 3 0 (nI 6)
def w_7 : kWd := (w_6.1 + 1, w_6.2)
def w_8 : kWd := sP w_7 3 1 (some 4)
def w_9 : kWd := (w_8.1 + 1, w_8.2)
def w_10 : kWd := sP w_9 3 2 (some 5)
def w_11 : kWd := (w_10.1 + 1, w_10.2)
def w_12 : kWd := sP w_11 3 3 (some 6)
def w_13 : kWd := sP w_12 1 1 (some 3)
def w_14 : kWd := (w_13.1 + 1, w_13.2)
def w_15 : kWd := sI w_14 7 4 (nI 0)
def w_16 : kWd := sI w_15 7 0 (nI 8)
def w_17 : kWd := (w_16.1 + 1, w_16.2)
def w_18 : kWd := sP w_17 7 1 (some 8)
def w_19 : kWd := (w_18.1 + 1, w_18.2)
def w_20 : kWd := sP w_19 7 2 (some 9)
def w_21 : kWd := (w_20.1 + 1, w_20.2)
def w_22 : kWd := sP w_21 7 3 (some 10)
def w_23 : kWd := sP w_22 1 2 (some 7)
def w_24 : kWd := (w_23.1 + 1, w_23.2)
def w_25 : kWd := (w_24.1 + 1, w_24.2)
def w_26 : kWd := sP w_25 11 0 (some 12)
def w_27 : kWd := (w_26.1 + 1, w_26.2)
def w_28 : kWd := sP w_27 11 1 (some 13)
def w_29 : kWd := (w_28.1 + 1, w_28.2)
def w_30 : kWd := sP w_29 11 2 (some 14)
def w_31 : kWd := (w_30.1 + 1, w_30.2)
def w_32 : kWd := sP w_31 11 3 (some 15)
def w_33 : kWd := (w_32.1 + 1, w_32.2)
def w_34 : kWd := sP w_33 11 4 (some 16)
def w_35 : kWd := (w_34.1 + 1, w_34.2)
def w_36 : kWd := sP w_35 11 5 (some 17)
def w_37 : kWd := (w_36.1 + 1, w_36.2)
def w_38 : kWd := sP w_37 11 6 (some 18)
def w_39 : kWd := sI w_38 11 7 (nI 0)
def w_40 : kWd := sI w_39 11 8 (nI 0)
def w_41 : kWd := sI w_40 11 9 (nI 0)
def w_42 : kWd := sI w_41 11 10 (nI 0)
def w_43 : kWd := sI w_42 11 11 (nI 0)
def w_44 : kWd := sP w_43 1 3 (some 11)
def w_45 : kWd := (w_44.1 + 1, w_44.2)
def w_46 : kWd := (w_45.1 + 1, w_45.2)
def w_47 : kWd := sP w_46 19 0 (some 20)
def w_48 : kWd := (w_47.1 + 1, w_47.2)
def w_49 : kWd := sP w_48 19 1 (some 21)
def w_50 : kWd := (w_49.1 + 1, w_49.2)
def w_51 : kWd := sP w_50 19 2 (some 22)
def w_52 : kWd := (w_51.1 + 1, w_51.2)
def w_53 : kWd := sP w_52 19 3 (some 23)
def w_54 : kWd := (w_53.1 + 1, w_53.2)
def w_55 : kWd := sP w_54 19 4 (some 24)
def w_56 : kWd := (w_55.1 + 1, w_55.2)
def w_57 : kWd := sP w_56 19 5 (some 25)
def w_58 : kWd := (w_57.1 + 1, w_57.2)
def w_59 : kWd := sP w_58 19 6 (some 26)
def w_60 : kWd := sI w_59 19 7 (nI 0)
def w_61 : kWd := sI w_60 19 8 (nI 0)
def w_62 : kWd := sI w_61 19 9 (nI 0)
def w_63 : kWd := sI w_62 19 10 (nI 0)
def w_64 : kWd := sI w_63 19 11 (nI 0)
def w_65 : kWd := sP w_64 1 4 (some 19)
def w_66 : kWd := (w_65.1 + 1, w_65.2)
def w_67 : kWd := (w_66.1 + 1, w_66.2)
def w_68 : kWd := sP w_67 27 0 (some 28)
def w_69 : kWd := (w_68.1 + 1, w_68.2)
def w_70 : kWd := sP w_69 27 1 (some 29)
def w_71 : kWd := (w_70.1 + 1, w_70.2)
def w_72 : kWd := sP w_71 27 2 (some 30)
def w_73 : kWd := (w_72.1 + 1, w_72.2)
def w_74 : kWd := sP w_73 27 3 (some 31)
def w_75 : kWd := (w_74.1 + 1, w_74.2)
def w_76 : kWd := sP w_75 27 4 (some 32)
def w_77 : kWd := (w_76.1 + 1, w_76.2)
def w_78 : kWd := sP w_77 27 5 (some 33)
def w_79 : kWd := sI w_78 27 8 (nI 0)
def w_80 : kWd := sI w_79 27 9 (nI 0)
def w_81 : kWd := sI w_80 27 10 (-9)
def w_82 : kWd := sI w_81 27 11 (nI 0)
def w_83 : kWd := sP w_82 27 7 (some 11)
def w_84 : kWd := sP w_83 27 6 (some 3)
def w_85 : kWd := sP w_84 1 5 (some 27)
def w_86 : kWd := (w_85.1 + 1, w_85.2)
def w_87 : kWd := (w_86.1 + 1, w_86.2)
def w_88 : kWd := sP w_87 34 0 (some 35)
def w_89 : kWd := (w_88.1 + 1, w_88.2)
def w_90 : kWd := sP w_89 34 1 (some 36)
def w_91 : kWd := (w_90.1 + 1, w_90.2)
def w_92 : kWd := sP w_91 34 2 (some 37)
def w_93 : kWd := (w_92.1 + 1, w_92.2)
def w_94 : kWd := sP w_93 34 3 (some 38)
def w_95 : kWd := (w_94.1 + 1, w_94.2)
def w_96 : kWd := sP w_95 34 4 (some 39)
def w_97 : kWd := (w_96.1 + 1, w_96.2)
def w_98 : kWd := sP w_97 34 5 (some 40)
def w_99 : kWd := sI w_98 34 8 (nI 0)
def w_100 : kWd := sI w_99 34 9 (nI 0)
def w_101 : kWd := sI w_100 34 10 (-9)
def w_102 : kWd := sI w_101 34 11 (nI 0)
def w_103 : kWd := sP w_102 34 7 (some 11)
def w_104 : kWd := sP w_103 34 6 (some 3)
def w_105 : kWd := sP w_104 1 6 (some 34)
def w_106 : kWd := sI w_105 1 7 (nI 0)
def w_107 : kWd := sI w_106 1 8 (nI 0)
def w_108 : kWd := sI w_107 1 9 (nI 0)
def w_109 : kWd := sI w_108 1 10 (nI 0)
def w_110 : kWd := (w_109.1 + 1, w_109.2)
def w_111 : kWd := (w_110.1 + 1, w_110.2)
def w_112 : kWd := sP w_111 41 0 (some 42)
def w_113 : kWd := sI w_112 41 1 (-1)
def w_114 : kWd := sI w_113 41 2 (nI 0)
def w_115 : kWd := sP w_114 2 0 (some 41)
def w_116 : kWd := (w_115.1 + 1, w_115.2)
def w_117 : kWd := (w_116.1 + 1, w_116.2)
def w_118 : kWd := sP w_117 43 0 (some 44)
def w_119 : kWd := sI w_118 43 1 (-1)
def w_120 : kWd := sI w_119 43 2 (nI 0)
def w_121 : kWd := sP w_120 2 1 (some 43)
def w_122 : kWd := (w_121.1 + 1, w_121.2)
def w_123 : kWd := (w_122.1 + 1, w_122.2)
def w_124 : kWd := sP w_123 45 0 (some 46)
def w_125 : kWd := sI w_124 45 1 (-1)
def w_126 : kWd := sI w_125 45 2 (nI 0)
def w_127 : kWd := sP w_126 2 2 (some 45)
def w_128 : kWd := (w_127.1 + 1, w_127.2)
def w_129 : kWd := (w_128.1 + 1, w_128.2)
def w_130 : kWd := sP w_129 47 0 (some 48)
def w_131 : kWd := sI w_130 47 1 (-1)
def w_132 : kWd := sI w_131 47 2 (nI 0)
def w_133 : kWd := sP w_132 2 3 (some 47)
def w_134 : kWd := (w_133.1 + 1, w_133.2)
def w_135 : kWd := (w_134.1 + 1, w_134.2)
def w_136 : kWd := sI w_135 50 0 (-9)
def w_137 : kWd := sI w_136 50 1 (-9)
def w_138 : kWd := sI w_137 50 2 (-9)
def w_139 : kWd := sI w_138 50 3 (-9)
def w_140 : kWd := sP w_139 49 2 (some 50)
def w_141 : kWd := (w_140.1 + 1, w_140.2)
def w_142 : kWd := sP w_141 49 3 (some 51)
def w_143 : kWd := (w_142.1 + 1, w_142.2)
def w_144 : kWd := sP w_143 49 4 (some 52)
def w_145 : kWd := (w_144.1 + 1, w_144.2)
def w_146 : kWd := sP w_145 49 8 (some 53)
def w_147 : kWd := (w_146.1 + 1, w_146.2)
def w_148 : kWd := sP w_147 49 9 (some 54)
def w_149 : kWd := (w_148.1 + 1, w_148.2)
def w_150 : kWd := sP w_149 49 10 (some 55)
def w_151 : kWd := (w_150.1 + 1, w_150.2)
def w_152 : kWd := sP w_151 49 11 (some 56)
def w_153 : kWd := (w_152.1 + 1, w_152.2)
def w_154 : kWd := sP w_153 49 12 (some 57)
def w_155 : kWd := (w_154.1 + 1, w_154.2)
def w_156 : kWd := sP w_155 49 13 (some 58)
def w_157 : kWd := (w_156.1 + 1, w_156.2)
def w_158 : kWd := sP w_157 49 14 (some 59)
def w_159 : kWd := (w_158.1 + 1, w_158.2)
def w_160 : kWd := sP w_159 49 15 (some 60)
def w_161 : kWd := (w_160.1 + 1, w_160.2)
def w_162 : kWd := sP w_161 49 20 (some 61)
def w_163 : kWd := (w_162.1 + 1, w_162.2)
def w_164 : kWd := sP w_163 49 21 (some 62)
def w_165 : kWd := (w_164.1 + 1, w_164.2)
def w_166 : kWd := sP w_165 49 23 (some 63)
def w_167 : kWd := (w_166.1 + 1, w_166.2)
def w_168 : kWd := sP w_167 49 24 (some 64)
def w_169 : kWd := (w_168.1 + 1, w_168.2)
def w_170 : kWd := sP w_169 49 25 (some 65)
def w_171 : kWd := (w_170.1 + 1, w_170.2)
def w_172 : kWd := sP w_171 49 26 (some 66)
def w_173 : kWd := (w_172.1 + 1, w_172.2)
def w_174 : kWd := sP w_173 49 27 (some 67)
def w_175 : kWd := (w_174.1 + 1, w_174.2)
def w_176 : kWd := sP w_175 49 28 (some 68)
def w_177 : kWd := (w_176.1 + 1, w_176.2)
def w_178 : kWd := sP w_177 49 29 (some 69)
def w_179 : kWd := (w_178.1 + 1, w_178.2)
def w_180 : kWd := sP w_179 49 32 (some 70)
def w_181 : kWd := (w_180.1 + 1, w_180.2)
def w_182 : kWd := sP w_181 49 33 (some 71)
def w_183 : kWd := (w_182.1 + 1, w_182.2)
def w_184 : kWd := sP w_183 49 34 (some 72)
def w_185 : kWd := (w_184.1 + 1, w_184.2)
def w_186 : kWd := sP w_185 49 35 (some 73)
set_option maxHeartbeats 4000000 in
theorem i_X0_3 (Γ : kGm) : kC Γ yX0_init mX0_init (kRm 1 3 18) [.ref 3, .int (nI 6)] w_4 (fun r ω => r = none ∧ ω = w_12) := by
  refine kC.ofG (by decide +kernel) rfl rfl (by decide) (Nat.le_of_ble_eq_true rfl) ?_
  show kG Γ mX0_init (kRm 1 3 18) (0, 0) 0 [some (.ref 3), some (.int (nI 6))] [] w_4 _
  refine kG.aload_n 1 dX0_init_0 rfl rfl ?_
  refine kG.objInit 4 dX0_init_1 lX0_3 ⟨by decide, Nat.le_of_ble_eq_true rfl⟩ rfl ?_
  refine kG.aload_n 5 dX0_init_4 rfl rfl ?_
  refine kG.iconst (v := nI 0) 6 dX0_init_5 (by decide) rfl ?_
  refine nG.putI w_5 9 dX0_init_6 fX0_9 ⟨by decide, by decide⟩ rfl rfl (Or.inl rfl) ⟨rfl, rfl⟩ rfl rfl ?_
  refine kG.aload_n 10 dX0_init_9 rfl rfl ?_
  refine kG.iconst (v := nI 0) 11 dX0_init_10 (by decide) rfl ?_
  refine kG.iload_n 12 dX0_init_11 rfl rfl ?_
  refine kG.mmax 15 dX0_init_12 lX0_15 ⟨by decide, by decide⟩ ⟨by decide, Nat.le_of_ble_eq_true rfl⟩ rfl ?_
  rw [if_pos (by decide)]
  refine nG.putI w_6 18 dX0_init_15 fX0_21 ⟨by decide, by decide⟩ rfl rfl (Or.inr ⟨rfl, rfl⟩) ⟨rfl, rfl⟩ rfl rfl ?_
  refine kG.aload_n 19 dX0_init_18 rfl rfl ?_
  refine kG.aload_n 20 dX0_init_19 rfl rfl ?_
  refine nG.getI (v := nI 6) 23 dX0_init_20 fX0_21 ⟨by decide, by decide⟩ rfl rfl rfl rfl ?_
  refine nG.newa 4 w_7 (1, 6) 25 dX0_init_23 (n := 6) rfl (by decide) rfl rfl (by decide) (fun _ => rfl) ⟨by decide, by decide⟩ rfl rfl rfl ?_
  refine nG.putP w_8 28 dX0_init_25 fX0_24 ⟨by decide, by decide⟩ rfl rfl (Or.inr ⟨rfl, rfl⟩) ⟨fun _ => rfl, fun _ => rfl⟩ rfl rfl ?_
  refine kG.aload_n 29 dX0_init_28 rfl rfl ?_
  refine kG.aload_n 30 dX0_init_29 rfl rfl ?_
  refine nG.getI (v := nI 6) 33 dX0_init_30 fX0_21 ⟨by decide, by decide⟩ rfl rfl rfl rfl ?_
  refine nG.newa 5 w_9 (2, 12) 35 dX0_init_33 (n := 6) rfl (by decide) rfl rfl (by decide) (fun _ => rfl) ⟨by decide, by decide⟩ rfl rfl rfl ?_
  refine nG.putP w_10 38 dX0_init_35 fX0_28 ⟨by decide, by decide⟩ rfl rfl (Or.inr ⟨rfl, rfl⟩) ⟨fun _ => rfl, fun _ => rfl⟩ rfl rfl ?_
  refine kG.aload_n 39 dX0_init_38 rfl rfl ?_
  refine kG.aload_n 40 dX0_init_39 rfl rfl ?_
  refine nG.getI (v := nI 6) 43 dX0_init_40 fX0_21 ⟨by decide, by decide⟩ rfl rfl rfl rfl ?_
  refine nG.newa 6 w_11 (3, 18) 45 dX0_init_43 (n := 6) rfl (by decide) rfl rfl (by decide) (fun _ => rfl) ⟨by decide, by decide⟩ rfl rfl rfl ?_
  refine nG.putP w_12 48 dX0_init_45 fX0_31 ⟨by decide, by decide⟩ rfl rfl (Or.inr ⟨rfl, rfl⟩) ⟨fun _ => rfl, fun _ => rfl⟩ rfl rfl ?_
  exact kG.vret dX0_init_48 rfl ⟨by decide, by decide⟩ ⟨rfl, rfl⟩
set_option maxHeartbeats 4000000 in
theorem i_X0_7 (Γ : kGm) : kC Γ yX0_init mX0_init (kRm 1 3 24) [.ref 7, .int (nI 8)] w_14 (fun r ω => r = none ∧ ω = w_22) := by
  refine kC.ofG (by decide +kernel) rfl rfl (by decide) (Nat.le_of_ble_eq_true rfl) ?_
  show kG Γ mX0_init (kRm 1 3 24) (0, 0) 0 [some (.ref 7), some (.int (nI 8))] [] w_14 _
  refine kG.aload_n 1 dX0_init_0 rfl rfl ?_
  refine kG.objInit 4 dX0_init_1 lX0_3 ⟨by decide, Nat.le_of_ble_eq_true rfl⟩ rfl ?_
  refine kG.aload_n 5 dX0_init_4 rfl rfl ?_
  refine kG.iconst (v := nI 0) 6 dX0_init_5 (by decide) rfl ?_
  refine nG.putI w_15 9 dX0_init_6 fX0_9 ⟨by decide, by decide⟩ rfl rfl (Or.inl rfl) ⟨rfl, rfl⟩ rfl rfl ?_
  refine kG.aload_n 10 dX0_init_9 rfl rfl ?_
  refine kG.iconst (v := nI 0) 11 dX0_init_10 (by decide) rfl ?_
  refine kG.iload_n 12 dX0_init_11 rfl rfl ?_
  refine kG.mmax 15 dX0_init_12 lX0_15 ⟨by decide, by decide⟩ ⟨by decide, Nat.le_of_ble_eq_true rfl⟩ rfl ?_
  rw [if_pos (by decide)]
  refine nG.putI w_16 18 dX0_init_15 fX0_21 ⟨by decide, by decide⟩ rfl rfl (Or.inr ⟨rfl, rfl⟩) ⟨rfl, rfl⟩ rfl rfl ?_
  refine kG.aload_n 19 dX0_init_18 rfl rfl ?_
  refine kG.aload_n 20 dX0_init_19 rfl rfl ?_
  refine nG.getI (v := nI 8) 23 dX0_init_20 fX0_21 ⟨by decide, by decide⟩ rfl rfl rfl rfl ?_
  refine nG.newa 8 w_17 (1, 8) 25 dX0_init_23 (n := 8) rfl (by decide) rfl rfl (by decide) (fun _ => rfl) ⟨by decide, by decide⟩ rfl rfl rfl ?_
  refine nG.putP w_18 28 dX0_init_25 fX0_24 ⟨by decide, by decide⟩ rfl rfl (Or.inr ⟨rfl, rfl⟩) ⟨fun _ => rfl, fun _ => rfl⟩ rfl rfl ?_
  refine kG.aload_n 29 dX0_init_28 rfl rfl ?_
  refine kG.aload_n 30 dX0_init_29 rfl rfl ?_
  refine nG.getI (v := nI 8) 33 dX0_init_30 fX0_21 ⟨by decide, by decide⟩ rfl rfl rfl rfl ?_
  refine nG.newa 9 w_19 (2, 16) 35 dX0_init_33 (n := 8) rfl (by decide) rfl rfl (by decide) (fun _ => rfl) ⟨by decide, by decide⟩ rfl rfl rfl ?_
  refine nG.putP w_20 38 dX0_init_35 fX0_28 ⟨by decide, by decide⟩ rfl rfl (Or.inr ⟨rfl, rfl⟩) ⟨fun _ => rfl, fun _ => rfl⟩ rfl rfl ?_
  refine kG.aload_n 39 dX0_init_38 rfl rfl ?_
  refine kG.aload_n 40 dX0_init_39 rfl rfl ?_
  refine nG.getI (v := nI 8) 43 dX0_init_40 fX0_21 ⟨by decide, by decide⟩ rfl rfl rfl rfl ?_
  refine nG.newa 10 w_21 (3, 24) 45 dX0_init_43 (n := 8) rfl (by decide) rfl rfl (by decide) (fun _ => rfl) ⟨by decide, by decide⟩ rfl rfl rfl ?_
  refine nG.putP w_22 48 dX0_init_45 fX0_31 ⟨by decide, by decide⟩ rfl rfl (Or.inr ⟨rfl, rfl⟩) ⟨fun _ => rfl, fun _ => rfl⟩ rfl rfl ?_
  exact kG.vret dX0_init_48 rfl ⟨by decide, by decide⟩ ⟨rfl, rfl⟩
set_option maxHeartbeats 4000000 in
theorem i_X2_11 (Γ : kGm) : kC Γ yX2_init mX2_init (kRm 1 7 38) [.ref 11] w_24 (fun r ω => r = none ∧ ω = w_43) := by
  refine kC.ofG (by decide +kernel) rfl rfl (by decide) (Nat.le_of_ble_eq_true rfl) ?_
  show kG Γ mX2_init (kRm 1 7 38) (0, 0) 0 [some (.ref 11)] [] w_24 _
  refine kG.aload_n 1 dX2_init_0 rfl rfl ?_
  refine kG.objInit 4 dX2_init_1 lX2_3 ⟨by decide, Nat.le_of_ble_eq_true rfl⟩ rfl ?_
  refine kG.aload_n 5 dX2_init_4 rfl rfl ?_
  refine kG.iconst (v := nI 4) 6 dX2_init_5 (by decide) rfl ?_
  refine nG.newa 12 w_25 (1, 4) 8 dX2_init_6 (n := 4) rfl (by decide) rfl rfl (by decide) (fun _ => rfl) ⟨by decide, by decide⟩ rfl rfl rfl ?_
  refine nG.putP w_26 11 dX2_init_8 fX2_9 ⟨by decide, by decide⟩ rfl rfl (Or.inr ⟨rfl, rfl⟩) ⟨fun _ => rfl, fun _ => rfl⟩ rfl rfl ?_
  refine kG.aload_n 12 dX2_init_11 rfl rfl ?_
  refine kG.iconst (v := nI 4) 13 dX2_init_12 (by decide) rfl ?_
  refine nG.newa 13 w_27 (2, 8) 15 dX2_init_13 (n := 4) rfl (by decide) rfl rfl (by decide) (fun _ => rfl) ⟨by decide, by decide⟩ rfl rfl rfl ?_
  refine nG.putP w_28 18 dX2_init_15 fX2_15 ⟨by decide, by decide⟩ rfl rfl (Or.inr ⟨rfl, rfl⟩) ⟨fun _ => rfl, fun _ => rfl⟩ rfl rfl ?_
  refine kG.aload_n 19 dX2_init_18 rfl rfl ?_
  refine kG.bipush (v := nI 6) 21 dX2_init_19 (by decide) rfl ?_
  refine nG.newa 14 w_29 (3, 14) 23 dX2_init_21 (n := 6) rfl (by decide) rfl rfl (by decide) (fun _ => rfl) ⟨by decide, by decide⟩ rfl rfl rfl ?_
  refine nG.putP w_30 26 dX2_init_23 fX2_18 ⟨by decide, by decide⟩ rfl rfl (Or.inr ⟨rfl, rfl⟩) ⟨fun _ => rfl, fun _ => rfl⟩ rfl rfl ?_
  refine kG.aload_n 27 dX2_init_26 rfl rfl ?_
  refine kG.bipush (v := nI 6) 29 dX2_init_27 (by decide) rfl ?_
  refine nG.newa 15 w_31 (4, 20) 31 dX2_init_29 (n := 6) rfl (by decide) rfl rfl (by decide) (fun _ => rfl) ⟨by decide, by decide⟩ rfl rfl rfl ?_
  refine nG.putP w_32 34 dX2_init_31 fX2_21 ⟨by decide, by decide⟩ rfl rfl (Or.inr ⟨rfl, rfl⟩) ⟨fun _ => rfl, fun _ => rfl⟩ rfl rfl ?_
  refine kG.aload_n 35 dX2_init_34 rfl rfl ?_
  refine kG.bipush (v := nI 6) 37 dX2_init_35 (by decide) rfl ?_
  refine nG.newa 16 w_33 (5, 26) 39 dX2_init_37 (n := 6) rfl (by decide) rfl rfl (by decide) (fun _ => rfl) ⟨by decide, by decide⟩ rfl rfl rfl ?_
  refine nG.putP w_34 42 dX2_init_39 fX2_24 ⟨by decide, by decide⟩ rfl rfl (Or.inr ⟨rfl, rfl⟩) ⟨fun _ => rfl, fun _ => rfl⟩ rfl rfl ?_
  refine kG.aload_n 43 dX2_init_42 rfl rfl ?_
  refine kG.bipush (v := nI 6) 45 dX2_init_43 (by decide) rfl ?_
  refine nG.newa 17 w_35 (6, 32) 47 dX2_init_45 (n := 6) rfl (by decide) rfl rfl (by decide) (fun _ => rfl) ⟨by decide, by decide⟩ rfl rfl rfl ?_
  refine nG.putP w_36 50 dX2_init_47 fX2_27 ⟨by decide, by decide⟩ rfl rfl (Or.inr ⟨rfl, rfl⟩) ⟨fun _ => rfl, fun _ => rfl⟩ rfl rfl ?_
  refine kG.aload_n 51 dX2_init_50 rfl rfl ?_
  refine kG.bipush (v := nI 6) 53 dX2_init_51 (by decide) rfl ?_
  refine nG.newa 18 w_37 (7, 38) 55 dX2_init_53 (n := 6) rfl (by decide) rfl rfl (by decide) (fun _ => rfl) ⟨by decide, by decide⟩ rfl rfl rfl ?_
  refine nG.putP w_38 58 dX2_init_55 fX2_30 ⟨by decide, by decide⟩ rfl rfl (Or.inr ⟨rfl, rfl⟩) ⟨fun _ => rfl, fun _ => rfl⟩ rfl rfl ?_
  refine kG.aload_n 59 dX2_init_58 rfl rfl ?_
  refine kG.iconst (v := nI 0) 60 dX2_init_59 (by decide) rfl ?_
  refine nG.putI w_39 63 dX2_init_60 fX2_33 ⟨by decide, by decide⟩ rfl rfl (Or.inl rfl) ⟨rfl, rfl⟩ rfl rfl ?_
  refine kG.aload_n 64 dX2_init_63 rfl rfl ?_
  refine kG.iconst (v := nI 0) 65 dX2_init_64 (by decide) rfl ?_
  refine nG.putI w_40 68 dX2_init_65 fX2_37 ⟨by decide, by decide⟩ rfl rfl (Or.inl rfl) ⟨rfl, rfl⟩ rfl rfl ?_
  refine kG.aload_n 69 dX2_init_68 rfl rfl ?_
  refine kG.iconst (v := nI 0) 70 dX2_init_69 (by decide) rfl ?_
  refine nG.putI w_41 73 dX2_init_70 fX2_40 ⟨by decide, by decide⟩ rfl rfl (Or.inl rfl) ⟨rfl, rfl⟩ rfl rfl ?_
  refine kG.aload_n 74 dX2_init_73 rfl rfl ?_
  refine kG.iconst (v := nI 0) 75 dX2_init_74 (by decide) rfl ?_
  refine nG.putI w_42 78 dX2_init_75 fX2_43 ⟨by decide, by decide⟩ rfl rfl (Or.inl rfl) ⟨rfl, rfl⟩ rfl rfl ?_
  refine kG.aload_n 79 dX2_init_78 rfl rfl ?_
  refine kG.iconst (v := nI 0) 80 dX2_init_79 (by decide) rfl ?_
  refine nG.putI w_43 83 dX2_init_80 fX2_46 ⟨by decide, by decide⟩ rfl rfl (Or.inl rfl) ⟨rfl, rfl⟩ rfl rfl ?_
  exact kG.vret dX2_init_83 rfl ⟨by decide, by decide⟩ ⟨rfl, rfl⟩
set_option maxHeartbeats 4000000 in
theorem i_X2_19 (Γ : kGm) : kC Γ yX2_init mX2_init (kRm 1 7 38) [.ref 19] w_45 (fun r ω => r = none ∧ ω = w_64) := by
  refine kC.ofG (by decide +kernel) rfl rfl (by decide) (Nat.le_of_ble_eq_true rfl) ?_
  show kG Γ mX2_init (kRm 1 7 38) (0, 0) 0 [some (.ref 19)] [] w_45 _
  refine kG.aload_n 1 dX2_init_0 rfl rfl ?_
  refine kG.objInit 4 dX2_init_1 lX2_3 ⟨by decide, Nat.le_of_ble_eq_true rfl⟩ rfl ?_
  refine kG.aload_n 5 dX2_init_4 rfl rfl ?_
  refine kG.iconst (v := nI 4) 6 dX2_init_5 (by decide) rfl ?_
  refine nG.newa 20 w_46 (1, 4) 8 dX2_init_6 (n := 4) rfl (by decide) rfl rfl (by decide) (fun _ => rfl) ⟨by decide, by decide⟩ rfl rfl rfl ?_
  refine nG.putP w_47 11 dX2_init_8 fX2_9 ⟨by decide, by decide⟩ rfl rfl (Or.inr ⟨rfl, rfl⟩) ⟨fun _ => rfl, fun _ => rfl⟩ rfl rfl ?_
  refine kG.aload_n 12 dX2_init_11 rfl rfl ?_
  refine kG.iconst (v := nI 4) 13 dX2_init_12 (by decide) rfl ?_
  refine nG.newa 21 w_48 (2, 8) 15 dX2_init_13 (n := 4) rfl (by decide) rfl rfl (by decide) (fun _ => rfl) ⟨by decide, by decide⟩ rfl rfl rfl ?_
  refine nG.putP w_49 18 dX2_init_15 fX2_15 ⟨by decide, by decide⟩ rfl rfl (Or.inr ⟨rfl, rfl⟩) ⟨fun _ => rfl, fun _ => rfl⟩ rfl rfl ?_
  refine kG.aload_n 19 dX2_init_18 rfl rfl ?_
  refine kG.bipush (v := nI 6) 21 dX2_init_19 (by decide) rfl ?_
  refine nG.newa 22 w_50 (3, 14) 23 dX2_init_21 (n := 6) rfl (by decide) rfl rfl (by decide) (fun _ => rfl) ⟨by decide, by decide⟩ rfl rfl rfl ?_
  refine nG.putP w_51 26 dX2_init_23 fX2_18 ⟨by decide, by decide⟩ rfl rfl (Or.inr ⟨rfl, rfl⟩) ⟨fun _ => rfl, fun _ => rfl⟩ rfl rfl ?_
  refine kG.aload_n 27 dX2_init_26 rfl rfl ?_
  refine kG.bipush (v := nI 6) 29 dX2_init_27 (by decide) rfl ?_
  refine nG.newa 23 w_52 (4, 20) 31 dX2_init_29 (n := 6) rfl (by decide) rfl rfl (by decide) (fun _ => rfl) ⟨by decide, by decide⟩ rfl rfl rfl ?_
  refine nG.putP w_53 34 dX2_init_31 fX2_21 ⟨by decide, by decide⟩ rfl rfl (Or.inr ⟨rfl, rfl⟩) ⟨fun _ => rfl, fun _ => rfl⟩ rfl rfl ?_
  refine kG.aload_n 35 dX2_init_34 rfl rfl ?_
  refine kG.bipush (v := nI 6) 37 dX2_init_35 (by decide) rfl ?_
  refine nG.newa 24 w_54 (5, 26) 39 dX2_init_37 (n := 6) rfl (by decide) rfl rfl (by decide) (fun _ => rfl) ⟨by decide, by decide⟩ rfl rfl rfl ?_
  refine nG.putP w_55 42 dX2_init_39 fX2_24 ⟨by decide, by decide⟩ rfl rfl (Or.inr ⟨rfl, rfl⟩) ⟨fun _ => rfl, fun _ => rfl⟩ rfl rfl ?_
  refine kG.aload_n 43 dX2_init_42 rfl rfl ?_
  refine kG.bipush (v := nI 6) 45 dX2_init_43 (by decide) rfl ?_
  refine nG.newa 25 w_56 (6, 32) 47 dX2_init_45 (n := 6) rfl (by decide) rfl rfl (by decide) (fun _ => rfl) ⟨by decide, by decide⟩ rfl rfl rfl ?_
  refine nG.putP w_57 50 dX2_init_47 fX2_27 ⟨by decide, by decide⟩ rfl rfl (Or.inr ⟨rfl, rfl⟩) ⟨fun _ => rfl, fun _ => rfl⟩ rfl rfl ?_
  refine kG.aload_n 51 dX2_init_50 rfl rfl ?_
  refine kG.bipush (v := nI 6) 53 dX2_init_51 (by decide) rfl ?_
  refine nG.newa 26 w_58 (7, 38) 55 dX2_init_53 (n := 6) rfl (by decide) rfl rfl (by decide) (fun _ => rfl) ⟨by decide, by decide⟩ rfl rfl rfl ?_
  refine nG.putP w_59 58 dX2_init_55 fX2_30 ⟨by decide, by decide⟩ rfl rfl (Or.inr ⟨rfl, rfl⟩) ⟨fun _ => rfl, fun _ => rfl⟩ rfl rfl ?_
  refine kG.aload_n 59 dX2_init_58 rfl rfl ?_
  refine kG.iconst (v := nI 0) 60 dX2_init_59 (by decide) rfl ?_
  refine nG.putI w_60 63 dX2_init_60 fX2_33 ⟨by decide, by decide⟩ rfl rfl (Or.inl rfl) ⟨rfl, rfl⟩ rfl rfl ?_
  refine kG.aload_n 64 dX2_init_63 rfl rfl ?_
  refine kG.iconst (v := nI 0) 65 dX2_init_64 (by decide) rfl ?_
  refine nG.putI w_61 68 dX2_init_65 fX2_37 ⟨by decide, by decide⟩ rfl rfl (Or.inl rfl) ⟨rfl, rfl⟩ rfl rfl ?_
  refine kG.aload_n 69 dX2_init_68 rfl rfl ?_
  refine kG.iconst (v := nI 0) 70 dX2_init_69 (by decide) rfl ?_
  refine nG.putI w_62 73 dX2_init_70 fX2_40 ⟨by decide, by decide⟩ rfl rfl (Or.inl rfl) ⟨rfl, rfl⟩ rfl rfl ?_
  refine kG.aload_n 74 dX2_init_73 rfl rfl ?_
  refine kG.iconst (v := nI 0) 75 dX2_init_74 (by decide) rfl ?_
  refine nG.putI w_63 78 dX2_init_75 fX2_43 ⟨by decide, by decide⟩ rfl rfl (Or.inl rfl) ⟨rfl, rfl⟩ rfl rfl ?_
  refine kG.aload_n 79 dX2_init_78 rfl rfl ?_
  refine kG.iconst (v := nI 0) 80 dX2_init_79 (by decide) rfl ?_
  refine nG.putI w_64 83 dX2_init_80 fX2_46 ⟨by decide, by decide⟩ rfl rfl (Or.inl rfl) ⟨rfl, rfl⟩ rfl rfl ?_
  exact kG.vret dX2_init_83 rfl ⟨by decide, by decide⟩ ⟨rfl, rfl⟩
set_option maxHeartbeats 4000000 in
theorem i_X3_27 (Γ : kGm) : kC Γ yX3_init mX3_init (kRm 1 6 1274) [.ref 27, .ref 11, .ref 3] w_66 (fun r ω => r = none ∧ ω = w_84) := by
  refine kC.ofG (by decide +kernel) rfl rfl (by decide) (Nat.le_of_ble_eq_true rfl) ?_
  show kG Γ mX3_init (kRm 1 6 1274) (0, 0) 0 [some (.ref 27), some (.ref 11), some (.ref 3)] [] w_66 _
  refine kG.aload_n 1 dX3_init_0 rfl rfl ?_
  refine kG.objInit 4 dX3_init_1 lX3_3 ⟨by decide, Nat.le_of_ble_eq_true rfl⟩ rfl ?_
  refine kG.aload_n 5 dX3_init_4 rfl rfl ?_
  refine kG.sipush (v := nI 560) 8 dX3_init_5 (by decide) rfl ?_
  refine nG.newa 28 w_67 (1, 560) 10 dX3_init_8 (n := 560) rfl (by decide) rfl rfl (by decide) (fun _ => rfl) ⟨by decide, by decide⟩ rfl rfl rfl ?_
  refine nG.putP w_68 13 dX3_init_10 fX3_9 ⟨by decide, by decide⟩ rfl rfl (Or.inr ⟨rfl, rfl⟩) ⟨fun _ => rfl, fun _ => rfl⟩ rfl rfl ?_
  refine kG.aload_n 14 dX3_init_13 rfl rfl ?_
  refine kG.sipush (v := nI 560) 17 dX3_init_14 (by decide) rfl ?_
  refine nG.newa 29 w_69 (2, 1120) 19 dX3_init_17 (n := 560) rfl (by decide) rfl rfl (by decide) (fun _ => rfl) ⟨by decide, by decide⟩ rfl rfl rfl ?_
  refine nG.putP w_70 22 dX3_init_19 fX3_15 ⟨by decide, by decide⟩ rfl rfl (Or.inr ⟨rfl, rfl⟩) ⟨fun _ => rfl, fun _ => rfl⟩ rfl rfl ?_
  refine kG.aload_n 23 dX3_init_22 rfl rfl ?_
  refine kG.sipush (v := nI 140) 26 dX3_init_23 (by decide) rfl ?_
  refine nG.newa 30 w_71 (3, 1260) 28 dX3_init_26 (n := 140) rfl (by decide) rfl rfl (by decide) (fun _ => rfl) ⟨by decide, by decide⟩ rfl rfl rfl ?_
  refine nG.putP w_72 31 dX3_init_28 fX3_18 ⟨by decide, by decide⟩ rfl rfl (Or.inr ⟨rfl, rfl⟩) ⟨fun _ => rfl, fun _ => rfl⟩ rfl rfl ?_
  refine kG.aload_n 32 dX3_init_31 rfl rfl ?_
  refine kG.iconst (v := nI 4) 33 dX3_init_32 (by decide) rfl ?_
  refine nG.newa 31 w_73 (4, 1264) 35 dX3_init_33 (n := 4) rfl (by decide) rfl rfl (by decide) (fun _ => rfl) ⟨by decide, by decide⟩ rfl rfl rfl ?_
  refine nG.putP w_74 38 dX3_init_35 fX3_21 ⟨by decide, by decide⟩ rfl rfl (Or.inr ⟨rfl, rfl⟩) ⟨fun _ => rfl, fun _ => rfl⟩ rfl rfl ?_
  refine kG.aload_n 39 dX3_init_38 rfl rfl ?_
  refine kG.iconst (v := nI 4) 40 dX3_init_39 (by decide) rfl ?_
  refine nG.newa 32 w_75 (5, 1268) 42 dX3_init_40 (n := 4) rfl (by decide) rfl rfl (by decide) (fun _ => rfl) ⟨by decide, by decide⟩ rfl rfl rfl ?_
  refine nG.putP w_76 45 dX3_init_42 fX3_24 ⟨by decide, by decide⟩ rfl rfl (Or.inr ⟨rfl, rfl⟩) ⟨fun _ => rfl, fun _ => rfl⟩ rfl rfl ?_
  refine kG.aload_n 46 dX3_init_45 rfl rfl ?_
  refine kG.bipush (v := nI 6) 48 dX3_init_46 (by decide) rfl ?_
  refine nG.newa 33 w_77 (6, 1274) 50 dX3_init_48 (n := 6) rfl (by decide) rfl rfl (by decide) (fun _ => rfl) ⟨by decide, by decide⟩ rfl rfl rfl ?_
  refine nG.putP w_78 53 dX3_init_50 fX3_27 ⟨by decide, by decide⟩ rfl rfl (Or.inr ⟨rfl, rfl⟩) ⟨fun _ => rfl, fun _ => rfl⟩ rfl rfl ?_
  refine kG.aload_n 54 dX3_init_53 rfl rfl ?_
  refine kG.iconst (v := nI 0) 55 dX3_init_54 (by decide) rfl ?_
  refine nG.putI w_79 58 dX3_init_55 fX3_30 ⟨by decide, by decide⟩ rfl rfl (Or.inl rfl) ⟨rfl, rfl⟩ rfl rfl ?_
  refine kG.aload_n 59 dX3_init_58 rfl rfl ?_
  refine kG.iconst (v := nI 0) 60 dX3_init_59 (by decide) rfl ?_
  refine nG.putI w_80 63 dX3_init_60 fX3_34 ⟨by decide, by decide⟩ rfl rfl (Or.inl rfl) ⟨rfl, rfl⟩ rfl rfl ?_
  refine kG.aload_n 64 dX3_init_63 rfl rfl ?_
  refine kG.bipush (v := (-9)) 66 dX3_init_64 (by decide) rfl ?_
  refine nG.putI w_81 69 dX3_init_66 fX3_37 ⟨by decide, by decide⟩ rfl rfl (Or.inl rfl) ⟨rfl, rfl⟩ rfl rfl ?_
  refine kG.aload_n 70 dX3_init_69 rfl rfl ?_
  refine kG.iconst (v := nI 0) 71 dX3_init_70 (by decide) rfl ?_
  refine nG.putI w_82 74 dX3_init_71 fX3_40 ⟨by decide, by decide⟩ rfl rfl (Or.inl rfl) ⟨rfl, rfl⟩ rfl rfl ?_
  refine kG.aload_n 75 dX3_init_74 rfl rfl ?_
  refine kG.aload_n 76 dX3_init_75 rfl rfl ?_
  refine nG.putP w_83 79 dX3_init_76 fX3_43 ⟨by decide, by decide⟩ rfl rfl (Or.inl rfl) ⟨fun _ => rfl, fun _ => rfl⟩ rfl rfl ?_
  refine kG.aload_n 80 dX3_init_79 rfl rfl ?_
  refine kG.aload_n 81 dX3_init_80 rfl rfl ?_
  refine nG.putP w_84 84 dX3_init_81 fX3_47 ⟨by decide, by decide⟩ rfl rfl (Or.inr ⟨rfl, rfl⟩) ⟨fun _ => rfl, fun _ => rfl⟩ rfl rfl ?_
  exact kG.vret dX3_init_84 rfl ⟨by decide, by decide⟩ ⟨rfl, rfl⟩
set_option maxHeartbeats 4000000 in
theorem i_X3_34 (Γ : kGm) : kC Γ yX3_init mX3_init (kRm 1 6 1274) [.ref 34, .ref 11, .ref 3] w_86 (fun r ω => r = none ∧ ω = w_104) := by
  refine kC.ofG (by decide +kernel) rfl rfl (by decide) (Nat.le_of_ble_eq_true rfl) ?_
  show kG Γ mX3_init (kRm 1 6 1274) (0, 0) 0 [some (.ref 34), some (.ref 11), some (.ref 3)] [] w_86 _
  refine kG.aload_n 1 dX3_init_0 rfl rfl ?_
  refine kG.objInit 4 dX3_init_1 lX3_3 ⟨by decide, Nat.le_of_ble_eq_true rfl⟩ rfl ?_
  refine kG.aload_n 5 dX3_init_4 rfl rfl ?_
  refine kG.sipush (v := nI 560) 8 dX3_init_5 (by decide) rfl ?_
  refine nG.newa 35 w_87 (1, 560) 10 dX3_init_8 (n := 560) rfl (by decide) rfl rfl (by decide) (fun _ => rfl) ⟨by decide, by decide⟩ rfl rfl rfl ?_
  refine nG.putP w_88 13 dX3_init_10 fX3_9 ⟨by decide, by decide⟩ rfl rfl (Or.inr ⟨rfl, rfl⟩) ⟨fun _ => rfl, fun _ => rfl⟩ rfl rfl ?_
  refine kG.aload_n 14 dX3_init_13 rfl rfl ?_
  refine kG.sipush (v := nI 560) 17 dX3_init_14 (by decide) rfl ?_
  refine nG.newa 36 w_89 (2, 1120) 19 dX3_init_17 (n := 560) rfl (by decide) rfl rfl (by decide) (fun _ => rfl) ⟨by decide, by decide⟩ rfl rfl rfl ?_
  refine nG.putP w_90 22 dX3_init_19 fX3_15 ⟨by decide, by decide⟩ rfl rfl (Or.inr ⟨rfl, rfl⟩) ⟨fun _ => rfl, fun _ => rfl⟩ rfl rfl ?_
  refine kG.aload_n 23 dX3_init_22 rfl rfl ?_
  refine kG.sipush (v := nI 140) 26 dX3_init_23 (by decide) rfl ?_
  refine nG.newa 37 w_91 (3, 1260) 28 dX3_init_26 (n := 140) rfl (by decide) rfl rfl (by decide) (fun _ => rfl) ⟨by decide, by decide⟩ rfl rfl rfl ?_
  refine nG.putP w_92 31 dX3_init_28 fX3_18 ⟨by decide, by decide⟩ rfl rfl (Or.inr ⟨rfl, rfl⟩) ⟨fun _ => rfl, fun _ => rfl⟩ rfl rfl ?_
  refine kG.aload_n 32 dX3_init_31 rfl rfl ?_
  refine kG.iconst (v := nI 4) 33 dX3_init_32 (by decide) rfl ?_
  refine nG.newa 38 w_93 (4, 1264) 35 dX3_init_33 (n := 4) rfl (by decide) rfl rfl (by decide) (fun _ => rfl) ⟨by decide, by decide⟩ rfl rfl rfl ?_
  refine nG.putP w_94 38 dX3_init_35 fX3_21 ⟨by decide, by decide⟩ rfl rfl (Or.inr ⟨rfl, rfl⟩) ⟨fun _ => rfl, fun _ => rfl⟩ rfl rfl ?_
  refine kG.aload_n 39 dX3_init_38 rfl rfl ?_
  refine kG.iconst (v := nI 4) 40 dX3_init_39 (by decide) rfl ?_
  refine nG.newa 39 w_95 (5, 1268) 42 dX3_init_40 (n := 4) rfl (by decide) rfl rfl (by decide) (fun _ => rfl) ⟨by decide, by decide⟩ rfl rfl rfl ?_
  refine nG.putP w_96 45 dX3_init_42 fX3_24 ⟨by decide, by decide⟩ rfl rfl (Or.inr ⟨rfl, rfl⟩) ⟨fun _ => rfl, fun _ => rfl⟩ rfl rfl ?_
  refine kG.aload_n 46 dX3_init_45 rfl rfl ?_
  refine kG.bipush (v := nI 6) 48 dX3_init_46 (by decide) rfl ?_
  refine nG.newa 40 w_97 (6, 1274) 50 dX3_init_48 (n := 6) rfl (by decide) rfl rfl (by decide) (fun _ => rfl) ⟨by decide, by decide⟩ rfl rfl rfl ?_
  refine nG.putP w_98 53 dX3_init_50 fX3_27 ⟨by decide, by decide⟩ rfl rfl (Or.inr ⟨rfl, rfl⟩) ⟨fun _ => rfl, fun _ => rfl⟩ rfl rfl ?_
  refine kG.aload_n 54 dX3_init_53 rfl rfl ?_
  refine kG.iconst (v := nI 0) 55 dX3_init_54 (by decide) rfl ?_
  refine nG.putI w_99 58 dX3_init_55 fX3_30 ⟨by decide, by decide⟩ rfl rfl (Or.inl rfl) ⟨rfl, rfl⟩ rfl rfl ?_
  refine kG.aload_n 59 dX3_init_58 rfl rfl ?_
  refine kG.iconst (v := nI 0) 60 dX3_init_59 (by decide) rfl ?_
  refine nG.putI w_100 63 dX3_init_60 fX3_34 ⟨by decide, by decide⟩ rfl rfl (Or.inl rfl) ⟨rfl, rfl⟩ rfl rfl ?_
  refine kG.aload_n 64 dX3_init_63 rfl rfl ?_
  refine kG.bipush (v := (-9)) 66 dX3_init_64 (by decide) rfl ?_
  refine nG.putI w_101 69 dX3_init_66 fX3_37 ⟨by decide, by decide⟩ rfl rfl (Or.inl rfl) ⟨rfl, rfl⟩ rfl rfl ?_
  refine kG.aload_n 70 dX3_init_69 rfl rfl ?_
  refine kG.iconst (v := nI 0) 71 dX3_init_70 (by decide) rfl ?_
  refine nG.putI w_102 74 dX3_init_71 fX3_40 ⟨by decide, by decide⟩ rfl rfl (Or.inl rfl) ⟨rfl, rfl⟩ rfl rfl ?_
  refine kG.aload_n 75 dX3_init_74 rfl rfl ?_
  refine kG.aload_n 76 dX3_init_75 rfl rfl ?_
  refine nG.putP w_103 79 dX3_init_76 fX3_43 ⟨by decide, by decide⟩ rfl rfl (Or.inl rfl) ⟨fun _ => rfl, fun _ => rfl⟩ rfl rfl ?_
  refine kG.aload_n 80 dX3_init_79 rfl rfl ?_
  refine kG.aload_n 81 dX3_init_80 rfl rfl ?_
  refine nG.putP w_104 84 dX3_init_81 fX3_47 ⟨by decide, by decide⟩ rfl rfl (Or.inr ⟨rfl, rfl⟩) ⟨fun _ => rfl, fun _ => rfl⟩ rfl rfl ?_
  exact kG.vret dX3_init_84 rfl ⟨by decide, by decide⟩ ⟨rfl, rfl⟩
set_option maxHeartbeats 4000000 in
theorem i_X1_41 (Γ : kGm) : kC Γ yX1_init mX1_init (kRm 1 1 60) [.ref 41] w_110 (fun r ω => r = none ∧ ω = w_114) := by
  refine kC.ofG (by decide +kernel) rfl rfl (by decide) (Nat.le_of_ble_eq_true rfl) ?_
  show kG Γ mX1_init (kRm 1 1 60) (0, 0) 0 [some (.ref 41)] [] w_110 _
  refine kG.aload_n 1 dX1_init_0 rfl rfl ?_
  refine kG.objInit 4 dX1_init_1 lX1_3 ⟨by decide, Nat.le_of_ble_eq_true rfl⟩ rfl ?_
  refine kG.aload_n 5 dX1_init_4 rfl rfl ?_
  refine kG.bipush (v := nI 60) 7 dX1_init_5 (by decide) rfl ?_
  refine nG.newa 42 w_111 (1, 60) 9 dX1_init_7 (n := 60) rfl (by decide) rfl rfl (by decide) (fun _ => rfl) ⟨by decide, by decide⟩ rfl rfl rfl ?_
  refine nG.putP w_112 12 dX1_init_9 fX1_9 ⟨by decide, by decide⟩ rfl rfl (Or.inr ⟨rfl, rfl⟩) ⟨fun _ => rfl, fun _ => rfl⟩ rfl rfl ?_
  refine kG.aload_n 13 dX1_init_12 rfl rfl ?_
  refine kG.iconst (v := (-1)) 14 dX1_init_13 (by decide) rfl ?_
  refine nG.putI w_113 17 dX1_init_14 fX1_15 ⟨by decide, by decide⟩ rfl rfl (Or.inl rfl) ⟨rfl, rfl⟩ rfl rfl ?_
  refine kG.aload_n 18 dX1_init_17 rfl rfl ?_
  refine kG.iconst (v := nI 0) 19 dX1_init_18 (by decide) rfl ?_
  refine nG.putI w_114 22 dX1_init_19 fX1_19 ⟨by decide, by decide⟩ rfl rfl (Or.inl rfl) ⟨rfl, rfl⟩ rfl rfl ?_
  exact kG.vret dX1_init_22 rfl ⟨by decide, by decide⟩ ⟨rfl, rfl⟩
set_option maxHeartbeats 4000000 in
theorem i_X1_43 (Γ : kGm) : kC Γ yX1_init mX1_init (kRm 1 1 60) [.ref 43] w_116 (fun r ω => r = none ∧ ω = w_120) := by
  refine kC.ofG (by decide +kernel) rfl rfl (by decide) (Nat.le_of_ble_eq_true rfl) ?_
  show kG Γ mX1_init (kRm 1 1 60) (0, 0) 0 [some (.ref 43)] [] w_116 _
  refine kG.aload_n 1 dX1_init_0 rfl rfl ?_
  refine kG.objInit 4 dX1_init_1 lX1_3 ⟨by decide, Nat.le_of_ble_eq_true rfl⟩ rfl ?_
  refine kG.aload_n 5 dX1_init_4 rfl rfl ?_
  refine kG.bipush (v := nI 60) 7 dX1_init_5 (by decide) rfl ?_
  refine nG.newa 44 w_117 (1, 60) 9 dX1_init_7 (n := 60) rfl (by decide) rfl rfl (by decide) (fun _ => rfl) ⟨by decide, by decide⟩ rfl rfl rfl ?_
  refine nG.putP w_118 12 dX1_init_9 fX1_9 ⟨by decide, by decide⟩ rfl rfl (Or.inr ⟨rfl, rfl⟩) ⟨fun _ => rfl, fun _ => rfl⟩ rfl rfl ?_
  refine kG.aload_n 13 dX1_init_12 rfl rfl ?_
  refine kG.iconst (v := (-1)) 14 dX1_init_13 (by decide) rfl ?_
  refine nG.putI w_119 17 dX1_init_14 fX1_15 ⟨by decide, by decide⟩ rfl rfl (Or.inl rfl) ⟨rfl, rfl⟩ rfl rfl ?_
  refine kG.aload_n 18 dX1_init_17 rfl rfl ?_
  refine kG.iconst (v := nI 0) 19 dX1_init_18 (by decide) rfl ?_
  refine nG.putI w_120 22 dX1_init_19 fX1_19 ⟨by decide, by decide⟩ rfl rfl (Or.inl rfl) ⟨rfl, rfl⟩ rfl rfl ?_
  exact kG.vret dX1_init_22 rfl ⟨by decide, by decide⟩ ⟨rfl, rfl⟩
set_option maxHeartbeats 4000000 in
theorem i_X1_45 (Γ : kGm) : kC Γ yX1_init mX1_init (kRm 1 1 60) [.ref 45] w_122 (fun r ω => r = none ∧ ω = w_126) := by
  refine kC.ofG (by decide +kernel) rfl rfl (by decide) (Nat.le_of_ble_eq_true rfl) ?_
  show kG Γ mX1_init (kRm 1 1 60) (0, 0) 0 [some (.ref 45)] [] w_122 _
  refine kG.aload_n 1 dX1_init_0 rfl rfl ?_
  refine kG.objInit 4 dX1_init_1 lX1_3 ⟨by decide, Nat.le_of_ble_eq_true rfl⟩ rfl ?_
  refine kG.aload_n 5 dX1_init_4 rfl rfl ?_
  refine kG.bipush (v := nI 60) 7 dX1_init_5 (by decide) rfl ?_
  refine nG.newa 46 w_123 (1, 60) 9 dX1_init_7 (n := 60) rfl (by decide) rfl rfl (by decide) (fun _ => rfl) ⟨by decide, by decide⟩ rfl rfl rfl ?_
  refine nG.putP w_124 12 dX1_init_9 fX1_9 ⟨by decide, by decide⟩ rfl rfl (Or.inr ⟨rfl, rfl⟩) ⟨fun _ => rfl, fun _ => rfl⟩ rfl rfl ?_
  refine kG.aload_n 13 dX1_init_12 rfl rfl ?_
  refine kG.iconst (v := (-1)) 14 dX1_init_13 (by decide) rfl ?_
  refine nG.putI w_125 17 dX1_init_14 fX1_15 ⟨by decide, by decide⟩ rfl rfl (Or.inl rfl) ⟨rfl, rfl⟩ rfl rfl ?_
  refine kG.aload_n 18 dX1_init_17 rfl rfl ?_
  refine kG.iconst (v := nI 0) 19 dX1_init_18 (by decide) rfl ?_
  refine nG.putI w_126 22 dX1_init_19 fX1_19 ⟨by decide, by decide⟩ rfl rfl (Or.inl rfl) ⟨rfl, rfl⟩ rfl rfl ?_
  exact kG.vret dX1_init_22 rfl ⟨by decide, by decide⟩ ⟨rfl, rfl⟩
set_option maxHeartbeats 4000000 in
theorem i_X1_47 (Γ : kGm) : kC Γ yX1_init mX1_init (kRm 1 1 60) [.ref 47] w_128 (fun r ω => r = none ∧ ω = w_132) := by
  refine kC.ofG (by decide +kernel) rfl rfl (by decide) (Nat.le_of_ble_eq_true rfl) ?_
  show kG Γ mX1_init (kRm 1 1 60) (0, 0) 0 [some (.ref 47)] [] w_128 _
  refine kG.aload_n 1 dX1_init_0 rfl rfl ?_
  refine kG.objInit 4 dX1_init_1 lX1_3 ⟨by decide, Nat.le_of_ble_eq_true rfl⟩ rfl ?_
  refine kG.aload_n 5 dX1_init_4 rfl rfl ?_
  refine kG.bipush (v := nI 60) 7 dX1_init_5 (by decide) rfl ?_
  refine nG.newa 48 w_129 (1, 60) 9 dX1_init_7 (n := 60) rfl (by decide) rfl rfl (by decide) (fun _ => rfl) ⟨by decide, by decide⟩ rfl rfl rfl ?_
  refine nG.putP w_130 12 dX1_init_9 fX1_9 ⟨by decide, by decide⟩ rfl rfl (Or.inr ⟨rfl, rfl⟩) ⟨fun _ => rfl, fun _ => rfl⟩ rfl rfl ?_
  refine kG.aload_n 13 dX1_init_12 rfl rfl ?_
  refine kG.iconst (v := (-1)) 14 dX1_init_13 (by decide) rfl ?_
  refine nG.putI w_131 17 dX1_init_14 fX1_15 ⟨by decide, by decide⟩ rfl rfl (Or.inl rfl) ⟨rfl, rfl⟩ rfl rfl ?_
  refine kG.aload_n 18 dX1_init_17 rfl rfl ?_
  refine kG.iconst (v := nI 0) 19 dX1_init_18 (by decide) rfl ?_
  refine nG.putI w_132 22 dX1_init_19 fX1_19 ⟨by decide, by decide⟩ rfl rfl (Or.inl rfl) ⟨rfl, rfl⟩ rfl rfl ?_
  exact kG.vret dX1_init_22 rfl ⟨by decide, by decide⟩ ⟨rfl, rfl⟩
set_option maxHeartbeats 4000000 in
theorem i_X4_1 (Γ : kGm) : kC Γ yX4_init mX4_init (kRm 2 47 2980) [.ref 1] w_1 (fun r ω => r = none ∧ ω = w_133) := by
  refine kC.ofG (by decide +kernel) rfl rfl (by decide) (Nat.le_of_ble_eq_true rfl) ?_
  show kG Γ mX4_init (kRm 2 47 2980) (0, 0) 0 [some (.ref 1), none] [] w_1 _
  refine kG.aload_n 1 dX4_init_0 rfl rfl ?_
  refine kG.objInit 4 dX4_init_1 lX4_5 ⟨by decide, Nat.le_of_ble_eq_true rfl⟩ rfl ?_
  refine kG.aload_n 5 dX4_init_4 rfl rfl ?_
  refine kG.iconst (v := nI 4) 6 dX4_init_5 (by decide) rfl ?_
  refine nG.newq 2 w_2 (1, 4) 9 dX4_init_6 lX4_11 (n := 4) rfl (by decide) rfl rfl (by decide) (fun _ => rfl) ⟨by decide, by decide⟩ rfl rfl rfl ?_
  refine nG.putP w_3 12 dX4_init_9 fX4_13 ⟨by decide, by decide⟩ rfl rfl (Or.inr ⟨rfl, rfl⟩) ⟨fun _ => rfl, fun _ => rfl⟩ rfl rfl ?_
  refine kG.aload_n 13 dX4_init_12 rfl rfl ?_
  refine nG.new (ci := 0) 3 w_4 (2, 9) 16 dX4_init_13 (by decide) lX4_17 nX0 iX0 rfl (by decide) rfl (fun _ => rfl) (fun _ => rfl) hdf0 ⟨by decide, by decide⟩ rfl rfl rfl ?_
  refine kG.dup 17 dX4_init_16 rfl rfl ?_
  refine kG.bipush (v := nI 6) 19 dX4_init_17 (by decide) rfl ?_
  refine nG.callI (5, 27) 22 dX4_init_19 lX4_19 vX0_init (i_X0_3 Γ) rfl rfl ⟨by decide, by decide⟩ (Nat.le_of_ble_eq_true rfl) ⟨by decide, by decide⟩ rfl rfl ?_
  refine nG.putP w_13 25 dX4_init_22 fX4_22 ⟨by decide, by decide⟩ rfl rfl (Or.inr ⟨rfl, rfl⟩) ⟨fun _ => rfl, fun _ => rfl⟩ rfl rfl ?_
  refine kG.aload_n 26 dX4_init_25 rfl rfl ?_
  refine nG.new (ci := 0) 7 w_14 (6, 32) 29 dX4_init_26 (by decide) lX4_17 nX0 iX0 rfl (by decide) rfl (fun _ => rfl) (fun _ => rfl) hdf0 ⟨by decide, by decide⟩ rfl rfl rfl ?_
  refine kG.dup 30 dX4_init_29 rfl rfl ?_
  refine kG.bipush (v := nI 8) 32 dX4_init_30 (by decide) rfl ?_
  refine nG.callI (9, 56) 35 dX4_init_32 lX4_19 vX0_init (i_X0_7 Γ) rfl rfl ⟨by decide, by decide⟩ (Nat.le_of_ble_eq_true rfl) ⟨by decide, by decide⟩ rfl rfl ?_
  refine nG.putP w_23 38 dX4_init_35 fX4_26 ⟨by decide, by decide⟩ rfl rfl (Or.inr ⟨rfl, rfl⟩) ⟨fun _ => rfl, fun _ => rfl⟩ rfl rfl ?_
  refine kG.aload_n 39 dX4_init_38 rfl rfl ?_
  refine nG.new (ci := 2) 11 w_24 (10, 68) 42 dX4_init_39 (by decide) lX4_29 nX2 iX2 rfl (by decide) rfl (fun _ => rfl) (fun _ => rfl) hdf2 ⟨by decide, by decide⟩ rfl rfl rfl ?_
  refine kG.dup 43 dX4_init_42 rfl rfl ?_
  refine nG.callIN (17, 106) 46 dX4_init_43 (lX4_31 Γ) vX2_init (i_X2_11 Γ) rfl rfl ⟨by decide, by decide⟩ (Nat.le_of_ble_eq_true rfl) ⟨by decide, by decide⟩ rfl rfl ?_
  refine nG.putP w_44 49 dX4_init_46 fX4_32 ⟨by decide, by decide⟩ rfl rfl (Or.inl rfl) ⟨fun _ => rfl, fun _ => rfl⟩ rfl rfl ?_
  refine kG.aload_n 50 dX4_init_49 rfl rfl ?_
  refine nG.new (ci := 2) 19 w_45 (18, 118) 53 dX4_init_50 (by decide) lX4_29 nX2 iX2 rfl (by decide) rfl (fun _ => rfl) (fun _ => rfl) hdf2 ⟨by decide, by decide⟩ rfl rfl rfl ?_
  refine kG.dup 54 dX4_init_53 rfl rfl ?_
  refine nG.callIN (25, 156) 57 dX4_init_54 (lX4_31 Γ) vX2_init (i_X2_19 Γ) rfl rfl ⟨by decide, by decide⟩ (Nat.le_of_ble_eq_true rfl) ⟨by decide, by decide⟩ rfl rfl ?_
  refine nG.putP w_65 60 dX4_init_57 fX4_36 ⟨by decide, by decide⟩ rfl rfl (Or.inl rfl) ⟨fun _ => rfl, fun _ => rfl⟩ rfl rfl ?_
  refine kG.aload_n 61 dX4_init_60 rfl rfl ?_
  refine nG.new (ci := 3) 27 w_66 (26, 168) 64 dX4_init_61 (by decide) lX4_39 nX3 iX3 rfl (by decide) rfl (fun _ => rfl) (fun _ => rfl) hdf3 ⟨by decide, by decide⟩ rfl rfl rfl ?_
  refine kG.dup 65 dX4_init_64 rfl rfl ?_
  refine kG.aload_n 66 dX4_init_65 rfl rfl ?_
  refine kG.getP (q := 11) 69 dX4_init_66 fX4_32 ⟨by decide, by decide⟩ rfl rfl rfl rfl ?_
  refine kG.aload_n 70 dX4_init_69 rfl rfl ?_
  refine kG.getP (q := 3) 73 dX4_init_70 fX4_22 ⟨by decide, by decide⟩ rfl rfl rfl rfl ?_
  refine nG.callI (32, 1442) 76 dX4_init_73 lX4_41 vX3_init (i_X3_27 Γ) rfl rfl ⟨by decide, by decide⟩ (Nat.le_of_ble_eq_true rfl) ⟨by decide, by decide⟩ rfl rfl ?_
  refine nG.putP w_85 79 dX4_init_76 fX4_44 ⟨by decide, by decide⟩ rfl rfl (Or.inr ⟨rfl, rfl⟩) ⟨fun _ => rfl, fun _ => rfl⟩ rfl rfl ?_
  refine kG.aload_n 80 dX4_init_79 rfl rfl ?_
  refine nG.new (ci := 3) 34 w_86 (33, 1454) 83 dX4_init_80 (by decide) lX4_39 nX3 iX3 rfl (by decide) rfl (fun _ => rfl) (fun _ => rfl) hdf3 ⟨by decide, by decide⟩ rfl rfl rfl ?_
  refine kG.dup 84 dX4_init_83 rfl rfl ?_
  refine kG.aload_n 85 dX4_init_84 rfl rfl ?_
  refine kG.getP (q := 11) 88 dX4_init_85 fX4_32 ⟨by decide, by decide⟩ rfl rfl rfl rfl ?_
  refine kG.aload_n 89 dX4_init_88 rfl rfl ?_
  refine kG.getP (q := 3) 92 dX4_init_89 fX4_22 ⟨by decide, by decide⟩ rfl rfl rfl rfl ?_
  refine nG.callI (39, 2728) 95 dX4_init_92 lX4_41 vX3_init (i_X3_34 Γ) rfl rfl ⟨by decide, by decide⟩ (Nat.le_of_ble_eq_true rfl) ⟨by decide, by decide⟩ rfl rfl ?_
  refine nG.putP w_105 98 dX4_init_95 fX4_48 ⟨by decide, by decide⟩ rfl rfl (Or.inr ⟨rfl, rfl⟩) ⟨fun _ => rfl, fun _ => rfl⟩ rfl rfl ?_
  refine kG.aload_n 99 dX4_init_98 rfl rfl ?_
  refine kG.iconst (v := nI 0) 100 dX4_init_99 (by decide) rfl ?_
  refine nG.putI w_106 103 dX4_init_100 fX4_51 ⟨by decide, by decide⟩ rfl rfl (Or.inl rfl) ⟨rfl, rfl⟩ rfl rfl ?_
  refine kG.aload_n 104 dX4_init_103 rfl rfl ?_
  refine kG.iconst (v := nI 0) 105 dX4_init_104 (by decide) rfl ?_
  refine nG.putI w_107 108 dX4_init_105 fX4_55 ⟨by decide, by decide⟩ rfl rfl (Or.inl rfl) ⟨rfl, rfl⟩ rfl rfl ?_
  refine kG.aload_n 109 dX4_init_108 rfl rfl ?_
  refine kG.iconst (v := nI 0) 110 dX4_init_109 (by decide) rfl ?_
  refine nG.putI w_108 113 dX4_init_110 fX4_59 ⟨by decide, by decide⟩ rfl rfl (Or.inl rfl) ⟨rfl, rfl⟩ rfl rfl ?_
  refine kG.aload_n 114 dX4_init_113 rfl rfl ?_
  refine kG.iconst (v := nI 0) 115 dX4_init_114 (by decide) rfl ?_
  refine nG.putI w_109 118 dX4_init_115 fX4_62 ⟨by decide, by decide⟩ rfl rfl (Or.inl rfl) ⟨rfl, rfl⟩ rfl rfl ?_
  refine kG.iconst (v := nI 0) 119 dX4_init_118 (by decide) rfl ?_
  refine kG.istore_n 120 dX4_init_119 (by decide) rfl rfl ?_
  dsimp only [List.set]
  refine kG.iload_n 121 dX4_init_120 rfl rfl ?_
  refine kG.iconst (v := nI 4) 122 dX4_init_121 (by decide) rfl ?_
  refine kG.icmp_ge 144 125 dX4_init_122 (by decide) rfl (fun h => absurd h (by decide)) (fun h => ?_)
  refine kG.aload_n 126 dX4_init_125 rfl rfl ?_
  refine kG.getP (q := 2) 129 dX4_init_126 fX4_13 ⟨by decide, by decide⟩ rfl rfl rfl rfl ?_
  refine kG.iload_n 130 dX4_init_129 rfl rfl ?_
  refine nG.new (ci := 1) 41 w_110 (40, 2731) 133 dX4_init_130 (by decide) lX4_11 nX1 iX1 rfl (by decide) rfl (fun _ => rfl) (fun _ => rfl) hdf1 ⟨by decide, by decide⟩ rfl rfl rfl ?_
  refine kG.dup 134 dX4_init_133 rfl rfl ?_
  refine nG.callIN (41, 2791) 137 dX4_init_134 (lX4_65 Γ) vX1_init (i_X1_41 Γ) rfl rfl ⟨by decide, by decide⟩ (Nat.le_of_ble_eq_true rfl) ⟨by decide, by decide⟩ rfl rfl ?_
  refine nG.aast w_115 (n := 4) (q := 0) 138 dX4_init_137 ⟨by decide, by decide⟩ rfl rfl (by decide) (by decide) ⟨by decide, by decide⟩ rfl rfl rfl ?_
  refine kG.iinc (v := nI 1) 141 dX4_init_138 rfl rfl (by decide) rfl rfl ?_
  dsimp only [List.set]
  refine kG.goto 120 dX4_init_141 (by decide) ?_
  refine kG.iload_n 121 dX4_init_120 rfl rfl ?_
  refine kG.iconst (v := nI 4) 122 dX4_init_121 (by decide) rfl ?_
  refine kG.icmp_ge 144 125 dX4_init_122 (by decide) rfl (fun h => absurd h (by decide)) (fun h => ?_)
  refine kG.aload_n 126 dX4_init_125 rfl rfl ?_
  refine kG.getP (q := 2) 129 dX4_init_126 fX4_13 ⟨by decide, by decide⟩ rfl rfl rfl rfl ?_
  refine kG.iload_n 130 dX4_init_129 rfl rfl ?_
  refine nG.new (ci := 1) 43 w_116 (42, 2794) 133 dX4_init_130 (by decide) lX4_11 nX1 iX1 rfl (by decide) rfl (fun _ => rfl) (fun _ => rfl) hdf1 ⟨by decide, by decide⟩ rfl rfl rfl ?_
  refine kG.dup 134 dX4_init_133 rfl rfl ?_
  refine nG.callIN (43, 2854) 137 dX4_init_134 (lX4_65 Γ) vX1_init (i_X1_43 Γ) rfl rfl ⟨by decide, by decide⟩ (Nat.le_of_ble_eq_true rfl) ⟨by decide, by decide⟩ rfl rfl ?_
  refine nG.aast w_121 (n := 4) (q := 1) 138 dX4_init_137 ⟨by decide, by decide⟩ rfl rfl (by decide) (by decide) ⟨by decide, by decide⟩ rfl rfl rfl ?_
  refine kG.iinc (v := nI 2) 141 dX4_init_138 rfl rfl (by decide) rfl rfl ?_
  dsimp only [List.set]
  refine kG.goto 120 dX4_init_141 (by decide) ?_
  refine kG.iload_n 121 dX4_init_120 rfl rfl ?_
  refine kG.iconst (v := nI 4) 122 dX4_init_121 (by decide) rfl ?_
  refine kG.icmp_ge 144 125 dX4_init_122 (by decide) rfl (fun h => absurd h (by decide)) (fun h => ?_)
  refine kG.aload_n 126 dX4_init_125 rfl rfl ?_
  refine kG.getP (q := 2) 129 dX4_init_126 fX4_13 ⟨by decide, by decide⟩ rfl rfl rfl rfl ?_
  refine kG.iload_n 130 dX4_init_129 rfl rfl ?_
  refine nG.new (ci := 1) 45 w_122 (44, 2857) 133 dX4_init_130 (by decide) lX4_11 nX1 iX1 rfl (by decide) rfl (fun _ => rfl) (fun _ => rfl) hdf1 ⟨by decide, by decide⟩ rfl rfl rfl ?_
  refine kG.dup 134 dX4_init_133 rfl rfl ?_
  refine nG.callIN (45, 2917) 137 dX4_init_134 (lX4_65 Γ) vX1_init (i_X1_45 Γ) rfl rfl ⟨by decide, by decide⟩ (Nat.le_of_ble_eq_true rfl) ⟨by decide, by decide⟩ rfl rfl ?_
  refine nG.aast w_127 (n := 4) (q := 2) 138 dX4_init_137 ⟨by decide, by decide⟩ rfl rfl (by decide) (by decide) ⟨by decide, by decide⟩ rfl rfl rfl ?_
  refine kG.iinc (v := nI 3) 141 dX4_init_138 rfl rfl (by decide) rfl rfl ?_
  dsimp only [List.set]
  refine kG.goto 120 dX4_init_141 (by decide) ?_
  refine kG.iload_n 121 dX4_init_120 rfl rfl ?_
  refine kG.iconst (v := nI 4) 122 dX4_init_121 (by decide) rfl ?_
  refine kG.icmp_ge 144 125 dX4_init_122 (by decide) rfl (fun h => absurd h (by decide)) (fun h => ?_)
  refine kG.aload_n 126 dX4_init_125 rfl rfl ?_
  refine kG.getP (q := 2) 129 dX4_init_126 fX4_13 ⟨by decide, by decide⟩ rfl rfl rfl rfl ?_
  refine kG.iload_n 130 dX4_init_129 rfl rfl ?_
  refine nG.new (ci := 1) 47 w_128 (46, 2920) 133 dX4_init_130 (by decide) lX4_11 nX1 iX1 rfl (by decide) rfl (fun _ => rfl) (fun _ => rfl) hdf1 ⟨by decide, by decide⟩ rfl rfl rfl ?_
  refine kG.dup 134 dX4_init_133 rfl rfl ?_
  refine nG.callIN (47, 2980) 137 dX4_init_134 (lX4_65 Γ) vX1_init (i_X1_47 Γ) rfl rfl ⟨by decide, by decide⟩ (Nat.le_of_ble_eq_true rfl) ⟨by decide, by decide⟩ rfl rfl ?_
  refine nG.aast w_133 (n := 4) (q := 3) 138 dX4_init_137 ⟨by decide, by decide⟩ rfl rfl (by decide) (by decide) ⟨by decide, by decide⟩ rfl rfl rfl ?_
  refine kG.iinc (v := nI 4) 141 dX4_init_138 rfl rfl (by decide) rfl rfl ?_
  dsimp only [List.set]
  refine kG.goto 120 dX4_init_141 (by decide) ?_
  refine kG.iload_n 121 dX4_init_120 rfl rfl ?_
  refine kG.iconst (v := nI 4) 122 dX4_init_121 (by decide) rfl ?_
  refine kG.icmp_ge 144 125 dX4_init_122 (by decide) rfl (fun h => ?_) (fun h => absurd (by decide) h)
  exact kG.vret dX4_init_144 rfl ⟨by decide, by decide⟩ ⟨rfl, rfl⟩
set_option maxHeartbeats 4000000 in
theorem i_X5_49 (Γ : kGm) : kC Γ yX5_init mX5_init (kRm 2 24 401) [.ref 49] w_134 (fun r ω => r = none ∧ ω = w_186) := by
  refine kC.ofG (by decide +kernel) rfl rfl (by decide) (Nat.le_of_ble_eq_true rfl) ?_
  show kG Γ mX5_init (kRm 2 24 401) (0, 0) 0 [some (.ref 49)] [] w_134 _
  refine kG.aload_n 1 dX5_init_0 rfl rfl ?_
  refine kG.objInit 4 dX5_init_1 lX5_1 ⟨by decide, Nat.le_of_ble_eq_true rfl⟩ rfl ?_
  refine kG.aload_n 5 dX5_init_4 rfl rfl ?_
  refine kG.iconst (v := nI 4) 6 dX5_init_5 (by decide) rfl ?_
  refine nG.newa 50 w_135 (1, 4) 8 dX5_init_6 (n := 4) rfl (by decide) rfl rfl (by decide) (fun _ => rfl) ⟨by decide, by decide⟩ rfl rfl rfl ?_
  refine kG.dup 9 dX5_init_8 rfl rfl ?_
  refine kG.iconst (v := nI 0) 10 dX5_init_9 (by decide) rfl ?_
  refine kG.bipush (v := (-9)) 12 dX5_init_10 (by decide) rfl ?_
  refine nG.iast w_136 (n := 4) (q := 0) 13 dX5_init_12 ⟨by decide, by decide⟩ rfl rfl (by decide) (by decide) rfl rfl ?_
  refine kG.dup 14 dX5_init_13 rfl rfl ?_
  refine kG.iconst (v := nI 1) 15 dX5_init_14 (by decide) rfl ?_
  refine kG.bipush (v := (-9)) 17 dX5_init_15 (by decide) rfl ?_
  refine nG.iast w_137 (n := 4) (q := 1) 18 dX5_init_17 ⟨by decide, by decide⟩ rfl rfl (by decide) (by decide) rfl rfl ?_
  refine kG.dup 19 dX5_init_18 rfl rfl ?_
  refine kG.iconst (v := nI 2) 20 dX5_init_19 (by decide) rfl ?_
  refine kG.bipush (v := (-9)) 22 dX5_init_20 (by decide) rfl ?_
  refine nG.iast w_138 (n := 4) (q := 2) 23 dX5_init_22 ⟨by decide, by decide⟩ rfl rfl (by decide) (by decide) rfl rfl ?_
  refine kG.dup 24 dX5_init_23 rfl rfl ?_
  refine kG.iconst (v := nI 3) 25 dX5_init_24 (by decide) rfl ?_
  refine kG.bipush (v := (-9)) 27 dX5_init_25 (by decide) rfl ?_
  refine nG.iast w_139 (n := 4) (q := 3) 28 dX5_init_27 ⟨by decide, by decide⟩ rfl rfl (by decide) (by decide) rfl rfl ?_
  refine nG.putP w_140 31 dX5_init_28 fX5_9 ⟨by decide, by decide⟩ rfl rfl (Or.inr ⟨rfl, rfl⟩) ⟨fun _ => rfl, fun _ => rfl⟩ rfl rfl ?_
  refine kG.aload_n 32 dX5_init_31 rfl rfl ?_
  refine kG.iconst (v := nI 4) 33 dX5_init_32 (by decide) rfl ?_
  refine nG.newa 51 w_141 (2, 8) 35 dX5_init_33 (n := 4) rfl (by decide) rfl rfl (by decide) (fun _ => rfl) ⟨by decide, by decide⟩ rfl rfl rfl ?_
  refine nG.putP w_142 38 dX5_init_35 fX5_13 ⟨by decide, by decide⟩ rfl rfl (Or.inr ⟨rfl, rfl⟩) ⟨fun _ => rfl, fun _ => rfl⟩ rfl rfl ?_
  refine kG.aload_n 39 dX5_init_38 rfl rfl ?_
  refine kG.sipush (v := nI 240) 42 dX5_init_39 (by decide) rfl ?_
  refine nG.newa 52 w_143 (3, 248) 44 dX5_init_42 (n := 240) rfl (by decide) rfl rfl (by decide) (fun _ => rfl) ⟨by decide, by decide⟩ rfl rfl rfl ?_
  refine nG.putP w_144 47 dX5_init_44 fX5_16 ⟨by decide, by decide⟩ rfl rfl (Or.inr ⟨rfl, rfl⟩) ⟨fun _ => rfl, fun _ => rfl⟩ rfl rfl ?_
  refine kG.aload_n 48 dX5_init_47 rfl rfl ?_
  refine kG.iconst (v := nI 4) 49 dX5_init_48 (by decide) rfl ?_
  refine nG.newa 53 w_145 (4, 252) 51 dX5_init_49 (n := 4) rfl (by decide) rfl rfl (by decide) (fun _ => rfl) ⟨by decide, by decide⟩ rfl rfl rfl ?_
  refine nG.putP w_146 54 dX5_init_51 fX5_19 ⟨by decide, by decide⟩ rfl rfl (Or.inr ⟨rfl, rfl⟩) ⟨fun _ => rfl, fun _ => rfl⟩ rfl rfl ?_
  refine kG.aload_n 55 dX5_init_54 rfl rfl ?_
  refine kG.iconst (v := nI 4) 56 dX5_init_55 (by decide) rfl ?_
  refine nG.newa 54 w_147 (5, 256) 58 dX5_init_56 (n := 4) rfl (by decide) rfl rfl (by decide) (fun _ => rfl) ⟨by decide, by decide⟩ rfl rfl rfl ?_
  refine nG.putP w_148 61 dX5_init_58 fX5_22 ⟨by decide, by decide⟩ rfl rfl (Or.inr ⟨rfl, rfl⟩) ⟨fun _ => rfl, fun _ => rfl⟩ rfl rfl ?_
  refine kG.aload_n 62 dX5_init_61 rfl rfl ?_
  refine kG.bipush (v := nI 6) 64 dX5_init_62 (by decide) rfl ?_
  refine nG.newa 55 w_149 (6, 262) 66 dX5_init_64 (n := 6) rfl (by decide) rfl rfl (by decide) (fun _ => rfl) ⟨by decide, by decide⟩ rfl rfl rfl ?_
  refine nG.putP w_150 69 dX5_init_66 fX5_25 ⟨by decide, by decide⟩ rfl rfl (Or.inr ⟨rfl, rfl⟩) ⟨fun _ => rfl, fun _ => rfl⟩ rfl rfl ?_
  refine kG.aload_n 70 dX5_init_69 rfl rfl ?_
  refine kG.bipush (v := nI 6) 72 dX5_init_70 (by decide) rfl ?_
  refine nG.newa 56 w_151 (7, 268) 74 dX5_init_72 (n := 6) rfl (by decide) rfl rfl (by decide) (fun _ => rfl) ⟨by decide, by decide⟩ rfl rfl rfl ?_
  refine nG.putP w_152 77 dX5_init_74 fX5_28 ⟨by decide, by decide⟩ rfl rfl (Or.inr ⟨rfl, rfl⟩) ⟨fun _ => rfl, fun _ => rfl⟩ rfl rfl ?_
  refine kG.aload_n 78 dX5_init_77 rfl rfl ?_
  refine kG.bipush (v := nI 6) 80 dX5_init_78 (by decide) rfl ?_
  refine nG.newa 57 w_153 (8, 274) 82 dX5_init_80 (n := 6) rfl (by decide) rfl rfl (by decide) (fun _ => rfl) ⟨by decide, by decide⟩ rfl rfl rfl ?_
  refine nG.putP w_154 85 dX5_init_82 fX5_31 ⟨by decide, by decide⟩ rfl rfl (Or.inr ⟨rfl, rfl⟩) ⟨fun _ => rfl, fun _ => rfl⟩ rfl rfl ?_
  refine kG.aload_n 86 dX5_init_85 rfl rfl ?_
  refine kG.bipush (v := nI 6) 88 dX5_init_86 (by decide) rfl ?_
  refine nG.newa 58 w_155 (9, 280) 90 dX5_init_88 (n := 6) rfl (by decide) rfl rfl (by decide) (fun _ => rfl) ⟨by decide, by decide⟩ rfl rfl rfl ?_
  refine nG.putP w_156 93 dX5_init_90 fX5_34 ⟨by decide, by decide⟩ rfl rfl (Or.inr ⟨rfl, rfl⟩) ⟨fun _ => rfl, fun _ => rfl⟩ rfl rfl ?_
  refine kG.aload_n 94 dX5_init_93 rfl rfl ?_
  refine kG.bipush (v := nI 6) 96 dX5_init_94 (by decide) rfl ?_
  refine nG.newa 59 w_157 (10, 286) 98 dX5_init_96 (n := 6) rfl (by decide) rfl rfl (by decide) (fun _ => rfl) ⟨by decide, by decide⟩ rfl rfl rfl ?_
  refine nG.putP w_158 101 dX5_init_98 fX5_37 ⟨by decide, by decide⟩ rfl rfl (Or.inr ⟨rfl, rfl⟩) ⟨fun _ => rfl, fun _ => rfl⟩ rfl rfl ?_
  refine kG.aload_n 102 dX5_init_101 rfl rfl ?_
  refine kG.bipush (v := nI 6) 104 dX5_init_102 (by decide) rfl ?_
  refine nG.newz 60 w_159 (11, 292) 106 dX5_init_104 (n := 6) rfl (by decide) rfl rfl (by decide) (fun _ => rfl) ⟨by decide, by decide⟩ rfl rfl rfl ?_
  refine nG.putP w_160 109 dX5_init_106 fX5_40 ⟨by decide, by decide⟩ rfl rfl (Or.inr ⟨rfl, rfl⟩) ⟨fun _ => rfl, fun _ => rfl⟩ rfl rfl ?_
  refine kG.aload_n 110 dX5_init_109 rfl rfl ?_
  refine kG.bipush (v := nI 8) 112 dX5_init_110 (by decide) rfl ?_
  refine nG.newa 61 w_161 (12, 300) 114 dX5_init_112 (n := 8) rfl (by decide) rfl rfl (by decide) (fun _ => rfl) ⟨by decide, by decide⟩ rfl rfl rfl ?_
  refine nG.putP w_162 117 dX5_init_114 fX5_44 ⟨by decide, by decide⟩ rfl rfl (Or.inr ⟨rfl, rfl⟩) ⟨fun _ => rfl, fun _ => rfl⟩ rfl rfl ?_
  refine kG.aload_n 118 dX5_init_117 rfl rfl ?_
  refine kG.bipush (v := nI 30) 120 dX5_init_118 (by decide) rfl ?_
  refine nG.newa 62 w_163 (13, 330) 122 dX5_init_120 (n := 30) rfl (by decide) rfl rfl (by decide) (fun _ => rfl) ⟨by decide, by decide⟩ rfl rfl rfl ?_
  refine nG.putP w_164 125 dX5_init_122 fX5_47 ⟨by decide, by decide⟩ rfl rfl (Or.inr ⟨rfl, rfl⟩) ⟨fun _ => rfl, fun _ => rfl⟩ rfl rfl ?_
  refine kG.aload_n 126 dX5_init_125 rfl rfl ?_
  refine kG.bipush (v := nI 7) 128 dX5_init_126 (by decide) rfl ?_
  refine nG.newa 63 w_165 (14, 337) 130 dX5_init_128 (n := 7) rfl (by decide) rfl rfl (by decide) (fun _ => rfl) ⟨by decide, by decide⟩ rfl rfl rfl ?_
  refine nG.putP w_166 133 dX5_init_130 fX5_50 ⟨by decide, by decide⟩ rfl rfl (Or.inr ⟨rfl, rfl⟩) ⟨fun _ => rfl, fun _ => rfl⟩ rfl rfl ?_
  refine kG.aload_n 134 dX5_init_133 rfl rfl ?_
  refine kG.bipush (v := nI 7) 136 dX5_init_134 (by decide) rfl ?_
  refine nG.newa 64 w_167 (15, 344) 138 dX5_init_136 (n := 7) rfl (by decide) rfl rfl (by decide) (fun _ => rfl) ⟨by decide, by decide⟩ rfl rfl rfl ?_
  refine nG.putP w_168 141 dX5_init_138 fX5_53 ⟨by decide, by decide⟩ rfl rfl (Or.inr ⟨rfl, rfl⟩) ⟨fun _ => rfl, fun _ => rfl⟩ rfl rfl ?_
  refine kG.aload_n 142 dX5_init_141 rfl rfl ?_
  refine kG.bipush (v := nI 7) 144 dX5_init_142 (by decide) rfl ?_
  refine nG.newa 65 w_169 (16, 351) 146 dX5_init_144 (n := 7) rfl (by decide) rfl rfl (by decide) (fun _ => rfl) ⟨by decide, by decide⟩ rfl rfl rfl ?_
  refine nG.putP w_170 149 dX5_init_146 fX5_56 ⟨by decide, by decide⟩ rfl rfl (Or.inr ⟨rfl, rfl⟩) ⟨fun _ => rfl, fun _ => rfl⟩ rfl rfl ?_
  refine kG.aload_n 150 dX5_init_149 rfl rfl ?_
  refine kG.iconst (v := nI 4) 151 dX5_init_150 (by decide) rfl ?_
  refine nG.newa 66 w_171 (17, 355) 153 dX5_init_151 (n := 4) rfl (by decide) rfl rfl (by decide) (fun _ => rfl) ⟨by decide, by decide⟩ rfl rfl rfl ?_
  refine nG.putP w_172 156 dX5_init_153 fX5_59 ⟨by decide, by decide⟩ rfl rfl (Or.inr ⟨rfl, rfl⟩) ⟨fun _ => rfl, fun _ => rfl⟩ rfl rfl ?_
  refine kG.aload_n 157 dX5_init_156 rfl rfl ?_
  refine kG.iconst (v := nI 4) 158 dX5_init_157 (by decide) rfl ?_
  refine nG.newa 67 w_173 (18, 359) 160 dX5_init_158 (n := 4) rfl (by decide) rfl rfl (by decide) (fun _ => rfl) ⟨by decide, by decide⟩ rfl rfl rfl ?_
  refine nG.putP w_174 163 dX5_init_160 fX5_62 ⟨by decide, by decide⟩ rfl rfl (Or.inr ⟨rfl, rfl⟩) ⟨fun _ => rfl, fun _ => rfl⟩ rfl rfl ?_
  refine kG.aload_n 164 dX5_init_163 rfl rfl ?_
  refine kG.bipush (v := nI 6) 166 dX5_init_164 (by decide) rfl ?_
  refine nG.newa 68 w_175 (19, 365) 168 dX5_init_166 (n := 6) rfl (by decide) rfl rfl (by decide) (fun _ => rfl) ⟨by decide, by decide⟩ rfl rfl rfl ?_
  refine nG.putP w_176 171 dX5_init_168 fX5_65 ⟨by decide, by decide⟩ rfl rfl (Or.inr ⟨rfl, rfl⟩) ⟨fun _ => rfl, fun _ => rfl⟩ rfl rfl ?_
  refine kG.aload_n 172 dX5_init_171 rfl rfl ?_
  refine kG.iconst (v := nI 4) 173 dX5_init_172 (by decide) rfl ?_
  refine nG.newa 69 w_177 (20, 369) 175 dX5_init_173 (n := 4) rfl (by decide) rfl rfl (by decide) (fun _ => rfl) ⟨by decide, by decide⟩ rfl rfl rfl ?_
  refine nG.putP w_178 178 dX5_init_175 fX5_68 ⟨by decide, by decide⟩ rfl rfl (Or.inr ⟨rfl, rfl⟩) ⟨fun _ => rfl, fun _ => rfl⟩ rfl rfl ?_
  refine kG.aload_n 179 dX5_init_178 rfl rfl ?_
  refine kG.bipush (v := nI 8) 181 dX5_init_179 (by decide) rfl ?_
  refine nG.newa 70 w_179 (21, 377) 183 dX5_init_181 (n := 8) rfl (by decide) rfl rfl (by decide) (fun _ => rfl) ⟨by decide, by decide⟩ rfl rfl rfl ?_
  refine nG.putP w_180 186 dX5_init_183 fX5_71 ⟨by decide, by decide⟩ rfl rfl (Or.inr ⟨rfl, rfl⟩) ⟨fun _ => rfl, fun _ => rfl⟩ rfl rfl ?_
  refine kG.aload_n 187 dX5_init_186 rfl rfl ?_
  refine kG.bipush (v := nI 8) 189 dX5_init_187 (by decide) rfl ?_
  refine nG.newa 71 w_181 (22, 385) 191 dX5_init_189 (n := 8) rfl (by decide) rfl rfl (by decide) (fun _ => rfl) ⟨by decide, by decide⟩ rfl rfl rfl ?_
  refine nG.putP w_182 194 dX5_init_191 fX5_74 ⟨by decide, by decide⟩ rfl rfl (Or.inr ⟨rfl, rfl⟩) ⟨fun _ => rfl, fun _ => rfl⟩ rfl rfl ?_
  refine kG.aload_n 195 dX5_init_194 rfl rfl ?_
  refine kG.bipush (v := nI 8) 197 dX5_init_195 (by decide) rfl ?_
  refine nG.newa 72 w_183 (23, 393) 199 dX5_init_197 (n := 8) rfl (by decide) rfl rfl (by decide) (fun _ => rfl) ⟨by decide, by decide⟩ rfl rfl rfl ?_
  refine nG.putP w_184 202 dX5_init_199 fX5_77 ⟨by decide, by decide⟩ rfl rfl (Or.inr ⟨rfl, rfl⟩) ⟨fun _ => rfl, fun _ => rfl⟩ rfl rfl ?_
  refine kG.aload_n 203 dX5_init_202 rfl rfl ?_
  refine kG.bipush (v := nI 8) 205 dX5_init_203 (by decide) rfl ?_
  refine nG.newa 73 w_185 (24, 401) 207 dX5_init_205 (n := 8) rfl (by decide) rfl rfl (by decide) (fun _ => rfl) ⟨by decide, by decide⟩ rfl rfl rfl ?_
  refine nG.putP w_186 210 dX5_init_207 fX5_80 ⟨by decide, by decide⟩ rfl rfl (Or.inr ⟨rfl, rfl⟩) ⟨fun _ => rfl, fun _ => rfl⟩ rfl rfl ?_
  exact kG.vret dX5_init_210 rfl ⟨by decide, by decide⟩ ⟨rfl, rfl⟩
