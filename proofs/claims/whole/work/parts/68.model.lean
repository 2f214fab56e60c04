/-- a person is being read: its first k are there -/
def RQ (c : Nat → Int32) (n f : Nat) (μ0 : kM) (D : Dt) (sn i : Nat) (μ : kM) (s : PSt) (k : Nat) (v : Nat → Nat) : Prop := FS μ0 μ ∧ μ 49 17 = nI sn ∧ μ 49 18 = nI (dH D) ∧ μ 49 19 = nI (dP D) ∧ μ 61 = μ0 61 ∧ (∀ x, x < 5 * dP D → μ 62 x = μ0 62 x) ∧ (∀ j, j < k → μ 62 (5 * dP D + j) = nI (v j)) ∧ μ 49 16 = nI (f + i) ∧ i ≤ n ∧ rn c i = some s ∧ TX c f n μ
theorem RQ_st {c : Nat → Int32} {n f : Nat} {μ0 : kM} {D : Dt} {sn i : Nat} {μ μ1 : kM} {s s' : PSt} {k d : Nat} {v : Nat → Nat} (h : RQ c n f μ0 D sn i μ s k v) (a : AV μ μ1 (nI (f + (i + 1)))) (hi : i < n) (hr : rn c (i + 1) = some s') : RQ c n f μ0 D sn (i + 1) (uI μ1 62 (5 * dP D + k) (nI d)) s' (k + 1) (fu v k d) := by
  obtain ⟨h1, h2, h3, h4, h5, h6, h7, h8, h9, h10, h11⟩ := h
  refine ⟨FS_ar (FS_AV h1 a) (Or.inr rfl), ?_, ?_, ?_, ?_, fun x hx => ?_, fun j hj => ?_, ?_, by omega, hr, TX_FS h11 (FS_ar (FS_AV (FS_r _) a) (Or.inr rfl))⟩
  · rw [uI_off (by decide), a.2.1 17 (by decide)]; exact h2
  · rw [uI_off (by decide), a.2.1 18 (by decide)]; exact h3
  · rw [uI_off (by decide), a.2.1 19 (by decide)]; exact h4
  · rw [uI_off (by decide), a.2.2 61 (by decide)]; exact h5
  · rw [uI_ne (Or.inr (by omega)), a.2.2 62 (by decide)]; exact h6 x hx
  · by_cases e : j = k
    · rw [e, uI_same, fu_s]
    · rw [uI_ne (Or.inr (by omega)), fu_n e, a.2.2 62 (by decide)]; exact h7 j (by omega)
  · rw [uI_off (by decide)]; exact a.1
set_option maxHeartbeats 4000000 in
theorem rp_5 (Γ : kGm) {c : Nat → Int32} {n f : Nat} (hfn : f + n ≤ 240) {D : Dt} {sn : Nat} (hP : dP D < 6) (hH : 1 ≤ dH D ∧ dH D ≤ 4) {μ0 : kM} {q : kq4} (rs : RS sn D μ0) {i : Nat} {μ : kM} {v : Nat → Nat} {x3 : Int32} {x5 : Option Value} (h : RQ c n f μ0 D sn i μ (3, 0, sn, (uMe (uBu (uHo (uTw (uKd (D.1, dP D + 1, D.2.2) (v 0)) (v 1)) (v 2)) (v 3)) (v 4))) 5 v) : gG Γ mX5_readPerson 3 93 [some (.ref 49), some (.int (nI (f + n))), some (.int (nI (5 * dP D))), some (.int x3), some (.int (nI 5)), x5] [] μ q (RD c n f μ0 q (fun i' μ' => ∃ D', rn c i' = some (3, 0, sn, D') ∧ RS sn D' μ' ∧ dH D' = dH D ∧ dP D' = dP D + 1)) := by
  obtain ⟨h1, h2, h3, h4, h5, h6, h7, h8, h9, h10, h11⟩ := h
  refine kG.iload 95 dX5_readPerson_93 rfl rfl ?_
  refine kG.iconst (v := nI 5) 96 dX5_readPerson_95 (by decide) rfl ?_
  refine kG.icmp_ge 177 99 dX5_readPerson_96 (by decide) rfl (fun h96 => ?_) (fun h96 => ?_)
  · refine kG.aload_n 178 dX5_readPerson_177 rfl rfl ?_
    refine kG.dup 179 dX5_readPerson_178 rfl rfl ?_
    refine gG.getI 182 dX5_readPerson_179 fX5_129 ⟨by decide, by decide⟩ rfl rfl rfl ?_
    rw [h4]
    refine kG.iconst (v := nI 1) 183 dX5_readPerson_182 (by decide) rfl ?_
    refine kG.iadd 184 dX5_readPerson_183 rfl ?_
    rw [nI_add]
    refine gG.putI 187 dX5_readPerson_184 fX5_129 ⟨by decide, by decide⟩ rfl rfl rfl ⟨rfl, rfl⟩ rfl ?_
    refine kG.iconst (v := nI 1) 188 dX5_readPerson_187 (by decide) rfl ?_
    refine gG.zret dX5_readPerson_188 rfl rfl ?_
    refine ⟨rfl, FS_49 h1 (by decide), true, rfl, fun z => absurd z (by decide), fun _ => ⟨i, h9, ?_, _, h10, RS_pe rs ?_ ?_ (uI_same _ _ _ _) ?_ ?_ ?_ ?_ ?_ ?_ (fun x hx => ?_), rfl, rfl⟩⟩
    · rw [uI_ne (Or.inr (by decide))]; exact h8
    · rw [uI_ne (Or.inr (by decide))]; exact h2
    · rw [uI_ne (Or.inr (by decide))]; exact h3
    · rw [uI_off (by decide)]; exact h5
    · rw [uI_off (by decide)]; exact h7 0 (by decide)
    · rw [uI_off (by decide)]; exact h7 1 (by decide)
    · rw [uI_off (by decide)]; exact h7 2 (by decide)
    · rw [uI_off (by decide)]; exact h7 3 (by decide)
    · rw [uI_off (by decide)]; exact h7 4 (by decide)
    · rw [uI_off (by decide)]; exact h6 x hx
  · exact absurd (by decide) h96
set_option maxHeartbeats 4000000 in
theorem rp_4 (Γ : kGm) {c : Nat → Int32} {n f : Nat} (hfn : f + n ≤ 240) {D : Dt} {sn : Nat} (hP : dP D < 6) (hH : 1 ≤ dH D ∧ dH D ≤ 4) {μ0 : kM} {q : kq4} (rs : RS sn D μ0) {i : Nat} {μ : kM} {v : Nat → Nat} {x3 : Int32} {x5 : Option Value} (h : RQ c n f μ0 D sn i μ (2, 5, sn, (uBu (uHo (uTw (uKd (D.1, dP D + 1, D.2.2) (v 0)) (v 1)) (v 2)) (v 3))) 4 v) : gG Γ mX5_readPerson 3 93 [some (.ref 49), some (.int (nI (f + n))), some (.int (nI (5 * dP D))), some (.int x3), some (.int (nI 4)), x5] [] μ q (RD c n f μ0 q (fun i' μ' => ∃ D', rn c i' = some (3, 0, sn, D') ∧ RS sn D' μ' ∧ dH D' = dH D ∧ dP D' = dP D + 1)) := by
  refine kG.iload 95 dX5_readPerson_93 rfl rfl ?_
  refine kG.iconst (v := nI 5) 96 dX5_readPerson_95 (by decide) rfl ?_
  refine kG.icmp_ge 177 99 dX5_readPerson_96 (by decide) rfl (fun h96 => ?_) (fun h96 => ?_)
  · exact absurd h96 (by decide)
  · refine kG.iload 101 dX5_readPerson_99 rfl rfl ?_
    refine kG.iconst (v := nI 1) 102 dX5_readPerson_101 (by decide) rfl ?_
    refine kG.icmp_ne 109 105 dX5_readPerson_102 (by decide) rfl (fun h102 => ?_) (fun h102 => ?_)
    · refine kG.iload 111 dX5_readPerson_109 rfl rfl ?_
      refine kG.iconst (v := nI 2) 112 dX5_readPerson_111 (by decide) rfl ?_
      refine kG.icmp_ne 124 115 dX5_readPerson_112 (by decide) rfl (fun h112 => ?_) (fun h112 => ?_)
      · refine kG.iload 126 dX5_readPerson_124 rfl rfl ?_
        refine kG.iconst (v := nI 3) 127 dX5_readPerson_126 (by decide) rfl ?_
        refine kG.icmp_ne 134 130 dX5_readPerson_127 (by decide) rfl (fun h127 => ?_) (fun h127 => ?_)
        · refine kG.bipush (v := nI 9) 136 dX5_readPerson_134 (by decide) rfl ?_
          refine kG.istore 138 dX5_readPerson_136 (by decide) rfl rfl ?_
          dsimp only [List.set]
          refine kG.aload_n 139 dX5_readPerson_138 rfl rfl ?_
          refine gG.getP 142 dX5_readPerson_139 fX5_47 ⟨by decide, by decide⟩ rfl rfl rfl rfl ?_
          refine kG.iload_n 143 dX5_readPerson_142 rfl rfl ?_
          refine kG.iload 145 dX5_readPerson_143 rfl rfl ?_
          refine kG.iadd 146 dX5_readPerson_145 rfl ?_
          rw [nI_add]
          refine kG.aload_n 147 dX5_readPerson_146 rfl rfl ?_
          refine kG.iload_n 148 dX5_readPerson_147 rfl rfl ?_
          refine kG.iconst (v := nI 0) 149 dX5_readPerson_148 (by decide) rfl ?_
          refine kG.iload 151 dX5_readPerson_149 rfl rfl ?_
          refine gG.callV 154 dX5_readPerson_151 lX5_151 vX5_digit (m_dig Γ h.2.2.2.2.2.2.2.2.2.2 h.2.2.2.2.2.2.2.2.1 hfn h.2.2.2.2.2.2.2.1 h.2.2.2.2.2.2.2.2.2.1 (g := fun d => (3, 0, sn, uMe (uBu (uHo (uTw (uKd (D.1, dP D + 1, D.2.2) (v 0)) (v 1)) (v 2)) (v 3)) d)) 0 9 (by decide) (by omega) rfl (fun x d a _ b => t_I a) (fun x => n_I)) rfl rfl ⟨by decide, by decide⟩ rfl ⟨by decide, rfl⟩ ⟨by decide, by decide⟩ (Nat.le_of_ble_eq_true rfl) rfl (fun r151 μ151 q151 hc151 => ?_)
          obtain ⟨rfl, hd⟩ := hc151
          rcases hd with ⟨rfl, rfl, hff⟩ | ⟨d, rfl, av, hlt, hlo, hhi, hr1⟩
          · refine gG.iast (n := 30) (5 * dP D + 4) 155 dX5_readPerson_154 ⟨by decide, by decide⟩ rfl rfl (by omega) (by decide) rfl ?_
            refine kG.aload_n 156 dX5_readPerson_155 rfl rfl ?_
            refine gG.getP 159 dX5_readPerson_156 fX5_47 ⟨by decide, by decide⟩ rfl rfl rfl rfl ?_
            refine kG.iload_n 160 dX5_readPerson_159 rfl rfl ?_
            refine kG.iload 162 dX5_readPerson_160 rfl rfl ?_
            refine kG.iadd 163 dX5_readPerson_162 rfl ?_
            rw [nI_add]
            refine gG.iald (n := 30) (5 * dP D + 4) 164 dX5_readPerson_163 ⟨by decide, by decide⟩ rfl rfl (by omega) (by decide) rfl ?_
            rw [uI_same]
            refine kG.bipush (v := (-9)) 166 dX5_readPerson_164 (by decide) rfl ?_
            refine kG.icmp_ne 171 169 dX5_readPerson_166 (by decide) rfl (fun h166 => ?_) (fun h166 => ?_)
            · exact absurd rfl h166
            · refine kG.iconst (v := nI 0) 170 dX5_readPerson_169 (by decide) rfl ?_
              refine gG.zret dX5_readPerson_170 rfl rfl ?_
              exact ⟨rfl, FS_ar h.1 (Or.inr rfl), false, rfl, fun _ => ⟨i, h.2.2.2.2.2.2.2.2.1, (by rw [uI_off (by decide)]; exact h.2.2.2.2.2.2.2.1), hff⟩, fun z => by cases z⟩
          · refine gG.iast (n := 30) (5 * dP D + 4) 155 dX5_readPerson_154 ⟨by decide, by decide⟩ rfl rfl (by omega) (by decide) rfl ?_
            refine kG.aload_n 156 dX5_readPerson_155 rfl rfl ?_
            refine gG.getP 159 dX5_readPerson_156 fX5_47 ⟨by decide, by decide⟩ rfl rfl rfl rfl ?_
            refine kG.iload_n 160 dX5_readPerson_159 rfl rfl ?_
            refine kG.iload 162 dX5_readPerson_160 rfl rfl ?_
            refine kG.iadd 163 dX5_readPerson_162 rfl ?_
            rw [nI_add]
            refine gG.iald (n := 30) (5 * dP D + 4) 164 dX5_readPerson_163 ⟨by decide, by decide⟩ rfl rfl (by omega) (by decide) rfl ?_
            rw [uI_same]
            refine kG.bipush (v := (-9)) 166 dX5_readPerson_164 (by decide) rfl ?_
            refine kG.icmp_ne 171 169 dX5_readPerson_166 (by decide) rfl (fun h166 => ?_) (fun h166 => ?_)
            · refine kG.iinc (v := nI 5) 174 dX5_readPerson_171 rfl rfl (by decide) rfl rfl ?_
              dsimp only [List.set]
              refine kG.goto 93 dX5_readPerson_174 (by decide) ?_
              exact rp_5 Γ hfn hP hH rs (v := fu v 4 d) (RQ_st h av hlt hr1)
            · exact absurd h166 (nI_m9 (by omega))
        · exact absurd h127 (by decide)
      · exact absurd h112 (by decide)
    · exact absurd h102 (by decide)
set_option maxHeartbeats 4000000 in
theorem rp_3 (Γ : kGm) {c : Nat → Int32} {n f : Nat} (hfn : f + n ≤ 240) {D : Dt} {sn : Nat} (hP : dP D < 6) (hH : 1 ≤ dH D ∧ dH D ≤ 4) {μ0 : kM} {q : kq4} (rs : RS sn D μ0) {i : Nat} {μ : kM} {v : Nat → Nat} {x3 : Int32} {x5 : Option Value} (h : RQ c n f μ0 D sn i μ (2, 4, sn, (uHo (uTw (uKd (D.1, dP D + 1, D.2.2) (v 0)) (v 1)) (v 2))) 3 v) : gG Γ mX5_readPerson 3 93 [some (.ref 49), some (.int (nI (f + n))), some (.int (nI (5 * dP D))), some (.int x3), some (.int (nI 3)), x5] [] μ q (RD c n f μ0 q (fun i' μ' => ∃ D', rn c i' = some (3, 0, sn, D') ∧ RS sn D' μ' ∧ dH D' = dH D ∧ dP D' = dP D + 1)) := by
  refine kG.iload 95 dX5_readPerson_93 rfl rfl ?_
  refine kG.iconst (v := nI 5) 96 dX5_readPerson_95 (by decide) rfl ?_
  refine kG.icmp_ge 177 99 dX5_readPerson_96 (by decide) rfl (fun h96 => ?_) (fun h96 => ?_)
  · exact absurd h96 (by decide)
  · refine kG.iload 101 dX5_readPerson_99 rfl rfl ?_
    refine kG.iconst (v := nI 1) 102 dX5_readPerson_101 (by decide) rfl ?_
    refine kG.icmp_ne 109 105 dX5_readPerson_102 (by decide) rfl (fun h102 => ?_) (fun h102 => ?_)
    · refine kG.iload 111 dX5_readPerson_109 rfl rfl ?_
      refine kG.iconst (v := nI 2) 112 dX5_readPerson_111 (by decide) rfl ?_
      refine kG.icmp_ne 124 115 dX5_readPerson_112 (by decide) rfl (fun h112 => ?_) (fun h112 => ?_)
      · refine kG.iload 126 dX5_readPerson_124 rfl rfl ?_
        refine kG.iconst (v := nI 3) 127 dX5_readPerson_126 (by decide) rfl ?_
        refine kG.icmp_ne 134 130 dX5_readPerson_127 (by decide) rfl (fun h127 => ?_) (fun h127 => ?_)
        · exact absurd rfl h127
        · refine kG.iconst (v := nI 5) 131 dX5_readPerson_130 (by decide) rfl ?_
          refine kG.goto 136 dX5_readPerson_131 (by decide) ?_
          refine kG.istore 138 dX5_readPerson_136 (by decide) rfl rfl ?_
          dsimp only [List.set]
          refine kG.aload_n 139 dX5_readPerson_138 rfl rfl ?_
          refine gG.getP 142 dX5_readPerson_139 fX5_47 ⟨by decide, by decide⟩ rfl rfl rfl rfl ?_
          refine kG.iload_n 143 dX5_readPerson_142 rfl rfl ?_
          refine kG.iload 145 dX5_readPerson_143 rfl rfl ?_
          refine kG.iadd 146 dX5_readPerson_145 rfl ?_
          rw [nI_add]
          refine kG.aload_n 147 dX5_readPerson_146 rfl rfl ?_
          refine kG.iload_n 148 dX5_readPerson_147 rfl rfl ?_
          refine kG.iconst (v := nI 0) 149 dX5_readPerson_148 (by decide) rfl ?_
          refine kG.iload 151 dX5_readPerson_149 rfl rfl ?_
          refine gG.callV 154 dX5_readPerson_151 lX5_151 vX5_digit (m_dig Γ h.2.2.2.2.2.2.2.2.2.2 h.2.2.2.2.2.2.2.2.1 hfn h.2.2.2.2.2.2.2.1 h.2.2.2.2.2.2.2.2.2.1 (g := fun d => (2, 5, sn, uBu (uHo (uTw (uKd (D.1, dP D + 1, D.2.2) (v 0)) (v 1)) (v 2)) d)) 0 5 (by decide) (by omega) rfl (fun x d a _ b => t_H a b) (fun x => n_H)) rfl rfl ⟨by decide, by decide⟩ rfl ⟨by decide, rfl⟩ ⟨by decide, by decide⟩ (Nat.le_of_ble_eq_true rfl) rfl (fun r151 μ151 q151 hc151 => ?_)
          obtain ⟨rfl, hd⟩ := hc151
          rcases hd with ⟨rfl, rfl, hff⟩ | ⟨d, rfl, av, hlt, hlo, hhi, hr1⟩
          · refine gG.iast (n := 30) (5 * dP D + 3) 155 dX5_readPerson_154 ⟨by decide, by decide⟩ rfl rfl (by omega) (by decide) rfl ?_
            refine kG.aload_n 156 dX5_readPerson_155 rfl rfl ?_
            refine gG.getP 159 dX5_readPerson_156 fX5_47 ⟨by decide, by decide⟩ rfl rfl rfl rfl ?_
            refine kG.iload_n 160 dX5_readPerson_159 rfl rfl ?_
            refine kG.iload 162 dX5_readPerson_160 rfl rfl ?_
            refine kG.iadd 163 dX5_readPerson_162 rfl ?_
            rw [nI_add]
            refine gG.iald (n := 30) (5 * dP D + 3) 164 dX5_readPerson_163 ⟨by decide, by decide⟩ rfl rfl (by omega) (by decide) rfl ?_
            rw [uI_same]
            refine kG.bipush (v := (-9)) 166 dX5_readPerson_164 (by decide) rfl ?_
            refine kG.icmp_ne 171 169 dX5_readPerson_166 (by decide) rfl (fun h166 => ?_) (fun h166 => ?_)
            · exact absurd rfl h166
            · refine kG.iconst (v := nI 0) 170 dX5_readPerson_169 (by decide) rfl ?_
              refine gG.zret dX5_readPerson_170 rfl rfl ?_
              exact ⟨rfl, FS_ar h.1 (Or.inr rfl), false, rfl, fun _ => ⟨i, h.2.2.2.2.2.2.2.2.1, (by rw [uI_off (by decide)]; exact h.2.2.2.2.2.2.2.1), hff⟩, fun z => by cases z⟩
          · refine gG.iast (n := 30) (5 * dP D + 3) 155 dX5_readPerson_154 ⟨by decide, by decide⟩ rfl rfl (by omega) (by decide) rfl ?_
            refine kG.aload_n 156 dX5_readPerson_155 rfl rfl ?_
            refine gG.getP 159 dX5_readPerson_156 fX5_47 ⟨by decide, by decide⟩ rfl rfl rfl rfl ?_
            refine kG.iload_n 160 dX5_readPerson_159 rfl rfl ?_
            refine kG.iload 162 dX5_readPerson_160 rfl rfl ?_
            refine kG.iadd 163 dX5_readPerson_162 rfl ?_
            rw [nI_add]
            refine gG.iald (n := 30) (5 * dP D + 3) 164 dX5_readPerson_163 ⟨by decide, by decide⟩ rfl rfl (by omega) (by decide) rfl ?_
            rw [uI_same]
            refine kG.bipush (v := (-9)) 166 dX5_readPerson_164 (by decide) rfl ?_
            refine kG.icmp_ne 171 169 dX5_readPerson_166 (by decide) rfl (fun h166 => ?_) (fun h166 => ?_)
            · refine kG.iinc (v := nI 4) 174 dX5_readPerson_171 rfl rfl (by decide) rfl rfl ?_
              dsimp only [List.set]
              refine kG.goto 93 dX5_readPerson_174 (by decide) ?_
              exact rp_4 Γ hfn hP hH rs (v := fu v 3 d) (RQ_st h av hlt hr1)
            · exact absurd h166 (nI_m9 (by omega))
      · exact absurd h112 (by decide)
    · exact absurd h102 (by decide)
set_option maxHeartbeats 4000000 in
theorem rp_2 (Γ : kGm) {c : Nat → Int32} {n f : Nat} (hfn : f + n ≤ 240) {D : Dt} {sn : Nat} (hP : dP D < 6) (hH : 1 ≤ dH D ∧ dH D ≤ 4) {μ0 : kM} {q : kq4} (rs : RS sn D μ0) {i : Nat} {μ : kM} {v : Nat → Nat} {x3 : Int32} {x5 : Option Value} (h : RQ c n f μ0 D sn i μ (2, 3, sn, (uTw (uKd (D.1, dP D + 1, D.2.2) (v 0)) (v 1))) 2 v) : gG Γ mX5_readPerson 3 93 [some (.ref 49), some (.int (nI (f + n))), some (.int (nI (5 * dP D))), some (.int x3), some (.int (nI 2)), x5] [] μ q (RD c n f μ0 q (fun i' μ' => ∃ D', rn c i' = some (3, 0, sn, D') ∧ RS sn D' μ' ∧ dH D' = dH D ∧ dP D' = dP D + 1)) := by
  refine kG.iload 95 dX5_readPerson_93 rfl rfl ?_
  refine kG.iconst (v := nI 5) 96 dX5_readPerson_95 (by decide) rfl ?_
  refine kG.icmp_ge 177 99 dX5_readPerson_96 (by decide) rfl (fun h96 => ?_) (fun h96 => ?_)
  · exact absurd h96 (by decide)
  · refine kG.iload 101 dX5_readPerson_99 rfl rfl ?_
    refine kG.iconst (v := nI 1) 102 dX5_readPerson_101 (by decide) rfl ?_
    refine kG.icmp_ne 109 105 dX5_readPerson_102 (by decide) rfl (fun h102 => ?_) (fun h102 => ?_)
    · refine kG.iload 111 dX5_readPerson_109 rfl rfl ?_
      refine kG.iconst (v := nI 2) 112 dX5_readPerson_111 (by decide) rfl ?_
      refine kG.icmp_ne 124 115 dX5_readPerson_112 (by decide) rfl (fun h112 => ?_) (fun h112 => ?_)
      · exact absurd rfl h112
      · refine kG.aload_n 116 dX5_readPerson_115 rfl rfl ?_
        refine gG.getI 119 dX5_readPerson_116 fX5_126 ⟨by decide, by decide⟩ rfl rfl rfl ?_
        rw [h.2.2.1]
        refine kG.iconst (v := nI 1) 120 dX5_readPerson_119 (by decide) rfl ?_
        refine kG.isub 121 dX5_readPerson_120 rfl ?_
        rw [pk_sub (by omega)]
        refine kG.goto 136 dX5_readPerson_121 (by decide) ?_
        refine kG.istore 138 dX5_readPerson_136 (by decide) rfl rfl ?_
        dsimp only [List.set]
        refine kG.aload_n 139 dX5_readPerson_138 rfl rfl ?_
        refine gG.getP 142 dX5_readPerson_139 fX5_47 ⟨by decide, by decide⟩ rfl rfl rfl rfl ?_
        refine kG.iload_n 143 dX5_readPerson_142 rfl rfl ?_
        refine kG.iload 145 dX5_readPerson_143 rfl rfl ?_
        refine kG.iadd 146 dX5_readPerson_145 rfl ?_
        rw [nI_add]
        refine kG.aload_n 147 dX5_readPerson_146 rfl rfl ?_
        refine kG.iload_n 148 dX5_readPerson_147 rfl rfl ?_
        refine kG.iconst (v := nI 0) 149 dX5_readPerson_148 (by decide) rfl ?_
        refine kG.iload 151 dX5_readPerson_149 rfl rfl ?_
        refine gG.callV 154 dX5_readPerson_151 lX5_151 vX5_digit (m_dig Γ h.2.2.2.2.2.2.2.2.2.2 h.2.2.2.2.2.2.2.2.1 hfn h.2.2.2.2.2.2.2.1 h.2.2.2.2.2.2.2.2.2.1 (g := fun d => (2, 4, sn, uHo (uTw (uKd (D.1, dP D + 1, D.2.2) (v 0)) (v 1)) d)) 0 (dH D - 1) (by decide) (by omega) rfl (fun x d a _ b => t_G (m := dH D - 1) (show dH D - 1 + 1 = dH D by omega) a b) (fun x => n_G (m := dH D - 1) (show dH D - 1 + 1 = dH D by omega))) rfl rfl ⟨by decide, by decide⟩ rfl ⟨by decide, rfl⟩ ⟨by decide, by decide⟩ (Nat.le_of_ble_eq_true rfl) rfl (fun r151 μ151 q151 hc151 => ?_)
        obtain ⟨rfl, hd⟩ := hc151
        rcases hd with ⟨rfl, rfl, hff⟩ | ⟨d, rfl, av, hlt, hlo, hhi, hr1⟩
        · refine gG.iast (n := 30) (5 * dP D + 2) 155 dX5_readPerson_154 ⟨by decide, by decide⟩ rfl rfl (by omega) (by decide) rfl ?_
          refine kG.aload_n 156 dX5_readPerson_155 rfl rfl ?_
          refine gG.getP 159 dX5_readPerson_156 fX5_47 ⟨by decide, by decide⟩ rfl rfl rfl rfl ?_
          refine kG.iload_n 160 dX5_readPerson_159 rfl rfl ?_
          refine kG.iload 162 dX5_readPerson_160 rfl rfl ?_
          refine kG.iadd 163 dX5_readPerson_162 rfl ?_
          rw [nI_add]
          refine gG.iald (n := 30) (5 * dP D + 2) 164 dX5_readPerson_163 ⟨by decide, by decide⟩ rfl rfl (by omega) (by decide) rfl ?_
          rw [uI_same]
          refine kG.bipush (v := (-9)) 166 dX5_readPerson_164 (by decide) rfl ?_
          refine kG.icmp_ne 171 169 dX5_readPerson_166 (by decide) rfl (fun h166 => ?_) (fun h166 => ?_)
          · exact absurd rfl h166
          · refine kG.iconst (v := nI 0) 170 dX5_readPerson_169 (by decide) rfl ?_
            refine gG.zret dX5_readPerson_170 rfl rfl ?_
            exact ⟨rfl, FS_ar h.1 (Or.inr rfl), false, rfl, fun _ => ⟨i, h.2.2.2.2.2.2.2.2.1, (by rw [uI_off (by decide)]; exact h.2.2.2.2.2.2.2.1), hff⟩, fun z => by cases z⟩
        · refine gG.iast (n := 30) (5 * dP D + 2) 155 dX5_readPerson_154 ⟨by decide, by decide⟩ rfl rfl (by omega) (by decide) rfl ?_
          refine kG.aload_n 156 dX5_readPerson_155 rfl rfl ?_
          refine gG.getP 159 dX5_readPerson_156 fX5_47 ⟨by decide, by decide⟩ rfl rfl rfl rfl ?_
          refine kG.iload_n 160 dX5_readPerson_159 rfl rfl ?_
          refine kG.iload 162 dX5_readPerson_160 rfl rfl ?_
          refine kG.iadd 163 dX5_readPerson_162 rfl ?_
          rw [nI_add]
          refine gG.iald (n := 30) (5 * dP D + 2) 164 dX5_readPerson_163 ⟨by decide, by decide⟩ rfl rfl (by omega) (by decide) rfl ?_
          rw [uI_same]
          refine kG.bipush (v := (-9)) 166 dX5_readPerson_164 (by decide) rfl ?_
          refine kG.icmp_ne 171 169 dX5_readPerson_166 (by decide) rfl (fun h166 => ?_) (fun h166 => ?_)
          · refine kG.iinc (v := nI 3) 174 dX5_readPerson_171 rfl rfl (by decide) rfl rfl ?_
            dsimp only [List.set]
            refine kG.goto 93 dX5_readPerson_174 (by decide) ?_
            exact rp_3 Γ hfn hP hH rs (v := fu v 2 d) (RQ_st h av hlt hr1)
          · exact absurd h166 (nI_m9 (by omega))
    · exact absurd h102 (by decide)
set_option maxHeartbeats 4000000 in
theorem rp_1 (Γ : kGm) {c : Nat → Int32} {n f : Nat} (hfn : f + n ≤ 240) {D : Dt} {sn : Nat} (hP : dP D < 6) (hH : 1 ≤ dH D ∧ dH D ≤ 4) {μ0 : kM} {q : kq4} (rs : RS sn D μ0) {i : Nat} {μ : kM} {v : Nat → Nat} {x3 : Int32} {x5 : Option Value} (h : RQ c n f μ0 D sn i μ (2, 2, sn, (uKd (D.1, dP D + 1, D.2.2) (v 0))) 1 v) : gG Γ mX5_readPerson 3 93 [some (.ref 49), some (.int (nI (f + n))), some (.int (nI (5 * dP D))), some (.int x3), some (.int (nI 1)), x5] [] μ q (RD c n f μ0 q (fun i' μ' => ∃ D', rn c i' = some (3, 0, sn, D') ∧ RS sn D' μ' ∧ dH D' = dH D ∧ dP D' = dP D + 1)) := by
  refine kG.iload 95 dX5_readPerson_93 rfl rfl ?_
  refine kG.iconst (v := nI 5) 96 dX5_readPerson_95 (by decide) rfl ?_
  refine kG.icmp_ge 177 99 dX5_readPerson_96 (by decide) rfl (fun h96 => ?_) (fun h96 => ?_)
  · exact absurd h96 (by decide)
  · refine kG.iload 101 dX5_readPerson_99 rfl rfl ?_
    refine kG.iconst (v := nI 1) 102 dX5_readPerson_101 (by decide) rfl ?_
    refine kG.icmp_ne 109 105 dX5_readPerson_102 (by decide) rfl (fun h102 => ?_) (fun h102 => ?_)
    · exact absurd rfl h102
    · refine kG.iconst (v := nI 1) 106 dX5_readPerson_105 (by decide) rfl ?_
      refine kG.goto 136 dX5_readPerson_106 (by decide) ?_
      refine kG.istore 138 dX5_readPerson_136 (by decide) rfl rfl ?_
      dsimp only [List.set]
      refine kG.aload_n 139 dX5_readPerson_138 rfl rfl ?_
      refine gG.getP 142 dX5_readPerson_139 fX5_47 ⟨by decide, by decide⟩ rfl rfl rfl rfl ?_
      refine kG.iload_n 143 dX5_readPerson_142 rfl rfl ?_
      refine kG.iload 145 dX5_readPerson_143 rfl rfl ?_
      refine kG.iadd 146 dX5_readPerson_145 rfl ?_
      rw [nI_add]
      refine kG.aload_n 147 dX5_readPerson_146 rfl rfl ?_
      refine kG.iload_n 148 dX5_readPerson_147 rfl rfl ?_
      refine kG.iconst (v := nI 0) 149 dX5_readPerson_148 (by decide) rfl ?_
      refine kG.iload 151 dX5_readPerson_149 rfl rfl ?_
      refine gG.callV 154 dX5_readPerson_151 lX5_151 vX5_digit (m_dig Γ h.2.2.2.2.2.2.2.2.2.2 h.2.2.2.2.2.2.2.2.1 hfn h.2.2.2.2.2.2.2.1 h.2.2.2.2.2.2.2.2.2.1 (g := fun d => (2, 3, sn, uTw (uKd (D.1, dP D + 1, D.2.2) (v 0)) d)) 0 1 (by decide) (by omega) rfl (fun x d a _ b => t_F a b) (fun x => n_F)) rfl rfl ⟨by decide, by decide⟩ rfl ⟨by decide, rfl⟩ ⟨by decide, by decide⟩ (Nat.le_of_ble_eq_true rfl) rfl (fun r151 μ151 q151 hc151 => ?_)
      obtain ⟨rfl, hd⟩ := hc151
      rcases hd with ⟨rfl, rfl, hff⟩ | ⟨d, rfl, av, hlt, hlo, hhi, hr1⟩
      · refine gG.iast (n := 30) (5 * dP D + 1) 155 dX5_readPerson_154 ⟨by decide, by decide⟩ rfl rfl (by omega) (by decide) rfl ?_
        refine kG.aload_n 156 dX5_readPerson_155 rfl rfl ?_
        refine gG.getP 159 dX5_readPerson_156 fX5_47 ⟨by decide, by decide⟩ rfl rfl rfl rfl ?_
        refine kG.iload_n 160 dX5_readPerson_159 rfl rfl ?_
        refine kG.iload 162 dX5_readPerson_160 rfl rfl ?_
        refine kG.iadd 163 dX5_readPerson_162 rfl ?_
        rw [nI_add]
        refine gG.iald (n := 30) (5 * dP D + 1) 164 dX5_readPerson_163 ⟨by decide, by decide⟩ rfl rfl (by omega) (by decide) rfl ?_
        rw [uI_same]
        refine kG.bipush (v := (-9)) 166 dX5_readPerson_164 (by decide) rfl ?_
        refine kG.icmp_ne 171 169 dX5_readPerson_166 (by decide) rfl (fun h166 => ?_) (fun h166 => ?_)
        · exact absurd rfl h166
        · refine kG.iconst (v := nI 0) 170 dX5_readPerson_169 (by decide) rfl ?_
          refine gG.zret dX5_readPerson_170 rfl rfl ?_
          exact ⟨rfl, FS_ar h.1 (Or.inr rfl), false, rfl, fun _ => ⟨i, h.2.2.2.2.2.2.2.2.1, (by rw [uI_off (by decide)]; exact h.2.2.2.2.2.2.2.1), hff⟩, fun z => by cases z⟩
      · refine gG.iast (n := 30) (5 * dP D + 1) 155 dX5_readPerson_154 ⟨by decide, by decide⟩ rfl rfl (by omega) (by decide) rfl ?_
        refine kG.aload_n 156 dX5_readPerson_155 rfl rfl ?_
        refine gG.getP 159 dX5_readPerson_156 fX5_47 ⟨by decide, by decide⟩ rfl rfl rfl rfl ?_
        refine kG.iload_n 160 dX5_readPerson_159 rfl rfl ?_
        refine kG.iload 162 dX5_readPerson_160 rfl rfl ?_
        refine kG.iadd 163 dX5_readPerson_162 rfl ?_
        rw [nI_add]
        refine gG.iald (n := 30) (5 * dP D + 1) 164 dX5_readPerson_163 ⟨by decide, by decide⟩ rfl rfl (by omega) (by decide) rfl ?_
        rw [uI_same]
        refine kG.bipush (v := (-9)) 166 dX5_readPerson_164 (by decide) rfl ?_
        refine kG.icmp_ne 171 169 dX5_readPerson_166 (by decide) rfl (fun h166 => ?_) (fun h166 => ?_)
        · refine kG.iinc (v := nI 2) 174 dX5_readPerson_171 rfl rfl (by decide) rfl rfl ?_
          dsimp only [List.set]
          refine kG.goto 93 dX5_readPerson_174 (by decide) ?_
          exact rp_2 Γ hfn hP hH rs (v := fu v 1 d) (RQ_st h av hlt hr1)
        · exact absurd h166 (nI_m9 (by omega))
theorem uI_cm {μ : kM} {a b i j : Nat} {v w : Int32} (h : a ≠ b) : uI (uI μ a i v) b j w = uI (uI μ b j w) a i v := by
  funext k x
  by_cases e : k = a
  · rw [e, uI_off h]
    by_cases e2 : x = i
    · rw [e2, uI_same, uI_same]
    · rw [uI_ne (Or.inr e2), uI_ne (Or.inr e2), uI_off h]
  · by_cases e3 : k = b
    · rw [e3, uI_off (fun z => h z.symm)]
      by_cases e2 : x = j
      · rw [e2, uI_same, uI_same]
      · rw [uI_ne (Or.inr e2), uI_ne (Or.inr e2), uI_off (fun z => h z.symm)]
    · rw [uI_off e3, uI_off e, uI_off e, uI_off e3]
set_option maxHeartbeats 4000000 in
theorem rp_0 (Γ : kGm) {c : Nat → Int32} {n f : Nat} (hfn : f + n ≤ 240) {D : Dt} {sn : Nat} (hP : dP D < 6) (hH : 1 ≤ dH D ∧ dH D ≤ 4) {μ0 : kM} {q : kq4} (rs : RS sn D μ0) {i : Nat} {μ : kM} {x : Int32} {x4 x5 : Option Value} {v : Nat → Nat} (h : RQ c n f μ0 D sn i μ (2, 1, sn, (D.1, dP D + 1, D.2.2)) 0 v) (hx1 : kdF x = none → ffN c n = some i) (hx2 : ∀ d, kdF x = some d → i < n ∧ rn c (i + 1) = some (2, 2, sn, uKd (D.1, dP D + 1, D.2.2) d)) : gG Γ mX5_readPerson 3 29 [some (.ref 49), some (.int (nI (f + n))), some (.int (nI (5 * dP D))), some (.int x), x4, x5] [] μ q (RD c n f μ0 q (fun i' μ' => ∃ D', rn c i' = some (3, 0, sn, D') ∧ RS sn D' μ' ∧ dH D' = dH D ∧ dP D' = dP D + 1)) := by
  refine kG.aload_n 30 dX5_readPerson_29 rfl rfl ?_
  refine gG.getP 33 dX5_readPerson_30 fX5_47 ⟨by decide, by decide⟩ rfl rfl rfl rfl ?_
  refine kG.iload_n 34 dX5_readPerson_33 rfl rfl ?_
  refine kG.iload_n 35 dX5_readPerson_34 rfl rfl ?_
  refine kG.bipush (v := nI 100) 37 dX5_readPerson_35 (by decide) rfl ?_
  refine kG.icmp_ne 44 40 dX5_readPerson_37 (by decide) rfl (fun h37 => ?_) (fun h37 => ?_)
  · refine kG.iload_n 45 dX5_readPerson_44 rfl rfl ?_
    refine kG.bipush (v := nI 104) 47 dX5_readPerson_45 (by decide) rfl ?_
    refine kG.icmp_ne 54 50 dX5_readPerson_47 (by decide) rfl (fun h47 => ?_) (fun h47 => ?_)
    · refine kG.iload_n 55 dX5_readPerson_54 rfl rfl ?_
      refine kG.bipush (v := nI 102) 57 dX5_readPerson_55 (by decide) rfl ?_
      refine kG.icmp_ne 64 60 dX5_readPerson_57 (by decide) rfl (fun h57 => ?_) (fun h57 => ?_)
      · have hk : kdF x = none := by unfold kdF; rw [if_neg h37, if_neg h47, if_neg h57]
        refine kG.bipush (v := (-9)) 66 dX5_readPerson_64 (by decide) rfl ?_
        refine gG.iast (n := 30) (5 * dP D + 0) 67 dX5_readPerson_66 ⟨by decide, by decide⟩ rfl rfl (by omega) (by decide) rfl ?_
        refine kG.aload_n 68 dX5_readPerson_67 rfl rfl ?_
        refine gG.getP 71 dX5_readPerson_68 fX5_47 ⟨by decide, by decide⟩ rfl rfl rfl rfl ?_
        refine kG.iload_n 72 dX5_readPerson_71 rfl rfl ?_
        refine gG.iald (n := 30) (5 * dP D + 0) 73 dX5_readPerson_72 ⟨by decide, by decide⟩ rfl rfl (by omega) (by decide) rfl ?_
        rw [uI_same]
        refine kG.bipush (v := (-9)) 75 dX5_readPerson_73 (by decide) rfl ?_
        refine kG.icmp_ne 80 78 dX5_readPerson_75 (by decide) rfl (fun h75 => ?_) (fun h75 => ?_)
        · exact absurd rfl h75
        · refine kG.iconst (v := nI 0) 79 dX5_readPerson_78 (by decide) rfl ?_
          refine gG.zret dX5_readPerson_79 rfl rfl ?_
          exact ⟨rfl, FS_ar h.1 (Or.inr rfl), false, rfl, fun _ => ⟨i, h.2.2.2.2.2.2.2.2.1, (by rw [uI_off (by decide)]; exact h.2.2.2.2.2.2.2.1), hx1 hk⟩, fun z => by cases z⟩
      · have hk : kdF x = some 2 := by unfold kdF; rw [if_neg h37, if_neg h47, if_pos h57]
        refine kG.iconst (v := nI 2) 61 dX5_readPerson_60 (by decide) rfl ?_
        refine kG.goto 66 dX5_readPerson_61 (by decide) ?_
        refine gG.iast (n := 30) (5 * dP D + 0) 67 dX5_readPerson_66 ⟨by decide, by decide⟩ rfl rfl (by omega) (by decide) rfl ?_
        refine kG.aload_n 68 dX5_readPerson_67 rfl rfl ?_
        refine gG.getP 71 dX5_readPerson_68 fX5_47 ⟨by decide, by decide⟩ rfl rfl rfl rfl ?_
        refine kG.iload_n 72 dX5_readPerson_71 rfl rfl ?_
        refine gG.iald (n := 30) (5 * dP D + 0) 73 dX5_readPerson_72 ⟨by decide, by decide⟩ rfl rfl (by omega) (by decide) rfl ?_
        rw [uI_same]
        refine kG.bipush (v := (-9)) 75 dX5_readPerson_73 (by decide) rfl ?_
        refine kG.icmp_ne 80 78 dX5_readPerson_75 (by decide) rfl (fun h75 => ?_) (fun h75 => ?_)
        · refine kG.aload_n 81 dX5_readPerson_80 rfl rfl ?_
          refine kG.dup 82 dX5_readPerson_81 rfl rfl ?_
          refine gG.getI 85 dX5_readPerson_82 fX5_99 ⟨by decide, by decide⟩ rfl rfl rfl ?_
          rw [uI_off (by decide), h.2.2.2.2.2.2.2.1]
          refine kG.iconst (v := nI 1) 86 dX5_readPerson_85 (by decide) rfl ?_
          refine kG.iadd 87 dX5_readPerson_86 rfl ?_
          rw [nI_add]
          refine gG.putI 90 dX5_readPerson_87 fX5_99 ⟨by decide, by decide⟩ rfl rfl rfl ⟨rfl, rfl⟩ rfl ?_
          refine kG.iconst (v := nI 1) 91 dX5_readPerson_90 (by decide) rfl ?_
          refine kG.istore 93 dX5_readPerson_91 (by decide) rfl rfl ?_
          dsimp only [List.set]
          obtain ⟨hlt, hr1⟩ := hx2 2 hk
          refine rp_1 Γ hfn hP hH rs (i := i + 1) (v := fu v 0 2) ?_
          have z := RQ_st (s' := (2, 2, sn, uKd (D.1, dP D + 1, D.2.2) 2)) (d := 2) h (AV_i μ (nI (f + (i + 1)))) hlt hr1
          rw [uI_cm (by decide)] at z
          exact z
        · exact absurd h75 (by decide)
    · have hk : kdF x = some 1 := by unfold kdF; rw [if_neg h37, if_pos h47]
      refine kG.iconst (v := nI 1) 51 dX5_readPerson_50 (by decide) rfl ?_
      refine kG.goto 66 dX5_readPerson_51 (by decide) ?_
      refine gG.iast (n := 30) (5 * dP D + 0) 67 dX5_readPerson_66 ⟨by decide, by decide⟩ rfl rfl (by omega) (by decide) rfl ?_
      refine kG.aload_n 68 dX5_readPerson_67 rfl rfl ?_
      refine gG.getP 71 dX5_readPerson_68 fX5_47 ⟨by decide, by decide⟩ rfl rfl rfl rfl ?_
      refine kG.iload_n 72 dX5_readPerson_71 rfl rfl ?_
      refine gG.iald (n := 30) (5 * dP D + 0) 73 dX5_readPerson_72 ⟨by decide, by decide⟩ rfl rfl (by omega) (by decide) rfl ?_
      rw [uI_same]
      refine kG.bipush (v := (-9)) 75 dX5_readPerson_73 (by decide) rfl ?_
      refine kG.icmp_ne 80 78 dX5_readPerson_75 (by decide) rfl (fun h75 => ?_) (fun h75 => ?_)
      · refine kG.aload_n 81 dX5_readPerson_80 rfl rfl ?_
        refine kG.dup 82 dX5_readPerson_81 rfl rfl ?_
        refine gG.getI 85 dX5_readPerson_82 fX5_99 ⟨by decide, by decide⟩ rfl rfl rfl ?_
        rw [uI_off (by decide), h.2.2.2.2.2.2.2.1]
        refine kG.iconst (v := nI 1) 86 dX5_readPerson_85 (by decide) rfl ?_
        refine kG.iadd 87 dX5_readPerson_86 rfl ?_
        rw [nI_add]
        refine gG.putI 90 dX5_readPerson_87 fX5_99 ⟨by decide, by decide⟩ rfl rfl rfl ⟨rfl, rfl⟩ rfl ?_
        refine kG.iconst (v := nI 1) 91 dX5_readPerson_90 (by decide) rfl ?_
        refine kG.istore 93 dX5_readPerson_91 (by decide) rfl rfl ?_
        dsimp only [List.set]
        obtain ⟨hlt, hr1⟩ := hx2 1 hk
        refine rp_1 Γ hfn hP hH rs (i := i + 1) (v := fu v 0 1) ?_
        have z := RQ_st (s' := (2, 2, sn, uKd (D.1, dP D + 1, D.2.2) 1)) (d := 1) h (AV_i μ (nI (f + (i + 1)))) hlt hr1
        rw [uI_cm (by decide)] at z
        exact z
      · exact absurd h75 (by decide)
  · have hk : kdF x = some 0 := by unfold kdF; rw [if_pos h37]
    refine kG.iconst (v := nI 0) 41 dX5_readPerson_40 (by decide) rfl ?_
    refine kG.goto 66 dX5_readPerson_41 (by decide) ?_
    refine gG.iast (n := 30) (5 * dP D + 0) 67 dX5_readPerson_66 ⟨by decide, by decide⟩ rfl rfl (by omega) (by decide) rfl ?_
    refine kG.aload_n 68 dX5_readPerson_67 rfl rfl ?_
    refine gG.getP 71 dX5_readPerson_68 fX5_47 ⟨by decide, by decide⟩ rfl rfl rfl rfl ?_
    refine kG.iload_n 72 dX5_readPerson_71 rfl rfl ?_
    refine gG.iald (n := 30) (5 * dP D + 0) 73 dX5_readPerson_72 ⟨by decide, by decide⟩ rfl rfl (by omega) (by decide) rfl ?_
    rw [uI_same]
    refine kG.bipush (v := (-9)) 75 dX5_readPerson_73 (by decide) rfl ?_
    refine kG.icmp_ne 80 78 dX5_readPerson_75 (by decide) rfl (fun h75 => ?_) (fun h75 => ?_)
    · refine kG.aload_n 81 dX5_readPerson_80 rfl rfl ?_
      refine kG.dup 82 dX5_readPerson_81 rfl rfl ?_
      refine gG.getI 85 dX5_readPerson_82 fX5_99 ⟨by decide, by decide⟩ rfl rfl rfl ?_
      rw [uI_off (by decide), h.2.2.2.2.2.2.2.1]
      refine kG.iconst (v := nI 1) 86 dX5_readPerson_85 (by decide) rfl ?_
      refine kG.iadd 87 dX5_readPerson_86 rfl ?_
      rw [nI_add]
      refine gG.putI 90 dX5_readPerson_87 fX5_99 ⟨by decide, by decide⟩ rfl rfl rfl ⟨rfl, rfl⟩ rfl ?_
      refine kG.iconst (v := nI 1) 91 dX5_readPerson_90 (by decide) rfl ?_
      refine kG.istore 93 dX5_readPerson_91 (by decide) rfl rfl ?_
      dsimp only [List.set]
      obtain ⟨hlt, hr1⟩ := hx2 0 hk
      refine rp_1 Γ hfn hP hH rs (i := i + 1) (v := fu v 0 0) ?_
      have z := RQ_st (s' := (2, 2, sn, uKd (D.1, dP D + 1, D.2.2) 0)) (d := 0) h (AV_i μ (nI (f + (i + 1)))) hlt hr1
      rw [uI_cm (by decide)] at z
      exact z
    · exact absurd h75 (by decide)
set_option maxHeartbeats 4000000 in
theorem m_readPerson (Γ : kGm) {c : Nat → Int32} {n f i : Nat} {μ : kM} {q : kq4} (tx : TX c f n μ) (hin : i ≤ n) (hfn : f + n ≤ 240) (e : μ 49 16 = nI (f + i)) {sn : Nat} {D : Dt} (hr : rn c i = some (2, 1, sn, (D.1, dP D + 1, D.2.2))) (rs : RS sn D μ) (hP : dP D < 6) (hH : 1 ≤ dH D ∧ dH D ≤ 4) : gC Γ yX5_readPerson mX5_readPerson 3 [.ref 49, .int (nI (f + n))] μ q (RD c n f μ q (fun i' μ' => ∃ D', rn c i' = some (3, 0, sn, D') ∧ RS sn D' μ' ∧ dH D' = dH D ∧ dP D' = dP D + 1)) := by
  refine gC.ofG (n := 0) ⟨by decide +kernel, rfl, rfl, by decide⟩ (Nat.le_of_ble_eq_true rfl) ?_
  show gG Γ mX5_readPerson 3 0 [some (.ref 49), some (.int (nI (f + n))), none, none, none, none] [] μ q _
  refine kG.iconst (v := nI 5) 1 dX5_readPerson_0 (by decide) rfl ?_
  refine kG.aload_n 2 dX5_readPerson_1 rfl rfl ?_
  refine gG.getI 5 dX5_readPerson_2 fX5_129 ⟨by decide, by decide⟩ rfl rfl rfl ?_
  rw [rs.2.2.1]
  refine kG.imul 6 dX5_readPerson_5 rfl ?_
  rw [pk_mul]
  refine kG.istore_n 7 dX5_readPerson_6 (by decide) rfl rfl ?_
  dsimp only [List.set]
  refine kG.aload_n 8 dX5_readPerson_7 rfl rfl ?_
  refine gG.getI 11 dX5_readPerson_8 fX5_99 ⟨by decide, by decide⟩ rfl rfl rfl ?_
  rw [e]
  refine kG.iload_n 12 dX5_readPerson_11 rfl rfl ?_
  refine kG.icmp_ge 27 15 dX5_readPerson_12 (by decide) rfl (fun h12 => ?_) (fun h12 => ?_)
  · have c1 : n ≤ i := by have := (nI_leI (by omega) (by omega)).mp h12; omega
    refine kG.iconst (v := nI 0) 28 dX5_readPerson_27 (by decide) rfl ?_
    refine kG.istore_n 29 dX5_readPerson_28 (by decide) rfl rfl ?_
    dsimp only [List.set]
    exact rp_0 Γ hfn hP hH rs (v := fun _ => 0) ⟨FS_r _, rs.1, rs.2.1, rs.2.2.1, rfl, fun _ _ => rfl, fun j hj => absurd hj (Nat.not_lt_zero _), e, hin, hr, tx⟩ (fun _ => ff_at hr hin rfl (fun hl => absurd hl (by omega))) (fun d z => by rw [show kdF (nI 0) = none by decide] at z; cases z)
  · have c1 : i < n := Nat.not_le.mp (fun z => h12 (nI_le (by omega) (by omega)))
    refine kG.aload_n 16 dX5_readPerson_15 rfl rfl ?_
    refine gG.getP 19 dX5_readPerson_16 fX5_16 ⟨by decide, by decide⟩ rfl rfl rfl rfl ?_
    refine kG.aload_n 20 dX5_readPerson_19 rfl rfl ?_
    refine gG.getI 23 dX5_readPerson_20 fX5_99 ⟨by decide, by decide⟩ rfl rfl rfl ?_
    rw [e]
    refine gG.iald (n := 240) (f + i) 24 dX5_readPerson_23 ⟨by decide, by decide⟩ rfl rfl (by omega) (by decide) rfl ?_
    rw [tx i c1]
    refine kG.goto 28 dX5_readPerson_24 (by decide) ?_
    refine kG.istore_n 29 dX5_readPerson_28 (by decide) rfl rfl ?_
    dsimp only [List.set]
    exact rp_0 Γ hfn hP hH rs (v := fun _ => 0) ⟨FS_r _, rs.1, rs.2.1, rs.2.2.1, rfl, fun _ _ => rfl, fun j hj => absurd hj (Nat.not_lt_zero _), e, hin, hr, tx⟩ (fun z => ff_at hr hin rfl (fun _ => n_K z)) (fun d z => ⟨c1, rn_s hr (t_K z)⟩)
