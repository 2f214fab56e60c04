/-- a step of a part, whatever the code -/
theorem c_head (Γ : kGm) {μ : kM} {q : kq4} {t : Nat} (ht : isT t) {l sn : Nat} {D : Dt} (x : Int32) (h : PQ 0 l sn D t μ) (ok : okQ 0 l sn D) (hz : l = 0 → sn = 0) : gC Γ yX2_headGoesOn mX2_headGoesOn 3 [.ref t, .int x] μ q (SR (stp (0, l, sn, D) x) t μ q) := by
  have z := ok.2.2.2.1 rfl
  have zl : l = 0 ∨ l = 1 ∨ l = 2 := by omega
  show gC Γ yX2_headGoesOn mX2_headGoesOn 3 [.ref t, .int x] μ q (SR (stH l sn D x) t μ q)
  rcases zl with rfl | rfl | rfl
  · exact c_he0 Γ ht h (hz rfl)
  · cases hd : dg x with
    | none => exact c_he1n Γ ht h hd
    | some d => exact c_he1s Γ ht h hd
  · cases hd : dg x with
    | none => exact c_he2n Γ ht h z.2.2.2 hd
    | some d => exact c_he2s Γ ht h z.2.2.2 hd
theorem c_hous (Γ : kGm) {μ : kM} {q : kq4} {t : Nat} (ht : isT t) {l sn : Nat} {D : Dt} (x : Int32) (h : PQ 1 l sn D t μ) (ok : okQ 1 l sn D) : gC Γ yX2_houseGoesOn mX2_houseGoesOn 3 [.ref t, .int (nI (dH D - 1)), .int x] μ q (SR (stp (1, l, sn, D) x) t μ q) := by
  have z := ok.2.2.2.2.1 rfl
  have zl : l = 1 ∨ l = 2 ∨ l = 3 := by omega
  have hH : 1 ≤ dH D ∧ dH D ≤ 4 := ⟨z.1, ok.2.1⟩
  show gC Γ yX2_houseGoesOn mX2_houseGoesOn 3 [.ref t, .int (nI (dH D - 1)), .int x] μ q (SR (st1 l sn D x) t μ q)
  cases hd : dg x with
  | none =>
    rcases zl with rfl | rfl | rfl
    · exact c_ho1n Γ ht h hH hd
    · exact c_ho2n Γ ht h hH hd
    · exact c_ho3n Γ ht h hH hd
  | some d =>
    rcases zl with rfl | rfl | rfl
    · exact c_ho1s Γ ht h hH hd
    · exact c_ho2s Γ ht h hH hd
    · exact c_ho3s Γ ht h hH hd
theorem c_pers (Γ : kGm) {μ : kM} {q : kq4} {t : Nat} (ht : isT t) {l sn : Nat} {D : Dt} (x : Int32) (h : PQ 2 l sn D t μ) (ok : okQ 2 l sn D) : gC Γ yX2_personGoesOn mX2_personGoesOn 3 [.ref t, .int (nI (dP D - 1)), .int x] μ q (SR (stp (2, l, sn, D) x) t μ q) := by
  have z := ok.2.2.2.2.2.1 rfl
  have zl : l = 1 ∨ l = 2 ∨ l = 3 ∨ l = 4 ∨ l = 5 := by omega
  have hP : 1 ≤ dP D ∧ dP D ≤ 6 := ⟨z.1, ok.2.2.1⟩
  have hH : 1 ≤ dH D ∧ dH D ≤ 4 := ⟨ok.2.2.2.2.2.2.1 (by omega), ok.2.1⟩
  show gC Γ yX2_personGoesOn mX2_personGoesOn 3 [.ref t, .int (nI (dP D - 1)), .int x] μ q (SR (st2 l sn D x) t μ q)
  rcases zl with rfl | zl
  · cases hd : kdF x with
    | none => exact c_pe1n Γ ht h hP hH hd
    | some d => exact c_pe1s Γ ht h hP hH hd
  · cases hd : dg x with
    | none =>
      rcases zl with rfl | rfl | rfl | rfl
      · exact c_pe2n Γ ht h hP hH hd
      · exact c_pe3n Γ ht h hP hH hd
      · exact c_pe4n Γ ht h hP hH hd
      · exact c_pe5n Γ ht h hP hH hd
    | some d =>
      rcases zl with rfl | rfl | rfl | rfl
      · exact c_pe2s Γ ht h hP hH hd
      · exact c_pe3s Γ ht h hP hH hd
      · exact c_pe4s Γ ht h hP hH hd
      · exact c_pe5s Γ ht h hP hH hd
def SG (o : Option PSt) (t : Nat) (μ : kM) (q : kq4) (r : Option Value) (μ' : kM) (q' : kq4) : Prop := r = some (.int (b2 o.isSome)) ∧ q' = q ∧ (∀ k, (k < t ∨ t + 7 < k) → μ' k = μ k) ∧ ∀ s', o = some s' → PR s' t μ'
set_option maxHeartbeats 4000000 in
theorem c_go0 (Γ : kGm) {μ : kM} {q : kq4} {t : Nat} (ht : isT t) {l sn : Nat} {D : Dt} (x : Int32) (h : PQ 0 l sn D t μ) (ok : okQ 0 l sn D) (hz : l = 0 → sn = 0) : gC Γ yX2_goesOn mX2_goesOn 4 [.ref t, .int x] μ q (SG (stp (0, l, sn, D) x) t μ q) := by
  refine gC.ofG (n := 0) ⟨by decide +kernel, rfl, rfl, by decide⟩ (Nat.le_of_ble_eq_true rfl) ?_
  show gG Γ mX2_goesOn 4 0 [some (.ref t), some (.int x), none] [] μ q _
  have h2 := h.2.1
  have h3 := h.2.2.1
  have h4 := h.2.2.2.1
  refine kG.aload_n 1 dX2_goesOn_0 rfl rfl ?_
  refine gG.getI 4 dX2_goesOn_1 fX2_43 (isT_k ht) (isT_s ht) rfl rfl ?_
  rw [h4]
  refine kG.tableIn 32 dX2_goesOn_4 (by decide) (by decide) rfl (by decide) ?_
  refine kG.aload_n 33 dX2_goesOn_32 rfl rfl ?_
  refine kG.iload_n 34 dX2_goesOn_33 rfl rfl ?_
  refine gG.callV 37 dX2_goesOn_34 lX2_49 vX2_headGoesOn (c_head Γ ht x h ok hz) rfl rfl (isT_k ht) (isT_s ht) ⟨by decide, rfl⟩ ⟨by decide, by decide⟩ (Nat.le_of_ble_eq_true rfl) rfl (fun r34 μ34 q34 hc34 => ?_)
  obtain ⟨rfl, rfl, f1, f2⟩ := hc34
  refine kG.istore_n 38 dX2_goesOn_37 (by decide) rfl rfl ?_
  dsimp only [List.set]
  refine kG.goto 77 dX2_goesOn_38 (by decide) ?_
  refine kG.aload_n 78 dX2_goesOn_77 rfl rfl ?_
  refine kG.dup 79 dX2_goesOn_78 rfl rfl ?_
  refine gG.getI 82 dX2_goesOn_79 fX2_46 (isT_k ht) (isT_s ht) rfl rfl ?_
  refine kG.iconst (v := nI 1) 83 dX2_goesOn_82 (by decide) rfl ?_
  refine kG.iadd 84 dX2_goesOn_83 rfl ?_
  refine gG.putI 87 dX2_goesOn_84 fX2_46 (isT_k ht) (isT_s ht) rfl rfl ⟨rfl, rfl⟩ rfl ?_
  refine kG.iload_n 88 dX2_goesOn_87 rfl rfl ?_
  refine gG.zret dX2_goesOn_88 rfl (b2_bit _) ?_
  exact ⟨rfl, rfl, fun k hk => by rw [uI_off (by omega)]; exact f1 k hk, f2⟩
set_option maxHeartbeats 4000000 in
theorem c_go1 (Γ : kGm) {μ : kM} {q : kq4} {t : Nat} (ht : isT t) {l sn : Nat} {D : Dt} (x : Int32) (h : PQ 1 l sn D t μ) (ok : okQ 1 l sn D) : gC Γ yX2_goesOn mX2_goesOn 4 [.ref t, .int x] μ q (SG (stp (1, l, sn, D) x) t μ q) := by
  refine gC.ofG (n := 0) ⟨by decide +kernel, rfl, rfl, by decide⟩ (Nat.le_of_ble_eq_true rfl) ?_
  show gG Γ mX2_goesOn 4 0 [some (.ref t), some (.int x), none] [] μ q _
  have h2 := h.2.1
  have h3 := h.2.2.1
  have h4 := h.2.2.2.1
  refine kG.aload_n 1 dX2_goesOn_0 rfl rfl ?_
  refine gG.getI 4 dX2_goesOn_1 fX2_43 (isT_k ht) (isT_s ht) rfl rfl ?_
  rw [h4]
  refine kG.tableIn 41 dX2_goesOn_4 (by decide) (by decide) rfl (by decide) ?_
  refine kG.aload_n 42 dX2_goesOn_41 rfl rfl ?_
  refine kG.aload_n 43 dX2_goesOn_42 rfl rfl ?_
  refine gG.getI 46 dX2_goesOn_43 fX2_37 (isT_k ht) (isT_s ht) rfl rfl ?_
  rw [h2]
  refine kG.iconst (v := nI 1) 47 dX2_goesOn_46 (by decide) rfl ?_
  refine kG.isub 48 dX2_goesOn_47 rfl ?_
  rw [pk_sub (show 1 ≤ dH D from (ok.2.2.2.2.1 rfl).1)]
  refine kG.iload_n 49 dX2_goesOn_48 rfl rfl ?_
  refine gG.callV 52 dX2_goesOn_49 lX2_53 vX2_houseGoesOn (c_hous Γ ht x h ok) rfl rfl (isT_k ht) (isT_s ht) ⟨by decide, rfl⟩ ⟨by decide, by decide⟩ (Nat.le_of_ble_eq_true rfl) rfl (fun r49 μ49 q49 hc49 => ?_)
  obtain ⟨rfl, rfl, f1, f2⟩ := hc49
  refine kG.istore_n 53 dX2_goesOn_52 (by decide) rfl rfl ?_
  dsimp only [List.set]
  refine kG.goto 77 dX2_goesOn_53 (by decide) ?_
  refine kG.aload_n 78 dX2_goesOn_77 rfl rfl ?_
  refine kG.dup 79 dX2_goesOn_78 rfl rfl ?_
  refine gG.getI 82 dX2_goesOn_79 fX2_46 (isT_k ht) (isT_s ht) rfl rfl ?_
  refine kG.iconst (v := nI 1) 83 dX2_goesOn_82 (by decide) rfl ?_
  refine kG.iadd 84 dX2_goesOn_83 rfl ?_
  refine gG.putI 87 dX2_goesOn_84 fX2_46 (isT_k ht) (isT_s ht) rfl rfl ⟨rfl, rfl⟩ rfl ?_
  refine kG.iload_n 88 dX2_goesOn_87 rfl rfl ?_
  refine gG.zret dX2_goesOn_88 rfl (b2_bit _) ?_
  exact ⟨rfl, rfl, fun k hk => by rw [uI_off (by omega)]; exact f1 k hk, f2⟩
set_option maxHeartbeats 4000000 in
theorem c_go2 (Γ : kGm) {μ : kM} {q : kq4} {t : Nat} (ht : isT t) {l sn : Nat} {D : Dt} (x : Int32) (h : PQ 2 l sn D t μ) (ok : okQ 2 l sn D) : gC Γ yX2_goesOn mX2_goesOn 4 [.ref t, .int x] μ q (SG (stp (2, l, sn, D) x) t μ q) := by
  refine gC.ofG (n := 0) ⟨by decide +kernel, rfl, rfl, by decide⟩ (Nat.le_of_ble_eq_true rfl) ?_
  show gG Γ mX2_goesOn 4 0 [some (.ref t), some (.int x), none] [] μ q _
  have h2 := h.2.1
  have h3 := h.2.2.1
  have h4 := h.2.2.2.1
  refine kG.aload_n 1 dX2_goesOn_0 rfl rfl ?_
  refine gG.getI 4 dX2_goesOn_1 fX2_43 (isT_k ht) (isT_s ht) rfl rfl ?_
  rw [h4]
  refine kG.tableIn 56 dX2_goesOn_4 (by decide) (by decide) rfl (by decide) ?_
  refine kG.aload_n 57 dX2_goesOn_56 rfl rfl ?_
  refine kG.aload_n 58 dX2_goesOn_57 rfl rfl ?_
  refine gG.getI 61 dX2_goesOn_58 fX2_40 (isT_k ht) (isT_s ht) rfl rfl ?_
  rw [h3]
  refine kG.iconst (v := nI 1) 62 dX2_goesOn_61 (by decide) rfl ?_
  refine kG.isub 63 dX2_goesOn_62 rfl ?_
  rw [pk_sub (show 1 ≤ dP D from (ok.2.2.2.2.2.1 rfl).1)]
  refine kG.iload_n 64 dX2_goesOn_63 rfl rfl ?_
  refine gG.callV 67 dX2_goesOn_64 lX2_57 vX2_personGoesOn (c_pers Γ ht x h ok) rfl rfl (isT_k ht) (isT_s ht) ⟨by decide, rfl⟩ ⟨by decide, by decide⟩ (Nat.le_of_ble_eq_true rfl) rfl (fun r64 μ64 q64 hc64 => ?_)
  obtain ⟨rfl, rfl, f1, f2⟩ := hc64
  refine kG.istore_n 68 dX2_goesOn_67 (by decide) rfl rfl ?_
  dsimp only [List.set]
  refine kG.goto 77 dX2_goesOn_68 (by decide) ?_
  refine kG.aload_n 78 dX2_goesOn_77 rfl rfl ?_
  refine kG.dup 79 dX2_goesOn_78 rfl rfl ?_
  refine gG.getI 82 dX2_goesOn_79 fX2_46 (isT_k ht) (isT_s ht) rfl rfl ?_
  refine kG.iconst (v := nI 1) 83 dX2_goesOn_82 (by decide) rfl ?_
  refine kG.iadd 84 dX2_goesOn_83 rfl ?_
  refine gG.putI 87 dX2_goesOn_84 fX2_46 (isT_k ht) (isT_s ht) rfl rfl ⟨rfl, rfl⟩ rfl ?_
  refine kG.iload_n 88 dX2_goesOn_87 rfl rfl ?_
  refine gG.zret dX2_goesOn_88 rfl (b2_bit _) ?_
  exact ⟨rfl, rfl, fun k hk => by rw [uI_off (by omega)]; exact f1 k hk, f2⟩
set_option maxHeartbeats 4000000 in
theorem c_go3 (Γ : kGm) {μ : kM} {q : kq4} {t : Nat} (ht : isT t) {l sn : Nat} {D : Dt} (x : Int32) (h : PQ 3 l sn D t μ) (ok : okQ 3 l sn D) : gC Γ yX2_goesOn mX2_goesOn 4 [.ref t, .int x] μ q (SG (stp (3, l, sn, D) x) t μ q) := by
  refine gC.ofG (n := 0) ⟨by decide +kernel, rfl, rfl, by decide⟩ (Nat.le_of_ble_eq_true rfl) ?_
  show gG Γ mX2_goesOn 4 0 [some (.ref t), some (.int x), none] [] μ q _
  have h2 := h.2.1
  have h3 := h.2.2.1
  have h4 := h.2.2.2.1
  refine kG.aload_n 1 dX2_goesOn_0 rfl rfl ?_
  refine gG.getI 4 dX2_goesOn_1 fX2_43 (isT_k ht) (isT_s ht) rfl rfl ?_
  rw [h4]
  refine kG.tableOut 71 dX2_goesOn_4 (by decide) (by decide) ?_
  refine kG.aload_n 72 dX2_goesOn_71 rfl rfl ?_
  refine kG.iload_n 73 dX2_goesOn_72 rfl rfl ?_
  refine gG.callV 76 dX2_goesOn_73 lX2_60 vX2_opens (c_opens Γ ht (x := x) h ok.2.1 ok.2.2.1) rfl rfl (isT_k ht) (isT_s ht) ⟨by decide, rfl⟩ ⟨by decide, by decide⟩ (Nat.le_of_ble_eq_true rfl) rfl (fun r73 μ73 q73 hc73 => ?_)
  obtain ⟨rfl, rfl, f1, f2⟩ := hc73
  refine kG.istore_n 77 dX2_goesOn_76 (by decide) rfl rfl ?_
  dsimp only [List.set]
  refine kG.aload_n 78 dX2_goesOn_77 rfl rfl ?_
  refine kG.dup 79 dX2_goesOn_78 rfl rfl ?_
  refine gG.getI 82 dX2_goesOn_79 fX2_46 (isT_k ht) (isT_s ht) rfl rfl ?_
  refine kG.iconst (v := nI 1) 83 dX2_goesOn_82 (by decide) rfl ?_
  refine kG.iadd 84 dX2_goesOn_83 rfl ?_
  refine gG.putI 87 dX2_goesOn_84 fX2_46 (isT_k ht) (isT_s ht) rfl rfl ⟨rfl, rfl⟩ rfl ?_
  refine kG.iload_n 88 dX2_goesOn_87 rfl rfl ?_
  refine gG.zret dX2_goesOn_88 rfl (b2_bit _) ?_
  exact ⟨rfl, rfl, fun k hk => by rw [uI_off (by omega)]; exact f1 k hk, f2⟩
theorem c_goesOn (Γ : kGm) {μ : kM} {q : kq4} {t : Nat} (ht : isT t) {s : PSt} (x : Int32) (h : PR s t μ) (ok : okP s) (hz : s.1 = 0 → s.2.1 = 0 → s.2.2.1 = 0) : gC Γ yX2_goesOn mX2_goesOn 4 [.ref t, .int x] μ q (SG (stp s x) t μ q) := by
  obtain ⟨p, l, sn, D⟩ := s
  have o1 : p ≤ 3 := ok.1
  have zp : p = 0 ∨ p = 1 ∨ p = 2 ∨ p = 3 := by omega
  rcases zp with rfl | rfl | rfl | rfl
  · exact c_go0 Γ ht x h ok (hz rfl)
  · exact c_go1 Γ ht x h ok
  · exact c_go2 Γ ht x h ok
  · exact c_go3 Γ ht x h ok
/-- the seam is 0 before it is read -/
theorem sn0_rn {c : Nat → Int32} : ∀ {n : Nat} {s : PSt}, rn c n = some s → s.1 = 0 → s.2.1 = 0 → s.2.2.1 = 0
  | 0, s, h => by cases h; intro _ _; rfl
  | n + 1, s, h => by
    unfold rn at h
    cases hr : rn c n with
    | none => rw [hr] at h; cases h
    | some s0 =>
      rw [hr] at h
      have h : stp s0 (c n) = some s := h
      have ok := okP_rn hr
      obtain ⟨p, l, sn, D⟩ := s0
      have ok : okQ p l sn D := ok
      intro e1 e2
      exfalso
      have o1 := ok.1
      have zp : p = 0 ∨ p = 1 ∨ p = 2 ∨ p = 3 := by omega
      rcases zp with rfl | rfl | rfl | rfl
      · have h : stH l sn D (c n) = some s := h
        unfold stH at h
        split at h
        · obtain ⟨-, rfl⟩ := oIf_t h; exact absurd (show (1 : Nat) = 0 from e2) (by decide)
        · split at h
          · cases hd : dg (c n) with
            | none => rw [hd] at h; cases h
            | some d => rw [hd] at h; obtain ⟨-, rfl⟩ := oIf_t h; exact absurd (show (2 : Nat) = 0 from e2) (by decide)
          · cases hd : dg (c n) with
            | none => rw [hd] at h; cases h
            | some d => rw [hd] at h; obtain ⟨-, rfl⟩ := oIf_t h; exact absurd (show (3 : Nat) = 0 from e1) (by decide)
      · have h : st1 l sn D (c n) = some s := h
        unfold st1 at h
        cases hd : dg (c n) with
        | none => rw [hd] at h; split at h <;> first | cases h | (split at h <;> cases h)
        | some d =>
          rw [hd] at h
          split at h
          · cases h; exact absurd (show (1 : Nat) = 0 from e1) (by decide)
          · split at h
            · cases h; exact absurd (show (1 : Nat) = 0 from e1) (by decide)
            · obtain ⟨-, rfl⟩ := oIf_t h; exact absurd (show (3 : Nat) = 0 from e1) (by decide)
      · have z : s.1 ≠ 0 := by
          have h : st2 l sn D (c n) = some s := h
          unfold st2 at h
          split at h
          · cases hd : kdF (c n) with
            | none => rw [hd] at h; cases h
            | some d => rw [hd] at h; cases h; exact (by decide : (2 : Nat) ≠ 0)
          · cases hd : dg (c n) with
            | none => rw [hd] at h; split at h <;> first | cases h | (split at h <;> first | cases h | (split at h <;> cases h))
            | some d =>
              rw [hd] at h
              split at h
              · obtain ⟨-, rfl⟩ := oIf_t h; exact (by decide : (2 : Nat) ≠ 0)
              · split at h
                · obtain ⟨-, rfl⟩ := oIf_t h; exact (by decide : (2 : Nat) ≠ 0)
                · split at h
                  · obtain ⟨-, rfl⟩ := oIf_t h; exact (by decide : (2 : Nat) ≠ 0)
                  · cases h; exact (by decide : (3 : Nat) ≠ 0)
        exact z e1
      · have h : st3 sn D (c n) = some s := h
        unfold st3 at h
        split at h
        · cases h; exact absurd (show (1 : Nat) = 0 from e1) (by decide)
        · obtain ⟨-, rfl⟩ := oIf_t h; exact absurd (show (2 : Nat) = 0 from e1) (by decide)
