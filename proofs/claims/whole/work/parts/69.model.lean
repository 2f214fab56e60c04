theorem n_3 {sn : Nat} {D : Dt} {x : Int32} (h1 : ¬ (x = nI 59 ∧ dP D = 0 ∧ dH D < 4)) (h2 : ¬ (x = nI 44 ∧ 0 < dH D ∧ dP D < 6)) : stp (3, 0, sn, D) x = none := by
  show st3 sn D x = none
  unfold st3 oIf
  rw [if_neg h1, if_neg h2]
theorem t_3h {sn : Nat} {D : Dt} {x : Int32} (h1 : x = nI 59 ∧ dP D = 0 ∧ dH D < 4) : stp (3, 0, sn, D) x = some (1, 1, sn, (dH D + 1, D.2)) := by
  show st3 sn D x = _
  unfold st3
  rw [if_pos h1]
theorem t_3p {sn : Nat} {D : Dt} {x : Int32} (h2 : x = nI 44 ∧ 0 < dH D ∧ dP D < 6) : stp (3, 0, sn, D) x = some (2, 1, sn, (D.1, dP D + 1, D.2.2)) := by
  show st3 sn D x = _
  unfold st3 oIf
  rw [if_neg (fun z => absurd (z.1.symm.trans h2.1) (by decide)), if_pos h2]
theorem wh_f {sn : Nat} {D : Dt} (h : dP D = 0) : whl (3, 0, sn, D) = false := by
  unfold whl
  show (decide ((3 : Nat) = 3) && decide (0 < dP D)) = false
  rw [h]; rfl
theorem wh_t {sn : Nat} {D : Dt} (h : 0 < dP D) : whl (3, 0, sn, D) = true := by
  unfold whl
  show (decide ((3 : Nat) = 3) && decide (0 < dP D)) = true
  rw [decide_eq_true h]; rfl
set_option maxHeartbeats 4000000 in
theorem ra_125 (Γ : kGm) {c : Nat → Int32} {n f : Nat} (hfn : f + n ≤ 240) {μ0 : kM} {q : kq4} {sn : Nat} {i : Nat} {μ : kM} {D : Dt} (fs : FS μ0 μ) (tx : TX c f n μ) (hin : i ≤ n) (e : μ 49 16 = nI (f + i)) (hr : rn c i = some (3, 0, sn, D)) (rs : RS sn D μ) (hH : 1 ≤ dH D ∧ dH D ≤ 4) (hP : 0 < dP D) (hst : i < n → stp (3, 0, sn, D) (c i) = none) : gG Γ mX5_readAll 4 125 [some (.ref 49), some (.int (nI (f + n)))] [] μ q (RD c n f μ0 q (fun i' μ' => ∃ s, rn c n = some s ∧ whl s = true ∧ RS s.2.2.1 s.2.2.2 μ')) := by
  refine kG.aload_n 126 dX5_readAll_125 rfl rfl ?_
  refine gG.getI 129 dX5_readAll_126 fX5_99 ⟨by decide, by decide⟩ rfl rfl rfl ?_
  rw [e]
  refine kG.iload_n 130 dX5_readAll_129 rfl rfl ?_
  refine kG.icmp_ne 137 133 dX5_readAll_130 (by decide) rfl (fun h130 => ?_) (fun h130 => ?_)
  · have c1 : i < n := Nat.lt_of_le_of_ne hin (fun z => h130 (by rw [z]))
    refine kG.iconst (v := nI 0) 138 dX5_readAll_137 (by decide) rfl ?_
    refine gG.zret dX5_readAll_138 rfl rfl ?_
    exact ⟨rfl, fs, false, rfl, fun _ => ⟨i, hin, e, ffN_at hr c1 (hst c1)⟩, fun z => by cases z⟩
  · have c1 : i = n := by have := (nI_eq (by omega) (by omega)).mp h130; omega
    refine kG.iconst (v := nI 1) 134 dX5_readAll_133 (by decide) rfl ?_
    refine kG.goto 138 dX5_readAll_134 (by decide) ?_
    refine gG.zret dX5_readAll_138 rfl rfl ?_
    exact ⟨rfl, fs, true, rfl, fun z => absurd z (by decide), fun _ => ⟨i, hin, e, (3, 0, sn, D), by rw [← c1]; exact hr, wh_t hP, rs⟩⟩
set_option maxHeartbeats 4000000 in
theorem ra_p (Γ : kGm) {c : Nat → Int32} {n f : Nat} (hfn : f + n ≤ 240) {μ0 : kM} {q : kq4} {sn : Nat} : ∀ (m i : Nat) (μ : kM) (D : Dt), dP D + m = 6 → 0 < dP D → FS μ0 μ → TX c f n μ → i ≤ n → μ 49 16 = nI (f + i) → rn c i = some (3, 0, sn, D) → RS sn D μ → 1 ≤ dH D ∧ dH D ≤ 4 → gG Γ mX5_readAll 4 96 [some (.ref 49), some (.int (nI (f + n)))] [] μ q (RD c n f μ0 q (fun i' μ' => ∃ s, rn c n = some s ∧ whl s = true ∧ RS s.2.2.1 s.2.2.2 μ')) := by
  intro m
  induction m with
  | zero =>
    intro i μ D hm hP fs tx hin e hr rs hH
    refine kG.aload_n 97 dX5_readAll_96 rfl rfl ?_
    refine gG.getI 100 dX5_readAll_97 fX5_129 ⟨by decide, by decide⟩ rfl rfl rfl ?_
    rw [rs.2.2.1]
    refine kG.bipush (v := nI 6) 102 dX5_readAll_100 (by decide) rfl ?_
    refine kG.icmp_ge 125 105 dX5_readAll_102 (by decide) rfl (fun h102 => ?_) (fun h102 => ?_)
    · exact ra_125 Γ hfn fs tx hin e hr rs hH (by omega) (fun hl => n_3 (fun z => absurd z.2.1 (by omega)) (fun z => absurd z.2.2 (by omega)))
    · exact absurd (nI_le (by omega) (by omega)) h102
  | succ m ih =>
    intro i μ D hm hP fs tx hin e hr rs hH
    refine kG.aload_n 97 dX5_readAll_96 rfl rfl ?_
    refine gG.getI 100 dX5_readAll_97 fX5_129 ⟨by decide, by decide⟩ rfl rfl rfl ?_
    rw [rs.2.2.1]
    refine kG.bipush (v := nI 6) 102 dX5_readAll_100 (by decide) rfl ?_
    refine kG.icmp_ge 125 105 dX5_readAll_102 (by decide) rfl (fun h102 => ?_) (fun h102 => ?_)
    · exact absurd h102 (nI_ge (by omega) (by omega))
    · refine kG.aload_n 106 dX5_readAll_105 rfl rfl ?_
      refine kG.iload_n 107 dX5_readAll_106 rfl rfl ?_
      refine kG.bipush (v := nI 44) 109 dX5_readAll_107 (by decide) rfl ?_
      refine gG.callV 112 dX5_readAll_109 lX5_138 vX5_isSign (m_sgn Γ tx hin hfn e (nI 44)) rfl rfl ⟨by decide, by decide⟩ rfl ⟨by decide, rfl⟩ ⟨by decide, by decide⟩ (Nat.le_of_ble_eq_true rfl) rfl (fun r109 μ109 q109 hc109 => ?_)
      obtain ⟨rfl, hd⟩ := hc109
      rcases hd with ⟨rfl, rfl, hne⟩ | ⟨rfl, av, hlt, hsg⟩
      · refine kG.if_eq 125 115 dX5_readAll_112 (by decide) rfl (fun h112 => ?_) (fun h112 => ?_)
        · exact ra_125 Γ hfn fs tx hin e hr rs hH (by omega) (fun hl => n_3 (fun z => absurd z.2.1 (by omega)) (fun z => hne hl z.1))
        · exact absurd rfl h112
      · refine kG.if_eq 125 115 dX5_readAll_112 (by decide) rfl (fun h112 => ?_) (fun h112 => ?_)
        · exact absurd h112 (by decide)
        · refine kG.aload_n 116 dX5_readAll_115 rfl rfl ?_
          refine kG.iload_n 117 dX5_readAll_116 rfl rfl ?_
          refine gG.callV 120 dX5_readAll_117 lX5_148 vX5_readPerson (m_readPerson Γ (TX_AV tx av) (by omega) hfn av.1 (rn_s hr (t_3p ⟨hsg, by omega, by omega⟩)) (RS_AV rs av) (by omega) hH) rfl rfl ⟨by decide, by decide⟩ rfl ⟨by decide, rfl⟩ ⟨by decide, by decide⟩ (Nat.le_of_ble_eq_true rfl) rfl (fun r117 μ117 q117 hc117 => ?_)
          obtain ⟨rfl, fs2, ok, rfl, hF, hT⟩ := hc117
          refine kG.if_ne 96 123 dX5_readAll_120 (by decide) rfl (fun h120 => ?_) (fun h120 => ?_)
          · obtain ⟨i', hi', e', D', hr', rs', eH, eP⟩ := hT (b2_n0.mp h120)
            exact ih i' _ D' (by omega) (by omega) (FS_tr (FS_AV fs av) fs2) (TX_FS (TX_AV tx av) fs2) hi' e' hr' rs' (by omega)
          · refine kG.iconst (v := nI 0) 124 dX5_readAll_123 (by decide) rfl ?_
            refine gG.zret dX5_readAll_124 rfl rfl ?_
            exact ⟨rfl, FS_tr (FS_AV fs av) fs2, false, rfl, fun _ => hF (b2_0.mp h120), fun z => by cases z⟩
set_option maxHeartbeats 4000000 in
theorem ra_76 (Γ : kGm) {c : Nat → Int32} {n f : Nat} (hfn : f + n ≤ 240) {μ0 : kM} {q : kq4} {sn : Nat} {i : Nat} {μ : kM} {D : Dt} (fs : FS μ0 μ) (tx : TX c f n μ) (hin : i ≤ n) (e : μ 49 16 = nI (f + i)) (hr : rn c i = some (3, 0, sn, D)) (rs : RS sn D μ) (hH : 1 ≤ dH D ∧ dH D ≤ 4) (hP : dP D = 0) (hst : i < n → ¬ (c i = nI 59 ∧ dH D < 4)) : gG Γ mX5_readAll 4 76 [some (.ref 49), some (.int (nI (f + n)))] [] μ q (RD c n f μ0 q (fun i' μ' => ∃ s, rn c n = some s ∧ whl s = true ∧ RS s.2.2.1 s.2.2.2 μ')) := by
  refine kG.aload_n 77 dX5_readAll_76 rfl rfl ?_
  refine kG.iload_n 78 dX5_readAll_77 rfl rfl ?_
  refine kG.bipush (v := nI 44) 80 dX5_readAll_78 (by decide) rfl ?_
  refine gG.callV 83 dX5_readAll_80 lX5_138 vX5_isSign (m_sgn Γ tx hin hfn e (nI 44)) rfl rfl ⟨by decide, by decide⟩ rfl ⟨by decide, rfl⟩ ⟨by decide, by decide⟩ (Nat.le_of_ble_eq_true rfl) rfl (fun r80 μ80 q80 hc80 => ?_)
  obtain ⟨rfl, hd⟩ := hc80
  rcases hd with ⟨rfl, rfl, hne⟩ | ⟨rfl, av, hlt, hsg⟩
  · refine kG.if_eq 94 86 dX5_readAll_83 (by decide) rfl (fun h83 => ?_) (fun h83 => ?_)
    · refine kG.iconst (v := nI 0) 95 dX5_readAll_94 (by decide) rfl ?_
      refine gG.zret dX5_readAll_95 rfl rfl ?_
      exact ⟨rfl, fs, false, rfl, fun _ => ⟨i, hin, e, ff_at hr hin (wh_f hP) (fun hl => n_3 (fun z => hst hl ⟨z.1, z.2.2⟩) (fun z => hne hl z.1))⟩, fun z => by cases z⟩
    · exact absurd rfl h83
  · refine kG.if_eq 94 86 dX5_readAll_83 (by decide) rfl (fun h83 => ?_) (fun h83 => ?_)
    · exact absurd h83 (by decide)
    · refine kG.aload_n 87 dX5_readAll_86 rfl rfl ?_
      refine kG.iload_n 88 dX5_readAll_87 rfl rfl ?_
      refine gG.callV 91 dX5_readAll_88 lX5_148 vX5_readPerson (m_readPerson Γ (TX_AV tx av) (by omega) hfn av.1 (rn_s hr (t_3p ⟨hsg, by omega, by omega⟩)) (RS_AV rs av) (by omega) hH) rfl rfl ⟨by decide, by decide⟩ rfl ⟨by decide, rfl⟩ ⟨by decide, by decide⟩ (Nat.le_of_ble_eq_true rfl) rfl (fun r88 μ88 q88 hc88 => ?_)
      obtain ⟨rfl, fs2, ok, rfl, hF, hT⟩ := hc88
      refine kG.if_ne 96 94 dX5_readAll_91 (by decide) rfl (fun h91 => ?_) (fun h91 => ?_)
      · obtain ⟨i', hi', e', D', hr', rs', eH, eP⟩ := hT (b2_n0.mp h91)
        exact ra_p Γ hfn (6 - dP D') i' _ D' (by omega) (by omega) (FS_tr (FS_AV fs av) fs2) (TX_FS (TX_AV tx av) fs2) hi' e' hr' rs' (by omega)
      · refine kG.iconst (v := nI 0) 95 dX5_readAll_94 (by decide) rfl ?_
        refine gG.zret dX5_readAll_95 rfl rfl ?_
        exact ⟨rfl, FS_tr (FS_AV fs av) fs2, false, rfl, fun _ => hF (b2_0.mp h91), fun z => by cases z⟩
set_option maxHeartbeats 4000000 in
theorem ra_h (Γ : kGm) {c : Nat → Int32} {n f : Nat} (hfn : f + n ≤ 240) {μ0 : kM} {q : kq4} {sn : Nat} : ∀ (m i : Nat) (μ : kM) (D : Dt), dH D + m = 4 → dP D = 0 → FS μ0 μ → TX c f n μ → i ≤ n → μ 49 16 = nI (f + i) → rn c i = some (3, 0, sn, D) → RS sn D μ → 1 ≤ dH D ∧ dH D ≤ 4 → gG Γ mX5_readAll 4 48 [some (.ref 49), some (.int (nI (f + n)))] [] μ q (RD c n f μ0 q (fun i' μ' => ∃ s, rn c n = some s ∧ whl s = true ∧ RS s.2.2.1 s.2.2.2 μ')) := by
  intro m
  induction m with
  | zero =>
    intro i μ D hm hP fs tx hin e hr rs hH
    refine kG.aload_n 49 dX5_readAll_48 rfl rfl ?_
    refine gG.getI 52 dX5_readAll_49 fX5_126 ⟨by decide, by decide⟩ rfl rfl rfl ?_
    rw [rs.2.1]
    refine kG.iconst (v := nI 4) 53 dX5_readAll_52 (by decide) rfl ?_
    refine kG.icmp_ge 76 56 dX5_readAll_53 (by decide) rfl (fun h53 => ?_) (fun h53 => ?_)
    · exact ra_76 Γ hfn fs tx hin e hr rs hH hP (fun hl z => absurd z.2 (by omega))
    · exact absurd (nI_le (by omega) (by omega)) h53
  | succ m ih =>
    intro i μ D hm hP fs tx hin e hr rs hH
    refine kG.aload_n 49 dX5_readAll_48 rfl rfl ?_
    refine gG.getI 52 dX5_readAll_49 fX5_126 ⟨by decide, by decide⟩ rfl rfl rfl ?_
    rw [rs.2.1]
    refine kG.iconst (v := nI 4) 53 dX5_readAll_52 (by decide) rfl ?_
    refine kG.icmp_ge 76 56 dX5_readAll_53 (by decide) rfl (fun h53 => ?_) (fun h53 => ?_)
    · exact absurd h53 (nI_ge (by omega) (by omega))
    · refine kG.aload_n 57 dX5_readAll_56 rfl rfl ?_
      refine kG.iload_n 58 dX5_readAll_57 rfl rfl ?_
      refine kG.bipush (v := nI 59) 60 dX5_readAll_58 (by decide) rfl ?_
      refine gG.callV 63 dX5_readAll_60 lX5_138 vX5_isSign (m_sgn Γ tx hin hfn e (nI 59)) rfl rfl ⟨by decide, by decide⟩ rfl ⟨by decide, rfl⟩ ⟨by decide, by decide⟩ (Nat.le_of_ble_eq_true rfl) rfl (fun r60 μ60 q60 hc60 => ?_)
      obtain ⟨rfl, hd⟩ := hc60
      rcases hd with ⟨rfl, rfl, hne⟩ | ⟨rfl, av, hlt, hsg⟩
      · refine kG.if_eq 76 66 dX5_readAll_63 (by decide) rfl (fun h63 => ?_) (fun h63 => ?_)
        · exact ra_76 Γ hfn fs tx hin e hr rs hH hP (fun hl z => hne hl z.1)
        · exact absurd rfl h63
      · refine kG.if_eq 76 66 dX5_readAll_63 (by decide) rfl (fun h63 => ?_) (fun h63 => ?_)
        · exact absurd h63 (by decide)
        · refine kG.aload_n 67 dX5_readAll_66 rfl rfl ?_
          refine kG.iload_n 68 dX5_readAll_67 rfl rfl ?_
          refine gG.callV 71 dX5_readAll_68 lX5_145 vX5_readOneHouse (m_readHouse Γ (TX_AV tx av) (by omega) hfn av.1 (rn_s hr (t_3h ⟨hsg, hP, by omega⟩)) (RS_AV rs av) (by omega)) rfl rfl ⟨by decide, by decide⟩ rfl ⟨by decide, rfl⟩ ⟨by decide, by decide⟩ (Nat.le_of_ble_eq_true rfl) rfl (fun r68 μ68 q68 hc68 => ?_)
          obtain ⟨rfl, fs2, ok, rfl, hF, hT⟩ := hc68
          refine kG.if_ne 48 74 dX5_readAll_71 (by decide) rfl (fun h71 => ?_) (fun h71 => ?_)
          · obtain ⟨i', hi', e', D', hr', rs', eH, eP⟩ := hT (b2_n0.mp h71)
            exact ih i' _ D' (by omega) (by omega) (FS_tr (FS_AV fs av) fs2) (TX_FS (TX_AV tx av) fs2) hi' e' hr' rs' (by omega)
          · refine kG.iconst (v := nI 0) 75 dX5_readAll_74 (by decide) rfl ?_
            refine gG.zret dX5_readAll_75 rfl rfl ?_
            exact ⟨rfl, FS_tr (FS_AV fs av) fs2, false, rfl, fun _ => hF (b2_0.mp h71), fun z => by cases z⟩
set_option maxHeartbeats 4000000 in
theorem m_readAll (Γ : kGm) {c : Nat → Int32} {n f : Nat} {μ : kM} {q : kq4} (tx : TX c f n μ) (hfn : f + n ≤ 240) (e0 : μ 49 16 = nI f) : gC Γ yX5_readAll mX5_readAll 4 [.ref 49, .int (nI (f + n))] μ q (RD c n f μ q (fun i' μ' => ∃ s, rn c n = some s ∧ whl s = true ∧ RS s.2.2.1 s.2.2.2 μ')) := by
  refine gC.ofG (n := 0) ⟨by decide +kernel, rfl, rfl, by decide⟩ (Nat.le_of_ble_eq_true rfl) ?_
  show gG Γ mX5_readAll 4 0 [some (.ref 49), some (.int (nI (f + n)))] [] μ q _
  refine kG.aload_n 1 dX5_readAll_0 rfl rfl ?_
  refine kG.iconst (v := nI 0) 2 dX5_readAll_1 (by decide) rfl ?_
  refine gG.putI 5 dX5_readAll_2 fX5_126 ⟨by decide, by decide⟩ rfl rfl rfl ⟨rfl, rfl⟩ rfl ?_
  refine kG.aload_n 6 dX5_readAll_5 rfl rfl ?_
  refine kG.iconst (v := nI 0) 7 dX5_readAll_6 (by decide) rfl ?_
  refine gG.putI 10 dX5_readAll_7 fX5_129 ⟨by decide, by decide⟩ rfl rfl rfl ⟨rfl, rfl⟩ rfl ?_
  have fs : FS μ (uI (uI μ 49 18 (nI 0)) 49 19 (nI 0)) := FS_49 (FS_49 (FS_r _) (by decide)) (by decide)
  have tx1 := TX_FS tx fs
  have e : uI (uI μ 49 18 (nI 0)) 49 19 (nI 0) 49 16 = nI (f + 0) := by rw [uI_ne (Or.inr (by decide)), uI_ne (Or.inr (by decide))]; exact e0
  have u18 : uI (uI μ 49 18 (nI 0)) 49 19 (nI 0) 49 18 = nI 0 := by rw [uI_ne (Or.inr (by decide)), uI_same]
  have u19 : uI (uI μ 49 18 (nI 0)) 49 19 (nI 0) 49 19 = nI 0 := uI_same _ _ _ _
  generalize uI (uI μ 49 18 (nI 0)) 49 19 (nI 0) = μ1 at *
  refine kG.aload_n 11 dX5_readAll_10 rfl rfl ?_
  refine kG.iload_n 12 dX5_readAll_11 rfl rfl ?_
  refine kG.bipush (v := nI 117) 14 dX5_readAll_12 (by decide) rfl ?_
  refine gG.callV 17 dX5_readAll_14 lX5_138 vX5_isSign (m_sgn Γ tx1 (Nat.zero_le _) hfn e (nI 117)) rfl rfl ⟨by decide, by decide⟩ rfl ⟨by decide, rfl⟩ ⟨by decide, by decide⟩ (Nat.le_of_ble_eq_true rfl) rfl (fun r14 μ14 q14 hc14 => ?_)
  obtain ⟨rfl, hd⟩ := hc14
  rcases hd with ⟨rfl, rfl, hne⟩ | ⟨rfl, av, hlt, hsg⟩
  · refine kG.if_eq 46 20 dX5_readAll_17 (by decide) rfl (fun h17 => ?_) (fun h17 => ?_)
    · refine kG.iconst (v := nI 0) 47 dX5_readAll_46 (by decide) rfl ?_
      refine gG.zret dX5_readAll_47 rfl rfl ?_
      exact ⟨rfl, fs, false, rfl, fun _ => ⟨0, Nat.zero_le _, e, ff_at (s := (0, 0, 0, D0)) rfl (Nat.zero_le _) rfl (fun hl => if_neg (hne hl))⟩, fun z => by cases z⟩
    · exact absurd rfl h17
  · refine kG.if_eq 46 20 dX5_readAll_17 (by decide) rfl (fun h17 => ?_) (fun h17 => ?_)
    · exact absurd h17 (by decide)
    · refine kG.aload_n 21 dX5_readAll_20 rfl rfl ?_
      refine kG.iload_n 22 dX5_readAll_21 rfl rfl ?_
      refine gG.callV 25 dX5_readAll_22 lX5_142 vX5_readTheSeam (m_readSeam Γ (TX_AV tx1 av) (by omega) hfn av.1 (rn_s (s := (0, 0, 0, D0)) rfl (if_pos hsg))) rfl rfl ⟨by decide, by decide⟩ rfl ⟨by decide, rfl⟩ ⟨by decide, by decide⟩ (Nat.le_of_ble_eq_true rfl) rfl (fun r22 μ22 q22 hc22 => ?_)
      obtain ⟨rfl, fs2, ok, rfl, hF, hT⟩ := hc22
      refine kG.if_eq 46 28 dX5_readAll_25 (by decide) rfl (fun h25 => ?_) (fun h25 => ?_)
      · have ef := hF (b2_0.mp h25)
        refine kG.iconst (v := nI 0) 47 dX5_readAll_46 (by decide) rfl ?_
        refine gG.zret dX5_readAll_47 rfl rfl ?_
        exact ⟨rfl, FS_tr (FS_AV fs av) fs2, false, rfl, fun _ => ef, fun z => by cases z⟩
      · obtain ⟨i', hi', e', sn, hr', g17, g18, g19, g61, g62⟩ := hT (b2_n0.mp h25)
        have fs3 := FS_tr (FS_AV fs av) fs2
        have tx3 := TX_FS (TX_AV tx1 av) fs2
        have rs : RS sn D0 μ22 := ⟨g17, by rw [g18, av.2.1 18 (by decide)]; exact u18, by rw [g19, av.2.1 19 (by decide)]; exact u19, fun h hh => absurd hh (Nat.not_lt_zero _), fun h hh => absurd hh (Nat.not_lt_zero _)⟩
        refine kG.aload_n 29 dX5_readAll_28 rfl rfl ?_
        refine kG.iload_n 30 dX5_readAll_29 rfl rfl ?_
        refine kG.bipush (v := nI 59) 32 dX5_readAll_30 (by decide) rfl ?_
        refine gG.callV 35 dX5_readAll_32 lX5_138 vX5_isSign (m_sgn Γ tx3 hi' hfn e' (nI 59)) rfl rfl ⟨by decide, by decide⟩ rfl ⟨by decide, rfl⟩ ⟨by decide, by decide⟩ (Nat.le_of_ble_eq_true rfl) rfl (fun r32 μ32 q32 hc32 => ?_)
        obtain ⟨rfl, hd3⟩ := hc32
        rcases hd3 with ⟨rfl, rfl, hne⟩ | ⟨rfl, av3, hlt3, hsg3⟩
        · refine kG.if_eq 46 38 dX5_readAll_35 (by decide) rfl (fun h35 => ?_) (fun h35 => ?_)
          · refine kG.iconst (v := nI 0) 47 dX5_readAll_46 (by decide) rfl ?_
            refine gG.zret dX5_readAll_47 rfl rfl ?_
            exact ⟨rfl, fs3, false, rfl, fun _ => ⟨i', hi', e', ff_at hr' hi' rfl (fun hl => n_3 (fun z => hne hl z.1) (fun z => absurd z.2.1 (by decide)))⟩, fun z => by cases z⟩
          · exact absurd rfl h35
        · refine kG.if_eq 46 38 dX5_readAll_35 (by decide) rfl (fun h35 => ?_) (fun h35 => ?_)
          · exact absurd h35 (by decide)
          · refine kG.aload_n 39 dX5_readAll_38 rfl rfl ?_
            refine kG.iload_n 40 dX5_readAll_39 rfl rfl ?_
            refine gG.callV 43 dX5_readAll_40 lX5_145 vX5_readOneHouse (m_readHouse Γ (TX_AV tx3 av3) (by omega) hfn av3.1 (rn_s hr' (t_3h ⟨hsg3, rfl, by decide⟩)) (RS_AV rs av3) (by decide)) rfl rfl ⟨by decide, by decide⟩ rfl ⟨by decide, rfl⟩ ⟨by decide, by decide⟩ (Nat.le_of_ble_eq_true rfl) rfl (fun r40 μ40 q40 hc40 => ?_)
            obtain ⟨rfl, fs4, ok4, rfl, hF4, hT4⟩ := hc40
            refine kG.if_ne 48 46 dX5_readAll_43 (by decide) rfl (fun h43 => ?_) (fun h43 => ?_)
            · obtain ⟨i2, hi2, e2, D', hr2, rs2, eH, eP⟩ := hT4 (b2_n0.mp h43)
              have eH : dH D' = 1 := eH
              have eP : dP D' = 0 := eP
              exact ra_h Γ hfn 3 i2 _ D' (by omega) eP (FS_tr (FS_AV fs3 av3) fs4) (TX_FS (TX_AV tx3 av3) fs4) hi2 e2 hr2 rs2 (by omega)
            · refine kG.iconst (v := nI 0) 47 dX5_readAll_46 (by decide) rfl ?_
              refine gG.zret dX5_readAll_47 rfl rfl ?_
              exact ⟨rfl, FS_tr (FS_AV fs3 av3) fs4, false, rfl, fun _ => hF4 (b2_0.mp h43), fun z => by cases z⟩
