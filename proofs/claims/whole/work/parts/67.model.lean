set_option maxHeartbeats 4000000 in
theorem m_readSeam (Γ : kGm) {c : Nat → Int32} {n f i : Nat} {μ : kM} {q : kq4} (tx : TX c f n μ) (hin : i ≤ n) (hfn : f + n ≤ 240) (e : μ 49 16 = nI (f + i)) (hr : rn c i = some (0, 1, 0, D0)) : gC Γ yX5_readTheSeam mX5_readTheSeam 3 [.ref 49, .int (nI (f + n))] μ q (RD c n f μ q (fun i' μ' => ∃ sn, rn c i' = some (3, 0, sn, D0) ∧ μ' 49 17 = nI sn ∧ μ' 49 18 = μ 49 18 ∧ μ' 49 19 = μ 49 19 ∧ μ' 61 = μ 61 ∧ μ' 62 = μ 62)) := by
  refine gC.ofG (n := 0) ⟨by decide +kernel, rfl, rfl, by decide⟩ (Nat.le_of_ble_eq_true rfl) ?_
  show gG Γ mX5_readTheSeam 3 0 [some (.ref 49), some (.int (nI (f + n))), none, none] [] μ q _
  refine kG.aload_n 1 dX5_readTheSeam_0 rfl rfl ?_
  refine kG.iload_n 2 dX5_readTheSeam_1 rfl rfl ?_
  refine kG.iconst (v := nI 0) 3 dX5_readTheSeam_2 (by decide) rfl ?_
  refine kG.iconst (v := nI 1) 4 dX5_readTheSeam_3 (by decide) rfl ?_
  refine gG.callV 7 dX5_readTheSeam_4 lX5_151 vX5_digit (m_dig Γ tx hin hfn e hr (g := fun d => (0, 2, 10 * d, D0)) 0 1 (by decide) (by decide) rfl (fun x d a _ b => t_A a b) (fun x => n_A)) rfl rfl ⟨by decide, by decide⟩ rfl ⟨by decide, rfl⟩ ⟨by decide, by decide⟩ (Nat.le_of_ble_eq_true rfl) rfl (fun r4 μ4 q4 hc4 => ?_)
  obtain ⟨rfl, hd⟩ := hc4
  rcases hd with ⟨rfl, rfl, hff⟩ | ⟨t, rfl, av, hlt, hlo, hhi, hr1⟩
  · refine kG.istore_n 8 dX5_readTheSeam_7 (by decide) rfl rfl ?_
    dsimp only [List.set]
    refine kG.iload_n 9 dX5_readTheSeam_8 rfl rfl ?_
    refine kG.bipush (v := (-9)) 11 dX5_readTheSeam_9 (by decide) rfl ?_
    refine kG.icmp_ne 16 14 dX5_readTheSeam_11 (by decide) rfl (fun h11 => ?_) (fun h11 => ?_)
    · exact absurd rfl h11
    · refine kG.iconst (v := nI 0) 15 dX5_readTheSeam_14 (by decide) rfl ?_
      refine gG.zret dX5_readTheSeam_15 rfl rfl ?_
      exact ⟨rfl, FS_r _, false, rfl, fun _ => ⟨i, hin, e, hff⟩, fun z => by cases z⟩
  · refine kG.istore_n 8 dX5_readTheSeam_7 (by decide) rfl rfl ?_
    dsimp only [List.set]
    refine kG.iload_n 9 dX5_readTheSeam_8 rfl rfl ?_
    refine kG.bipush (v := (-9)) 11 dX5_readTheSeam_9 (by decide) rfl ?_
    refine kG.icmp_ne 16 14 dX5_readTheSeam_11 (by decide) rfl (fun h11 => ?_) (fun h11 => ?_)
    · have hr1 : rn c (i + 1) = some (0, 2, 10 * t, D0) := hr1
      refine kG.aload_n 17 dX5_readTheSeam_16 rfl rfl ?_
      refine kG.iload_n 18 dX5_readTheSeam_17 rfl rfl ?_
      refine kG.iload_n 19 dX5_readTheSeam_18 rfl rfl ?_
      refine kG.if_ne 26 22 dX5_readTheSeam_19 (by decide) rfl (fun h19 => ?_) (fun h19 => ?_)
      · have et : t = 1 := by
          have : ¬ t = 0 := fun z => h19 (by rw [z]; rfl)
          omega
        refine kG.iconst (v := nI 0) 27 dX5_readTheSeam_26 (by decide) rfl ?_
        refine kG.iload_n 28 dX5_readTheSeam_27 rfl rfl ?_
        refine kG.if_ne 36 31 dX5_readTheSeam_28 (by decide) rfl (fun h28 => ?_) (fun h28 => ?_)
        · refine kG.iconst (v := nI 3) 37 dX5_readTheSeam_36 (by decide) rfl ?_
          refine gG.callV 40 dX5_readTheSeam_37 lX5_151 vX5_digit (m_dig Γ (TX_AV tx av) (by omega) hfn av.1 hr1 (g := fun d => (3, 0, 10 * t + d, D0)) 0 3 (by decide) (by decide) rfl (fun x d a b c => t_B (Or.inr ⟨et, rfl, rfl⟩) a b c) (fun x => n_B (Or.inr ⟨et, rfl, rfl⟩))) rfl rfl ⟨by decide, by decide⟩ rfl ⟨by decide, rfl⟩ ⟨by decide, by decide⟩ (Nat.le_of_ble_eq_true rfl) rfl (fun r37 μ37 q37 hc37 => ?_)
          obtain ⟨rfl, hd2⟩ := hc37
          rcases hd2 with ⟨rfl, rfl, hff⟩ | ⟨d, rfl, av2, hlt2, hlo2, hhi2, hr2⟩
          · refine kG.istore_n 41 dX5_readTheSeam_40 (by decide) rfl rfl ?_
            dsimp only [List.set]
            refine kG.aload_n 42 dX5_readTheSeam_41 rfl rfl ?_
            refine kG.bipush (v := nI 10) 44 dX5_readTheSeam_42 (by decide) rfl ?_
            refine kG.iload_n 45 dX5_readTheSeam_44 rfl rfl ?_
            refine kG.imul 46 dX5_readTheSeam_45 rfl ?_
            refine kG.iload_n 47 dX5_readTheSeam_46 rfl rfl ?_
            refine kG.iadd 48 dX5_readTheSeam_47 rfl ?_
            refine gG.putI 51 dX5_readTheSeam_48 fX5_120 ⟨by decide, by decide⟩ rfl rfl rfl ⟨rfl, rfl⟩ rfl ?_
            refine kG.iload_n 52 dX5_readTheSeam_51 rfl rfl ?_
            refine kG.bipush (v := (-9)) 54 dX5_readTheSeam_52 (by decide) rfl ?_
            refine kG.icmp_eq 61 57 dX5_readTheSeam_54 (by decide) rfl (fun h54 => ?_) (fun h54 => ?_)
            · refine kG.iconst (v := nI 0) 62 dX5_readTheSeam_61 (by decide) rfl ?_
              refine gG.zret dX5_readTheSeam_62 rfl rfl ?_
              exact ⟨rfl, FS_49 (FS_AV (FS_r _) av) (by decide), false, rfl, fun _ => ⟨i + 1, by omega, (uI_ne (Or.inr (by decide))).trans av.1, hff⟩, fun z => by cases z⟩
            · exact absurd rfl h54
          · refine kG.istore_n 41 dX5_readTheSeam_40 (by decide) rfl rfl ?_
            dsimp only [List.set]
            refine kG.aload_n 42 dX5_readTheSeam_41 rfl rfl ?_
            refine kG.bipush (v := nI 10) 44 dX5_readTheSeam_42 (by decide) rfl ?_
            refine kG.iload_n 45 dX5_readTheSeam_44 rfl rfl ?_
            refine kG.imul 46 dX5_readTheSeam_45 rfl ?_
            rw [pk_mul]
            refine kG.iload_n 47 dX5_readTheSeam_46 rfl rfl ?_
            refine kG.iadd 48 dX5_readTheSeam_47 rfl ?_
            rw [nI_add]
            refine gG.putI 51 dX5_readTheSeam_48 fX5_120 ⟨by decide, by decide⟩ rfl rfl rfl ⟨rfl, rfl⟩ rfl ?_
            refine kG.iload_n 52 dX5_readTheSeam_51 rfl rfl ?_
            refine kG.bipush (v := (-9)) 54 dX5_readTheSeam_52 (by decide) rfl ?_
            refine kG.icmp_eq 61 57 dX5_readTheSeam_54 (by decide) rfl (fun h54 => ?_) (fun h54 => ?_)
            · exact absurd h54 (nI_m9 (by omega))
            · refine kG.iconst (v := nI 1) 58 dX5_readTheSeam_57 (by decide) rfl ?_
              refine kG.goto 62 dX5_readTheSeam_58 (by decide) ?_
              refine gG.zret dX5_readTheSeam_62 rfl rfl ?_
              refine ⟨rfl, FS_49 (FS_AV (FS_AV (FS_r _) av) av2) (by decide), true, rfl, fun z => absurd z (by decide), fun _ => ⟨i + 1 + 1, by omega, (uI_ne (Or.inr (by decide))).trans av2.1, 10 * t + d, hr2, uI_same _ _ _ _, ?_, ?_, ?_, ?_⟩⟩
              · rw [uI_ne (Or.inr (by decide)), av2.2.1 18 (by decide), av.2.1 18 (by decide)]
              · rw [uI_ne (Or.inr (by decide)), av2.2.1 19 (by decide), av.2.1 19 (by decide)]
              · rw [uI_off (by decide), av2.2.2 61 (by decide), av.2.2 61 (by decide)]
              · rw [uI_off (by decide), av2.2.2 62 (by decide), av.2.2 62 (by decide)]
        · exact absurd h28 h19
      · have et : t = 0 := (nI_eq (b := 0) (by omega) (by decide)).mp h19
        refine kG.iconst (v := nI 1) 23 dX5_readTheSeam_22 (by decide) rfl ?_
        refine kG.goto 27 dX5_readTheSeam_23 (by decide) ?_
        refine kG.iload_n 28 dX5_readTheSeam_27 rfl rfl ?_
        refine kG.if_ne 36 31 dX5_readTheSeam_28 (by decide) rfl (fun h28 => ?_) (fun h28 => ?_)
        · exact absurd h19 h28
        · refine kG.bipush (v := nI 9) 33 dX5_readTheSeam_31 (by decide) rfl ?_
          refine kG.goto 37 dX5_readTheSeam_33 (by decide) ?_
          refine gG.callV 40 dX5_readTheSeam_37 lX5_151 vX5_digit (m_dig Γ (TX_AV tx av) (by omega) hfn av.1 hr1 (g := fun d => (3, 0, 10 * t + d, D0)) 1 9 (by decide) (by decide) rfl (fun x d a b c => t_B (Or.inl ⟨et, rfl, rfl⟩) a b c) (fun x => n_B (Or.inl ⟨et, rfl, rfl⟩))) rfl rfl ⟨by decide, by decide⟩ rfl ⟨by decide, rfl⟩ ⟨by decide, by decide⟩ (Nat.le_of_ble_eq_true rfl) rfl (fun r37 μ37 q37 hc37 => ?_)
          obtain ⟨rfl, hd2⟩ := hc37
          rcases hd2 with ⟨rfl, rfl, hff⟩ | ⟨d, rfl, av2, hlt2, hlo2, hhi2, hr2⟩
          · refine kG.istore_n 41 dX5_readTheSeam_40 (by decide) rfl rfl ?_
            dsimp only [List.set]
            refine kG.aload_n 42 dX5_readTheSeam_41 rfl rfl ?_
            refine kG.bipush (v := nI 10) 44 dX5_readTheSeam_42 (by decide) rfl ?_
            refine kG.iload_n 45 dX5_readTheSeam_44 rfl rfl ?_
            refine kG.imul 46 dX5_readTheSeam_45 rfl ?_
            refine kG.iload_n 47 dX5_readTheSeam_46 rfl rfl ?_
            refine kG.iadd 48 dX5_readTheSeam_47 rfl ?_
            refine gG.putI 51 dX5_readTheSeam_48 fX5_120 ⟨by decide, by decide⟩ rfl rfl rfl ⟨rfl, rfl⟩ rfl ?_
            refine kG.iload_n 52 dX5_readTheSeam_51 rfl rfl ?_
            refine kG.bipush (v := (-9)) 54 dX5_readTheSeam_52 (by decide) rfl ?_
            refine kG.icmp_eq 61 57 dX5_readTheSeam_54 (by decide) rfl (fun h54 => ?_) (fun h54 => ?_)
            · refine kG.iconst (v := nI 0) 62 dX5_readTheSeam_61 (by decide) rfl ?_
              refine gG.zret dX5_readTheSeam_62 rfl rfl ?_
              exact ⟨rfl, FS_49 (FS_AV (FS_r _) av) (by decide), false, rfl, fun _ => ⟨i + 1, by omega, (uI_ne (Or.inr (by decide))).trans av.1, hff⟩, fun z => by cases z⟩
            · exact absurd rfl h54
          · refine kG.istore_n 41 dX5_readTheSeam_40 (by decide) rfl rfl ?_
            dsimp only [List.set]
            refine kG.aload_n 42 dX5_readTheSeam_41 rfl rfl ?_
            refine kG.bipush (v := nI 10) 44 dX5_readTheSeam_42 (by decide) rfl ?_
            refine kG.iload_n 45 dX5_readTheSeam_44 rfl rfl ?_
            refine kG.imul 46 dX5_readTheSeam_45 rfl ?_
            rw [pk_mul]
            refine kG.iload_n 47 dX5_readTheSeam_46 rfl rfl ?_
            refine kG.iadd 48 dX5_readTheSeam_47 rfl ?_
            rw [nI_add]
            refine gG.putI 51 dX5_readTheSeam_48 fX5_120 ⟨by decide, by decide⟩ rfl rfl rfl ⟨rfl, rfl⟩ rfl ?_
            refine kG.iload_n 52 dX5_readTheSeam_51 rfl rfl ?_
            refine kG.bipush (v := (-9)) 54 dX5_readTheSeam_52 (by decide) rfl ?_
            refine kG.icmp_eq 61 57 dX5_readTheSeam_54 (by decide) rfl (fun h54 => ?_) (fun h54 => ?_)
            · exact absurd h54 (nI_m9 (by omega))
            · refine kG.iconst (v := nI 1) 58 dX5_readTheSeam_57 (by decide) rfl ?_
              refine kG.goto 62 dX5_readTheSeam_58 (by decide) ?_
              refine gG.zret dX5_readTheSeam_62 rfl rfl ?_
              refine ⟨rfl, FS_49 (FS_AV (FS_AV (FS_r _) av) av2) (by decide), true, rfl, fun z => absurd z (by decide), fun _ => ⟨i + 1 + 1, by omega, (uI_ne (Or.inr (by decide))).trans av2.1, 10 * t + d, hr2, uI_same _ _ _ _, ?_, ?_, ?_, ?_⟩⟩
              · rw [uI_ne (Or.inr (by decide)), av2.2.1 18 (by decide), av.2.1 18 (by decide)]
              · rw [uI_ne (Or.inr (by decide)), av2.2.1 19 (by decide), av.2.1 19 (by decide)]
              · rw [uI_off (by decide), av2.2.2 61 (by decide), av.2.2 61 (by decide)]
              · rw [uI_off (by decide), av2.2.2 62 (by decide), av.2.2 62 (by decide)]
    · exact absurd h11 (nI_m9 (by omega))
set_option maxHeartbeats 4000000 in
theorem m_readHouse (Γ : kGm) {c : Nat → Int32} {n f i : Nat} {μ : kM} {q : kq4} (tx : TX c f n μ) (hin : i ≤ n) (hfn : f + n ≤ 240) (e : μ 49 16 = nI (f + i)) {sn : Nat} {D : Dt} (hr : rn c i = some (1, 1, sn, (dH D + 1, D.2))) (rs : RS sn D μ) (hH : dH D < 4) : gC Γ yX5_readOneHouse mX5_readOneHouse 3 [.ref 49, .int (nI (f + n))] μ q (RD c n f μ q (fun i' μ' => ∃ D', rn c i' = some (3, 0, sn, D') ∧ RS sn D' μ' ∧ dH D' = dH D + 1 ∧ dP D' = dP D)) := by
  refine gC.ofG (n := 0) ⟨by decide +kernel, rfl, rfl, by decide⟩ (Nat.le_of_ble_eq_true rfl) ?_
  show gG Γ mX5_readOneHouse 3 0 [some (.ref 49), some (.int (nI (f + n))), none, none, none] [] μ q _
  refine kG.aload_n 1 dX5_readOneHouse_0 rfl rfl ?_
  refine kG.iload_n 2 dX5_readOneHouse_1 rfl rfl ?_
  refine kG.iconst (v := nI 0) 3 dX5_readOneHouse_2 (by decide) rfl ?_
  refine kG.bipush (v := nI 9) 5 dX5_readOneHouse_3 (by decide) rfl ?_
  refine gG.callV 8 dX5_readOneHouse_5 lX5_151 vX5_digit (m_dig Γ tx hin hfn e hr (g := fun d => (1, 2, sn, uCo (dH D + 1, D.2) (10 * d))) 0 9 (by decide) (by decide) rfl (fun x d a _ _ => t_C a) (fun x => n_C)) rfl rfl ⟨by decide, by decide⟩ rfl ⟨by decide, rfl⟩ ⟨by decide, by decide⟩ (Nat.le_of_ble_eq_true rfl) rfl (fun r5 μ5 q5 hc5 => ?_)
  obtain ⟨rfl, hd⟩ := hc5
  rcases hd with ⟨rfl, rfl, hff⟩ | ⟨d1, rfl, av, hlt, hlo, hhi, hr1⟩
  · refine kG.istore_n 9 dX5_readOneHouse_8 (by decide) rfl rfl ?_
    dsimp only [List.set]
    refine kG.iload_n 10 dX5_readOneHouse_9 rfl rfl ?_
    refine kG.bipush (v := (-9)) 12 dX5_readOneHouse_10 (by decide) rfl ?_
    refine kG.icmp_ne 17 15 dX5_readOneHouse_12 (by decide) rfl (fun h12 => ?_) (fun h12 => ?_)
    · exact absurd rfl h12
    · refine kG.iconst (v := nI 0) 16 dX5_readOneHouse_15 (by decide) rfl ?_
      refine gG.zret dX5_readOneHouse_16 rfl rfl ?_
      exact ⟨rfl, FS_r _, false, rfl, fun _ => ⟨i, hin, e, hff⟩, fun z => by cases z⟩
  · refine kG.istore_n 9 dX5_readOneHouse_8 (by decide) rfl rfl ?_
    dsimp only [List.set]
    refine kG.iload_n 10 dX5_readOneHouse_9 rfl rfl ?_
    refine kG.bipush (v := (-9)) 12 dX5_readOneHouse_10 (by decide) rfl ?_
    refine kG.icmp_ne 17 15 dX5_readOneHouse_12 (by decide) rfl (fun h12 => ?_) (fun h12 => ?_)
    · have hr1 : rn c (i + 1) = some (1, 2, sn, (uCo (dH D + 1, D.2) (10 * d1))) := hr1
      refine kG.aload_n 18 dX5_readOneHouse_17 rfl rfl ?_
      refine kG.iload_n 19 dX5_readOneHouse_18 rfl rfl ?_
      refine kG.iconst (v := nI 0) 20 dX5_readOneHouse_19 (by decide) rfl ?_
      refine kG.bipush (v := nI 9) 22 dX5_readOneHouse_20 (by decide) rfl ?_
      refine gG.callV 25 dX5_readOneHouse_22 lX5_151 vX5_digit (m_dig Γ (TX_AV tx av) (by omega) hfn av.1 hr1 (g := fun d => (1, 3, sn, uCo (uCo (dH D + 1, D.2) (10 * d1)) (dco (uCo (dH D + 1, D.2) (10 * d1)) (dH (uCo (dH D + 1, D.2) (10 * d1)) - 1) + d))) 0 9 (by decide) (by decide) rfl (fun x d a _ _ => t_D a) (fun x => n_D)) rfl rfl ⟨by decide, by decide⟩ rfl ⟨by decide, rfl⟩ ⟨by decide, by decide⟩ (Nat.le_of_ble_eq_true rfl) rfl (fun r22 μ22 q22 hc22 => ?_)
      obtain ⟨rfl, hd2⟩ := hc22
      rcases hd2 with ⟨rfl, rfl, hff⟩ | ⟨d2, rfl, av2, hlt2, hlo2, hhi2, hr2⟩
      · refine kG.istore_n 26 dX5_readOneHouse_25 (by decide) rfl rfl ?_
        dsimp only [List.set]
        refine kG.iload_n 27 dX5_readOneHouse_26 rfl rfl ?_
        refine kG.bipush (v := (-9)) 29 dX5_readOneHouse_27 (by decide) rfl ?_
        refine kG.icmp_ne 34 32 dX5_readOneHouse_29 (by decide) rfl (fun h29 => ?_) (fun h29 => ?_)
        · exact absurd rfl h29
        · refine kG.iconst (v := nI 0) 33 dX5_readOneHouse_32 (by decide) rfl ?_
          refine gG.zret dX5_readOneHouse_33 rfl rfl ?_
          exact ⟨rfl, FS_AV (FS_r _) av, false, rfl, fun _ => ⟨i + 1, by omega, av.1, hff⟩, fun z => by cases z⟩
      · refine kG.istore_n 26 dX5_readOneHouse_25 (by decide) rfl rfl ?_
        dsimp only [List.set]
        refine kG.iload_n 27 dX5_readOneHouse_26 rfl rfl ?_
        refine kG.bipush (v := (-9)) 29 dX5_readOneHouse_27 (by decide) rfl ?_
        refine kG.icmp_ne 34 32 dX5_readOneHouse_29 (by decide) rfl (fun h29 => ?_) (fun h29 => ?_)
        · have hr2 : rn c (i + 1 + 1) = some (1, 3, sn, (uCo (uCo (dH D + 1, D.2) (10 * d1)) (dco (uCo (dH D + 1, D.2) (10 * d1)) (dH (uCo (dH D + 1, D.2) (10 * d1)) - 1) + d2))) := hr2
          refine kG.aload_n 35 dX5_readOneHouse_34 rfl rfl ?_
          refine kG.iload_n 36 dX5_readOneHouse_35 rfl rfl ?_
          refine kG.iconst (v := nI 1) 37 dX5_readOneHouse_36 (by decide) rfl ?_
          refine kG.bipush (v := nI 9) 39 dX5_readOneHouse_37 (by decide) rfl ?_
          refine gG.callV 42 dX5_readOneHouse_39 lX5_151 vX5_digit (m_dig Γ (TX_AV (TX_AV tx av) av2) (by omega) hfn av2.1 hr2 (g := fun d => (3, 0, sn, uBe (uCo (uCo (dH D + 1, D.2) (10 * d1)) (dco (uCo (dH D + 1, D.2) (10 * d1)) (dH (uCo (dH D + 1, D.2) (10 * d1)) - 1) + d2)) d)) 1 9 (by decide) (by decide) rfl (fun x d a b _ => t_E a b) (fun x => n_E)) rfl rfl ⟨by decide, by decide⟩ rfl ⟨by decide, rfl⟩ ⟨by decide, by decide⟩ (Nat.le_of_ble_eq_true rfl) rfl (fun r39 μ39 q39 hc39 => ?_)
          obtain ⟨rfl, hd3⟩ := hc39
          rcases hd3 with ⟨rfl, rfl, hff⟩ | ⟨d3, rfl, av3, hlt3, hlo3, hhi3, hr3⟩
          · refine kG.istore 44 dX5_readOneHouse_42 (by decide) rfl rfl ?_
            dsimp only [List.set]
            refine kG.iload 46 dX5_readOneHouse_44 rfl rfl ?_
            refine kG.bipush (v := (-9)) 48 dX5_readOneHouse_46 (by decide) rfl ?_
            refine kG.icmp_ne 53 51 dX5_readOneHouse_48 (by decide) rfl (fun h48 => ?_) (fun h48 => ?_)
            · exact absurd rfl h48
            · refine kG.iconst (v := nI 0) 52 dX5_readOneHouse_51 (by decide) rfl ?_
              refine gG.zret dX5_readOneHouse_52 rfl rfl ?_
              exact ⟨rfl, FS_AV (FS_AV (FS_r _) av) av2, false, rfl, fun _ => ⟨i + 1 + 1, by omega, av2.1, hff⟩, fun z => by cases z⟩
          · refine kG.istore 44 dX5_readOneHouse_42 (by decide) rfl rfl ?_
            dsimp only [List.set]
            refine kG.iload 46 dX5_readOneHouse_44 rfl rfl ?_
            refine kG.bipush (v := (-9)) 48 dX5_readOneHouse_46 (by decide) rfl ?_
            refine kG.icmp_ne 53 51 dX5_readOneHouse_48 (by decide) rfl (fun h48 => ?_) (fun h48 => ?_)
            · have rs3 := RS_AV (RS_AV (RS_AV rs av) av2) av3
              refine kG.aload_n 54 dX5_readOneHouse_53 rfl rfl ?_
              refine gG.getP 57 dX5_readOneHouse_54 fX5_44 ⟨by decide, by decide⟩ rfl rfl rfl rfl ?_
              refine kG.iconst (v := nI 2) 58 dX5_readOneHouse_57 (by decide) rfl ?_
              refine kG.aload_n 59 dX5_readOneHouse_58 rfl rfl ?_
              refine gG.getI 62 dX5_readOneHouse_59 fX5_126 ⟨by decide, by decide⟩ rfl rfl rfl ?_
              rw [rs3.2.1]
              refine kG.imul 63 dX5_readOneHouse_62 rfl ?_
              rw [pk_mul]
              refine kG.bipush (v := nI 10) 65 dX5_readOneHouse_63 (by decide) rfl ?_
              refine kG.iload_n 66 dX5_readOneHouse_65 rfl rfl ?_
              refine kG.imul 67 dX5_readOneHouse_66 rfl ?_
              rw [pk_mul]
              refine kG.iload_n 68 dX5_readOneHouse_67 rfl rfl ?_
              refine kG.iadd 69 dX5_readOneHouse_68 rfl ?_
              rw [nI_add]
              refine gG.iast (n := 8) (2 * dH D) 70 dX5_readOneHouse_69 ⟨by decide, by decide⟩ rfl rfl (by omega) (by decide) rfl ?_
              refine kG.aload_n 71 dX5_readOneHouse_70 rfl rfl ?_
              refine gG.getP 74 dX5_readOneHouse_71 fX5_44 ⟨by decide, by decide⟩ rfl rfl rfl rfl ?_
              refine kG.iconst (v := nI 2) 75 dX5_readOneHouse_74 (by decide) rfl ?_
              refine kG.aload_n 76 dX5_readOneHouse_75 rfl rfl ?_
              refine gG.getI 79 dX5_readOneHouse_76 fX5_126 ⟨by decide, by decide⟩ rfl rfl rfl ?_
              rw [uI_off (by decide), rs3.2.1]
              refine kG.imul 80 dX5_readOneHouse_79 rfl ?_
              rw [pk_mul]
              refine kG.iconst (v := nI 1) 81 dX5_readOneHouse_80 (by decide) rfl ?_
              refine kG.iadd 82 dX5_readOneHouse_81 rfl ?_
              rw [nI_add]
              refine kG.iload 84 dX5_readOneHouse_82 rfl rfl ?_
              refine gG.iast (n := 8) (2 * dH D + 1) 85 dX5_readOneHouse_84 ⟨by decide, by decide⟩ rfl rfl (by omega) (by decide) rfl ?_
              refine kG.aload_n 86 dX5_readOneHouse_85 rfl rfl ?_
              refine kG.dup 87 dX5_readOneHouse_86 rfl rfl ?_
              refine gG.getI 90 dX5_readOneHouse_87 fX5_126 ⟨by decide, by decide⟩ rfl rfl rfl ?_
              rw [uI_off (by decide), uI_off (by decide), rs3.2.1]
              refine kG.iconst (v := nI 1) 91 dX5_readOneHouse_90 (by decide) rfl ?_
              refine kG.iadd 92 dX5_readOneHouse_91 rfl ?_
              rw [nI_add]
              refine gG.putI 95 dX5_readOneHouse_92 fX5_126 ⟨by decide, by decide⟩ rfl rfl rfl ⟨rfl, rfl⟩ rfl ?_
              refine kG.iconst (v := nI 1) 96 dX5_readOneHouse_95 (by decide) rfl ?_
              refine gG.zret dX5_readOneHouse_96 rfl rfl ?_
              refine ⟨rfl, FS_49 (FS_ar (FS_ar (FS_AV (FS_AV (FS_AV (FS_r _) av) av2) av3) (Or.inl rfl)) (Or.inl rfl)) (by decide), true, rfl, fun z => absurd z (by decide), fun _ => ⟨i + 1 + 1 + 1, by omega, ?_, _, hr3, RS_ho rs3 ?_ (uI_same _ _ _ _) ?_ ?_ ?_ ?_ (fun x hx => ?_), rfl, rfl⟩⟩
              · rw [uI_ne (Or.inr (by decide)), uI_off (by decide), uI_off (by decide)]; exact av3.1
              · rw [uI_ne (Or.inr (by decide)), uI_off (by decide), uI_off (by decide)]
              · rw [uI_ne (Or.inr (by decide)), uI_off (by decide), uI_off (by decide)]
              · rw [uI_off (by decide), uI_off (by decide), uI_off (by decide)]
              · rw [uI_off (by decide), uI_ne (Or.inr (by omega)), uI_same]
              · rw [uI_off (by decide), uI_same]
              · rw [uI_off (by decide), uI_ne (Or.inr (by omega)), uI_ne (Or.inr (by omega))]
            · exact absurd h48 (nI_m9 (by omega))
        · exact absurd h29 (nI_m9 (by omega))
    · exact absurd h12 (nI_m9 (by omega))
