theorem ce_ab {S : AS} {k l i n : Int32} {e : Int32 × Int32} (hk : inB k 4 = true) (hl : inB l 3 = true) (h : ceF S k l i n = some e) : e.1 = -10 - e.2 ∧ ¬ e.2 = 0 := by
  unfold ceF at h
  split at h
  · rename_i e' he
    cases h
    unfold laF at he
    rw [if_pos hk, if_pos hl] at he
    split at he
    · cases he; decide
    · split at he
      · cases he
      · cases he; decide
  · split at h
    · cases h; decide
    · split at h
      · cases h
      · cases h; decide
set_option maxHeartbeats 4000000 in
theorem m_against (Γ : kGm) {S : AS} {μ : kM} {q : kq4} (ok : okS S) (h : MH S μ) {kx : Nat} (hkx : kx < 4) (y z w : Int32) (hb15 : inB y 3 = true) : gC Γ yX5_against mX5_against 1 [.ref 49, .int (nI kx), .int y, .int z, .int w] μ q (fun r μ' q' => r = some (.int (oB (ceF S (nI kx) y z w))) ∧ μ' = μ ∧ q' = q) := by
  refine gC.ofG (n := 0) ⟨by decide +kernel, rfl, rfl, by decide⟩ (Nat.le_of_ble_eq_true rfl) ?_
  show gG Γ mX5_against 1 0 [some (.ref 49), some (.int (nI kx)), some (.int y), some (.int z), some (.int w)] [] μ q _
  have hb6 : inB (nI kx) 4 = true := inB_n (by decide) hkx
  have ex : ixn (nI kx) = kx := ixn_n (by omega)
  have hl3 := (ok.2.2.2.2.2.2.2 kx hkx).1
  have hs := h kx hkx
  refine kG.aload_n 1 dX5_against_0 rfl rfl ?_
  refine gG.getP 4 dX5_against_1 fX5_9 ⟨by decide, by decide⟩ rfl rfl rfl rfl ?_
  refine kG.iload_n 5 dX5_against_4 rfl rfl ?_
  refine gG.iald (n := 4) _ 6 dX5_against_5 ⟨by decide, by decide⟩ rfl rfl (by omega) (by decide) rfl ?_
  rw [hs.1]
  refine kG.bipush (v := (-9)) 8 dX5_against_6 (by decide) rfl ?_
  refine kG.icmp_eq 23 11 dX5_against_8 (by decide) rfl (fun h8 => ?_) (fun h8 => ?_)
  · have hn0 : aL S kx = 0 := (so_9 hl3).mp h8
    refine kG.aload_n 24 dX5_against_23 rfl rfl ?_
    refine gG.getP 27 dX5_against_24 fX5_9 ⟨by decide, by decide⟩ rfl rfl rfl rfl ?_
    refine kG.iload_n 28 dX5_against_27 rfl rfl ?_
    refine gG.iald (n := 4) _ 29 dX5_against_28 ⟨by decide, by decide⟩ rfl rfl (by omega) (by decide) rfl ?_
    rw [hs.1]
    refine kG.bipush (v := (-9)) 31 dX5_against_29 (by decide) rfl ?_
    refine kG.icmp_ne 36 34 dX5_against_31 (by decide) rfl (fun h31 => ?_) (fun h31 => ?_)
    · exact absurd ((so_9 hl3).mpr hn0) h31
    · refine kG.iconst (v := nI 1) 35 dX5_against_34 (by decide) rfl ?_
      refine gG.iret dX5_against_35 rfl ?_
      have ec : ceF S (nI kx) y z w = some (-11, nI 1) := by
        unfold ceF
        rw [show laF S (nI kx) y = some (-11, nI 1) by unfold laF; rw [if_pos hb6, if_pos hb15, ex, if_pos hn0]]
      rw [ec]
      exact ⟨rfl, rfl, rfl⟩
  · have hn0 : ¬ aL S kx = 0 := fun z => h8 ((so_9 hl3).mpr z)
    refine kG.aload_n 12 dX5_against_11 rfl rfl ?_
    refine gG.getP 15 dX5_against_12 fX5_9 ⟨by decide, by decide⟩ rfl rfl rfl rfl ?_
    refine kG.iload_n 16 dX5_against_15 rfl rfl ?_
    refine gG.iald (n := 4) _ 17 dX5_against_16 ⟨by decide, by decide⟩ rfl rfl (by omega) (by decide) rfl ?_
    rw [hs.1, so_n hn0]
    refine kG.iload_n 18 dX5_against_17 rfl rfl ?_
    refine kG.icmp_eq 23 21 dX5_against_18 (by decide) rfl (fun h18 => ?_) (fun h18 => ?_)
    · have hne : nI (aL S kx - 1) = y := h18
      refine kG.aload_n 24 dX5_against_23 rfl rfl ?_
      refine gG.getP 27 dX5_against_24 fX5_9 ⟨by decide, by decide⟩ rfl rfl rfl rfl ?_
      refine kG.iload_n 28 dX5_against_27 rfl rfl ?_
      refine gG.iald (n := 4) _ 29 dX5_against_28 ⟨by decide, by decide⟩ rfl rfl (by omega) (by decide) rfl ?_
      rw [hs.1]
      refine kG.bipush (v := (-9)) 31 dX5_against_29 (by decide) rfl ?_
      refine kG.icmp_ne 36 34 dX5_against_31 (by decide) rfl (fun h31 => ?_) (fun h31 => ?_)
      · have g2 := hs.2 hn0
        refine kG.iload 38 dX5_against_36 rfl rfl ?_
        refine kG.if_ge 43 41 dX5_against_38 (by decide) rfl (fun h38 => ?_) (fun h38 => ?_)
        · have hw : ¬ w < 0 := Int32.not_lt.mpr h38
          refine kG.iload_n 44 dX5_against_43 rfl rfl ?_
          refine kG.if_lt 70 47 dX5_against_44 (by decide) rfl (fun h44 => ?_) (fun h44 => ?_)
          · have ec : ceF S (nI kx) y z w = some (-13, nI 3) := by
              unfold ceF
              rw [show laF S (nI kx) y = none by unfold laF; rw [if_pos hb6, if_pos hb15, ex, if_neg hn0, if_pos hne]]
              show (if w < 0 then _ else if _ then _ else _) = _
              rw [ex, if_neg hw, if_neg (fun c => c.1 h44)]
            refine kG.iconst (v := nI 3) 71 dX5_against_70 (by decide) rfl ?_
            refine kG.goto 75 dX5_against_71 (by decide) ?_
            refine gG.iret dX5_against_75 rfl ?_
            rw [ec]
            exact ⟨rfl, rfl, rfl⟩
          · refine kG.iload_n 48 dX5_against_47 rfl rfl ?_
            refine kG.aload_n 49 dX5_against_48 rfl rfl ?_
            refine gG.getP 52 dX5_against_49 fX5_13 ⟨by decide, by decide⟩ rfl rfl rfl rfl ?_
            refine kG.iload_n 53 dX5_against_52 rfl rfl ?_
            refine gG.iald (n := 4) _ 54 dX5_against_53 ⟨by decide, by decide⟩ rfl rfl (by omega) (by decide) rfl ?_
            rw [g2.1]
            refine kG.icmp_gt 70 57 dX5_against_54 (by decide) rfl (fun h54 => ?_) (fun h54 => ?_)
            · have ec : ceF S (nI kx) y z w = some (-13, nI 3) := by
                unfold ceF
                rw [show laF S (nI kx) y = none by unfold laF; rw [if_pos hb6, if_pos hb15, ex, if_neg hn0, if_pos hne]]
                show (if w < 0 then _ else if _ then _ else _) = _
                rw [ex, if_neg hw, if_neg (fun c => c.2.1 h54)]
              refine kG.iconst (v := nI 3) 71 dX5_against_70 (by decide) rfl ?_
              refine kG.goto 75 dX5_against_71 (by decide) ?_
              refine gG.iret dX5_against_75 rfl ?_
              rw [ec]
              exact ⟨rfl, rfl, rfl⟩
            · refine kG.iload 59 dX5_against_57 rfl rfl ?_
              refine kG.aload_n 60 dX5_against_59 rfl rfl ?_
              refine gG.getP 63 dX5_against_60 fX5_13 ⟨by decide, by decide⟩ rfl rfl rfl rfl ?_
              refine kG.iload_n 64 dX5_against_63 rfl rfl ?_
              refine gG.iald (n := 4) _ 65 dX5_against_64 ⟨by decide, by decide⟩ rfl rfl (by omega) (by decide) rfl ?_
              rw [g2.1]
              refine kG.iload_n 66 dX5_against_65 rfl rfl ?_
              refine kG.isub 67 dX5_against_66 rfl ?_
              refine kG.icmp_le 74 70 dX5_against_67 (by decide) rfl (fun h67 => ?_) (fun h67 => ?_)
              · have ec : ceF S (nI kx) y z w = none := by
                  unfold ceF
                  rw [show laF S (nI kx) y = none by unfold laF; rw [if_pos hb6, if_pos hb15, ex, if_neg hn0, if_pos hne]]
                  show (if w < 0 then _ else if _ then _ else _) = _
                  rw [ex, if_neg hw, if_pos ⟨h44, h54, Int32.not_lt.mpr h67⟩]
                refine kG.iconst (v := nI 0) 75 dX5_against_74 (by decide) rfl ?_
                refine gG.iret dX5_against_75 rfl ?_
                rw [ec]
                exact ⟨rfl, rfl, rfl⟩
              · have ec : ceF S (nI kx) y z w = some (-13, nI 3) := by
                  unfold ceF
                  rw [show laF S (nI kx) y = none by unfold laF; rw [if_pos hb6, if_pos hb15, ex, if_neg hn0, if_pos hne]]
                  show (if w < 0 then _ else if _ then _ else _) = _
                  rw [ex, if_neg hw, if_neg (fun c => c.2.2 (Int32.not_le.mp h67))]
                refine kG.iconst (v := nI 3) 71 dX5_against_70 (by decide) rfl ?_
                refine kG.goto 75 dX5_against_71 (by decide) ?_
                refine gG.iret dX5_against_75 rfl ?_
                rw [ec]
                exact ⟨rfl, rfl, rfl⟩
        · have hw : w < 0 := Int32.not_le.mp h38
          have ec : ceF S (nI kx) y z w = some (-14, nI 4) := by
            unfold ceF
            rw [show laF S (nI kx) y = none by unfold laF; rw [if_pos hb6, if_pos hb15, ex, if_neg hn0, if_pos hne]]
            show (if w < 0 then _ else if _ then _ else _) = _
            rw [ex, if_pos hw]
          refine kG.iconst (v := nI 4) 42 dX5_against_41 (by decide) rfl ?_
          refine gG.iret dX5_against_42 rfl ?_
          rw [ec]
          exact ⟨rfl, rfl, rfl⟩
      · exact absurd ((so_9 hl3).mp h31) hn0
    · have hne : ¬ nI (aL S kx - 1) = y := h18
      have ec : ceF S (nI kx) y z w = some (-12, nI 2) := by
        unfold ceF
        rw [show laF S (nI kx) y = some (-12, nI 2) by unfold laF; rw [if_pos hb6, if_pos hb15, ex, if_neg hn0, if_neg hne]]
      refine kG.iconst (v := nI 2) 22 dX5_against_21 (by decide) rfl ?_
      refine gG.iret dX5_against_22 rfl ?_
      rw [ec]
      exact ⟨rfl, rfl, rfl⟩
