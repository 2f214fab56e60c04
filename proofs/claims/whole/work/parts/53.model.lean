theorem gs_add {G : Kp} {h m x w : Nat} : ∀ n, n ≤ G.1 → gsN (kpAdd G h 0 m) x w n = gsN G x w n
  | 0, _ => rfl
  | n + 1, hn => by
    unfold gsN
    rw [gs_add n (by omega)]
    show _ + (if fu G.2.1 G.1 h n = x ∧ fu G.2.2.1 G.1 0 n = w then fu G.2.2.2 G.1 m n else 0) = _
    rw [fu_n (by omega), fu_n (by omega), fu_n (by omega)]
theorem cM_g {D : Dt} {sn aw h m : Nat} {G : Kp} : cM D sn aw (kpAdd G h 0 m) = cfW D sn (waS D) aw G h m := by
  unfold cM cfW
  have e : (fun week x => gsN (kpAdd G h 0 m) x week (kpAdd G h 0 m).1 + moS 9 0 week x) = (fun week x => gsN G x week G.1 + moS h m week x) := by
    funext w x
    show gsN (kpAdd G h 0 m) x w (G.1 + 1) + moS 9 0 w x = _
    rw [mo_0, gsN, gs_add G.1 (Nat.le_refl _)]
    show gsN G x w G.1 + (if fu G.2.1 G.1 h G.1 = x ∧ fu G.2.2.1 G.1 0 G.1 = w then fu G.2.2.2 G.1 m G.1 else 0) + 0 = _
    rw [fu_s, fu_s, fu_s, Nat.add_zero]
    unfold moS
    by_cases c : x = h ∧ w = 0
    · rw [if_pos c, if_pos ⟨c.1.symm, c.2.symm⟩]
    · rw [if_neg c, if_neg (fun z => c ⟨z.1.symm, z.2.symm⟩)]
  rw [e]
theorem MC_lg {D : Dt} {sn aw g h m : Nat} {G : Kp} {μ : kM} (hg : G.1 = g) (hm : MC D sn aw G (uI μ 49 22 (nI g))) (h22 : μ 49 22 = nI (g + 1)) : MC D sn aw (kpAdd G h 0 m) (uI (uI (uI μ 63 g (nI h)) 64 g (nI 0)) 65 g (nI m)) := by
  subst hg
  refine MC_gf hm (fun j hj => ?_) (fun k a b => ?_) ?_ (fun i hi => ?_)
  · rw [uI_off (by decide), uI_off (by decide), uI_off (by decide), uI_ne (Or.inr (by omega))]
  · rw [uI_off (by omega), uI_off (by omega), uI_off (by omega), uI_off (by omega)]
  · rw [uI_off (by decide), uI_off (by decide), uI_off (by decide)]; exact h22
  · have hi : i < G.1 + 1 := hi
    have h8 := hm.2.2.2.2.2.2.2
    show _ = nI (fu G.2.1 G.1 h i) ∧ _ = nI (fu G.2.2.1 G.1 0 i) ∧ _ = nI (fu G.2.2.2 G.1 m i)
    by_cases e : i = G.1
    · subst e
      rw [fu_s, fu_s, fu_s]
      repeat (first | rw [uI_same] | rw [uI_off (by decide)])
      exact ⟨rfl, rfl, rfl⟩
    · rw [fu_n e, fu_n e, fu_n e]
      repeat (first | rw [uI_ne (Or.inr e)] | rw [uI_off (by decide)])
      have z := h8 i (by omega)
      rw [uI_off (by decide), uI_off (by decide), uI_off (by decide)] at z
      exact z
theorem MC_l2 {D : Dt} {sn aw g : Nat} {G : Kp} {μ μ1 : kM} (hm : MC D sn aw G (uI μ 49 22 (nI g))) (hg : G.1 = g) (f : ∀ j, (j = 5 ∨ j = 6 ∨ j = 7) → μ1 49 j = μ 49 j) (k : ∀ k, 53 ≤ k → k ≤ 60 → μ1 k = μ k) (e : ∀ k i, 63 ≤ k → k ≤ 65 → i < g → μ1 k i = μ k i) : MC D sn aw G (uI μ1 49 22 (nI g)) := by
  subst hg
  refine MC_gf hm (fun j hj => ?_) (fun x a b => ?_) (uI_same _ _ _ _) (fun i hi => ?_)
  · rw [uI_ne (Or.inr (by omega)), uI_ne (Or.inr (by omega)), f j hj]
  · rw [uI_off (by omega), uI_off (by omega), k x a b]
  · have z := hm.2.2.2.2.2.2.2 i hi
    rw [uI_off (by decide), uI_off (by decide), uI_off (by decide)] at z ⊢
    rw [e 63 i (by decide) (by decide) hi, e 64 i (by decide) (by decide) hi, e 65 i (by decide) (by decide) hi]
    exact z
set_option maxHeartbeats 4000000 in
theorem logs_f (Γ : kGm) {S : AS} (ok : okS S) {kx : Nat} (hkx : kx < dH (aD S)) (μ0 : kM) (q0 : kq4) {μ1 : kM} {q : kq4} (hq : q = q0) (hm : MC (aD S) (aS S) (aA S) (aG S) (uI μ1 49 22 (nI (aG S).1))) (h22 : μ1 49 22 = nI ((aG S).1 + 1)) (h3 : ME S μ1) (h4 : ∀ k, k < 49 → μ1 k = μ0 k) (r x3 : Int32) (hr : r = s_logs S (nI kx)) : gG Γ mX5_logs 7 71 [some (.ref 49), some (.int (nI kx)), some (.int r), some (.int x3)] [] μ1 q (PMi (s_logs S (nI kx)) S μ0 q0) := by
  refine kG.aload_n 72 dX5_logs_71 rfl rfl ?_
  refine kG.dup 73 dX5_logs_72 rfl rfl ?_
  refine gG.getI 76 dX5_logs_73 fX5_132 ⟨by decide, by decide⟩ rfl rfl rfl ?_
  rw [h22]
  refine kG.iconst (v := nI 1) 77 dX5_logs_76 (by decide) rfl ?_
  refine kG.isub 78 dX5_logs_77 rfl ?_
  rw [pk_sub (by omega), Nat.add_sub_cancel]
  refine gG.putI 81 dX5_logs_78 fX5_132 ⟨by decide, by decide⟩ rfl rfl rfl ⟨rfl, rfl⟩ rfl ?_
  refine kG.iload_n 82 dX5_logs_81 rfl rfl ?_
  refine gG.iret dX5_logs_82 rfl ?_
  exact ⟨by rw [hr], ⟨hm, ME_fr h3 (fun j hj => uI_ne (Or.inr (by omega))) (fun k hk => uI_off (by omega))⟩, hq, fun k hk => by rw [uI_off (by omega)]; exact h4 k hk⟩
set_option maxHeartbeats 4000000 in
theorem logs_l (Γ : kGm) {S : AS} (ok : okS S) {kx : Nat} (hkx : kx < dH (aD S)) (μ0 : kM) (q0 : kq4) : ∀ (m i : Nat) (μ1 : kM) (q : kq4), i + m = 100 → (q = q0) → (MC (aD S) (aS S) (aA S) (aG S) (uI μ1 49 22 (nI (aG S).1))) → (μ1 49 22 = nI ((aG S).1 + 1)) → (ME S μ1) → (∀ k, k < 49 → μ1 k = μ0 k) → (∀ j, j < i → (lgF S kx) j = false) → gG Γ mX5_logs 7 25 [some (.ref 49), some (.int (nI kx)), some (.int (-9)), some (.int (nI i))] [] (μ1) q (PMi (s_logs S (nI kx)) S μ0 q0) := by
  intro m
  induction m with
  | zero =>
    intro i μ1 q hm hq hm h22 h3 h4 hn
    have hP := hP0 ok hkx
    have okd := ok.1
    have hH4 := ok.1.1
    have hP6 := ok.1.2.1
    have okm := okM_S ok hP
    have hg6 := ok.2.2.2.2.2.1.2
    have okg := ok.2.2.2.2.2.1.1
    refine kG.iload_n 26 dX5_logs_25 rfl rfl ?_
    refine kG.bipush (v := nI 99) 28 dX5_logs_26 (by decide) rfl ?_
    refine kG.icmp_gt 71 31 dX5_logs_28 (by decide) rfl (fun h28 => ?_) (fun h28 => ?_)
    · exact logs_f Γ ok hkx μ0 q0 hq hm h22 h3 h4 _ _ (by unfold s_logs; rw [if_pos (inB_n (by omega) hkx), ixn_n (by omega), fsN_none (fun j hj => hn j (by omega))]; rfl)
    · exact absurd (nI_lt (by omega) (by omega)) h28
  | succ m ih =>
    intro i μ1 q hm hq hm h22 h3 h4 hn
    have hP := hP0 ok hkx
    have okd := ok.1
    have hH4 := ok.1.1
    have hP6 := ok.1.2.1
    have okm := okM_S ok hP
    have hg6 := ok.2.2.2.2.2.1.2
    have okg := ok.2.2.2.2.2.1.1
    refine kG.iload_n 26 dX5_logs_25 rfl rfl ?_
    refine kG.bipush (v := nI 99) 28 dX5_logs_26 (by decide) rfl ?_
    refine kG.icmp_gt 71 31 dX5_logs_28 (by decide) rfl (fun h28 => ?_) (fun h28 => ?_)
    · exact absurd h28 (nI_nlt (by omega) (by omega))
    · refine kG.iload_n 32 dX5_logs_31 rfl rfl ?_
      refine kG.bipush (v := (-9)) 34 dX5_logs_32 (by decide) rfl ?_
      refine kG.icmp_ne 71 37 dX5_logs_34 (by decide) rfl (fun h34 => ?_) (fun h34 => ?_)
      · exact absurd rfl h34
      · refine kG.aload_n 38 dX5_logs_37 rfl rfl ?_
        refine kG.aload_n 39 dX5_logs_38 rfl rfl ?_
        refine gG.getI 42 dX5_logs_39 fX5_132 ⟨by decide, by decide⟩ rfl rfl rfl ?_
        rw [h22]
        refine kG.iconst (v := nI 1) 43 dX5_logs_42 (by decide) rfl ?_
        refine kG.isub 44 dX5_logs_43 rfl ?_
        rw [pk_sub (by omega), Nat.add_sub_cancel]
        refine kG.iload_n 45 dX5_logs_44 rfl rfl ?_
        refine kG.iconst (v := nI 0) 46 dX5_logs_45 (by decide) rfl ?_
        refine kG.iload_n 47 dX5_logs_46 rfl rfl ?_
        refine gG.callV 50 dX5_logs_47 lX5_167 vX5_layGift (m_layGift Γ (aG S).1 (by omega) _ _ _) rfl rfl ⟨by decide, by decide⟩ rfl ⟨by decide, rfl⟩ ⟨by decide, by decide⟩ (Nat.le_of_ble_eq_true rfl) rfl (fun r47 μ47 q47 hc47 => ?_)
        obtain ⟨rfl, rfl, rfl⟩ := hc47
        have hm2 : MC (aD S) (aS S) (aA S) (kpAdd (aG S) kx 0 i) _ := MC_lg (h := kx) (m := i) rfl hm h22
        have okm2 : okM (aD S) (aS S) (kpAdd (aG S) kx 0 i) := ⟨okd, okm.2.1, okm.2.2.1, okG_add okg (by omega) (by decide) (by omega), show (aG S).1 + 1 ≤ 7 by omega⟩
        refine kG.aload_n 51 dX5_logs_50 rfl rfl ?_
        refine kG.iload_n 52 dX5_logs_51 rfl rfl ?_
        refine gG.callV 55 dX5_logs_52 lX5_219 vX5_isWarmIn (m_isWarmIn Γ hm2 okd okm2 kx (by omega)) rfl rfl ⟨by decide, by decide⟩ rfl ⟨by decide, rfl⟩ ⟨by decide, by decide⟩ (Nat.le_of_ble_eq_true rfl) rfl (fun r52 μ52 q52 hc52 => ?_)
        obtain ⟨rfl, rfl, f1⟩ := hc52
        rw [cM_g]
        have hm3 : MC (aD S) (aS S) (aA S) (aG S) (uI μ52 49 22 (nI (aG S).1)) := MC_l2 hm rfl (fun j hj => by rw [f1.2 j (by omega), uI_off (by decide), uI_off (by decide), uI_off (by decide)]) (fun k a b => by rw [f1.1 k (by omega) (by omega), uI_off (by omega), uI_off (by omega), uI_off (by omega)]) (fun k j a b hj => by
          rw [f1.1 k (by omega) (by omega), uI_ne (Or.inr (by omega)), uI_ne (Or.inr (by omega)), uI_ne (Or.inr (by omega))])
        have h223 : μ52 49 22 = nI ((aG S).1 + 1) := by rw [f1.2 22 (by decide), uI_off (by decide), uI_off (by decide), uI_off (by decide)]; exact h22
        have he3 : ME S μ52 := ME_FW (ME_fr h3 (fun j _ => by rw [uI_off (by decide), uI_off (by decide), uI_off (by decide)]) (fun k hk => by rw [uI_off (by omega), uI_off (by omega), uI_off (by omega)])) f1
        have h43 : ∀ k, k < 49 → μ52 k = μ0 k := fun k hk => by rw [FW_lo f1 k hk, uI_off (by omega), uI_off (by omega), uI_off (by omega)]; exact h4 k hk
        refine kG.if_eq 62 58 dX5_logs_55 (by decide) rfl (fun h55 => ?_) (fun h55 => ?_)
        · have hb : (lgF S kx) i = false := b2_0.mp h55
          refine kG.bipush (v := (-9)) 64 dX5_logs_62 (by decide) rfl ?_
          refine kG.istore_n 65 dX5_logs_64 (by decide) rfl rfl ?_
          dsimp only [List.set]
          refine kG.iinc (v := nI (i + 1)) 68 dX5_logs_65 rfl (nI_1 i) (by decide) rfl rfl ?_
          dsimp only [List.set]
          refine kG.goto 25 dX5_logs_68 (by decide) ?_
          refine ih (i + 1) _ _ (by omega) hq hm3 h223 he3 h43 (fun j hj => ?_)
          by_cases e : j = i
          · subst e; exact hb
          · exact hn j (by omega)
        · have hb : (lgF S kx) i = true := b2_n0.mp h55
          refine kG.iload_n 59 dX5_logs_58 rfl rfl ?_
          refine kG.goto 64 dX5_logs_59 (by decide) ?_
          refine kG.istore_n 65 dX5_logs_64 (by decide) rfl rfl ?_
          dsimp only [List.set]
          refine kG.iinc (v := nI (i + 1)) 68 dX5_logs_65 rfl (nI_1 i) (by decide) rfl rfl ?_
          dsimp only [List.set]
          refine kG.goto 25 dX5_logs_68 (by decide) ?_
          refine kG.iload_n 26 dX5_logs_25 rfl rfl ?_
          refine kG.bipush (v := nI 99) 28 dX5_logs_26 (by decide) rfl ?_
          refine kG.icmp_gt 71 31 dX5_logs_28 (by decide) rfl (fun h28 => ?_) (fun h28 => ?_)
          · exact logs_f Γ ok hkx μ0 q0 hq hm3 h223 he3 h43 (nI i) _ (by unfold s_logs; rw [if_pos (inB_n (by omega) hkx), ixn_n (by omega), fsN_some hn hb 100 (by omega)]; rfl)
          · refine kG.iload_n 32 dX5_logs_31 rfl rfl ?_
            refine kG.bipush (v := (-9)) 34 dX5_logs_32 (by decide) rfl ?_
            refine kG.icmp_ne 71 37 dX5_logs_34 (by decide) rfl (fun h34 => ?_) (fun h34 => ?_)
            · exact logs_f Γ ok hkx μ0 q0 hq hm3 h223 he3 h43 (nI i) _ (by unfold s_logs; rw [if_pos (inB_n (by omega) hkx), ixn_n (by omega), fsN_some hn hb 100 (by omega)]; rfl)
            · exact absurd h34 (nI_m9 (by omega))
set_option maxHeartbeats 4000000 in
theorem y_logs (Γ : kGm) {S : AS} {μ : kM} {q : kq4} (ok : okS S) (h : MS S μ) (x : Int32) : gC Γ yX5_logs mX5_logs 7 [.ref 49, .int x] μ q (PMi (s_logs S x) (S) μ q) := by
  refine gC.ofG (n := 0) ⟨by decide +kernel, rfl, rfl, by decide⟩ (Nat.le_of_ble_eq_true rfl) ?_
  show gG Γ mX5_logs 7 0 [some (.ref 49), some (.int x), none, none] [] μ q _
  have okd := ok.1
  have hH4 := ok.1.1
  have hP6 := ok.1.2.1
  have hc := h.1
  have hp := hc.2.2.2.2.2.1
  have hh := hc.2.2.2.2.1
  refine kG.aload_n 1 dX5_logs_0 rfl rfl ?_
  refine kG.iload_n 2 dX5_logs_1 rfl rfl ?_
  refine gG.callV 5 dX5_logs_2 lX5_155 vX5_isHouse (m_isHouse Γ x (dH (aD S)) hc.2.1) rfl rfl ⟨by decide, by decide⟩ rfl ⟨by decide, rfl⟩ ⟨by decide, by decide⟩ (Nat.le_of_ble_eq_true rfl) rfl (fun r2 μ2 q2 hc2 => ?_)
  obtain ⟨rfl, rfl, rfl⟩ := hc2
  refine kG.if_ne 10 8 dX5_logs_5 (by decide) rfl (fun g2 => ?_) (fun g2 => ?_)
  · have hb2 := b2_n0.mp g2
    obtain ⟨kx, hkx, rfl, ex⟩ := inB_t (by omega) hb2
    have hx := hh kx hkx
    refine kG.aload_n 11 dX5_logs_10 rfl rfl ?_
    refine kG.dup 12 dX5_logs_11 rfl rfl ?_
    refine gG.getI 15 dX5_logs_12 fX5_132 ⟨by decide, by decide⟩ rfl rfl rfl ?_
    rw [hc.2.2.2.1]
    refine kG.iconst (v := nI 1) 16 dX5_logs_15 (by decide) rfl ?_
    refine kG.iadd 17 dX5_logs_16 rfl ?_
    rw [nI_add]
    refine gG.putI 20 dX5_logs_17 fX5_132 ⟨by decide, by decide⟩ rfl rfl rfl ⟨rfl, rfl⟩ rfl ?_
    refine kG.bipush (v := (-9)) 22 dX5_logs_20 (by decide) rfl ?_
    refine kG.istore_n 23 dX5_logs_22 (by decide) rfl rfl ?_
    dsimp only [List.set]
    refine kG.iconst (v := nI 0) 24 dX5_logs_23 (by decide) rfl ?_
    refine kG.istore_n 25 dX5_logs_24 (by decide) rfl rfl ?_
    dsimp only [List.set]
    refine logs_l Γ ok hkx _ _ 100 0 _ _ (by omega) rfl ?_ (uI_same _ _ _ _) (ME_fr h.2 (fun j hj => uI_ne (Or.inr (by omega))) (fun k hk => uI_off (by omega))) (fun k hk => uI_off (by omega)) (fun j hj => absurd hj (Nat.not_lt_zero _))
    refine MC_gf hc (fun j hj => ?_) (fun k a b => ?_) (uI_same _ _ _ _) (fun i hi => ?_)
    · rw [uI_ne (Or.inr (by omega)), uI_ne (Or.inr (by omega))]
    · rw [uI_off (by omega), uI_off (by omega)]
    · repeat rw [uI_off (by decide)]
      exact hc.2.2.2.2.2.2.2 i hi
  · have hb2 := b2_0.mp g2
    refine kG.iconst (v := (-1)) 9 dX5_logs_8 (by decide) rfl ?_
    refine gG.iret dX5_logs_9 rfl ?_
    exact ⟨by unfold s_logs; rw [if_neg (by rw [hb2]; decide)], h, rfl, fun _ _ => rfl⟩
