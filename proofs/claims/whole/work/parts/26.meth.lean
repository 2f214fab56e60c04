theorem pcn_5 {s p : Nat} (hp : p < 6) (h : s.testBit p = false) : pcn s ≤ 5 := by
  unfold pcn
  rw [cnt_sm]
  have e := smN_part (f := fun i => if s.testBit i then 1 else 0) hp
  rw [h] at e
  have h2 : smN (fun i => if i = p then 0 else if s.testBit i then 1 else 0) 6 ≤ 5 := by
    have a : ∀ i, (if i = p then 0 else if s.testBit i then 1 else 0) ≤ (if i = p then 0 else 1) := fun i => by
      by_cases e : i = p
      · rw [if_pos e, if_pos e]; exact Nat.le_refl _
      · rw [if_neg e, if_neg e]; split <;> omega
    have b : ∀ n, smN (fun i => if i = p then 0 else if s.testBit i then 1 else 0) n ≤ smN (fun i => if i = p then 0 else 1) n := fun n => by
      induction n with
      | zero => exact Nat.le_refl _
      | succ n ih => have := a n; unfold smN; omega
    have c := smN_part (f := fun _ => 1) hp
    have d : smN (fun _ => 1) 6 = 6 := by decide
    have := b 6
    omega
  simp only [Bool.false_eq_true, if_false] at e
  omega
def few (o : Option Nat) : Nat := match o with
  | none => 6
  | some b => pcn b
theorem few_6 (o : Option Nat) : few o ≤ 6 := by
  cases o
  · exact Nat.le_refl _
  · exact pcn_le _
theorem wmN_s {f : Nat → Bool} {s : Nat} (h1 : f s = true) (h2 : pcn s < few (wmN f s)) : wmN f (s + 1) = some s := by
  rw [wmN, h1]
  cases hw : wmN f s with
  | none => rfl
  | some b => rw [hw] at h2; simp only [few] at h2; simp [h2]
theorem wmN_f {f : Nat → Bool} {s : Nat} (h1 : f s = false) : wmN f (s + 1) = wmN f s := by rw [wmN, h1]; rfl
theorem wmN_n {f : Nat → Bool} {s : Nat} (h0 : pcn s ≤ 5) (h2 : few (wmN f s) ≤ pcn s) : wmN f (s + 1) = wmN f s := by
  rw [wmN]
  cases hw : wmN f s with
  | none => rw [hw] at h2; simp only [few] at h2; omega
  | some b => rw [hw] at h2; simp only [few] at h2; rw [if_neg (by simp; omega)]
set_option maxHeartbeats 4000000 in
theorem warm_loop (Γ : kGm) {S : AS} {kx : Nat} (hkx : kx < dP (aD S)) (μ0 : kM) : ∀ (m i : Nat) (μ : kM) (q : kq4), i + m = 2 ^ dP (aD S) → (CS S μ q) → (∀ k, 49 ≤ k → μ k = μ0 k) → gG Γ mX4_warm 5 29 [some (.ref 1), some (.int (nI kx)), some (.int (nI (aA S ||| 2 ^ kx))), some (.int (opI (wmN (wmF S kx) i))), some (.int (nI (few (wmN (wmF S kx) i)))), some (.int (nI i))] [] (μ) q (PCi (s_warm S (nI kx)) S μ0) := by
  intro m
  induction m with
  | zero =>
    intro i μ q hm h hf
    have hP6 := h.1.1.2.1
    have h64 := full_64 h.1
    have h1p : 1 ≤ 2 ^ dP (aD S) := Nat.one_le_two_pow
    refine kG.iload 31 dX4_warm_29 rfl rfl ?_
    refine kG.aload_n 32 dX4_warm_31 rfl rfl ?_
    refine gG.callV 35 dX4_warm_32 lX4_153 vX4_everybody (c_every Γ h) rfl rfl ⟨by decide, by decide⟩ rfl ⟨by decide, rfl⟩ ⟨by decide, by decide⟩ (Nat.le_of_ble_eq_true rfl) rfl (fun r32 μ32 q32 hc32 => ?_)
    obtain ⟨rfl, rfl, rfl⟩ := hc32
    refine kG.icmp_gt 107 38 dX4_warm_35 (by decide) rfl (fun h35 => ?_) (fun h35 => ?_)
    · refine kG.iload_n 108 dX4_warm_107 rfl rfl ?_
      refine gG.iret dX4_warm_108 rfl ?_
      refine ⟨?_, h, hf⟩
      unfold s_warm
      rw [if_pos (inB_n (by omega) hkx), ixn_n (by omega), show 2 ^ dP (aD S) = i by omega]
    · exact absurd (nI_lt (by omega) (by omega)) h35
  | succ m ih =>
    intro i μ q hm h hf
    have ht := h.2.1.1
    have hD := h.2.2.1.1
    have okd := h.1.1
    have hH4 := h.1.1.1
    have hP6 := h.1.1.2.1
    have hP : 0 < dP (aD S) := by omega
    have hsn := h.1.2.2.1 hP
    have h64 := full_64 h.1
    have h1p : 1 ≤ 2 ^ dP (aD S) := Nat.one_le_two_pow
    have hf6 := few_6 (wmN (wmF S kx) i)
    have hpi := pcn_le i
    refine kG.iload 31 dX4_warm_29 rfl rfl ?_
    refine kG.aload_n 32 dX4_warm_31 rfl rfl ?_
    refine gG.callV 35 dX4_warm_32 lX4_153 vX4_everybody (c_every Γ h) rfl rfl ⟨by decide, by decide⟩ rfl ⟨by decide, rfl⟩ ⟨by decide, by decide⟩ (Nat.le_of_ble_eq_true rfl) rfl (fun r32 μ32 q32 hc32 => ?_)
    obtain ⟨rfl, rfl, rfl⟩ := hc32
    refine kG.icmp_gt 107 38 dX4_warm_35 (by decide) rfl (fun h35 => ?_) (fun h35 => ?_)
    · exact absurd h35 (nI_nlt (by omega) (by omega))
    · refine kG.iload 40 dX4_warm_38 rfl rfl ?_
      refine kG.iload_n 41 dX4_warm_40 rfl rfl ?_
      refine kG.iand 42 dX4_warm_41 rfl ?_
      rw [n_and]
      refine kG.if_ne 101 45 dX4_warm_42 (by decide) rfl (fun h42 => ?_) (fun h42 => ?_)
      · have e1 : ¬ i &&& (aA S ||| 2 ^ kx) = 0 := fun z => h42 (by rw [z]; rfl)
        have eW := wmN_f (f := (wmF S kx)) (s := i) (by unfold wmF; rw [decide_eq_false e1]; rfl)
        refine kG.iinc (v := nI (i + 1)) 104 dX4_warm_101 rfl (nI_1 i) (by decide) rfl rfl ?_
        dsimp only [List.set]
        refine kG.goto 29 dX4_warm_104 (by decide) ?_
        first
          | (refine kG.sub (kLe_s rfl (kLe_s rfl (kLe_s rfl (kLe_s (v := .int (opI (wmN (wmF S kx) (i + 1)))) (by rw [eW]; rfl) (kLe_s (v := .int (nI (few (wmN (wmF S kx) (i + 1))))) (by rw [eW]; rfl) (kLe_s rfl kLe_0)))))) (ih (i + 1) _ _ (by omega) l1 (fun k hk => by rw [l3 k (by omega), p3 k (by omega)]; exact hf k hk)); done)
          | (refine kG.sub (kLe_s rfl (kLe_s rfl (kLe_s rfl (kLe_s (v := .int (opI (wmN (wmF S kx) (i + 1)))) (by rw [eW]; done) (kLe_s (v := .int (nI (few (wmN (wmF S kx) (i + 1))))) (by rw [eW]; done) (kLe_s rfl kLe_0)))))) (ih (i + 1) _ _ (by omega) h hf); done)
          | (refine kG.sub (kLe_s rfl (kLe_s rfl (kLe_s rfl (kLe_s (v := .int (opI (wmN (wmF S kx) (i + 1)))) (by rw [eW]; done) (kLe_s (v := .int (nI (few (wmN (wmF S kx) (i + 1))))) (by rw [eW]; done) (kLe_s rfl kLe_0)))))) (ih (i + 1) _ _ (by omega) l1 (fun k hk => by rw [l3 k (by omega), p3 k (by omega)]; exact hf k hk)); done)
      · have e1 : i &&& (aA S ||| 2 ^ kx) = 0 := (nI_eq (b := 0) (by have : i &&& (aA S ||| 2 ^ kx) ≤ i := Nat.and_le_left; omega) (by decide)).mp h42
        have hp5 : pcn i ≤ 5 := pcn_5 (p := kx) (by omega) (and_0.mp e1 kx (by rw [tb_or_pow]; simp))
        refine kG.iload 47 dX4_warm_45 rfl rfl ?_
        refine gG.callS 50 dX4_warm_47 lX4_168 vJ6_bitCount_0f7a4 (c_bitCount Γ i (by omega)) rfl rfl ⟨by decide, by decide⟩ (Nat.le_of_ble_eq_true rfl) rfl (fun r47 μ47 q47 hc47 => ?_)
        obtain ⟨rfl, rfl, rfl⟩ := hc47
        refine kG.iload 52 dX4_warm_50 rfl rfl ?_
        refine kG.icmp_lt 58 55 dX4_warm_52 (by decide) rfl (fun h52 => ?_) (fun h52 => ?_)
        · have e2 := (nI_ltI (by omega) (by omega)).mp h52
          refine kG.aload_n 59 dX4_warm_58 rfl rfl ?_
          refine gG.getP 62 dX4_warm_59 fX4_48 ⟨by decide, by decide⟩ rfl rfl rfl rfl ?_
          refine kG.aload_n 63 dX4_warm_62 rfl rfl ?_
          refine gG.getP 66 dX4_warm_63 fX4_32 ⟨by decide, by decide⟩ rfl rfl rfl rfl ?_
          refine kG.aload_n 67 dX4_warm_66 rfl rfl ?_
          refine gG.getI 70 dX4_warm_67 fX4_51 ⟨by decide, by decide⟩ rfl rfl rfl ?_
          refine kG.iload 72 dX4_warm_70 rfl rfl ?_
          rw [h.2.2.1.2.2]
          refine kG.ior 73 dX4_warm_72 rfl ?_
          rw [n_or]
          refine gG.callV 76 dX4_warm_73 lX4_160 vX3_prepare (c_prepT Γ h (aA S ||| i)) rfl rfl ⟨by decide, by decide⟩ rfl ⟨by decide, rfl⟩ ⟨by decide, by decide⟩ (Nat.le_of_ble_eq_true rfl) rfl (fun r73 μ73 q73 hc73 => ?_)
          obtain ⟨rfl, rfl, p1, p2, p3⟩ := hc73
          refine kG.aload_n 77 dX4_warm_76 rfl rfl ?_
          refine gG.getP 80 dX4_warm_77 fX4_48 ⟨by decide, by decide⟩ rfl rfl rfl rfl ?_
          refine kG.bipush (v := nI 10) 82 dX4_warm_80 (by decide) rfl ?_
          refine kG.iconst (v := nI 1) 83 dX4_warm_82 (by decide) rfl ?_
          refine kG.iload_n 84 dX4_warm_83 rfl rfl ?_
          refine kG.ishl 85 dX4_warm_84 rfl ?_
          rw [n_shl (by omega)]
          refine gG.callV 88 dX4_warm_85 lX4_165 vX3_live (c_liveT Γ p1 rfl p2 hsn (Nat.or_lt_two_pow (n := 6) (aA_64 h.1) (by omega)) (waS_le h.1.1) (by decide) 10 (2 ^ kx) (by decide) (p2_64 hkx hP6)) rfl rfl ⟨by decide, by decide⟩ rfl ⟨by decide, rfl⟩ ⟨by decide, by decide⟩ (Nat.le_of_ble_eq_true rfl) rfl (fun r85 μ85 q85 hc85 => ?_)
          obtain ⟨rfl, rfl, l1, -, l3⟩ := hc85
          rw [wm_1]
          refine kG.if_eq 101 91 dX4_warm_88 (by decide) rfl (fun h88 => ?_) (fun h88 => ?_)
          · have e3 := of_decide_eq_false (b2_0.mp h88)
            have eW := wmN_f (f := (wmF S kx)) (s := i) (by unfold wmF; rw [decide_eq_true e1]; exact decide_eq_false e3)
            refine kG.iinc (v := nI (i + 1)) 104 dX4_warm_101 rfl (nI_1 i) (by decide) rfl rfl ?_
            dsimp only [List.set]
            refine kG.goto 29 dX4_warm_104 (by decide) ?_
            first
              | (refine kG.sub (kLe_s rfl (kLe_s rfl (kLe_s rfl (kLe_s (v := .int (opI (wmN (wmF S kx) (i + 1)))) (by rw [eW]; rfl) (kLe_s (v := .int (nI (few (wmN (wmF S kx) (i + 1))))) (by rw [eW]; rfl) (kLe_s rfl kLe_0)))))) (ih (i + 1) _ _ (by omega) l1 (fun k hk => by rw [l3 k (by omega), p3 k (by omega)]; exact hf k hk)); done)
              | (refine kG.sub (kLe_s rfl (kLe_s rfl (kLe_s rfl (kLe_s (v := .int (opI (wmN (wmF S kx) (i + 1)))) (by rw [eW]; done) (kLe_s (v := .int (nI (few (wmN (wmF S kx) (i + 1))))) (by rw [eW]; done) (kLe_s rfl kLe_0)))))) (ih (i + 1) _ _ (by omega) h hf); done)
              | (refine kG.sub (kLe_s rfl (kLe_s rfl (kLe_s rfl (kLe_s (v := .int (opI (wmN (wmF S kx) (i + 1)))) (by rw [eW]; done) (kLe_s (v := .int (nI (few (wmN (wmF S kx) (i + 1))))) (by rw [eW]; done) (kLe_s rfl kLe_0)))))) (ih (i + 1) _ _ (by omega) l1 (fun k hk => by rw [l3 k (by omega), p3 k (by omega)]; exact hf k hk)); done)
          · have e3 := of_decide_eq_true (b2_n0.mp h88)
            have eW := wmN_s (f := (wmF S kx)) (s := i) (by unfold wmF; rw [decide_eq_true e1]; exact decide_eq_true e3) e2
            refine kG.iload 93 dX4_warm_91 rfl rfl ?_
            refine kG.istore_n 94 dX4_warm_93 (by decide) rfl rfl ?_
            dsimp only [List.set]
            refine kG.iload 96 dX4_warm_94 rfl rfl ?_
            refine gG.callS 99 dX4_warm_96 lX4_168 vJ6_bitCount_0f7a4 (c_bitCount Γ i (by omega)) rfl rfl ⟨by decide, by decide⟩ (Nat.le_of_ble_eq_true rfl) rfl (fun r96 μ96 q96 hc96 => ?_)
            obtain ⟨rfl, rfl, rfl⟩ := hc96
            refine kG.istore 101 dX4_warm_99 (by decide) rfl rfl ?_
            dsimp only [List.set]
            refine kG.iinc (v := nI (i + 1)) 104 dX4_warm_101 rfl (nI_1 i) (by decide) rfl rfl ?_
            dsimp only [List.set]
            refine kG.goto 29 dX4_warm_104 (by decide) ?_
            first
              | (refine kG.sub (kLe_s rfl (kLe_s rfl (kLe_s rfl (kLe_s (v := .int (opI (wmN (wmF S kx) (i + 1)))) (by rw [eW]; rfl) (kLe_s (v := .int (nI (few (wmN (wmF S kx) (i + 1))))) (by rw [eW]; rfl) (kLe_s rfl kLe_0)))))) (ih (i + 1) _ _ (by omega) l1 (fun k hk => by rw [l3 k (by omega), p3 k (by omega)]; exact hf k hk)); done)
              | (refine kG.sub (kLe_s rfl (kLe_s rfl (kLe_s rfl (kLe_s (v := .int (opI (wmN (wmF S kx) (i + 1)))) (by rw [eW]; done) (kLe_s (v := .int (nI (few (wmN (wmF S kx) (i + 1))))) (by rw [eW]; done) (kLe_s rfl kLe_0)))))) (ih (i + 1) _ _ (by omega) h hf); done)
              | (refine kG.sub (kLe_s rfl (kLe_s rfl (kLe_s rfl (kLe_s (v := .int (opI (wmN (wmF S kx) (i + 1)))) (by rw [eW]; done) (kLe_s (v := .int (nI (few (wmN (wmF S kx) (i + 1))))) (by rw [eW]; done) (kLe_s rfl kLe_0)))))) (ih (i + 1) _ _ (by omega) l1 (fun k hk => by rw [l3 k (by omega), p3 k (by omega)]; exact hf k hk)); done)
        · have e2 : few (wmN (wmF S kx) i) ≤ pcn i := Nat.not_lt.mp fun z => h52 (nI_lt z (by omega))
          have eW := wmN_n (f := (wmF S kx)) hp5 e2
          refine kG.goto 101 dX4_warm_55 (by decide) ?_
          refine kG.iinc (v := nI (i + 1)) 104 dX4_warm_101 rfl (nI_1 i) (by decide) rfl rfl ?_
          dsimp only [List.set]
          refine kG.goto 29 dX4_warm_104 (by decide) ?_
          first
            | (refine kG.sub (kLe_s rfl (kLe_s rfl (kLe_s rfl (kLe_s (v := .int (opI (wmN (wmF S kx) (i + 1)))) (by rw [eW]; rfl) (kLe_s (v := .int (nI (few (wmN (wmF S kx) (i + 1))))) (by rw [eW]; rfl) (kLe_s rfl kLe_0)))))) (ih (i + 1) _ _ (by omega) l1 (fun k hk => by rw [l3 k (by omega), p3 k (by omega)]; exact hf k hk)); done)
            | (refine kG.sub (kLe_s rfl (kLe_s rfl (kLe_s rfl (kLe_s (v := .int (opI (wmN (wmF S kx) (i + 1)))) (by rw [eW]; done) (kLe_s (v := .int (nI (few (wmN (wmF S kx) (i + 1))))) (by rw [eW]; done) (kLe_s rfl kLe_0)))))) (ih (i + 1) _ _ (by omega) h hf); done)
            | (refine kG.sub (kLe_s rfl (kLe_s rfl (kLe_s rfl (kLe_s (v := .int (opI (wmN (wmF S kx) (i + 1)))) (by rw [eW]; done) (kLe_s (v := .int (nI (few (wmN (wmF S kx) (i + 1))))) (by rw [eW]; done) (kLe_s rfl kLe_0)))))) (ih (i + 1) _ _ (by omega) l1 (fun k hk => by rw [l3 k (by omega), p3 k (by omega)]; exact hf k hk)); done)
set_option maxHeartbeats 4000000 in
theorem x_warm (Γ : kGm) {S : AS} {μ : kM} {q : kq4} (h : CS S μ q) (x : Int32) : gC Γ yX4_warm mX4_warm 5 [.ref 1, .int x] μ q (PCi (s_warm S x) (S) μ) := by
  refine gC.ofG (n := 0) ⟨by decide +kernel, rfl, rfl, by decide⟩ (Nat.le_of_ble_eq_true rfl) ?_
  show gG Γ mX4_warm 5 0 [some (.ref 1), some (.int x), none, none, none, none] [] μ q _
  have ht := h.2.1.1
  have hD := h.2.2.1.1
  have okd := h.1.1
  have hH4 := h.1.1.1
  have hP6 := h.1.1.2.1
  refine kG.aload_n 1 dX4_warm_0 rfl rfl ?_
  refine kG.iload_n 2 dX4_warm_1 rfl rfl ?_
  refine gG.callV 5 dX4_warm_2 lX4_91 vX4_isPerson (c_isP Γ h x) rfl rfl ⟨by decide, by decide⟩ rfl ⟨by decide, rfl⟩ ⟨by decide, by decide⟩ (Nat.le_of_ble_eq_true rfl) rfl (fun r2 μ2 q2 hc2 => ?_)
  obtain ⟨rfl, rfl, rfl⟩ := hc2
  refine kG.if_ne 10 8 dX4_warm_5 (by decide) rfl (fun g2 => ?_) (fun g2 => ?_)
  · have hb2 := b2_n0.mp g2
    obtain ⟨kx, hkx, rfl, ex⟩ := inB_t (by omega) hb2
    have hP : 0 < dP (aD S) := by omega
    have hsn := h.1.2.2.1 hP
    refine kG.aload_n 11 dX4_warm_10 rfl rfl ?_
    refine gG.getI 14 dX4_warm_11 fX4_51 ⟨by decide, by decide⟩ rfl rfl rfl ?_
    refine kG.iconst (v := nI 1) 15 dX4_warm_14 (by decide) rfl ?_
    refine kG.iload_n 16 dX4_warm_15 rfl rfl ?_
    refine kG.ishl 17 dX4_warm_16 rfl ?_
    rw [h.2.2.1.2.2, n_shl (by omega)]
    refine kG.ior 18 dX4_warm_17 rfl ?_
    rw [n_or]
    refine kG.istore_n 19 dX4_warm_18 (by decide) rfl rfl ?_
    dsimp only [List.set]
    refine kG.bipush (v := (-9)) 21 dX4_warm_19 (by decide) rfl ?_
    refine kG.istore_n 22 dX4_warm_21 (by decide) rfl rfl ?_
    dsimp only [List.set]
    refine kG.bipush (v := nI 6) 24 dX4_warm_22 (by decide) rfl ?_
    refine kG.istore 26 dX4_warm_24 (by decide) rfl rfl ?_
    dsimp only [List.set]
    refine kG.iconst (v := nI 0) 27 dX4_warm_26 (by decide) rfl ?_
    refine kG.istore 29 dX4_warm_27 (by decide) rfl rfl ?_
    dsimp only [List.set]
    exact warm_loop Γ hkx _ (2 ^ dP (aD S)) 0 _ _ (by omega) h (fun _ _ => rfl)
  · have hb2 := b2_0.mp g2
    refine kG.iconst (v := (-1)) 9 dX4_warm_8 (by decide) rfl ?_
    refine gG.iret dX4_warm_9 rfl ?_
    exact ⟨by unfold s_warm; rw [if_neg (by rw [hb2]; decide)], h, fun _ _ => rfl⟩
set_option maxHeartbeats 4000000 in
theorem logs_loop (Γ : kGm) {S : AS} {kx : Nat} (hkx : kx < dH (aD S)) (μ0 : kM) : ∀ (m i : Nat) (μ : kM) (q : kq4), i + m = 100 → (CS S μ q) → (∀ k, 49 ≤ k → μ k = μ0 k) → (∀ j, j < i → lgF S kx j = false) → gG Γ mX4_logs 5 21 [some (.ref 1), some (.int (nI kx)), some (.int (nI (mk (fun p => decide (dho (aD S) p = kx)) (dP (aD S))))), some (.int (nI i))] [] (μ) q (PCi (s_logs S (nI kx)) S μ0) := by
  intro m
  induction m with
  | zero =>
    intro i μ q hm h hf hn
    have hH4 := h.1.1.1
    refine kG.iload_n 22 dX4_logs_21 rfl rfl ?_
    refine kG.bipush (v := nI 99) 24 dX4_logs_22 (by decide) rfl ?_
    refine kG.icmp_gt 78 27 dX4_logs_24 (by decide) rfl (fun h24 => ?_) (fun h24 => ?_)
    · refine kG.bipush (v := (-9)) 80 dX4_logs_78 (by decide) rfl ?_
      refine gG.iret dX4_logs_80 rfl ?_
      refine ⟨?_, h, hf⟩
      unfold s_logs
      rw [if_pos (inB_n (by omega) hkx), ixn_n (by omega), fsN_none (fun j hj => hn j (by omega))]
      rfl
    · exact absurd (nI_lt (by omega) (by omega)) h24
  | succ m ih =>
    intro i μ q hm h hf hn
    have ht := h.2.1.1
    have hD := h.2.2.1.1
    have okd := h.1.1
    have hH4 := h.1.1.1
    have hP6 := h.1.1.2.1
    have hP := hP0 h.1 hkx
    have hsn := h.1.2.2.1 hP
    refine kG.iload_n 22 dX4_logs_21 rfl rfl ?_
    refine kG.bipush (v := nI 99) 24 dX4_logs_22 (by decide) rfl ?_
    refine kG.icmp_gt 78 27 dX4_logs_24 (by decide) rfl (fun h24 => ?_) (fun h24 => ?_)
    · exact absurd h24 (nI_nlt (by omega) (by omega))
    · refine kG.aload_n 28 dX4_logs_27 rfl rfl ?_
      refine gG.getP 31 dX4_logs_28 fX4_48 ⟨by decide, by decide⟩ rfl rfl rfl rfl ?_
      refine kG.aload_n 32 dX4_logs_31 rfl rfl ?_
      refine gG.getP 35 dX4_logs_32 fX4_32 ⟨by decide, by decide⟩ rfl rfl rfl rfl ?_
      refine kG.aload_n 36 dX4_logs_35 rfl rfl ?_
      refine gG.getI 39 dX4_logs_36 fX4_51 ⟨by decide, by decide⟩ rfl rfl rfl ?_
      rw [h.2.2.1.2.2]
      refine gG.callV 42 dX4_logs_39 lX4_160 vX3_prepare (c_prepT Γ h (aA S)) rfl rfl ⟨by decide, by decide⟩ rfl ⟨by decide, rfl⟩ ⟨by decide, by decide⟩ (Nat.le_of_ble_eq_true rfl) rfl (fun r39 μ39 q39 hc39 => ?_)
      obtain ⟨rfl, rfl, p1, p2, p3⟩ := hc39
      refine kG.aload_n 43 dX4_logs_42 rfl rfl ?_
      refine gG.getP 46 dX4_logs_43 fX4_48 ⟨by decide, by decide⟩ rfl rfl rfl rfl ?_
      refine kG.iload_n 47 dX4_logs_46 rfl rfl ?_
      refine gG.putI 50 dX4_logs_47 fX4_176 ⟨by decide, by decide⟩ rfl rfl rfl ⟨rfl, rfl⟩ rfl ?_
      refine kG.aload_n 51 dX4_logs_50 rfl rfl ?_
      refine gG.getP 54 dX4_logs_51 fX4_48 ⟨by decide, by decide⟩ rfl rfl rfl rfl ?_
      refine kG.iload_n 55 dX4_logs_54 rfl rfl ?_
      refine gG.putI 58 dX4_logs_55 fX4_179 ⟨by decide, by decide⟩ rfl rfl rfl ⟨rfl, rfl⟩ rfl ?_
      have p4 : LVp (aD S) 34 (aS S) (aA S) (waS (aD S)) (aG S) kx i q.1 (uI (uI μ39 34 10 (nI kx)) 34 11 (nI i)) := ⟨TD_fr p2.1 (fun k a b => by rw [uI_off (by rcases ht with z | z <;> omega), uI_off (by rcases ht with z | z <;> omega)]), KD_fr p2.2.1 (fun k a b => by rw [uI_off (by omega), uI_off (by omega)]), by rw [uI_ne (Or.inr (by decide)), uI_ne (Or.inr (by decide))]; exact p2.2.2.1, by rw [uI_ne (Or.inr (by decide)), uI_ne (Or.inr (by decide))]; exact p2.2.2.2.1, fun h' hh => by rw [uI_ne (Or.inr (by decide)), uI_same]; exact nI_eq (by omega) (by omega), uI_same _ _ _ _, An_fr p2.2.2.2.2.2.2 (by rw [uI_off (by decide), uI_off (by decide)])⟩
      have p5 : CS S (uI (uI μ39 34 10 (nI kx)) 34 11 (nI i)) (stq q 34 q.1) := CS_tr p1 p1.2.1 ⟨rfl, rfl⟩ (fun k hk => by rw [uI_off (by omega), uI_off (by omega)])
      refine kG.aload_n 59 dX4_logs_58 rfl rfl ?_
      refine gG.getP 62 dX4_logs_59 fX4_48 ⟨by decide, by decide⟩ rfl rfl rfl rfl ?_
      refine kG.iconst (v := nI 1) 63 dX4_logs_62 (by decide) rfl ?_
      refine kG.iload_n 64 dX4_logs_63 rfl rfl ?_
      refine gG.callV 67 dX4_logs_64 lX4_165 vX3_live (c_liveT Γ p5 rfl p4 hsn (aA_64 h.1) (waS_le h.1.1) (by omega) 1 (mk (fun p => decide (dho (aD S) p = kx)) (dP (aD S))) (by decide) (Nat.lt_of_lt_of_le (mk_lt _ _) (Nat.pow_le_pow_right (by decide) hP6))) rfl rfl ⟨by decide, by decide⟩ rfl ⟨by decide, rfl⟩ ⟨by decide, by decide⟩ (Nat.le_of_ble_eq_true rfl) rfl (fun r64 μ64 q64 hc64 => ?_)
      obtain ⟨rfl, rfl, l1, -, l3⟩ := hc64
      rw [wm_mk]
      refine kG.if_eq 72 70 dX4_logs_67 (by decide) rfl (fun h67 => ?_) (fun h67 => ?_)
      · have hb : lgF S kx i = false := b2_0.mp h67
        refine kG.iinc (v := nI (i + 1)) 75 dX4_logs_72 rfl (nI_1 i) (by decide) rfl rfl ?_
        dsimp only [List.set]
        refine kG.goto 21 dX4_logs_75 (by decide) ?_
        refine ih (i + 1) _ _ (by omega) l1 (fun k hk => by rw [l3 k (by omega), uI_off (by omega), uI_off (by omega), p3 k (by omega)]; exact hf k hk) (fun j hj => ?_)
        by_cases e : j = i
        · subst e; exact hb
        · exact hn j (by omega)
      · have hb : lgF S kx i = true := b2_n0.mp h67
        refine kG.iload_n 71 dX4_logs_70 rfl rfl ?_
        refine gG.iret dX4_logs_71 rfl ?_
        refine ⟨?_, l1, fun k hk => by rw [l3 k (by omega), uI_off (by omega), uI_off (by omega), p3 k (by omega)]; exact hf k hk⟩
        unfold s_logs
        rw [if_pos (inB_n (by omega) hkx), ixn_n (by omega), fsN_some hn hb 100 (by omega)]
        rfl
set_option maxHeartbeats 4000000 in
theorem x_logs (Γ : kGm) {S : AS} {μ : kM} {q : kq4} (h : CS S μ q) (x : Int32) : gC Γ yX4_logs mX4_logs 5 [.ref 1, .int x] μ q (PCi (s_logs S x) (S) μ) := by
  refine gC.ofG (n := 0) ⟨by decide +kernel, rfl, rfl, by decide⟩ (Nat.le_of_ble_eq_true rfl) ?_
  show gG Γ mX4_logs 5 0 [some (.ref 1), some (.int x), none, none] [] μ q _
  have ht := h.2.1.1
  have hD := h.2.2.1.1
  have okd := h.1.1
  have hH4 := h.1.1.1
  have hP6 := h.1.1.2.1
  refine kG.aload_n 1 dX4_logs_0 rfl rfl ?_
  refine kG.iload_n 2 dX4_logs_1 rfl rfl ?_
  refine gG.callV 5 dX4_logs_2 lX4_80 vX4_isHouse (c_isH Γ h x) rfl rfl ⟨by decide, by decide⟩ rfl ⟨by decide, rfl⟩ ⟨by decide, by decide⟩ (Nat.le_of_ble_eq_true rfl) rfl (fun r2 μ2 q2 hc2 => ?_)
  obtain ⟨rfl, rfl, rfl⟩ := hc2
  refine kG.if_ne 10 8 dX4_logs_5 (by decide) rfl (fun g2 => ?_) (fun g2 => ?_)
  · have hb2 := b2_n0.mp g2
    obtain ⟨kx, hkx, rfl, ex⟩ := inB_t (by omega) hb2
    have hP := hP0 h.1 hkx
    have hsn := h.1.2.2.1 hP
    refine kG.aload_n 11 dX4_logs_10 rfl rfl ?_
    refine gG.getP 14 dX4_logs_11 fX4_32 ⟨by decide, by decide⟩ rfl rfl rfl rfl ?_
    refine kG.iload_n 15 dX4_logs_14 rfl rfl ?_
    refine gG.callV 18 dX4_logs_15 lX4_173 vX2_dwellersOf (c_dwellersOf Γ ht hD okd kx (by omega)) rfl rfl (isT_k h.2.1.1) (isT_s h.2.1.1) ⟨by decide, rfl⟩ ⟨by decide, by decide⟩ (Nat.le_of_ble_eq_true rfl) rfl (fun r15 μ15 q15 hc15 => ?_)
    obtain ⟨rfl, rfl, rfl⟩ := hc15
    refine kG.istore_n 19 dX4_logs_18 (by decide) rfl rfl ?_
    dsimp only [List.set]
    refine kG.iconst (v := nI 0) 20 dX4_logs_19 (by decide) rfl ?_
    refine kG.istore_n 21 dX4_logs_20 (by decide) rfl rfl ?_
    dsimp only [List.set]
    exact logs_loop Γ hkx _ 100 0 _ _ (by omega) h (fun _ _ => rfl) (fun j hj => absurd hj (Nat.not_lt_zero _))
  · have hb2 := b2_0.mp g2
    refine kG.iconst (v := (-1)) 9 dX4_logs_8 (by decide) rfl ?_
    refine gG.iret dX4_logs_9 rfl ?_
    exact ⟨by unfold s_logs; rw [if_neg (by rw [hb2]; decide)], h, fun _ _ => rfl⟩
set_option maxHeartbeats 4000000 in
theorem gone_loop (Γ : kGm) {S : AS} (hP : 0 < dP (aD S)) (μ0 : kM) : ∀ (m i : Nat) (μ : kM) (q : kq4), i + m = dP (aD S) → (CS S μ q) → (∀ k, 49 ≤ k → μ k = μ0 k) → gG Γ mX4_gone 5 17 [some (.ref 1), some (.int (nI (mk (fun p => rdS S (cfA S (aA S ||| 2 ^ p))) i))), some (.int (nI i))] [] (μ) q (PCi (s_gone S) S μ0) := by
  intro m
  induction m with
  | zero =>
    intro i μ q hm h hf
    have hP6 := h.1.1.2.1
    refine kG.iload_n 18 dX4_gone_17 rfl rfl ?_
    refine kG.aload_n 19 dX4_gone_18 rfl rfl ?_
    refine gG.getP 22 dX4_gone_19 fX4_32 ⟨by decide, by decide⟩ rfl rfl rfl rfl ?_
    refine gG.getI 25 dX4_gone_22 fX4_187 (isT_k h.2.1.1) (isT_s h.2.1.1) rfl rfl ?_
    refine kG.icmp_ge 66 28 dX4_gone_25 (by decide) rfl (fun h25 => ?_) (fun h25 => ?_)
    · refine kG.iload_n 67 dX4_gone_66 rfl rfl ?_
      refine gG.iret dX4_gone_67 rfl ?_
      refine ⟨?_, h, hf⟩
      unfold s_gone
      rw [if_neg (by omega), show dP (aD S) = i by omega]
    · rw [h.2.2.1.1.2.1] at h25
      exact absurd (nI_le (by omega) (by omega)) h25
  | succ m ih =>
    intro i μ q hm h hf
    have ht := h.2.1.1
    have hD := h.2.2.1.1
    have okd := h.1.1
    have hH4 := h.1.1.1
    have hP6 := h.1.1.2.1
    have hsn := h.1.2.2.1 hP
    refine kG.iload_n 18 dX4_gone_17 rfl rfl ?_
    refine kG.aload_n 19 dX4_gone_18 rfl rfl ?_
    refine gG.getP 22 dX4_gone_19 fX4_32 ⟨by decide, by decide⟩ rfl rfl rfl rfl ?_
    refine gG.getI 25 dX4_gone_22 fX4_187 (isT_k h.2.1.1) (isT_s h.2.1.1) rfl rfl ?_
    refine kG.icmp_ge 66 28 dX4_gone_25 (by decide) rfl (fun h25 => ?_) (fun h25 => ?_)
    · rw [h.2.2.1.1.2.1] at h25
      exact absurd h25 (nI_ge (by omega) (by omega))
    · refine kG.aload_n 29 dX4_gone_28 rfl rfl ?_
      refine gG.getP 32 dX4_gone_29 fX4_48 ⟨by decide, by decide⟩ rfl rfl rfl rfl ?_
      refine kG.aload_n 33 dX4_gone_32 rfl rfl ?_
      refine gG.getP 36 dX4_gone_33 fX4_32 ⟨by decide, by decide⟩ rfl rfl rfl rfl ?_
      refine kG.aload_n 37 dX4_gone_36 rfl rfl ?_
      refine gG.getI 40 dX4_gone_37 fX4_51 ⟨by decide, by decide⟩ rfl rfl rfl ?_
      refine kG.iconst (v := nI 1) 41 dX4_gone_40 (by decide) rfl ?_
      refine kG.iload_n 42 dX4_gone_41 rfl rfl ?_
      refine kG.ishl 43 dX4_gone_42 rfl ?_
      rw [h.2.2.1.2.2, n_shl (by omega)]
      refine kG.ior 44 dX4_gone_43 rfl ?_
      rw [n_or]
      refine gG.callV 47 dX4_gone_44 lX4_160 vX3_prepare (c_prepT Γ h (aA S ||| 2 ^ i)) rfl rfl ⟨by decide, by decide⟩ rfl ⟨by decide, rfl⟩ ⟨by decide, by decide⟩ (Nat.le_of_ble_eq_true rfl) rfl (fun r44 μ44 q44 hc44 => ?_)
      obtain ⟨rfl, rfl, p1, p2, p3⟩ := hc44
      refine kG.aload_n 48 dX4_gone_47 rfl rfl ?_
      refine gG.callV 51 dX4_gone_48 lX4_208 vX4_readingsAreSoInTrial (c_areSo Γ p1 rfl p2 hsn (or_64 (aA_64 h.1) (show i < dP (aD S) by omega) hP6) (waS_le h.1.1) (by decide)) rfl rfl ⟨by decide, by decide⟩ rfl ⟨by decide, rfl⟩ ⟨by decide, by decide⟩ (Nat.le_of_ble_eq_true rfl) rfl (fun r48 μ48 q48 hc48 => ?_)
      obtain ⟨rfl, rfl, l1, l3⟩ := hc48
      refine kG.if_eq 60 54 dX4_gone_51 (by decide) rfl (fun h51 => ?_) (fun h51 => ?_)
      · have hb : (fun p => rdS S (cfA S (aA S ||| 2 ^ p))) i = false := b2_0.mp h51
        refine kG.iinc (v := nI (i + 1)) 63 dX4_gone_60 rfl (nI_1 i) (by decide) rfl rfl ?_
        dsimp only [List.set]
        refine kG.goto 17 dX4_gone_63 (by decide) ?_
        first
          | exact ih (i + 1) _ _ (by omega) l1 (fun k hk => by rw [l3 k (by omega), p3 k (by omega)]; exact hf k hk)
          | (rw [← mk_f (f := (fun p => rdS S (cfA S (aA S ||| 2 ^ p)))) hb]; exact ih (i + 1) _ _ (by omega) l1 (fun k hk => by rw [l3 k (by omega), p3 k (by omega)]; exact hf k hk))
      · have hb : (fun p => rdS S (cfA S (aA S ||| 2 ^ p))) i = true := b2_n0.mp h51
        refine kG.iload_n 55 dX4_gone_54 rfl rfl ?_
        refine kG.iconst (v := nI 1) 56 dX4_gone_55 (by decide) rfl ?_
        refine kG.iload_n 57 dX4_gone_56 rfl rfl ?_
        refine kG.ishl 58 dX4_gone_57 rfl ?_
        refine kG.ior 59 dX4_gone_58 rfl ?_
        rw [n_shl (by omega), n_or, ← mk_t (f := (fun p => rdS S (cfA S (aA S ||| 2 ^ p)))) hb]
        refine kG.istore_n 60 dX4_gone_59 (by decide) rfl rfl ?_
        dsimp only [List.set]
        refine kG.iinc (v := nI (i + 1)) 63 dX4_gone_60 rfl (nI_1 i) (by decide) rfl rfl ?_
        dsimp only [List.set]
        refine kG.goto 17 dX4_gone_63 (by decide) ?_
        first
          | exact ih (i + 1) _ _ (by omega) l1 (fun k hk => by rw [l3 k (by omega), p3 k (by omega)]; exact hf k hk)
          | (rw [← mk_f (f := (fun p => rdS S (cfA S (aA S ||| 2 ^ p)))) hb]; exact ih (i + 1) _ _ (by omega) l1 (fun k hk => by rw [l3 k (by omega), p3 k (by omega)]; exact hf k hk))
set_option maxHeartbeats 4000000 in
theorem x_gone (Γ : kGm) {S : AS} {μ : kM} {q : kq4} (h : CS S μ q) : gC Γ yX4_gone mX4_gone 5 [.ref 1] μ q (PCi (s_gone S) (S) μ) := by
  refine gC.ofG (n := 0) ⟨by decide +kernel, rfl, rfl, by decide⟩ (Nat.le_of_ble_eq_true rfl) ?_
  show gG Γ mX4_gone 5 0 [some (.ref 1), none, none] [] μ q _
  have ht := h.2.1.1
  have hD := h.2.2.1.1
  have okd := h.1.1
  have hH4 := h.1.1.1
  have hP6 := h.1.1.2.1
  refine kG.aload_n 1 dX4_gone_0 rfl rfl ?_
  refine gG.getP 4 dX4_gone_1 fX4_32 ⟨by decide, by decide⟩ rfl rfl rfl rfl ?_
  refine gG.getI 7 dX4_gone_4 fX4_77 (isT_k h.2.1.1) (isT_s h.2.1.1) rfl rfl ?_
  refine kG.if_ne 13 10 dX4_gone_7 (by decide) rfl (fun h7 => ?_) (fun h7 => ?_)
  · have hz : dP (aD S) ≠ 0 := fun z => h7 ((HP h).mpr z)
    have hP : 0 < dP (aD S) := by omega
    have hsn := h.1.2.2.1 hP
    refine kG.iconst (v := nI 0) 14 dX4_gone_13 (by decide) rfl ?_
    refine kG.istore_n 15 dX4_gone_14 (by decide) rfl rfl ?_
    dsimp only [List.set]
    refine kG.iconst (v := nI 0) 16 dX4_gone_15 (by decide) rfl ?_
    refine kG.istore_n 17 dX4_gone_16 (by decide) rfl rfl ?_
    dsimp only [List.set]
    exact gone_loop Γ hP _ (dP (aD S)) 0 _ _ (by omega) h (fun _ _ => rfl)
  · have hz := (HP h).mp h7
    refine kG.bipush (v := (-3)) 12 dX4_gone_10 (by decide) rfl ?_
    refine gG.iret dX4_gone_12 rfl ?_
    exact ⟨by unfold s_gone; rw [if_pos hz], h, fun _ _ => rfl⟩
set_option maxHeartbeats 4000000 in
theorem seams_loop (Γ : kGm) {S : AS} (hP : 0 < dP (aD S)) (μ0 : kM) : ∀ (m i : Nat) (μ : kM) (q : kq4), i + m = 13 → (CS S μ q) → (∀ k, 49 ≤ k → μ k = μ0 k) → gG Γ mX4_seams 5 17 [some (.ref 1), some (.int (nI (mk (fun v => decide (1 ≤ v) && rdS S (cfV S v)) (i + 1)))), some (.int (nI (i + 1)))] [] (μ) q (PCi (s_seams S) S μ0) := by
  intro m
  induction m with
  | zero =>
    intro i μ q hm h hf
    have hP6 := h.1.1.2.1
    refine kG.iload_n 18 dX4_seams_17 rfl rfl ?_
    refine kG.bipush (v := nI 14) 20 dX4_seams_18 (by decide) rfl ?_
    refine kG.icmp_ge 65 23 dX4_seams_20 (by decide) rfl (fun h20 => ?_) (fun h20 => ?_)
    · refine kG.iload_n 66 dX4_seams_65 rfl rfl ?_
      refine gG.iret dX4_seams_66 rfl ?_
      refine ⟨?_, h, hf⟩
      unfold s_seams
      rw [if_neg (by omega), show i + 1 = 14 by omega]
    · exact absurd (nI_le (by omega) (by omega)) h20
  | succ m ih =>
    intro i μ q hm h hf
    have ht := h.2.1.1
    have hD := h.2.2.1.1
    have okd := h.1.1
    have hH4 := h.1.1.1
    have hP6 := h.1.1.2.1
    have hsn := h.1.2.2.1 hP
    refine kG.iload_n 18 dX4_seams_17 rfl rfl ?_
    refine kG.bipush (v := nI 14) 20 dX4_seams_18 (by decide) rfl ?_
    refine kG.icmp_ge 65 23 dX4_seams_20 (by decide) rfl (fun h20 => ?_) (fun h20 => ?_)
    · exact absurd h20 (nI_ge (by omega) (by omega))
    · refine kG.aload_n 24 dX4_seams_23 rfl rfl ?_
      refine gG.getP 27 dX4_seams_24 fX4_48 ⟨by decide, by decide⟩ rfl rfl rfl rfl ?_
      refine kG.aload_n 28 dX4_seams_27 rfl rfl ?_
      refine gG.getP 31 dX4_seams_28 fX4_32 ⟨by decide, by decide⟩ rfl rfl rfl rfl ?_
      refine kG.aload_n 32 dX4_seams_31 rfl rfl ?_
      refine gG.getI 35 dX4_seams_32 fX4_51 ⟨by decide, by decide⟩ rfl rfl rfl ?_
      rw [h.2.2.1.2.2]
      refine gG.callV 38 dX4_seams_35 lX4_160 vX3_prepare (c_prepT Γ h (aA S)) rfl rfl ⟨by decide, by decide⟩ rfl ⟨by decide, rfl⟩ ⟨by decide, by decide⟩ (Nat.le_of_ble_eq_true rfl) rfl (fun r35 μ35 q35 hc35 => ?_)
      obtain ⟨rfl, rfl, p1, p2, p3⟩ := hc35
      have p4 : LVp (aD S) 34 (i + 1) (aA S) (waS (aD S)) (aG S) 9 0 q.1 (uI μ35 34 9 (nI (i + 1))) := ⟨TD_fr p2.1 (fun k a b => uI_off (by rcases ht with z | z <;> omega)), KD_fr p2.2.1 (fun k a b => uI_off (by omega)), by rw [uI_ne (Or.inr (by decide))]; exact p2.2.2.1, uI_same _ _ _ _, fun h' hh => by rw [uI_ne (Or.inr (by decide))]; exact p2.2.2.2.2.1 h' hh, by rw [uI_ne (Or.inr (by decide))]; exact p2.2.2.2.2.2.1, An_fr p2.2.2.2.2.2.2 (uI_off (by decide))⟩
      have p5 : CS S (uI μ35 34 9 (nI (i + 1))) (stq q 34 q.1) := CS_tr p1 p1.2.1 ⟨rfl, rfl⟩ (fun k hk => uI_off (by omega))
      refine kG.aload_n 39 dX4_seams_38 rfl rfl ?_
      refine gG.getP 42 dX4_seams_39 fX4_48 ⟨by decide, by decide⟩ rfl rfl rfl rfl ?_
      refine kG.iload_n 43 dX4_seams_42 rfl rfl ?_
      refine gG.putI 46 dX4_seams_43 fX4_164 ⟨by decide, by decide⟩ rfl rfl rfl ⟨rfl, rfl⟩ rfl ?_
      refine kG.aload_n 47 dX4_seams_46 rfl rfl ?_
      refine gG.callV 50 dX4_seams_47 lX4_208 vX4_readingsAreSoInTrial (c_areSo Γ p5 rfl p4 (by omega) (aA_64 h.1) (waS_le h.1.1) (by decide)) rfl rfl ⟨by decide, by decide⟩ rfl ⟨by decide, rfl⟩ ⟨by decide, by decide⟩ (Nat.le_of_ble_eq_true rfl) rfl (fun r47 μ47 q47 hc47 => ?_)
      obtain ⟨rfl, rfl, l1, l3⟩ := hc47
      refine kG.if_eq 59 53 dX4_seams_50 (by decide) rfl (fun h50 => ?_) (fun h50 => ?_)
      · have hb : (fun v => decide (1 ≤ v) && rdS S (cfV S v)) (i + 1) = false := by rw [show (fun v => decide (1 ≤ v) && rdS S (cfV S v)) (i + 1) = (decide (1 ≤ i + 1) && rdS S (cfV S (i + 1))) from rfl, decide_eq_true (show 1 ≤ i + 1 by omega), Bool.true_and]; exact b2_0.mp h50
        refine kG.iinc (v := nI (i + 1 + 1)) 62 dX4_seams_59 rfl (nI_1 (i + 1)) (by decide) rfl rfl ?_
        dsimp only [List.set]
        refine kG.goto 17 dX4_seams_62 (by decide) ?_
        first
          | exact ih (i + 1) _ _ (by omega) l1 (fun k hk => by rw [l3 k (by omega), uI_off (by omega), p3 k (by omega)]; exact hf k hk)
          | (rw [← mk_f (f := (fun v => decide (1 ≤ v) && rdS S (cfV S v))) hb]; exact ih (i + 1) _ _ (by omega) l1 (fun k hk => by rw [l3 k (by omega), uI_off (by omega), p3 k (by omega)]; exact hf k hk))
      · have hb : (fun v => decide (1 ≤ v) && rdS S (cfV S v)) (i + 1) = true := by rw [show (fun v => decide (1 ≤ v) && rdS S (cfV S v)) (i + 1) = (decide (1 ≤ i + 1) && rdS S (cfV S (i + 1))) from rfl, decide_eq_true (show 1 ≤ i + 1 by omega), Bool.true_and]; exact b2_n0.mp h50
        refine kG.iload_n 54 dX4_seams_53 rfl rfl ?_
        refine kG.iconst (v := nI 1) 55 dX4_seams_54 (by decide) rfl ?_
        refine kG.iload_n 56 dX4_seams_55 rfl rfl ?_
        refine kG.ishl 57 dX4_seams_56 rfl ?_
        refine kG.ior 58 dX4_seams_57 rfl ?_
        rw [n_shl (by omega), n_or, ← mk_t (f := (fun v => decide (1 ≤ v) && rdS S (cfV S v))) hb]
        refine kG.istore_n 59 dX4_seams_58 (by decide) rfl rfl ?_
        dsimp only [List.set]
        refine kG.iinc (v := nI (i + 1 + 1)) 62 dX4_seams_59 rfl (nI_1 (i + 1)) (by decide) rfl rfl ?_
        dsimp only [List.set]
        refine kG.goto 17 dX4_seams_62 (by decide) ?_
        first
          | exact ih (i + 1) _ _ (by omega) l1 (fun k hk => by rw [l3 k (by omega), uI_off (by omega), p3 k (by omega)]; exact hf k hk)
          | (rw [← mk_f (f := (fun v => decide (1 ≤ v) && rdS S (cfV S v))) hb]; exact ih (i + 1) _ _ (by omega) l1 (fun k hk => by rw [l3 k (by omega), uI_off (by omega), p3 k (by omega)]; exact hf k hk))
set_option maxHeartbeats 4000000 in
theorem x_seams (Γ : kGm) {S : AS} {μ : kM} {q : kq4} (h : CS S μ q) : gC Γ yX4_seams mX4_seams 5 [.ref 1] μ q (PCi (s_seams S) (S) μ) := by
  refine gC.ofG (n := 0) ⟨by decide +kernel, rfl, rfl, by decide⟩ (Nat.le_of_ble_eq_true rfl) ?_
  show gG Γ mX4_seams 5 0 [some (.ref 1), none, none] [] μ q _
  have ht := h.2.1.1
  have hD := h.2.2.1.1
  have okd := h.1.1
  have hH4 := h.1.1.1
  have hP6 := h.1.1.2.1
  refine kG.aload_n 1 dX4_seams_0 rfl rfl ?_
  refine gG.getP 4 dX4_seams_1 fX4_32 ⟨by decide, by decide⟩ rfl rfl rfl rfl ?_
  refine gG.getI 7 dX4_seams_4 fX4_77 (isT_k h.2.1.1) (isT_s h.2.1.1) rfl rfl ?_
  refine kG.if_ne 13 10 dX4_seams_7 (by decide) rfl (fun h7 => ?_) (fun h7 => ?_)
  · have hz : dP (aD S) ≠ 0 := fun z => h7 ((HP h).mpr z)
    have hP : 0 < dP (aD S) := by omega
    have hsn := h.1.2.2.1 hP
    refine kG.iconst (v := nI 0) 14 dX4_seams_13 (by decide) rfl ?_
    refine kG.istore_n 15 dX4_seams_14 (by decide) rfl rfl ?_
    dsimp only [List.set]
    refine kG.iconst (v := nI 1) 16 dX4_seams_15 (by decide) rfl ?_
    refine kG.istore_n 17 dX4_seams_16 (by decide) rfl rfl ?_
    dsimp only [List.set]
    exact seams_loop Γ hP _ 13 0 _ _ (by omega) h (fun _ _ => rfl)
  · have hz := (HP h).mp h7
    refine kG.bipush (v := (-3)) 12 dX4_seams_10 (by decide) rfl ?_
    refine gG.iret dX4_seams_12 rfl ?_
    exact ⟨by unfold s_seams; rw [if_pos hz], h, fun _ _ => rfl⟩
set_option maxHeartbeats 4000000 in
theorem kinds_loop (Γ : kGm) {S : AS} (hP : 0 < dP (aD S)) (μ0 : kM) {kx : Nat} (hkx : kx < dP (aD S)) : ∀ (m i : Nat) (μ : kM) (q : kq4), i + m = 3 → (CS S μ q) → (∀ k, 49 ≤ k → μ k = μ0 k) → gG Γ mX4_kinds 5 14 [some (.ref 1), some (.int (nI kx)), some (.int (nI (mk (fun k => rdS S (cfK S kx k)) i))), some (.int (nI i))] [] (μ) q (PCi (s_kinds S (nI kx)) S μ0) := by
  intro m
  induction m with
  | zero =>
    intro i μ q hm h hf
    have hP6 := h.1.1.2.1
    refine kG.iload_n 15 dX4_kinds_14 rfl rfl ?_
    refine kG.iconst (v := nI 3) 16 dX4_kinds_15 (by decide) rfl ?_
    refine kG.icmp_ge 75 19 dX4_kinds_16 (by decide) rfl (fun h16 => ?_) (fun h16 => ?_)
    · refine kG.iload_n 76 dX4_kinds_75 rfl rfl ?_
      refine gG.iret dX4_kinds_76 rfl ?_
      refine ⟨?_, h, hf⟩
      unfold s_kinds
      rw [if_pos (inB_n (by omega) hkx), ixn_n (by omega), show (3 : Nat) = i by omega]
    · exact absurd (nI_le (by omega) (by omega)) h16
  | succ m ih =>
    intro i μ q hm h hf
    have ht := h.2.1.1
    have hD := h.2.2.1.1
    have okd := h.1.1
    have hH4 := h.1.1.1
    have hP6 := h.1.1.2.1
    have hsn := h.1.2.2.1 hP
    refine kG.iload_n 15 dX4_kinds_14 rfl rfl ?_
    refine kG.iconst (v := nI 3) 16 dX4_kinds_15 (by decide) rfl ?_
    refine kG.icmp_ge 75 19 dX4_kinds_16 (by decide) rfl (fun h16 => ?_) (fun h16 => ?_)
    · exact absurd h16 (nI_ge (by omega) (by omega))
    · refine kG.aload_n 20 dX4_kinds_19 rfl rfl ?_
      refine gG.getP 23 dX4_kinds_20 fX4_48 ⟨by decide, by decide⟩ rfl rfl rfl rfl ?_
      refine kG.aload_n 24 dX4_kinds_23 rfl rfl ?_
      refine gG.getP 27 dX4_kinds_24 fX4_32 ⟨by decide, by decide⟩ rfl rfl rfl rfl ?_
      refine kG.aload_n 28 dX4_kinds_27 rfl rfl ?_
      refine gG.getI 31 dX4_kinds_28 fX4_51 ⟨by decide, by decide⟩ rfl rfl rfl ?_
      rw [h.2.2.1.2.2]
      refine gG.callV 34 dX4_kinds_31 lX4_160 vX3_prepare (c_prepT Γ h (aA S)) rfl rfl ⟨by decide, by decide⟩ rfl ⟨by decide, rfl⟩ ⟨by decide, by decide⟩ (Nat.le_of_ble_eq_true rfl) rfl (fun r31 μ31 q31 hc31 => ?_)
      obtain ⟨rfl, rfl, p1, p2, p3⟩ := hc31
      refine kG.aload_n 35 dX4_kinds_34 rfl rfl ?_
      refine gG.getP 38 dX4_kinds_35 fX4_48 ⟨by decide, by decide⟩ rfl rfl rfl rfl ?_
      refine gG.getP 41 dX4_kinds_38 fX4_212 ⟨by decide, by decide⟩ rfl rfl rfl rfl ?_
      refine kG.iload_n 42 dX4_kinds_41 rfl rfl ?_
      refine kG.iload_n 43 dX4_kinds_42 rfl rfl ?_
      refine kG.aload_n 44 dX4_kinds_43 rfl rfl ?_
      refine gG.getP 47 dX4_kinds_44 fX4_32 ⟨by decide, by decide⟩ rfl rfl rfl rfl ?_
      refine gG.getP 50 dX4_kinds_47 fX4_103 (isT_k h.2.1.1) (isT_s h.2.1.1) rfl (PI_T h.2.1.1 (by decide)) rfl ?_
      refine kG.iload_n 51 dX4_kinds_50 rfl rfl ?_
      refine gG.iald (n := 6) _ 52 dX4_kinds_51 (arT_k h.2.1.1 (by decide)) (arT_s h.2.1.1 (by decide)) rfl (by omega) (by decide) rfl ?_
      have e5 : μ31 ((stq q 34 q.1).1 + 1 + 5) kx = nI (dbu (aD S) kx) := (p2.1.2.2.2 kx hkx).2.2.2.1
      rw [e5]
      refine gG.callS 55 dX4_kinds_52 lX4_109 vX4_wantsOf (c_wantsOf Γ i _ (by omega)) rfl rfl ⟨by decide, by decide⟩ (Nat.le_of_ble_eq_true rfl) rfl (fun r52 μ52 q52 hc52 => ?_)
      obtain ⟨rfl, rfl, rfl⟩ := hc52
      rw [wan_eq]
      refine gG.iast (n := 6) _ 56 dX4_kinds_55 ⟨by decide, by decide⟩ rfl rfl (by omega) (by decide) rfl ?_
      have p4 : LVp (aD S) 34 (aS S) (aA S) (fu (waS (aD S)) kx (wan i (dbu (aD S) kx))) (aG S) 9 0 q.1 (uI μ52 (34 + 1 + 5) kx (nI (wan i (dbu (aD S) kx)))) := ⟨TD_fr p2.1 (fun k a b => uI_off (by rcases ht with z | z <;> omega)), KD_fr p2.2.1 (fun k a b => uI_off (by omega)), by rw [uI_off (by decide)]; exact p2.2.2.1, by rw [uI_off (by decide)]; exact p2.2.2.2.1, fun h' hh => by rw [uI_off (by decide)]; exact p2.2.2.2.2.1 h' hh, by rw [uI_off (by decide)]; exact p2.2.2.2.2.2.1, An_uI p2.2.2.2.2.2.2⟩
      have p5 : CS S (uI μ52 (34 + 1 + 5) kx (nI (wan i (dbu (aD S) kx)))) (stq q 34 q.1) := CS_tr p1 p1.2.1 ⟨rfl, rfl⟩ (fun k hk => uI_off (by omega))
      refine kG.aload_n 57 dX4_kinds_56 rfl rfl ?_
      refine gG.callV 60 dX4_kinds_57 lX4_208 vX4_readingsAreSoInTrial (c_areSo Γ p5 rfl p4 hsn (aA_64 h.1) (fun p hp => by by_cases e : p = kx; rw [e, fu_s]; exact wan_le (h.1.1.2.2.2 kx hkx).2.2.2.1; rw [fu_n e]; exact waS_le h.1.1 p hp) (by decide)) rfl rfl ⟨by decide, by decide⟩ rfl ⟨by decide, rfl⟩ ⟨by decide, by decide⟩ (Nat.le_of_ble_eq_true rfl) rfl (fun r57 μ57 q57 hc57 => ?_)
      obtain ⟨rfl, rfl, l1, l3⟩ := hc57
      refine kG.if_eq 69 63 dX4_kinds_60 (by decide) rfl (fun h60 => ?_) (fun h60 => ?_)
      · have hb : (fun k => rdS S (cfK S kx k)) i = false := b2_0.mp h60
        refine kG.iinc (v := nI (i + 1)) 72 dX4_kinds_69 rfl (nI_1 i) (by decide) rfl rfl ?_
        dsimp only [List.set]
        refine kG.goto 14 dX4_kinds_72 (by decide) ?_
        first
          | exact ih (i + 1) _ _ (by omega) l1 (fun k hk => by rw [l3 k (by omega), uI_off (by omega), p3 k (by omega)]; exact hf k hk)
          | (rw [← mk_f (f := (fun k => rdS S (cfK S kx k))) hb]; exact ih (i + 1) _ _ (by omega) l1 (fun k hk => by rw [l3 k (by omega), uI_off (by omega), p3 k (by omega)]; exact hf k hk))
      · have hb : (fun k => rdS S (cfK S kx k)) i = true := b2_n0.mp h60
        refine kG.iload_n 64 dX4_kinds_63 rfl rfl ?_
        refine kG.iconst (v := nI 1) 65 dX4_kinds_64 (by decide) rfl ?_
        refine kG.iload_n 66 dX4_kinds_65 rfl rfl ?_
        refine kG.ishl 67 dX4_kinds_66 rfl ?_
        refine kG.ior 68 dX4_kinds_67 rfl ?_
        rw [n_shl (by omega), n_or, ← mk_t (f := (fun k => rdS S (cfK S kx k))) hb]
        refine kG.istore_n 69 dX4_kinds_68 (by decide) rfl rfl ?_
        dsimp only [List.set]
        refine kG.iinc (v := nI (i + 1)) 72 dX4_kinds_69 rfl (nI_1 i) (by decide) rfl rfl ?_
        dsimp only [List.set]
        refine kG.goto 14 dX4_kinds_72 (by decide) ?_
        first
          | exact ih (i + 1) _ _ (by omega) l1 (fun k hk => by rw [l3 k (by omega), uI_off (by omega), p3 k (by omega)]; exact hf k hk)
          | (rw [← mk_f (f := (fun k => rdS S (cfK S kx k))) hb]; exact ih (i + 1) _ _ (by omega) l1 (fun k hk => by rw [l3 k (by omega), uI_off (by omega), p3 k (by omega)]; exact hf k hk))
set_option maxHeartbeats 4000000 in
theorem x_kinds (Γ : kGm) {S : AS} {μ : kM} {q : kq4} (h : CS S μ q) (x : Int32) : gC Γ yX4_kinds mX4_kinds 5 [.ref 1, .int x] μ q (PCi (s_kinds S x) (S) μ) := by
  refine gC.ofG (n := 0) ⟨by decide +kernel, rfl, rfl, by decide⟩ (Nat.le_of_ble_eq_true rfl) ?_
  show gG Γ mX4_kinds 5 0 [some (.ref 1), some (.int x), none, none] [] μ q _
  have ht := h.2.1.1
  have hD := h.2.2.1.1
  have okd := h.1.1
  have hH4 := h.1.1.1
  have hP6 := h.1.1.2.1
  refine kG.aload_n 1 dX4_kinds_0 rfl rfl ?_
  refine kG.iload_n 2 dX4_kinds_1 rfl rfl ?_
  refine gG.callV 5 dX4_kinds_2 lX4_91 vX4_isPerson (c_isP Γ h x) rfl rfl ⟨by decide, by decide⟩ rfl ⟨by decide, rfl⟩ ⟨by decide, by decide⟩ (Nat.le_of_ble_eq_true rfl) rfl (fun r2 μ2 q2 hc2 => ?_)
  obtain ⟨rfl, rfl, rfl⟩ := hc2
  refine kG.if_ne 10 8 dX4_kinds_5 (by decide) rfl (fun g2 => ?_) (fun g2 => ?_)
  · have hb2 := b2_n0.mp g2
    obtain ⟨kx, hkx, rfl, ex⟩ := inB_t (by omega) hb2
    have hP : 0 < dP (aD S) := by omega
    have hsn := h.1.2.2.1 hP
    refine kG.iconst (v := nI 0) 11 dX4_kinds_10 (by decide) rfl ?_
    refine kG.istore_n 12 dX4_kinds_11 (by decide) rfl rfl ?_
    dsimp only [List.set]
    refine kG.iconst (v := nI 0) 13 dX4_kinds_12 (by decide) rfl ?_
    refine kG.istore_n 14 dX4_kinds_13 (by decide) rfl rfl ?_
    dsimp only [List.set]
    exact kinds_loop Γ hP _ hkx 3 0 _ _ (by omega) h (fun _ _ => rfl)
  · have hb2 := b2_0.mp g2
    refine kG.iconst (v := (-1)) 9 dX4_kinds_8 (by decide) rfl ?_
    refine gG.iret dX4_kinds_9 rfl ?_
    exact ⟨by unfold s_kinds; rw [if_neg (by rw [hb2]; decide)], h, fun _ _ => rfl⟩
