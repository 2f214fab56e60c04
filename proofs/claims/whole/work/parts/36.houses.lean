def ffN (c : Nat → Int32) (n : Nat) : Option Nat := match fsN (fun j => (rn c (j + 1)).isNone) n with
  | some j => some j
  | none => if (match rn c n with | some s => whl s | none => false) then none else some n
def psD (o : Option PSt) : Nat × Dt := match o with
  | some s => (s.2.2.1, s.2.2.2)
  | none => (0, D0)
def txC (S : AS) (k i : Nat) : Nat → Int32 := fun j => aC S k (i + j)
def s_houses (S : AS) (k l i n : Int32) : Int32 := match ceF S k l i n with
  | some e => e.1
  | none => match ffN (txC S (ixn k) (ixn i)) (ixn n) with
    | some j => -100 - nI j
    | none => nI (dH (psD (rn (txC S (ixn k) (ixn i)) (ixn n))).2)
def sHo (S : AS) (x : Nat × Dt) : AS := (x.2, x.1, 0, (0, (aG S).2), (0, (aR S).2), aL S, aN S, aC S, aT S, nI 0)
def n_houses (S : AS) (k l i n : Int32) : AS := match ceF S k l i n with
  | some e => sFa S e.2
  | none => match ffN (txC S (ixn k) (ixn i)) (ixn n) with
    | some _ => sFa S (nI 0)
    | none => sHo S (psD (rn (txC S (ixn k) (ixn i)) (ixn n)))
theorem rn_dn {c : Nat → Int32} : ∀ {n : Nat} {s : PSt}, rn c n = some s → ∀ j, j < n → (rn c (j + 1)).isNone = false
  | 0, _, _, j, hj => absurd hj (Nat.not_lt_zero _)
  | n + 1, s, h, j, hj => by
    by_cases e : j = n
    · subst e; rw [h]; rfl
    · unfold rn at h
      cases hr : rn c n with
      | none => rw [hr] at h; cases h
      | some s0 => exact rn_dn hr j (by omega)
theorem ffN_at {c : Nat → Int32} {n i : Nat} {s : PSt} (h : rn c i = some s) (hi : i < n) (hf : stp s (c i) = none) : ffN c n = some i := by
  unfold ffN
  rw [fsN_some (rn_dn h) (by show (rn c (i + 1)).isNone = true; unfold rn; rw [h]; show (stp s (c i)).isNone = true; rw [hf]; rfl) n hi]
theorem ffN_end {c : Nat → Int32} {n : Nat} {s : PSt} (h : rn c n = some s) : ffN c n = if whl s then none else some n := by
  unfold ffN
  rw [fsN_none (rn_dn h), h]
set_option maxHeartbeats 4000000 in
theorem ff_loop (Γ : kGm) {S : AS} {kx ki kn : Nat} (hkx : kx < 4) (hn0 : aL S kx ≠ 0) (hN : ki + kn ≤ aN S kx) {μ0 : kM} {q : kq4} (h : CS S μ0 q) : ∀ (m i : Nat) (μ : kM) (s : PSt), i + m = kn → (rn (txC S kx ki) i = some s) → (PR s q.2.1 μ) → (∀ k, (k < q.2.1 ∨ q.2.1 + 7 < k) → μ k = μ0 k) → gG Γ mX4_firstFault 5 10 [some (.ref 1), some (.ref (shc kx)), some (.int (nI ki)), some (.int (nI kn)), some (.int (nI i))] [] (μ) q (fun r μ' q' => r = some (.int (opI (ffN (txC S kx ki) kn))) ∧ q' = q ∧ (∀ k, (k < q.2.1 ∨ q.2.1 + 7 < k) → μ' k = μ0 k) ∧ (ffN (txC S kx ki) kn = none → ∃ s, rn (txC S kx ki) kn = some s ∧ whl s = true ∧ PR s q.2.1 μ')) := by
  intro m
  induction m with
  | zero =>
    intro i μ s hm hr hP hf
    have hdr := h.2.1.2.1
    have hn6 := (h.1.2.2.2.2.2.2.2 kx hkx).2
    refine kG.iload 12 dX4_firstFault_10 rfl rfl ?_
    refine kG.iload_n 13 dX4_firstFault_12 rfl rfl ?_
    refine kG.icmp_ge 43 16 dX4_firstFault_13 (by decide) rfl (fun h13 => ?_) (fun h13 => ?_)
    · refine kG.aload_n 44 dX4_firstFault_43 rfl rfl ?_
      refine gG.getP 47 dX4_firstFault_44 fX4_36 ⟨by decide, by decide⟩ rfl rfl rfl rfl ?_
      refine gG.callV 50 dX4_firstFault_47 lX4_276 vX2_isWhole (c_isWhole Γ hdr hP (okP_rn hr)) rfl rfl (isT_k hdr) (isT_s hdr) ⟨by decide, rfl⟩ ⟨by decide, by decide⟩ (Nat.le_of_ble_eq_true rfl) rfl (fun r47 μ47 q47 hc47 => ?_)
      obtain ⟨rfl, rfl, rfl⟩ := hc47
      refine kG.if_eq 58 53 dX4_firstFault_50 (by decide) rfl (fun h50 => ?_) (fun h50 => ?_)
      · have hw := b2_0.mp h50
        have ef := ffN_end hr
        rw [hw, if_neg (by decide)] at ef
        refine kG.iload_n 59 dX4_firstFault_58 rfl rfl ?_
        refine gG.iret dX4_firstFault_59 rfl ?_
        rw [show kn = i by omega, ef]
        exact ⟨rfl, rfl, hf, fun z => by cases z⟩
      · have hw := b2_n0.mp h50
        have ef := ffN_end hr
        rw [hw, if_pos rfl] at ef
        refine kG.bipush (v := (-9)) 55 dX4_firstFault_53 (by decide) rfl ?_
        refine kG.goto 59 dX4_firstFault_55 (by decide) ?_
        refine gG.iret dX4_firstFault_59 rfl ?_
        rw [show kn = i by omega, ef]
        exact ⟨rfl, rfl, hf, fun _ => ⟨s, hr, hw, hP⟩⟩
    · exact absurd (nI_le (by omega) (by omega)) h13
  | succ m ih =>
    intro i μ s hm hr hP hf
    have hdr := h.2.1.2.1
    have hn6 := (h.1.2.2.2.2.2.2.2 kx hkx).2
    have g2 := (h.2.2.2.2.1 kx hkx).2 hn0
    refine kG.iload 12 dX4_firstFault_10 rfl rfl ?_
    refine kG.iload_n 13 dX4_firstFault_12 rfl rfl ?_
    refine kG.icmp_ge 43 16 dX4_firstFault_13 (by decide) rfl (fun h13 => ?_) (fun h13 => ?_)
    · exact absurd h13 (nI_ge (by omega) (by omega))
    · refine kG.aload_n 17 dX4_firstFault_16 rfl rfl ?_
      refine gG.getP 20 dX4_firstFault_17 fX4_36 ⟨by decide, by decide⟩ rfl rfl rfl rfl ?_
      refine kG.aload_n 21 dX4_firstFault_20 rfl rfl ?_
      refine kG.iload_n 22 dX4_firstFault_21 rfl rfl ?_
      refine kG.iload 24 dX4_firstFault_22 rfl rfl ?_
      refine kG.iadd 25 dX4_firstFault_24 rfl ?_
      rw [nI_add]
      refine gG.callV 28 dX4_firstFault_25 lX4_205 vX1_read (c_read Γ (shc_S hkx) (aN S kx) hn6 (by rw [hf _ (by unfold shc; rcases hdr with z | z <;> omega)]; exact g2.1) (ki + i) (by omega)) rfl rfl (isS_k (shc_S hkx)) (isS_s (shc_S hkx)) ⟨by decide, rfl⟩ ⟨by decide, by decide⟩ (Nat.le_of_ble_eq_true rfl) rfl (fun r25 μ25 q25 hc25 => ?_)
      obtain ⟨rfl, rfl, rfl⟩ := hc25
      rw [if_pos (by omega), hf _ (by unfold shc; rcases hdr with z | z <;> omega), g2.2 (ki + i) (by omega)]
      refine gG.callV 31 dX4_firstFault_28 lX4_273 vX2_goesOn (c_goesOn Γ hdr (txC S kx ki i) hP (okP_rn hr) (sn0_rn hr)) rfl rfl (isT_k hdr) (isT_s hdr) ⟨by decide, rfl⟩ ⟨by decide, by decide⟩ (Nat.le_of_ble_eq_true rfl) rfl (fun r28 μ28 q28 hc28 => ?_)
      obtain ⟨rfl, rfl, f1, f2⟩ := hc28
      refine kG.if_ne 37 34 dX4_firstFault_31 (by decide) rfl (fun h31 => ?_) (fun h31 => ?_)
      · have hs : (stp s (txC S kx ki i)).isSome = true := b2_n0.mp h31
        obtain ⟨s2, hs2⟩ := Option.isSome_iff_exists.mp hs
        refine kG.iinc (v := nI (i + 1)) 40 dX4_firstFault_37 rfl (nI_1 i) (by decide) rfl rfl ?_
        dsimp only [List.set]
        refine kG.goto 10 dX4_firstFault_40 (by decide) ?_
        exact ih (i + 1) _ s2 (by omega) (by unfold rn; rw [hr]; exact hs2) (f2 s2 hs2) (fun k hk => by rw [f1 k hk]; exact hf k hk)
      · have hs : (stp s (txC S kx ki i)).isSome = false := b2_0.mp h31
        have hs2 : stp s (txC S kx ki i) = none := by cases hq : stp s (txC S kx ki i) with | none => rfl | some _ => rw [hq] at hs; cases hs
        refine kG.iload 36 dX4_firstFault_34 rfl rfl ?_
        refine gG.iret dX4_firstFault_36 rfl ?_
        rw [ffN_at hr (show i < kn by omega) hs2]
        exact ⟨rfl, rfl, fun k hk => by rw [f1 k hk]; exact hf k hk, fun z => by cases z⟩
set_option maxHeartbeats 4000000 in
theorem c_firstFault (Γ : kGm) {S : AS} {kx ki kn : Nat} (hkx : kx < 4) (hn0 : aL S kx ≠ 0) (hN : ki + kn ≤ aN S kx) {μ0 : kM} {q : kq4} (h : CS S μ0 q) : gC Γ yX4_firstFault mX4_firstFault 5 [.ref 1, .ref (shc kx), .int (nI ki), .int (nI kn)] μ0 q (fun r μ' q' => r = some (.int (opI (ffN (txC S kx ki) kn))) ∧ q' = q ∧ (∀ k, (k < q.2.1 ∨ q.2.1 + 7 < k) → μ' k = μ0 k) ∧ (ffN (txC S kx ki) kn = none → ∃ s, rn (txC S kx ki) kn = some s ∧ whl s = true ∧ PR s q.2.1 μ')) := by
  refine gC.ofG (n := 0) ⟨by decide +kernel, rfl, rfl, by decide⟩ (Nat.le_of_ble_eq_true rfl) ?_
  show gG Γ mX4_firstFault 5 0 [some (.ref 1), some (.ref (shc kx)), some (.int (nI ki)), some (.int (nI kn)), none] [] μ0 q _
  have hdr := h.2.1.2.1
  refine kG.aload_n 1 dX4_firstFault_0 rfl rfl ?_
  refine gG.getP 4 dX4_firstFault_1 fX4_36 ⟨by decide, by decide⟩ rfl rfl rfl rfl ?_
  refine gG.callV 7 dX4_firstFault_4 lX4_270 vX2_begin (c_begin Γ hdr) rfl rfl (isT_k hdr) (isT_s hdr) ⟨by decide, rfl⟩ ⟨by decide, by decide⟩ (Nat.le_of_ble_eq_true rfl) rfl (fun r4 μ4 q4 hc4 => ?_)
  obtain ⟨rfl, rfl, f1, f2⟩ := hc4
  refine kG.iconst (v := nI 0) 8 dX4_firstFault_7 (by decide) rfl ?_
  refine kG.istore 10 dX4_firstFault_8 (by decide) rfl rfl ?_
  dsimp only [List.set]
  exact ff_loop Γ hkx hn0 hN h kn 0 _ _ (by omega) rfl f2 (fun k hk => f1 k (by omega))
theorem CS_ho {S : AS} {μ μ' : kM} {q : kq4} {s : PSt} (h : CS S μ q) (ok : okP s) (hw : whl s = true) (hP : PR s q.2.1 μ') (h17 : μ' 1 7 = nI 0) (h18 : μ' 1 8 = nI 0) (h19 : μ' 1 9 = μ 1 9) (hf : μ' 1 10 = nI 0) (h34 : μ' 3 4 = nI 0) (h30 : μ' 3 0 = μ 3 0) (h74 : μ' 7 4 = nI 0) (h70 : μ' 7 0 = μ 7 0) (hs : ∀ k, 41 ≤ k → k ≤ 48 → μ' k = μ k) : CS (sHo S (psD (some s))) μ' (q.2.1, q.1, q.2.2) := by
  obtain ⟨k1, k2, k3, k4, k5⟩ := okP_D ok hw
  obtain ⟨p, l, sn, D⟩ := s
  have e3 : p = 3 := of_decide_eq_true (Bool.and_eq_true_iff.mp hw).1
  subst e3
  obtain ⟨h1, h2, h3, h4, h5, f0, f1, f2, f3, f4, f5, f6⟩ := (show PQ 3 l sn D q.2.1 μ' from hP)
  refine ⟨⟨k1, ?_, fun _ => ⟨k4, k5⟩, k5, Nat.two_pow_pos _, ⟨fun i hi => absurd hi (Nat.not_lt_zero _), Nat.zero_le _⟩, ⟨fun i hi => absurd hi (Nat.not_lt_zero _), Nat.zero_le _⟩, h.1.2.2.2.2.2.2.2⟩, ⟨h.2.1.2.1, h.2.1.1, fun z => h.2.1.2.2.1 z.symm, h.2.1.2.2.2⟩, ⟨⟨h2, h3, fun i hi => ⟨f0 i hi, f1 i hi⟩, fun i hi => ⟨f2 i hi, f3 i hi, f4 i hi, f5 i hi, f6 i hi⟩⟩, h1, h17⟩, ⟨⟨h34, fun i hi => absurd hi (Nat.not_lt_zero _)⟩, by rw [h30]; exact h.2.2.2.1.2.1, ⟨h74, fun i hi => absurd hi (Nat.not_lt_zero _)⟩, by rw [h70]; exact h.2.2.2.1.2.2.2⟩, cSh_fr (S := S) h.2.2.2.2.1 hs, ⟨by rw [h19]; exact h.2.2.2.2.2.1.1, hf⟩, Or.inl h18⟩
  have k2 : 0 < dH D := k2
  have k3 : 0 < dP D := k3
  show dH D = 0 ↔ dP D = 0
  omega
theorem fsN_lt {f : Nat → Bool} : ∀ {n k : Nat}, fsN f n = some k → k < n
  | 0, k, h => by cases h
  | n + 1, k, h => by
    unfold fsN at h
    cases hr : fsN f n with
    | some j => rw [hr] at h; cases h; have := fsN_lt hr; omega
    | none =>
      rw [hr] at h
      simp only [] at h
      split at h
      · cases h; omega
      · cases h
theorem ffN_le {c : Nat → Int32} {n j : Nat} (h : ffN c n = some j) : j ≤ n := by
  unfold ffN at h
  split at h
  · rename_i k hk
    cases h
    exact Nat.le_of_lt (fsN_lt hk)
  · by_cases hb : (match rn c n with | some s => whl s | none => false) = true
    · rw [if_pos hb] at h; cases h
    · rw [if_neg hb] at h; cases h; exact Nat.le_refl _
theorem PR_fr {s : PSt} {t : Nat} {μ μ' : kM} (h : PR s t μ) (f : ∀ k, t ≤ k → k ≤ t + 7 → μ' k = μ k) : PR s t μ' := by
  obtain ⟨h1, h2, h3, h4, h5, h6⟩ := h
  have e := f t (Nat.le_refl _) (by omega)
  refine ⟨?_, ?_, ?_, ?_, ?_, FL_fr h6 (fun j hj => f _ (by omega) (by omega))⟩ <;> rw [e] <;> assumption
set_option maxHeartbeats 4000000 in
theorem x_houses (Γ : kGm) {S : AS} {μ : kM} {q : kq4} (h : CS S μ q) (x : Int32) (y : Int32) (z : Int32) (w : Int32) : gC Γ yX4_houses mX4_houses 6 [.ref 1, .int x, .int y, .int z, .int w] μ q (PCi (s_houses S x y z w) (n_houses S x y z w) μ) := by
  refine gC.ofG (n := 0) ⟨by decide +kernel, rfl, rfl, by decide⟩ (Nat.le_of_ble_eq_true rfl) ?_
  show gG Γ mX4_houses 6 0 [some (.ref 1), some (.int x), some (.int y), some (.int z), some (.int w), none, none, none] [] μ q _
  have ht := h.2.1.1
  have hD := h.2.2.1.1
  have okd := h.1.1
  have hH4 := h.1.1.1
  have hP6 := h.1.1.2.1
  refine kG.aload_n 1 dX4_houses_0 rfl rfl ?_
  refine kG.iload_n 2 dX4_houses_1 rfl rfl ?_
  refine kG.iload_n 3 dX4_houses_2 rfl rfl ?_
  refine kG.iload_n 4 dX4_houses_3 rfl rfl ?_
  refine kG.iload 6 dX4_houses_4 rfl rfl ?_
  refine gG.callV 9 dX4_houses_6 lX4_66 vX4_refusalOfCells (x_refC Γ h x y z w) rfl rfl ⟨by decide, by decide⟩ rfl ⟨by decide, rfl⟩ ⟨by decide, by decide⟩ (Nat.le_of_ble_eq_true rfl) rfl (fun r6 μ6 q6 hc6 => ?_)
  obtain ⟨rfl, hr, fr⟩ := hc6
  refine kG.istore 11 dX4_houses_9 (by decide) rfl rfl ?_
  dsimp only [List.set]
  refine kG.iload 13 dX4_houses_11 rfl rfl ?_
  refine kG.if_eq 19 16 dX4_houses_13 (by decide) rfl (fun h13 => ?_) (fun h13 => ?_)
  · have hc := oA_ce.mp h13
    rw [hc] at hr
    have hr : CS (sFa S (nI 0)) _ _ := hr
    obtain ⟨hl, hw0, hi0, hi1, hi2⟩ := ceF_t hc
    obtain ⟨hb6, hb15, hn0⟩ := laF_t hl
    obtain ⟨kx, hkx, rfl, ex⟩ := inB_t (by decide) hb6
    rw [ex] at hn0 hi1 hi2
    have hn6 := (h.1.2.2.2.2.2.2.2 kx hkx).2
    obtain ⟨ki, kn, rfl, rfl, hN⟩ := hc_t hn6 hw0 hi0 hi1 hi2
    have ei := ixn_n (k := ki) (by omega)
    have en := ixn_n (k := kn) (by omega)
    refine kG.aload_n 20 dX4_houses_19 rfl rfl ?_
    refine kG.aload_n 21 dX4_houses_20 rfl rfl ?_
    refine gG.getP 24 dX4_houses_21 fX4_13 ⟨by decide, by decide⟩ rfl rfl rfl rfl ?_
    refine kG.iload_n 25 dX4_houses_24 rfl rfl ?_
    refine gG.aald (n := 4) _ 26 dX4_houses_25 ⟨by decide, by decide⟩ rfl rfl (by omega) (by decide) (PI_sh (by omega)) rfl ?_
    refine kG.iload_n 27 dX4_houses_26 rfl rfl ?_
    refine kG.iload 29 dX4_houses_27 rfl rfl ?_
    refine gG.callV 32 dX4_houses_29 lX4_70 vX4_firstFault (c_firstFault (S := sFa S (nI 0)) Γ hkx hn0 hN hr) rfl rfl ⟨by decide, by decide⟩ rfl ⟨by decide, rfl⟩ ⟨by decide, by decide⟩ (Nat.le_of_ble_eq_true rfl) rfl (fun r29 μ29 q29 hc29 => ?_)
    obtain ⟨rfl, rfl, f1, f2⟩ := hc29
    have hdt := hr.2.1.2.1
    have htt := hr.2.1.1
    refine kG.istore 34 dX4_houses_32 (by decide) rfl rfl ?_
    dsimp only [List.set]
    refine kG.iload 36 dX4_houses_34 rfl rfl ?_
    refine kG.bipush (v := (-9)) 38 dX4_houses_36 (by decide) rfl ?_
    refine kG.icmp_eq 47 41 dX4_houses_38 (by decide) rfl (fun h38 => ?_) (fun h38 => ?_)
    · have ef : ffN (txC S kx ki) kn = none := by
        cases hq : ffN (txC S kx ki) kn with
        | none => rfl
        | some j => rw [show ffN (txC (sFa S (nI 0)) kx ki) kn = some j from hq] at h38; exact absurd h38 (nI_m9 (by have := ffN_le hq; omega))
      obtain ⟨s, hrn, hwh, hPR⟩ := f2 ef
      have hrn : rn (txC S kx ki) kn = some s := hrn
      refine kG.aload_n 48 dX4_houses_47 rfl rfl ?_
      refine gG.getP 51 dX4_houses_48 fX4_32 ⟨by decide, by decide⟩ rfl rfl rfl rfl ?_
      refine kG.astore 53 dX4_houses_51 (by decide) rfl rfl ?_
      dsimp only [List.set]
      refine kG.aload_n 54 dX4_houses_53 rfl rfl ?_
      refine kG.aload_n 55 dX4_houses_54 rfl rfl ?_
      refine gG.getP 58 dX4_houses_55 fX4_36 ⟨by decide, by decide⟩ rfl rfl rfl rfl ?_
      refine gG.putP 61 dX4_houses_58 fX4_32 ⟨by decide, by decide⟩ rfl rfl rfl ⟨fun _ => rfl, fun _ => rfl⟩ sP_told rfl ?_
      refine kG.aload_n 62 dX4_houses_61 rfl rfl ?_
      refine kG.aload 64 dX4_houses_62 rfl rfl ?_
      refine gG.putP 67 dX4_houses_64 fX4_36 ⟨by decide, by decide⟩ rfl rfl rfl ⟨fun _ => rfl, fun _ => rfl⟩ sP_draft rfl ?_
      refine kG.aload_n 68 dX4_houses_67 rfl rfl ?_
      refine kG.iconst (v := nI 0) 69 dX4_houses_68 (by decide) rfl ?_
      refine gG.putI 72 dX4_houses_69 fX4_51 ⟨by decide, by decide⟩ rfl rfl rfl ⟨rfl, rfl⟩ rfl ?_
      refine kG.aload_n 73 dX4_houses_72 rfl rfl ?_
      refine gG.getP 76 dX4_houses_73 fX4_22 ⟨by decide, by decide⟩ rfl rfl rfl rfl ?_
      refine kG.iconst (v := nI 0) 77 dX4_houses_76 (by decide) rfl ?_
      refine gG.putI 80 dX4_houses_77 fX4_74 ⟨by decide, by decide⟩ rfl rfl rfl ⟨rfl, rfl⟩ rfl ?_
      refine kG.aload_n 81 dX4_houses_80 rfl rfl ?_
      refine gG.getP 84 dX4_houses_81 fX4_26 ⟨by decide, by decide⟩ rfl rfl rfl rfl ?_
      refine kG.iconst (v := nI 0) 85 dX4_houses_84 (by decide) rfl ?_
      refine gG.putI 88 dX4_houses_85 fX4_74 ⟨by decide, by decide⟩ rfl rfl rfl ⟨rfl, rfl⟩ rfl ?_
      refine kG.aload_n 89 dX4_houses_88 rfl rfl ?_
      refine kG.iconst (v := nI 0) 90 dX4_houses_89 (by decide) rfl ?_
      refine gG.putI 93 dX4_houses_90 fX4_55 ⟨by decide, by decide⟩ rfl rfl rfl ⟨rfl, rfl⟩ rfl ?_
      refine kG.aload_n 94 dX4_houses_93 rfl rfl ?_
      refine gG.getP 97 dX4_houses_94 fX4_32 ⟨by decide, by decide⟩ rfl rfl rfl rfl ?_
      refine gG.getI 100 dX4_houses_97 fX4_77 (isT_k hdt) (isT_s hdt) rfl rfl ?_
      refine gG.iret dX4_houses_100 rfl ?_
      refine ⟨?_, ?_, fun k hk => by rw [uI_off (by omega), uI_off (by omega), uI_off (by omega), uI_off (by omega), f1 k (by rcases hdt with c | c <;> omega), fr k hk]⟩
      · unfold s_houses
        rw [hc, ex, ei, en]
        simp only []
        rw [ef]
        simp only []
        rw [hrn]
        have e8 := (show PQ s.1 s.2.1 s.2.2.1 s.2.2.2 _ _ from hPR).2.1
        rw [uI_off (by rcases hdt with c | c <;> omega), uI_off (by rcases hdt with c | c <;> omega), uI_off (by rcases hdt with c | c <;> omega), uI_off (by rcases hdt with c | c <;> omega)]
        rw [e8]
        rfl
      · unfold n_houses
        rw [hc, ex, ei, en]
        simp only []
        rw [ef]
        simp only []
        rw [hrn]
        have fA : ∀ k, k ≠ 1 → k ≠ 3 → k ≠ 7 → ∀ μ : kM, uI (uI (uI (uI μ 1 7 (nI 0)) 3 4 (nI 0)) 7 4 (nI 0)) 1 8 (nI 0) k = μ k := fun k a b c μ => by rw [uI_off a, uI_off c, uI_off b, uI_off a]
        have f1' : ∀ k, k ≤ 10 → _ = _ := fun k hk => f1 k (by rcases hdt with c | c <;> omega)
        refine CS_ho (S := sFa S (nI 0)) hr (okP_rn hrn) hwh ?_ ?_ ?_ ?_ ?_ ?_ ?_ ?_ ?_ (fun k a b => ?_)
        · exact PR_fr hPR (fun k a b => fA k (by rcases hdt with c | c <;> omega) (by rcases hdt with c | c <;> omega) (by rcases hdt with c | c <;> omega) _)
        · rw [uI_ne (Or.inr (by decide)), uI_off (by decide), uI_off (by decide), uI_same]
        · rw [uI_same]
        · rw [uI_ne (Or.inr (by decide)), uI_off (by decide), uI_off (by decide), uI_ne (Or.inr (by decide)), f1' 1 (by decide)]
        · rw [uI_ne (Or.inr (by decide)), uI_off (by decide), uI_off (by decide), uI_ne (Or.inr (by decide)), f1' 1 (by decide)]; exact hr.2.2.2.2.2.1.2
        · rw [uI_off (by decide), uI_off (by decide), uI_same]
        · rw [uI_off (by decide), uI_off (by decide), uI_ne (Or.inr (by decide)), uI_off (by decide), f1' 3 (by decide)]
        · rw [uI_off (by decide), uI_same]
        · rw [uI_off (by decide), uI_ne (Or.inr (by decide)), uI_off (by decide), uI_off (by decide), f1' 7 (by decide)]
        · rw [fA k (by omega) (by omega) (by omega), f1 k (by rcases hdt with c | c <;> omega)]
    · have ef : ¬ ffN (txC S kx ki) kn = none := fun c => h38 (by rw [show ffN (txC (sFa S (nI 0)) kx ki) kn = none from c]; rfl)
      refine kG.bipush (v := (-100)) 43 dX4_houses_41 (by decide) rfl ?_
      refine kG.iload 45 dX4_houses_43 rfl rfl ?_
      refine kG.isub 46 dX4_houses_45 rfl ?_
      refine gG.iret dX4_houses_46 rfl ?_
      cases hq : ffN (txC S kx ki) kn with
      | none => exact absurd hq ef
      | some j =>
        rw [show ffN (txC (sFa S (nI 0)) kx ki) kn = some j from hq]
        refine ⟨?_, ?_, fun k hk => by rw [f1 k (by rcases hdt with c | c <;> omega), fr k hk]⟩
        · unfold s_houses
          rw [hc, ex, ei, en]
          simp only []
          rw [hq]
          rfl
        · unfold n_houses
          rw [hc, ex, ei, en]
          simp only []
          rw [hq]
          exact CS_fr hr hr.2.1 ⟨rfl, rfl⟩ (fun k hk => f1 k (by have := hr.2.1.2.2.1; rcases hdt with c | c <;> rcases htt with c2 | c2 <;> omega))
  · have hc : ¬ ceF S x y z w = none := fun c => h13 (oA_ce.mpr c)
    refine kG.iload 18 dX4_houses_16 rfl rfl ?_
    refine gG.iret dX4_houses_18 rfl ?_
    cases hcf : ceF S x y z w with
    | none => exact absurd hcf hc
    | some e =>
      rw [hcf] at hr
      refine ⟨?_, ?_, fr⟩
      · unfold s_houses
        rw [hcf]
        rfl
      · unfold n_houses
        rw [hcf]
        exact hr
