theorem cp_t {S : AS} {k i o j n : Int32} : cpOk S k i o j n = true ↔ (¬ i < 0 ∧ ¬ nI (aN S (ixn k)) < i ∧ ¬ n < 0 ∧ ¬ nI (aN S (ixn k)) - i < n) ∧ ¬ j < 0 ∧ ¬ nI (aN S (ixn o)) < j ∧ ¬ n < 0 ∧ ¬ nI (aN S (ixn o)) - j < n := by
  unfold cpOk
  rw [Bool.and_eq_true, decide_eq_true_iff, decide_eq_true_iff]
theorem cp_0 {f : Nat → Int32} {s d : Nat} (x : Nat) : f x = va_cpy f f s d 0 x := by rw [pk_cpy_out (by omega)]
theorem cp_up {f g g' : Nat → Int32} {s d i n : Nat} (h : ∀ x, g x = va_cpy f f s d i x) (hi : i < n) (hd : d ≤ s ∨ s + n ≤ d) (e1 : g' (d + i) = g (s + i)) (e2 : ∀ x, x ≠ d + i → g' x = g x) : ∀ x, g' x = va_cpy f f s d (i + 1) x := fun x => by
  by_cases e : x = d + i
  · subst e
    rw [e1, h, pk_cpy_out (by omega), pk_cpy_in (by omega) (by omega), show s + (d + i - d) = s + i by omega]
  · rw [e2 x e, h]
    by_cases c : d ≤ x ∧ x < d + i
    · rw [pk_cpy_in c.1 c.2, pk_cpy_in c.1 (by omega)]
    · rw [pk_cpy_out (by omega), pk_cpy_out (by omega)]
theorem cp_dn {f g g' : Nat → Int32} {s d i n : Nat} (h : ∀ x, g x = va_cpy f f (s + (n - i)) (d + (n - i)) i x) (hi : i < n) (hd : s ≤ d ∨ d + n ≤ s) (e1 : g' (d + (n - 1 - i)) = g (s + (n - 1 - i))) (e2 : ∀ x, x ≠ d + (n - 1 - i) → g' x = g x) : ∀ x, g' x = va_cpy f f (s + (n - (i + 1))) (d + (n - (i + 1))) (i + 1) x := fun x => by
  by_cases e : x = d + (n - 1 - i)
  · subst e
    rw [e1, h, pk_cpy_out (by omega), pk_cpy_in (by omega) (by omega), show s + (n - (i + 1)) + (d + (n - 1 - i) - (d + (n - (i + 1)))) = s + (n - 1 - i) by omega]
  · rw [e2 x e, h]
    by_cases c : d + (n - i) ≤ x ∧ x < d + (n - i) + i
    · rw [pk_cpy_in c.1 c.2, pk_cpy_in (by omega) (by omega), show s + (n - (i + 1)) + (x - (d + (n - (i + 1)))) = s + (n - i) + (x - (d + (n - i))) by omega]
    · rw [pk_cpy_out (by omega), pk_cpy_out (by omega)]
theorem MS_cp {S : AS} (ok : okS S) {μ μ1 : kM} (h : MS (sFa S (nI 0)) μ) {kx kz ki kj kn : Nat} (hkx : kx < 4) (hkz : kz < 4) (h0 : aL S kx ≠ 0) (hN : ki + kn ≤ aN S kx) (hM : kj + kn ≤ aN S kz) (h1 : ∀ k, k ≠ 52 → μ1 k = μ k) (h2 : ∀ x, μ1 52 x = va_cpy (μ 52) (μ 52) (60 * kx + ki) (60 * kz + kj) kn x) : MS (sFa (sSh S (aL S) (aN S) (fu (aC S) kz (va_cpy (aC S kx) (aC S kz) ki kj kn))) (nI 0)) μ1 := by
  have g1 := (ok.2.2.2.2.2.2.2 kx hkx).2
  have g2 := (ok.2.2.2.2.2.2.2 kz hkz).2
  have z2 := MS_sh (S := sFa S (nI 0)) (k := kz) (μ' := μ1) h (aL S kz) (aN S kz) (va_cpy (aC S kx) (aC S kz) ki kj kn) (fun s hs => (ok.2.2.2.2.2.2.2 s hs).2) (by rw [h1 50 (by decide)]; exact (h.2.2.1 kz hkz).1) (fun q0 => ⟨by rw [h1 51 (by decide)]; exact ((h.2.2.1 kz hkz).2 q0).1, fun i hi => by
    rw [h2]
    by_cases c : kj ≤ i ∧ i < kj + kn
    · rw [pk_cpy_in (by omega) (by omega), pk_cpy_in c.1 c.2, show 60 * kx + ki + (60 * kz + i - (60 * kz + kj)) = 60 * kx + (ki + (i - kj)) by omega]
      exact ((h.2.2.1 kx hkx).2 h0).2 _ (show ki + (i - kj) < aN S kx by omega)
    · rw [pk_cpy_out (by omega), pk_cpy_out (by omega)]
      exact ((h.2.2.1 kz hkz).2 q0).2 i hi⟩) (fun s e => ⟨by rw [h1 50 (by decide)], by rw [h1 51 (by decide)]⟩) (fun s i e hi => by rw [h2, pk_cpy_out (by omega)]) (fun j hj => h1 j (by omega))
  rw [show fu (aL (sFa S (nI 0))) kz (aL S kz) = aL S from fu_id (aL S) kz, show fu (aN (sFa S (nI 0))) kz (aN S kz) = aN S from fu_id (aN S) kz] at z2
  exact z2
set_option maxHeartbeats 4000000 in
theorem copy_up (Γ : kGm) {S : AS} (ok : okS S) {μ μ0 : kM} {q : kq4} (h : MS (sFa S (nI 0)) μ) (h4 : ∀ k, k < 49 → μ k = μ0 k) {kx kz ki kj kn : Nat} (hkx : kx < 4) (hkz : kz < 4) (h0 : aL S kx ≠ 0) (hN : ki + kn ≤ aN S kx) (hM : kj + kn ≤ aN S kz) {v6 : Option Value} (hd : 60 * kz + kj ≤ 60 * kx + ki ∨ 60 * kx + ki + kn ≤ 60 * kz + kj) : ∀ (m i : Nat) (μ1 : kM) (x9 : Option Value), i + m = kn → (∀ k, k ≠ 52 → μ1 k = μ k) → (∀ x, μ1 52 x = va_cpy (μ 52) (μ 52) (60 * kx + ki) (60 * kz + kj) i x) → gG Γ mX5_copy 3 166 [some (.ref 49), some (.int (nI kx)), some (.int (nI ki)), some (.int (nI kz)), some (.int (nI kj)), some (.int (nI kn)), v6, some (.int (nI 0)), some (.int (nI i)), x9] [] (μ1) q (PMi (nI kn) (sFa (sSh S (aL S) (aN S) (fu (aC S) kz (va_cpy (aC S kx) (aC S kz) ki kj kn))) (nI 0)) μ0 q) := by
  intro m
  induction m with
  | zero =>
    intro i μ1 x9 hm g3 g4
    have g1 := (ok.2.2.2.2.2.2.2 kx hkx).2
    have g2 := (ok.2.2.2.2.2.2.2 kz hkz).2
    refine kG.iload 168 dX5_copy_166 rfl rfl ?_
    refine kG.iload 170 dX5_copy_168 rfl rfl ?_
    refine kG.icmp_ge 227 173 dX5_copy_170 (by decide) rfl (fun h170 => ?_) (fun h170 => ?_)
    · refine kG.iload 229 dX5_copy_227 rfl rfl ?_
      refine gG.iret dX5_copy_229 rfl ?_
      refine ⟨rfl, MS_cp ok h hkx hkz h0 hN hM g3 (fun x => ?_), rfl, fun k hk => by rw [g3 k (by omega)]; exact h4 k hk⟩
      have z := g4 x
      rw [show kn = i by omega]
      exact z
    · exact absurd (nI_le (by omega) (by omega)) h170
  | succ m ih =>
    intro i μ1 x9 hm g3 g4
    have g1 := (ok.2.2.2.2.2.2.2 kx hkx).2
    have g2 := (ok.2.2.2.2.2.2.2 kz hkz).2
    refine kG.iload 168 dX5_copy_166 rfl rfl ?_
    refine kG.iload 170 dX5_copy_168 rfl rfl ?_
    refine kG.icmp_ge 227 173 dX5_copy_170 (by decide) rfl (fun h170 => ?_) (fun h170 => ?_)
    · exact absurd h170 (nI_ge (by omega) (by omega))
    · refine kG.iload 175 dX5_copy_173 rfl rfl ?_
      refine kG.if_eq 188 178 dX5_copy_175 (by decide) rfl (fun h175 => ?_) (fun h175 => ?_)
      · refine kG.iload 190 dX5_copy_188 rfl rfl ?_
        refine kG.istore 192 dX5_copy_190 (by decide) rfl rfl ?_
        dsimp only [List.set]
        refine kG.aload_n 193 dX5_copy_192 rfl rfl ?_
        refine gG.getP 196 dX5_copy_193 fX5_16 ⟨by decide, by decide⟩ rfl rfl rfl rfl ?_
        refine kG.bipush (v := nI 60) 198 dX5_copy_196 (by decide) rfl ?_
        refine kG.iload_n 199 dX5_copy_198 rfl rfl ?_
        refine kG.imul 200 dX5_copy_199 rfl ?_
        rw [pk_mul]
        refine kG.iload 202 dX5_copy_200 rfl rfl ?_
        refine kG.iadd 203 dX5_copy_202 rfl ?_
        rw [nI_add]
        refine kG.iload 205 dX5_copy_203 rfl rfl ?_
        refine kG.iadd 206 dX5_copy_205 rfl ?_
        rw [nI_add]
        refine kG.aload_n 207 dX5_copy_206 rfl rfl ?_
        refine gG.getP 210 dX5_copy_207 fX5_16 ⟨by decide, by decide⟩ rfl rfl rfl rfl ?_
        refine kG.bipush (v := nI 60) 212 dX5_copy_210 (by decide) rfl ?_
        refine kG.iload_n 213 dX5_copy_212 rfl rfl ?_
        refine kG.imul 214 dX5_copy_213 rfl ?_
        rw [pk_mul]
        refine kG.iload_n 215 dX5_copy_214 rfl rfl ?_
        refine kG.iadd 216 dX5_copy_215 rfl ?_
        rw [nI_add]
        refine kG.iload 218 dX5_copy_216 rfl rfl ?_
        refine kG.iadd 219 dX5_copy_218 rfl ?_
        rw [nI_add]
        refine gG.iald (n := 240) (60 * kx + ki + i) 220 dX5_copy_219 ⟨by decide, by decide⟩ rfl rfl (by omega) (by decide) rfl ?_
        refine gG.iast (n := 240) (60 * kz + kj + i) 221 dX5_copy_220 ⟨by decide, by decide⟩ rfl rfl (by omega) (by decide) rfl ?_
        refine kG.iinc (v := nI (i + 1)) 224 dX5_copy_221 rfl (nI_1 i) (by decide) rfl rfl ?_
        dsimp only [List.set]
        refine kG.goto 166 dX5_copy_224 (by decide) ?_
        refine ih (i + 1) _ _ (by omega) (fun k a => by rw [uI_off a]; exact g3 k a) ?_
        exact cp_up (n := kn) g4 (by omega) (by omega) (uI_same _ _ _ _) (fun x hx => uI_ne (Or.inr hx))
      · exact absurd rfl h175
set_option maxHeartbeats 4000000 in
theorem copy_dn (Γ : kGm) {S : AS} (ok : okS S) {μ μ0 : kM} {q : kq4} (h : MS (sFa S (nI 0)) μ) (h4 : ∀ k, k < 49 → μ k = μ0 k) {kx kz ki kj kn : Nat} (hkx : kx < 4) (hkz : kz < 4) (h0 : aL S kx ≠ 0) (hN : ki + kn ≤ aN S kx) (hM : kj + kn ≤ aN S kz) {v6 : Option Value} (hd : 60 * kx + ki ≤ 60 * kz + kj ∨ 60 * kz + kj + kn ≤ 60 * kx + ki) : ∀ (m i : Nat) (μ1 : kM) (x9 : Option Value), i + m = kn → (∀ k, k ≠ 52 → μ1 k = μ k) → (∀ x, μ1 52 x = va_cpy (μ 52) (μ 52) (60 * kx + ki + (kn - i)) (60 * kz + kj + (kn - i)) i x) → gG Γ mX5_copy 3 166 [some (.ref 49), some (.int (nI kx)), some (.int (nI ki)), some (.int (nI kz)), some (.int (nI kj)), some (.int (nI kn)), v6, some (.int (nI 1)), some (.int (nI i)), x9] [] (μ1) q (PMi (nI kn) (sFa (sSh S (aL S) (aN S) (fu (aC S) kz (va_cpy (aC S kx) (aC S kz) ki kj kn))) (nI 0)) μ0 q) := by
  intro m
  induction m with
  | zero =>
    intro i μ1 x9 hm g3 g4
    have g1 := (ok.2.2.2.2.2.2.2 kx hkx).2
    have g2 := (ok.2.2.2.2.2.2.2 kz hkz).2
    refine kG.iload 168 dX5_copy_166 rfl rfl ?_
    refine kG.iload 170 dX5_copy_168 rfl rfl ?_
    refine kG.icmp_ge 227 173 dX5_copy_170 (by decide) rfl (fun h170 => ?_) (fun h170 => ?_)
    · refine kG.iload 229 dX5_copy_227 rfl rfl ?_
      refine gG.iret dX5_copy_229 rfl ?_
      refine ⟨rfl, MS_cp ok h hkx hkz h0 hN hM g3 (fun x => ?_), rfl, fun k hk => by rw [g3 k (by omega)]; exact h4 k hk⟩
      have z := g4 x
      rw [show kn - i = 0 by omega, Nat.add_zero, Nat.add_zero] at z
      rw [show kn = i by omega]
      exact z
    · exact absurd (nI_le (by omega) (by omega)) h170
  | succ m ih =>
    intro i μ1 x9 hm g3 g4
    have g1 := (ok.2.2.2.2.2.2.2 kx hkx).2
    have g2 := (ok.2.2.2.2.2.2.2 kz hkz).2
    refine kG.iload 168 dX5_copy_166 rfl rfl ?_
    refine kG.iload 170 dX5_copy_168 rfl rfl ?_
    refine kG.icmp_ge 227 173 dX5_copy_170 (by decide) rfl (fun h170 => ?_) (fun h170 => ?_)
    · exact absurd h170 (nI_ge (by omega) (by omega))
    · refine kG.iload 175 dX5_copy_173 rfl rfl ?_
      refine kG.if_eq 188 178 dX5_copy_175 (by decide) rfl (fun h175 => ?_) (fun h175 => ?_)
      · exact absurd h175 (by decide)
      · refine kG.iload 180 dX5_copy_178 rfl rfl ?_
        refine kG.iconst (v := nI 1) 181 dX5_copy_180 (by decide) rfl ?_
        refine kG.isub 182 dX5_copy_181 rfl ?_
        rw [pk_sub (by omega)]
        refine kG.iload 184 dX5_copy_182 rfl rfl ?_
        refine kG.isub 185 dX5_copy_184 rfl ?_
        rw [pk_sub (by omega)]
        refine kG.goto 190 dX5_copy_185 (by decide) ?_
        refine kG.istore 192 dX5_copy_190 (by decide) rfl rfl ?_
        dsimp only [List.set]
        refine kG.aload_n 193 dX5_copy_192 rfl rfl ?_
        refine gG.getP 196 dX5_copy_193 fX5_16 ⟨by decide, by decide⟩ rfl rfl rfl rfl ?_
        refine kG.bipush (v := nI 60) 198 dX5_copy_196 (by decide) rfl ?_
        refine kG.iload_n 199 dX5_copy_198 rfl rfl ?_
        refine kG.imul 200 dX5_copy_199 rfl ?_
        rw [pk_mul]
        refine kG.iload 202 dX5_copy_200 rfl rfl ?_
        refine kG.iadd 203 dX5_copy_202 rfl ?_
        rw [nI_add]
        refine kG.iload 205 dX5_copy_203 rfl rfl ?_
        refine kG.iadd 206 dX5_copy_205 rfl ?_
        rw [nI_add]
        refine kG.aload_n 207 dX5_copy_206 rfl rfl ?_
        refine gG.getP 210 dX5_copy_207 fX5_16 ⟨by decide, by decide⟩ rfl rfl rfl rfl ?_
        refine kG.bipush (v := nI 60) 212 dX5_copy_210 (by decide) rfl ?_
        refine kG.iload_n 213 dX5_copy_212 rfl rfl ?_
        refine kG.imul 214 dX5_copy_213 rfl ?_
        rw [pk_mul]
        refine kG.iload_n 215 dX5_copy_214 rfl rfl ?_
        refine kG.iadd 216 dX5_copy_215 rfl ?_
        rw [nI_add]
        refine kG.iload 218 dX5_copy_216 rfl rfl ?_
        refine kG.iadd 219 dX5_copy_218 rfl ?_
        rw [nI_add]
        refine gG.iald (n := 240) (60 * kx + ki + (kn - 1 - i)) 220 dX5_copy_219 ⟨by decide, by decide⟩ rfl rfl (by omega) (by decide) rfl ?_
        refine gG.iast (n := 240) (60 * kz + kj + (kn - 1 - i)) 221 dX5_copy_220 ⟨by decide, by decide⟩ rfl rfl (by omega) (by decide) rfl ?_
        refine kG.iinc (v := nI (i + 1)) 224 dX5_copy_221 rfl (nI_1 i) (by decide) rfl rfl ?_
        dsimp only [List.set]
        refine kG.goto 166 dX5_copy_224 (by decide) ?_
        refine ih (i + 1) _ _ (by omega) (fun k a => by rw [uI_off a]; exact g3 k a) ?_
        exact cp_dn (n := kn) g4 (by omega) (by omega) (uI_same _ _ _ _) (fun x hx => uI_ne (Or.inr hx))
set_option maxHeartbeats 4000000 in
theorem y_copy (Γ : kGm) {S : AS} {μ : kM} {q : kq4} (ok : okS S) (h : MS S μ) (x : Int32) (y : Int32) (z : Int32) (w : Int32) (v : Int32) : gC Γ yX5_copy mX5_copy 3 [.ref 49, .int x, .int y, .int z, .int w, .int v] μ q (PMi (s_copy S x y z w v) (n_copy S x y z w v) μ q) := by
  refine gC.ofG (n := 0) ⟨by decide +kernel, rfl, rfl, by decide⟩ (Nat.le_of_ble_eq_true rfl) ?_
  show gG Γ mX5_copy 3 0 [some (.ref 49), some (.int x), some (.int y), some (.int z), some (.int w), some (.int v), none, none, none, none] [] μ q _
  have okd := ok.1
  have hH4 := ok.1.1
  have hP6 := ok.1.2.1
  have hc := h.1
  have hp := hc.2.2.2.2.2.1
  have hh := hc.2.2.2.2.1
  refine kG.aload_n 1 dX5_copy_0 rfl rfl ?_
  refine kG.iconst (v := nI 0) 2 dX5_copy_1 (by decide) rfl ?_
  refine gG.putI 5 dX5_copy_2 fX5_83 ⟨by decide, by decide⟩ rfl rfl rfl ⟨rfl, rfl⟩ rfl ?_
  have h1 := MS_fa (nI 0) h
  refine kG.iload_n 6 dX5_copy_5 rfl rfl ?_
  refine gG.callS 9 dX5_copy_6 lX5_102 vX5_isSheet (m_isSheet Γ x) rfl rfl ⟨by decide, by decide⟩ (Nat.le_of_ble_eq_true rfl) rfl (fun r6 μ6 q6 hc6 => ?_)
  obtain ⟨rfl, rfl, rfl⟩ := hc6
  refine kG.if_eq 19 12 dX5_copy_9 (by decide) rfl (fun h9 => ?_) (fun h9 => ?_)
  · have hb6 := b2_0.mp h9
    have hbd : (inB x 4 && inB z 4) = false := by rw [hb6]; rfl
    refine kG.iconst (v := (-1)) 20 dX5_copy_19 (by decide) rfl ?_
    refine gG.iret dX5_copy_20 rfl ?_
    refine ⟨?_, ?_, rfl, fun k hk => uI_off (by omega)⟩
    · unfold s_copy
      rw [if_neg (by rw [hbd]; decide)]
    · unfold n_copy
      rw [if_neg (by rw [hbd]; decide)]
      exact h1
  · have hb6 := b2_n0.mp h9
    refine kG.iload_n 13 dX5_copy_12 rfl rfl ?_
    refine gG.callS 16 dX5_copy_13 lX5_102 vX5_isSheet (m_isSheet Γ z) rfl rfl ⟨by decide, by decide⟩ (Nat.le_of_ble_eq_true rfl) rfl (fun r13 μ13 q13 hc13 => ?_)
    obtain ⟨rfl, rfl, rfl⟩ := hc13
    refine kG.if_ne 21 19 dX5_copy_16 (by decide) rfl (fun h16 => ?_) (fun h16 => ?_)
    · have hb13 := b2_n0.mp h16
      have hbd : (inB x 4 && inB z 4) = true := by rw [hb6, hb13]; rfl
      obtain ⟨kx, hkx, rfl, ex⟩ := inB_t (by decide) hb6
      have hl3 := (ok.2.2.2.2.2.2.2 kx hkx).1
      have hn6 := (ok.2.2.2.2.2.2.2 kx hkx).2
      have hs := h.2.2.1 kx hkx
      obtain ⟨kz, hkz, rfl, ez⟩ := inB_t (by decide) hb13
      have hl3z := (ok.2.2.2.2.2.2.2 kz hkz).1
      have hn6z := (ok.2.2.2.2.2.2.2 kz hkz).2
      have hsz := h.2.2.1 kz hkz
      have cpt := cp_t (S := S) (k := nI kx) (i := y) (o := nI kz) (j := w) (n := v)
      rw [ex, ez] at cpt
      refine kG.aload_n 22 dX5_copy_21 rfl rfl ?_
      refine gG.getP 25 dX5_copy_22 fX5_9 ⟨by decide, by decide⟩ rfl rfl rfl rfl ?_
      refine kG.iload_n 26 dX5_copy_25 rfl rfl ?_
      refine gG.iald (n := 4) _ 27 dX5_copy_26 ⟨by decide, by decide⟩ rfl rfl (by omega) (by decide) rfl ?_
      rw [uI_off (by decide), hs.1]
      refine kG.bipush (v := (-9)) 29 dX5_copy_27 (by decide) rfl ?_
      refine kG.icmp_eq 43 32 dX5_copy_29 (by decide) rfl (fun h29 => ?_) (fun h29 => ?_)
      · have hq0 : aL S kx = 0 ∨ aL S kz = 0 := Or.inl ((so_9 hl3).mp h29)
        refine kG.aload_n 44 dX5_copy_43 rfl rfl ?_
        refine kG.iconst (v := nI 1) 45 dX5_copy_44 (by decide) rfl ?_
        refine gG.callV 48 dX5_copy_45 lX5_113 vX5_fails (m_fails Γ (nI 1)) rfl rfl ⟨by decide, by decide⟩ rfl ⟨by decide, rfl⟩ ⟨by decide, by decide⟩ (Nat.le_of_ble_eq_true rfl) rfl (fun r45 μ45 q45 hc45 => ?_)
        obtain ⟨rfl, rfl, rfl⟩ := hc45
        have h2 := MS_fa (nI 1) h1
        refine gG.iret dX5_copy_48 rfl ?_
        refine ⟨?_, ?_, rfl, fun k hk => by rw [uI_off (by omega), uI_off (by omega)]⟩
        · unfold s_copy
          rw [if_pos hbd, ex, ez, if_pos hq0]
          rfl
        · unfold n_copy
          rw [if_pos hbd, ex, ez, if_pos hq0]
          exact h2
      · have hn0 : ¬ aL S kx = 0 := fun z => h29 ((so_9 hl3).mpr z)
        refine kG.aload_n 33 dX5_copy_32 rfl rfl ?_
        refine gG.getP 36 dX5_copy_33 fX5_9 ⟨by decide, by decide⟩ rfl rfl rfl rfl ?_
        refine kG.iload_n 37 dX5_copy_36 rfl rfl ?_
        refine gG.iald (n := 4) _ 38 dX5_copy_37 ⟨by decide, by decide⟩ rfl rfl (by omega) (by decide) rfl ?_
        rw [uI_off (by decide), hsz.1]
        refine kG.bipush (v := (-9)) 40 dX5_copy_38 (by decide) rfl ?_
        refine kG.icmp_ne 49 43 dX5_copy_40 (by decide) rfl (fun h40 => ?_) (fun h40 => ?_)
        · have hn0z : ¬ aL S kz = 0 := fun z => h40 ((so_9 hl3z).mpr z)
          have hq0 : ¬ (aL S kx = 0 ∨ aL S kz = 0) := fun c => c.elim hn0 hn0z
          have g2 := hs.2 hn0
          have g2z := hsz.2 hn0z
          refine kG.aload_n 50 dX5_copy_49 rfl rfl ?_
          refine gG.getP 53 dX5_copy_50 fX5_9 ⟨by decide, by decide⟩ rfl rfl rfl rfl ?_
          refine kG.iload_n 54 dX5_copy_53 rfl rfl ?_
          refine gG.iald (n := 4) _ 55 dX5_copy_54 ⟨by decide, by decide⟩ rfl rfl (by omega) (by decide) rfl ?_
          rw [uI_off (by decide), hs.1]
          refine kG.aload_n 56 dX5_copy_55 rfl rfl ?_
          refine gG.getP 59 dX5_copy_56 fX5_9 ⟨by decide, by decide⟩ rfl rfl rfl rfl ?_
          refine kG.iload_n 60 dX5_copy_59 rfl rfl ?_
          refine gG.iald (n := 4) _ 61 dX5_copy_60 ⟨by decide, by decide⟩ rfl rfl (by omega) (by decide) rfl ?_
          rw [uI_off (by decide), hsz.1]
          refine kG.icmp_eq 70 64 dX5_copy_61 (by decide) rfl (fun h61 => ?_) (fun h61 => ?_)
          · have hln : aL S kx = aL S kz := (so_eq hl3 hl3z).mp h61
            refine kG.iload_n 71 dX5_copy_70 rfl rfl ?_
            refine kG.if_lt 109 74 dX5_copy_71 (by decide) rfl (fun h71 => ?_) (fun h71 => ?_)
            · have hcp : cpOk S (nI kx) y (nI kz) w v = false := Bool.eq_false_iff.mpr (fun c => (cpt.mp c).1.1 (h71))
              refine kG.iconst (v := nI 0) 110 dX5_copy_109 (by decide) rfl ?_
              refine kG.istore 112 dX5_copy_110 (by decide) rfl rfl ?_
              dsimp only [List.set]
              refine kG.iload 114 dX5_copy_112 rfl rfl ?_
              refine kG.if_eq 144 117 dX5_copy_114 (by decide) rfl (fun h114 => ?_) (fun h114 => ?_)
              · refine kG.aload_n 145 dX5_copy_144 rfl rfl ?_
                refine kG.iconst (v := nI 3) 146 dX5_copy_145 (by decide) rfl ?_
                refine gG.callV 149 dX5_copy_146 lX5_113 vX5_fails (m_fails Γ (nI 3)) rfl rfl ⟨by decide, by decide⟩ rfl ⟨by decide, rfl⟩ ⟨by decide, by decide⟩ (Nat.le_of_ble_eq_true rfl) rfl (fun r146 μ146 q146 hc146 => ?_)
                obtain ⟨rfl, rfl, rfl⟩ := hc146
                have h2 := MS_fa (nI 3) h1
                refine gG.iret dX5_copy_149 rfl ?_
                refine ⟨?_, ?_, rfl, fun k hk => by rw [uI_off (by omega), uI_off (by omega)]⟩
                · unfold s_copy
                  rw [if_pos hbd, ex, ez, if_neg hq0, if_pos hln, if_neg (by rw [hcp]; decide)]
                  rfl
                · unfold n_copy
                  rw [if_pos hbd, ex, ez, if_neg hq0, if_pos hln, if_neg (by rw [hcp]; decide)]
                  exact h2
              · exact absurd rfl h114
            · refine kG.iload 76 dX5_copy_74 rfl rfl ?_
              refine kG.if_lt 109 79 dX5_copy_76 (by decide) rfl (fun h76 => ?_) (fun h76 => ?_)
              · have hcp : cpOk S (nI kx) y (nI kz) w v = false := Bool.eq_false_iff.mpr (fun c => (cpt.mp c).2.1 (h76))
                refine kG.iconst (v := nI 0) 110 dX5_copy_109 (by decide) rfl ?_
                refine kG.istore 112 dX5_copy_110 (by decide) rfl rfl ?_
                dsimp only [List.set]
                refine kG.iload 114 dX5_copy_112 rfl rfl ?_
                refine kG.if_eq 144 117 dX5_copy_114 (by decide) rfl (fun h114 => ?_) (fun h114 => ?_)
                · refine kG.aload_n 145 dX5_copy_144 rfl rfl ?_
                  refine kG.iconst (v := nI 3) 146 dX5_copy_145 (by decide) rfl ?_
                  refine gG.callV 149 dX5_copy_146 lX5_113 vX5_fails (m_fails Γ (nI 3)) rfl rfl ⟨by decide, by decide⟩ rfl ⟨by decide, rfl⟩ ⟨by decide, by decide⟩ (Nat.le_of_ble_eq_true rfl) rfl (fun r146 μ146 q146 hc146 => ?_)
                  obtain ⟨rfl, rfl, rfl⟩ := hc146
                  have h2 := MS_fa (nI 3) h1
                  refine gG.iret dX5_copy_149 rfl ?_
                  refine ⟨?_, ?_, rfl, fun k hk => by rw [uI_off (by omega), uI_off (by omega)]⟩
                  · unfold s_copy
                    rw [if_pos hbd, ex, ez, if_neg hq0, if_pos hln, if_neg (by rw [hcp]; decide)]
                    rfl
                  · unfold n_copy
                    rw [if_pos hbd, ex, ez, if_neg hq0, if_pos hln, if_neg (by rw [hcp]; decide)]
                    exact h2
                · exact absurd rfl h114
              · refine kG.iload 81 dX5_copy_79 rfl rfl ?_
                refine kG.if_lt 109 84 dX5_copy_81 (by decide) rfl (fun h81 => ?_) (fun h81 => ?_)
                · have hcp : cpOk S (nI kx) y (nI kz) w v = false := Bool.eq_false_iff.mpr (fun c => (cpt.mp c).1.2.2.1 (h81))
                  refine kG.iconst (v := nI 0) 110 dX5_copy_109 (by decide) rfl ?_
                  refine kG.istore 112 dX5_copy_110 (by decide) rfl rfl ?_
                  dsimp only [List.set]
                  refine kG.iload 114 dX5_copy_112 rfl rfl ?_
                  refine kG.if_eq 144 117 dX5_copy_114 (by decide) rfl (fun h114 => ?_) (fun h114 => ?_)
                  · refine kG.aload_n 145 dX5_copy_144 rfl rfl ?_
                    refine kG.iconst (v := nI 3) 146 dX5_copy_145 (by decide) rfl ?_
                    refine gG.callV 149 dX5_copy_146 lX5_113 vX5_fails (m_fails Γ (nI 3)) rfl rfl ⟨by decide, by decide⟩ rfl ⟨by decide, rfl⟩ ⟨by decide, by decide⟩ (Nat.le_of_ble_eq_true rfl) rfl (fun r146 μ146 q146 hc146 => ?_)
                    obtain ⟨rfl, rfl, rfl⟩ := hc146
                    have h2 := MS_fa (nI 3) h1
                    refine gG.iret dX5_copy_149 rfl ?_
                    refine ⟨?_, ?_, rfl, fun k hk => by rw [uI_off (by omega), uI_off (by omega)]⟩
                    · unfold s_copy
                      rw [if_pos hbd, ex, ez, if_neg hq0, if_pos hln, if_neg (by rw [hcp]; decide)]
                      rfl
                    · unfold n_copy
                      rw [if_pos hbd, ex, ez, if_neg hq0, if_pos hln, if_neg (by rw [hcp]; decide)]
                      exact h2
                  · exact absurd rfl h114
                · refine kG.iload_n 85 dX5_copy_84 rfl rfl ?_
                  refine kG.aload_n 86 dX5_copy_85 rfl rfl ?_
                  refine gG.getP 89 dX5_copy_86 fX5_13 ⟨by decide, by decide⟩ rfl rfl rfl rfl ?_
                  refine kG.iload_n 90 dX5_copy_89 rfl rfl ?_
                  refine gG.iald (n := 4) _ 91 dX5_copy_90 ⟨by decide, by decide⟩ rfl rfl (by omega) (by decide) rfl ?_
                  rw [uI_off (by decide), g2.1]
                  refine kG.icmp_gt 109 94 dX5_copy_91 (by decide) rfl (fun h91 => ?_) (fun h91 => ?_)
                  · have hcp : cpOk S (nI kx) y (nI kz) w v = false := Bool.eq_false_iff.mpr (fun c => (cpt.mp c).1.2.1 (h91))
                    refine kG.iconst (v := nI 0) 110 dX5_copy_109 (by decide) rfl ?_
                    refine kG.istore 112 dX5_copy_110 (by decide) rfl rfl ?_
                    dsimp only [List.set]
                    refine kG.iload 114 dX5_copy_112 rfl rfl ?_
                    refine kG.if_eq 144 117 dX5_copy_114 (by decide) rfl (fun h114 => ?_) (fun h114 => ?_)
                    · refine kG.aload_n 145 dX5_copy_144 rfl rfl ?_
                      refine kG.iconst (v := nI 3) 146 dX5_copy_145 (by decide) rfl ?_
                      refine gG.callV 149 dX5_copy_146 lX5_113 vX5_fails (m_fails Γ (nI 3)) rfl rfl ⟨by decide, by decide⟩ rfl ⟨by decide, rfl⟩ ⟨by decide, by decide⟩ (Nat.le_of_ble_eq_true rfl) rfl (fun r146 μ146 q146 hc146 => ?_)
                      obtain ⟨rfl, rfl, rfl⟩ := hc146
                      have h2 := MS_fa (nI 3) h1
                      refine gG.iret dX5_copy_149 rfl ?_
                      refine ⟨?_, ?_, rfl, fun k hk => by rw [uI_off (by omega), uI_off (by omega)]⟩
                      · unfold s_copy
                        rw [if_pos hbd, ex, ez, if_neg hq0, if_pos hln, if_neg (by rw [hcp]; decide)]
                        rfl
                      · unfold n_copy
                        rw [if_pos hbd, ex, ez, if_neg hq0, if_pos hln, if_neg (by rw [hcp]; decide)]
                        exact h2
                    · exact absurd rfl h114
                  · refine kG.iload 96 dX5_copy_94 rfl rfl ?_
                    refine kG.aload_n 97 dX5_copy_96 rfl rfl ?_
                    refine gG.getP 100 dX5_copy_97 fX5_13 ⟨by decide, by decide⟩ rfl rfl rfl rfl ?_
                    refine kG.iload_n 101 dX5_copy_100 rfl rfl ?_
                    refine gG.iald (n := 4) _ 102 dX5_copy_101 ⟨by decide, by decide⟩ rfl rfl (by omega) (by decide) rfl ?_
                    rw [uI_off (by decide), g2z.1]
                    refine kG.icmp_gt 109 105 dX5_copy_102 (by decide) rfl (fun h102 => ?_) (fun h102 => ?_)
                    · have hcp : cpOk S (nI kx) y (nI kz) w v = false := Bool.eq_false_iff.mpr (fun c => (cpt.mp c).2.2.1 (h102))
                      refine kG.iconst (v := nI 0) 110 dX5_copy_109 (by decide) rfl ?_
                      refine kG.istore 112 dX5_copy_110 (by decide) rfl rfl ?_
                      dsimp only [List.set]
                      refine kG.iload 114 dX5_copy_112 rfl rfl ?_
                      refine kG.if_eq 144 117 dX5_copy_114 (by decide) rfl (fun h114 => ?_) (fun h114 => ?_)
                      · refine kG.aload_n 145 dX5_copy_144 rfl rfl ?_
                        refine kG.iconst (v := nI 3) 146 dX5_copy_145 (by decide) rfl ?_
                        refine gG.callV 149 dX5_copy_146 lX5_113 vX5_fails (m_fails Γ (nI 3)) rfl rfl ⟨by decide, by decide⟩ rfl ⟨by decide, rfl⟩ ⟨by decide, by decide⟩ (Nat.le_of_ble_eq_true rfl) rfl (fun r146 μ146 q146 hc146 => ?_)
                        obtain ⟨rfl, rfl, rfl⟩ := hc146
                        have h2 := MS_fa (nI 3) h1
                        refine gG.iret dX5_copy_149 rfl ?_
                        refine ⟨?_, ?_, rfl, fun k hk => by rw [uI_off (by omega), uI_off (by omega)]⟩
                        · unfold s_copy
                          rw [if_pos hbd, ex, ez, if_neg hq0, if_pos hln, if_neg (by rw [hcp]; decide)]
                          rfl
                        · unfold n_copy
                          rw [if_pos hbd, ex, ez, if_neg hq0, if_pos hln, if_neg (by rw [hcp]; decide)]
                          exact h2
                      · exact absurd rfl h114
                    · refine kG.iconst (v := nI 1) 106 dX5_copy_105 (by decide) rfl ?_
                      refine kG.goto 110 dX5_copy_106 (by decide) ?_
                      refine kG.istore 112 dX5_copy_110 (by decide) rfl rfl ?_
                      dsimp only [List.set]
                      refine kG.iload 114 dX5_copy_112 rfl rfl ?_
                      refine kG.if_eq 144 117 dX5_copy_114 (by decide) rfl (fun h114 => ?_) (fun h114 => ?_)
                      · exact absurd h114 (by decide)
                      · refine kG.iload 119 dX5_copy_117 rfl rfl ?_
                        refine kG.aload_n 120 dX5_copy_119 rfl rfl ?_
                        refine gG.getP 123 dX5_copy_120 fX5_13 ⟨by decide, by decide⟩ rfl rfl rfl rfl ?_
                        refine kG.iload_n 124 dX5_copy_123 rfl rfl ?_
                        refine gG.iald (n := 4) _ 125 dX5_copy_124 ⟨by decide, by decide⟩ rfl rfl (by omega) (by decide) rfl ?_
                        rw [uI_off (by decide), g2.1]
                        refine kG.iload_n 126 dX5_copy_125 rfl rfl ?_
                        refine kG.isub 127 dX5_copy_126 rfl ?_
                        refine kG.icmp_gt 144 130 dX5_copy_127 (by decide) rfl (fun h127 => ?_) (fun h127 => ?_)
                        · have hcp : cpOk S (nI kx) y (nI kz) w v = false := Bool.eq_false_iff.mpr (fun c => (cpt.mp c).1.2.2.2 (h127))
                          refine kG.aload_n 145 dX5_copy_144 rfl rfl ?_
                          refine kG.iconst (v := nI 3) 146 dX5_copy_145 (by decide) rfl ?_
                          refine gG.callV 149 dX5_copy_146 lX5_113 vX5_fails (m_fails Γ (nI 3)) rfl rfl ⟨by decide, by decide⟩ rfl ⟨by decide, rfl⟩ ⟨by decide, by decide⟩ (Nat.le_of_ble_eq_true rfl) rfl (fun r146 μ146 q146 hc146 => ?_)
                          obtain ⟨rfl, rfl, rfl⟩ := hc146
                          have h2 := MS_fa (nI 3) h1
                          refine gG.iret dX5_copy_149 rfl ?_
                          refine ⟨?_, ?_, rfl, fun k hk => by rw [uI_off (by omega), uI_off (by omega)]⟩
                          · unfold s_copy
                            rw [if_pos hbd, ex, ez, if_neg hq0, if_pos hln, if_neg (by rw [hcp]; decide)]
                            rfl
                          · unfold n_copy
                            rw [if_pos hbd, ex, ez, if_neg hq0, if_pos hln, if_neg (by rw [hcp]; decide)]
                            exact h2
                        · refine kG.iload 132 dX5_copy_130 rfl rfl ?_
                          refine kG.aload_n 133 dX5_copy_132 rfl rfl ?_
                          refine gG.getP 136 dX5_copy_133 fX5_13 ⟨by decide, by decide⟩ rfl rfl rfl rfl ?_
                          refine kG.iload_n 137 dX5_copy_136 rfl rfl ?_
                          refine gG.iald (n := 4) _ 138 dX5_copy_137 ⟨by decide, by decide⟩ rfl rfl (by omega) (by decide) rfl ?_
                          rw [uI_off (by decide), g2z.1]
                          refine kG.iload 140 dX5_copy_138 rfl rfl ?_
                          refine kG.isub 141 dX5_copy_140 rfl ?_
                          refine kG.icmp_le 150 144 dX5_copy_141 (by decide) rfl (fun h141 => ?_) (fun h141 => ?_)
                          · have hcp : cpOk S (nI kx) y (nI kz) w v = true := cpt.mpr ⟨⟨h71, h91, h81, h127⟩, h76, h102, h81, Int32.not_lt.mpr h141⟩
                            obtain ⟨ki, kn, rfl, rfl, hN⟩ := hc_t hn6 h81 h71 h91 h127
                            obtain ⟨kj, kn2, rfl, en2, hM⟩ := hc_t hn6z h81 h76 h102 (Int32.not_lt.mpr h141)
                            have en3 : kn = kn2 := (nI_eq (by omega) (by omega)).mp en2
                            subst en3
                            have ei := ixn_n (k := ki) (by omega)
                            have ej := ixn_n (k := kj) (by omega)
                            have en := ixn_n (k := kn) (by omega)
                            have eS : n_copy S (nI kx) (nI ki) (nI kz) (nI kj) (nI kn) = sFa (sSh S (aL S) (aN S) (fu (aC S) kz (va_cpy (aC S kx) (aC S kz) ki kj kn))) (nI 0) := by unfold n_copy; rw [if_pos hbd, ex, ez, if_neg hq0, if_pos hln, if_pos hcp, ei, ej, en]
                            have eR : s_copy S (nI kx) (nI ki) (nI kz) (nI kj) (nI kn) = nI kn := by unfold s_copy; rw [if_pos hbd, ex, ez, if_neg hq0, if_pos hln, if_pos hcp]
                            rw [eS, eR]
                            refine kG.iload_n 151 dX5_copy_150 rfl rfl ?_
                            refine kG.iload 153 dX5_copy_151 rfl rfl ?_
                            refine kG.icmp_ge 160 156 dX5_copy_153 (by decide) rfl (fun h153 => ?_) (fun h153 => ?_)
                            · have hij : kj ≤ ki := (nI_leI (by omega) (by omega)).mp h153
                              refine kG.iconst (v := nI 0) 161 dX5_copy_160 (by decide) rfl ?_
                              refine kG.istore 163 dX5_copy_161 (by decide) rfl rfl ?_
                              dsimp only [List.set]
                              refine kG.iconst (v := nI 0) 164 dX5_copy_163 (by decide) rfl ?_
                              refine kG.istore 166 dX5_copy_164 (by decide) rfl rfl ?_
                              dsimp only [List.set]
                              exact copy_up Γ ok h1 (fun k hk => uI_off (by omega)) hkx hkz hn0 hN hM (by omega) kn 0 _ _ (by omega) (fun _ _ => rfl) cp_0
                            · have hij : ¬ kj ≤ ki := fun c => h153 (nI_le c (by omega))
                              refine kG.iconst (v := nI 1) 157 dX5_copy_156 (by decide) rfl ?_
                              refine kG.goto 161 dX5_copy_157 (by decide) ?_
                              refine kG.istore 163 dX5_copy_161 (by decide) rfl rfl ?_
                              dsimp only [List.set]
                              refine kG.iconst (v := nI 0) 164 dX5_copy_163 (by decide) rfl ?_
                              refine kG.istore 166 dX5_copy_164 (by decide) rfl rfl ?_
                              dsimp only [List.set]
                              refine copy_dn Γ ok h1 (fun k hk => uI_off (by omega)) hkx hkz hn0 hN hM (by omega) kn 0 _ _ (by omega) (fun _ _ => rfl) (fun x => cp_0 x)
                          · have hcp : cpOk S (nI kx) y (nI kz) w v = false := Bool.eq_false_iff.mpr (fun c => (cpt.mp c).2.2.2.2 (Int32.not_le.mp h141))
                            refine kG.aload_n 145 dX5_copy_144 rfl rfl ?_
                            refine kG.iconst (v := nI 3) 146 dX5_copy_145 (by decide) rfl ?_
                            refine gG.callV 149 dX5_copy_146 lX5_113 vX5_fails (m_fails Γ (nI 3)) rfl rfl ⟨by decide, by decide⟩ rfl ⟨by decide, rfl⟩ ⟨by decide, by decide⟩ (Nat.le_of_ble_eq_true rfl) rfl (fun r146 μ146 q146 hc146 => ?_)
                            obtain ⟨rfl, rfl, rfl⟩ := hc146
                            have h2 := MS_fa (nI 3) h1
                            refine gG.iret dX5_copy_149 rfl ?_
                            refine ⟨?_, ?_, rfl, fun k hk => by rw [uI_off (by omega), uI_off (by omega)]⟩
                            · unfold s_copy
                              rw [if_pos hbd, ex, ez, if_neg hq0, if_pos hln, if_neg (by rw [hcp]; decide)]
                              rfl
                            · unfold n_copy
                              rw [if_pos hbd, ex, ez, if_neg hq0, if_pos hln, if_neg (by rw [hcp]; decide)]
                              exact h2
          · have hln : ¬ aL S kx = aL S kz := fun z => h61 (by rw [z])
            refine kG.aload_n 65 dX5_copy_64 rfl rfl ?_
            refine kG.iconst (v := nI 2) 66 dX5_copy_65 (by decide) rfl ?_
            refine gG.callV 69 dX5_copy_66 lX5_113 vX5_fails (m_fails Γ (nI 2)) rfl rfl ⟨by decide, by decide⟩ rfl ⟨by decide, rfl⟩ ⟨by decide, by decide⟩ (Nat.le_of_ble_eq_true rfl) rfl (fun r66 μ66 q66 hc66 => ?_)
            obtain ⟨rfl, rfl, rfl⟩ := hc66
            have h2 := MS_fa (nI 2) h1
            refine gG.iret dX5_copy_69 rfl ?_
            refine ⟨?_, ?_, rfl, fun k hk => by rw [uI_off (by omega), uI_off (by omega)]⟩
            · unfold s_copy
              rw [if_pos hbd, ex, ez, if_neg hq0, if_neg hln]
              rfl
            · unfold n_copy
              rw [if_pos hbd, ex, ez, if_neg hq0, if_neg hln]
              exact h2
        · have hq0 : aL S kx = 0 ∨ aL S kz = 0 := Or.inr ((so_9 hl3z).mp h40)
          refine kG.aload_n 44 dX5_copy_43 rfl rfl ?_
          refine kG.iconst (v := nI 1) 45 dX5_copy_44 (by decide) rfl ?_
          refine gG.callV 48 dX5_copy_45 lX5_113 vX5_fails (m_fails Γ (nI 1)) rfl rfl ⟨by decide, by decide⟩ rfl ⟨by decide, rfl⟩ ⟨by decide, by decide⟩ (Nat.le_of_ble_eq_true rfl) rfl (fun r45 μ45 q45 hc45 => ?_)
          obtain ⟨rfl, rfl, rfl⟩ := hc45
          have h2 := MS_fa (nI 1) h1
          refine gG.iret dX5_copy_48 rfl ?_
          refine ⟨?_, ?_, rfl, fun k hk => by rw [uI_off (by omega), uI_off (by omega)]⟩
          · unfold s_copy
            rw [if_pos hbd, ex, ez, if_pos hq0]
            rfl
          · unfold n_copy
            rw [if_pos hbd, ex, ez, if_pos hq0]
            exact h2
    · have hb13 := b2_0.mp h16
      have hbd : (inB x 4 && inB z 4) = false := by rw [hb13, Bool.and_false]
      refine kG.iconst (v := (-1)) 20 dX5_copy_19 (by decide) rfl ?_
      refine gG.iret dX5_copy_20 rfl ?_
      refine ⟨?_, ?_, rfl, fun k hk => uI_off (by omega)⟩
      · unfold s_copy
        rw [if_neg (by rw [hbd]; decide)]
      · unfold n_copy
        rw [if_neg (by rw [hbd]; decide)]
        exact h1
