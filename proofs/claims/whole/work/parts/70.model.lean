theorem MS_ho {S : AS} {sn : Nat} {D : Dt} {μA μ1 : kM} (a5 : μA 49 5 = nI sn) (a6 : μA 49 6 = nI (dH D)) (a7 : μA 49 7 = nI (dP D)) (a0 : μA 49 0 = nI 0) (a1 : μA 49 1 = aT S) (am : MH S μA) (g : ∀ k, (k < 53 ∨ 60 < k) → μ1 k = μA k) (hh : ∀ h, h < dH D → μ1 53 h = nI (dco D h) ∧ μ1 54 h = nI (dbe D h)) (hp : ∀ p, p < dP D → μ1 55 p = nI (dkd D p) ∧ μ1 56 p = nI (dtw D p) ∧ μ1 57 p = nI (dho D p) ∧ μ1 58 p = nI (dbu D p) ∧ μ1 59 p = nI (dme D p) ∧ μ1 60 p = nI 0) : MS (sHo S (sn, D)) (uI (uI μ1 49 22 (nI 0)) 49 31 (nI 0)) := by
  have f : ∀ j, j ≠ 22 → j ≠ 31 → uI (uI μ1 49 22 (nI 0)) 49 31 (nI 0) 49 j = μA 49 j := fun j a b => by rw [uI_ne (Or.inr b), uI_ne (Or.inr a), g 49 (by decide)]
  have k : ∀ k, k ≠ 49 → uI (uI μ1 49 22 (nI 0)) 49 31 (nI 0) k = μ1 k := fun k a => by rw [uI_off a, uI_off a]
  refine ⟨⟨by rw [f 5 (by decide) (by decide)]; exact a5, by rw [f 6 (by decide) (by decide)]; exact a6, by rw [f 7 (by decide) (by decide)]; exact a7, by rw [uI_ne (Or.inr (by decide)), uI_same]; rfl, ?_, fun p hq => ?_, fun p hq => ?_, fun i hi => absurd hi (Nat.not_lt_zero _)⟩, ⟨uI_same _ _ _ _, fun i hi => absurd hi (Nat.not_lt_zero _)⟩, ?_, by rw [f 1 (by decide) (by decide)]; exact a1, by rw [f 0 (by decide) (by decide)]; exact a0⟩
  · rw [k 53 (by decide), k 54 (by decide)]; exact hh
  · rw [k 55 (by decide), k 56 (by decide), k 57 (by decide), k 58 (by decide), k 59 (by decide)]
    have z := hp p hq
    exact ⟨z.1, z.2.1, z.2.2.1, z.2.2.2.1, z.2.2.2.2.1⟩
  · rw [k 60 (by decide), (hp p hq).2.2.2.2.2]
    show nI 0 = b2 ((0 : Nat).testBit p)
    rw [Nat.zero_testBit]; rfl
  · exact MH_fr (S := S) am (fun j a b => by rw [k j (by omega), g j (by omega)])
set_option maxHeartbeats 4000000 in
theorem ho_2 (Γ : kGm) {S : AS} {sn : Nat} {D : Dt} (okd : okD D) {μA μ0 : kM} {q : kq4} (a5 : μA 49 5 = nI sn) (a6 : μA 49 6 = nI (dH D)) (a7 : μA 49 7 = nI (dP D)) (a0 : μA 49 0 = nI 0) (a1 : μA 49 1 = aT S) (am : MH S μA) (rh : RH D μA) (rp : RP D μA) (a4 : ∀ k, k < 49 → μA k = μ0 k) {x1 x2 x3 x4 x5 : Option Value} {x6 : Int32} : ∀ (m i : Nat) (μ1 : kM), i + m = dP D → (∀ k, (k < 53 ∨ 60 < k) → μ1 k = μA k) → (∀ h, h < dH D → μ1 53 h = nI (dco D h) ∧ μ1 54 h = nI (dbe D h)) → (∀ p, p < i → μ1 55 p = nI (dkd D p) ∧ μ1 56 p = nI (dtw D p) ∧ μ1 57 p = nI (dho D p) ∧ μ1 58 p = nI (dbu D p) ∧ μ1 59 p = nI (dme D p) ∧ μ1 60 p = nI 0) → gG Γ mX5_houses 5 163 [some (.ref 49), x1, x2, x3, x4, x5, some (.int x6), some (.int (nI i))] [] (μ1) q (PMi (nI (dH D)) (sHo S (sn, D)) μ0 q) := by
  intro m
  induction m with
  | zero =>
    intro i μ1 hm g hh hp
    have hP6 := okd.2.1
    refine kG.iload 165 dX5_houses_163 rfl rfl ?_
    refine kG.aload_n 166 dX5_houses_165 rfl rfl ?_
    refine gG.getI 169 dX5_houses_166 fX5_96 ⟨by decide, by decide⟩ rfl rfl rfl ?_
    rw [g 49 (by decide), a7]
    refine kG.icmp_ge 274 172 dX5_houses_169 (by decide) rfl (fun h169 => ?_) (fun h169 => ?_)
    · refine kG.aload_n 275 dX5_houses_274 rfl rfl ?_
      refine kG.iconst (v := nI 0) 276 dX5_houses_275 (by decide) rfl ?_
      refine gG.putI 279 dX5_houses_276 fX5_132 ⟨by decide, by decide⟩ rfl rfl rfl ⟨rfl, rfl⟩ rfl ?_
      refine kG.aload_n 280 dX5_houses_279 rfl rfl ?_
      refine kG.iconst (v := nI 0) 281 dX5_houses_280 (by decide) rfl ?_
      refine gG.putI 284 dX5_houses_281 fX5_135 ⟨by decide, by decide⟩ rfl rfl rfl ⟨rfl, rfl⟩ rfl ?_
      refine kG.aload_n 285 dX5_houses_284 rfl rfl ?_
      refine gG.getI 288 dX5_houses_285 fX5_93 ⟨by decide, by decide⟩ rfl rfl rfl ?_
      rw [uI_ne (Or.inr (by decide)), uI_ne (Or.inr (by decide)), g 49 (by decide), a6]
      refine gG.iret dX5_houses_288 rfl ?_
      exact ⟨rfl, MS_ho a5 a6 a7 a0 a1 am g hh (fun p hq => hp p (by omega)), rfl, fun k hk => by rw [uI_off (by omega), uI_off (by omega), g k (by omega)]; exact a4 k hk⟩
    · exact absurd (nI_le (by omega) (by omega)) h169
  | succ m ih =>
    intro i μ1 hm g hh hp
    have hP6 := okd.2.1
    refine kG.iload 165 dX5_houses_163 rfl rfl ?_
    refine kG.aload_n 166 dX5_houses_165 rfl rfl ?_
    refine gG.getI 169 dX5_houses_166 fX5_96 ⟨by decide, by decide⟩ rfl rfl rfl ?_
    rw [g 49 (by decide), a7]
    obtain ⟨r0, r1, r2, r3, r4⟩ := rp i (by omega)
    refine kG.icmp_ge 274 172 dX5_houses_169 (by decide) rfl (fun h169 => ?_) (fun h169 => ?_)
    · exact absurd h169 (nI_ge (by omega) (by omega))
    · refine kG.aload_n 173 dX5_houses_172 rfl rfl ?_
      refine gG.getP 176 dX5_houses_173 fX5_25 ⟨by decide, by decide⟩ rfl rfl rfl rfl ?_
      refine kG.iload 178 dX5_houses_176 rfl rfl ?_
      refine kG.aload_n 179 dX5_houses_178 rfl rfl ?_
      refine gG.getP 182 dX5_houses_179 fX5_47 ⟨by decide, by decide⟩ rfl rfl rfl rfl ?_
      refine kG.iconst (v := nI 5) 183 dX5_houses_182 (by decide) rfl ?_
      refine kG.iload 185 dX5_houses_183 rfl rfl ?_
      refine kG.imul 186 dX5_houses_185 rfl ?_
      rw [pk_mul]
      refine gG.iald (n := 30) (5 * i) 187 dX5_houses_186 ⟨by decide, by decide⟩ rfl rfl (by omega) (by decide) rfl ?_
      rw [g 62 (by decide), r0]
      refine gG.iast (n := 6) _ 188 dX5_houses_187 ⟨by decide, by decide⟩ rfl rfl (by omega) (by decide) rfl ?_
      refine kG.aload_n 189 dX5_houses_188 rfl rfl ?_
      refine gG.getP 192 dX5_houses_189 fX5_28 ⟨by decide, by decide⟩ rfl rfl rfl rfl ?_
      refine kG.iload 194 dX5_houses_192 rfl rfl ?_
      refine kG.aload_n 195 dX5_houses_194 rfl rfl ?_
      refine gG.getP 198 dX5_houses_195 fX5_47 ⟨by decide, by decide⟩ rfl rfl rfl rfl ?_
      refine kG.iconst (v := nI 5) 199 dX5_houses_198 (by decide) rfl ?_
      refine kG.iload 201 dX5_houses_199 rfl rfl ?_
      refine kG.imul 202 dX5_houses_201 rfl ?_
      rw [pk_mul]
      refine kG.iconst (v := nI 1) 203 dX5_houses_202 (by decide) rfl ?_
      refine kG.iadd 204 dX5_houses_203 rfl ?_
      rw [nI_add]
      refine gG.iald (n := 30) (5 * i + 1) 205 dX5_houses_204 ⟨by decide, by decide⟩ rfl rfl (by omega) (by decide) rfl ?_
      rw [uI_off (by decide), g 62 (by decide), r1]
      refine gG.iast (n := 6) _ 206 dX5_houses_205 ⟨by decide, by decide⟩ rfl rfl (by omega) (by decide) rfl ?_
      refine kG.aload_n 207 dX5_houses_206 rfl rfl ?_
      refine gG.getP 210 dX5_houses_207 fX5_31 ⟨by decide, by decide⟩ rfl rfl rfl rfl ?_
      refine kG.iload 212 dX5_houses_210 rfl rfl ?_
      refine kG.aload_n 213 dX5_houses_212 rfl rfl ?_
      refine gG.getP 216 dX5_houses_213 fX5_47 ⟨by decide, by decide⟩ rfl rfl rfl rfl ?_
      refine kG.iconst (v := nI 5) 217 dX5_houses_216 (by decide) rfl ?_
      refine kG.iload 219 dX5_houses_217 rfl rfl ?_
      refine kG.imul 220 dX5_houses_219 rfl ?_
      rw [pk_mul]
      refine kG.iconst (v := nI 2) 221 dX5_houses_220 (by decide) rfl ?_
      refine kG.iadd 222 dX5_houses_221 rfl ?_
      rw [nI_add]
      refine gG.iald (n := 30) (5 * i + 2) 223 dX5_houses_222 ⟨by decide, by decide⟩ rfl rfl (by omega) (by decide) rfl ?_
      rw [uI_off (by decide), uI_off (by decide), g 62 (by decide), r2]
      refine gG.iast (n := 6) _ 224 dX5_houses_223 ⟨by decide, by decide⟩ rfl rfl (by omega) (by decide) rfl ?_
      refine kG.aload_n 225 dX5_houses_224 rfl rfl ?_
      refine gG.getP 228 dX5_houses_225 fX5_34 ⟨by decide, by decide⟩ rfl rfl rfl rfl ?_
      refine kG.iload 230 dX5_houses_228 rfl rfl ?_
      refine kG.aload_n 231 dX5_houses_230 rfl rfl ?_
      refine gG.getP 234 dX5_houses_231 fX5_47 ⟨by decide, by decide⟩ rfl rfl rfl rfl ?_
      refine kG.iconst (v := nI 5) 235 dX5_houses_234 (by decide) rfl ?_
      refine kG.iload 237 dX5_houses_235 rfl rfl ?_
      refine kG.imul 238 dX5_houses_237 rfl ?_
      rw [pk_mul]
      refine kG.iconst (v := nI 3) 239 dX5_houses_238 (by decide) rfl ?_
      refine kG.iadd 240 dX5_houses_239 rfl ?_
      rw [nI_add]
      refine gG.iald (n := 30) (5 * i + 3) 241 dX5_houses_240 ⟨by decide, by decide⟩ rfl rfl (by omega) (by decide) rfl ?_
      rw [uI_off (by decide), uI_off (by decide), uI_off (by decide), g 62 (by decide), r3]
      refine gG.iast (n := 6) _ 242 dX5_houses_241 ⟨by decide, by decide⟩ rfl rfl (by omega) (by decide) rfl ?_
      refine kG.aload_n 243 dX5_houses_242 rfl rfl ?_
      refine gG.getP 246 dX5_houses_243 fX5_37 ⟨by decide, by decide⟩ rfl rfl rfl rfl ?_
      refine kG.iload 248 dX5_houses_246 rfl rfl ?_
      refine kG.aload_n 249 dX5_houses_248 rfl rfl ?_
      refine gG.getP 252 dX5_houses_249 fX5_47 ⟨by decide, by decide⟩ rfl rfl rfl rfl ?_
      refine kG.iconst (v := nI 5) 253 dX5_houses_252 (by decide) rfl ?_
      refine kG.iload 255 dX5_houses_253 rfl rfl ?_
      refine kG.imul 256 dX5_houses_255 rfl ?_
      rw [pk_mul]
      refine kG.iconst (v := nI 4) 257 dX5_houses_256 (by decide) rfl ?_
      refine kG.iadd 258 dX5_houses_257 rfl ?_
      rw [nI_add]
      refine gG.iald (n := 30) (5 * i + 4) 259 dX5_houses_258 ⟨by decide, by decide⟩ rfl rfl (by omega) (by decide) rfl ?_
      rw [uI_off (by decide), uI_off (by decide), uI_off (by decide), uI_off (by decide), g 62 (by decide), r4]
      refine gG.iast (n := 6) _ 260 dX5_houses_259 ⟨by decide, by decide⟩ rfl rfl (by omega) (by decide) rfl ?_
      refine kG.aload_n 261 dX5_houses_260 rfl rfl ?_
      refine gG.getP 264 dX5_houses_261 fX5_40 ⟨by decide, by decide⟩ rfl rfl rfl rfl ?_
      refine kG.iload 266 dX5_houses_264 rfl rfl ?_
      refine kG.iconst (v := nI 0) 267 dX5_houses_266 (by decide) rfl ?_
      refine gG.zast (n := 6) _ 268 dX5_houses_267 ⟨by decide, by decide⟩ rfl rfl (by omega) (by decide) rfl rfl ?_
      refine kG.iinc (v := nI (i + 1)) 271 dX5_houses_268 rfl (nI_1 i) (by decide) rfl rfl ?_
      dsimp only [List.set]
      refine kG.goto 163 dX5_houses_271 (by decide) ?_
      refine ih (i + 1) _ (by omega) (fun k hk => by rw [uI_off (by omega), uI_off (by omega), uI_off (by omega), uI_off (by omega), uI_off (by omega), uI_off (by omega)]; exact g k hk) ?_ (fun p hq => ?_)
      · repeat rw [uI_off (by decide)]
        exact hh
      by_cases e : p = i
      · subst e
        refine ⟨?_, ?_, ?_, ?_, ?_, ?_⟩ <;> (repeat (first | rw [uI_same] | rw [uI_off (by decide)]))
      · have z := hp p (by omega)
        refine ⟨?_, ?_, ?_, ?_, ?_, ?_⟩ <;> (repeat (first | rw [uI_ne (Or.inr e)] | rw [uI_off (by decide)]))
        · exact z.1
        · exact z.2.1
        · exact z.2.2.1
        · exact z.2.2.2.1
        · exact z.2.2.2.2.1
        · exact z.2.2.2.2.2
set_option maxHeartbeats 4000000 in
theorem ho_1 (Γ : kGm) {S : AS} {sn : Nat} {D : Dt} (okd : okD D) {μA μ0 : kM} {q : kq4} (a5 : μA 49 5 = nI sn) (a6 : μA 49 6 = nI (dH D)) (a7 : μA 49 7 = nI (dP D)) (a0 : μA 49 0 = nI 0) (a1 : μA 49 1 = aT S) (am : MH S μA) (rh : RH D μA) (rp : RP D μA) (a4 : ∀ k, k < 49 → μA k = μ0 k) {x1 x2 x3 x4 x5 : Option Value} {x6 : Int32} : ∀ (m i : Nat) (μ1 : kM), i + m = dH D → (∀ k, (k < 53 ∨ 54 < k) → μ1 k = μA k) → (∀ h, h < i → μ1 53 h = nI (dco D h) ∧ μ1 54 h = nI (dbe D h)) → gG Γ mX5_houses 5 111 [some (.ref 49), x1, x2, x3, x4, x5, some (.int x6), some (.int (nI i))] [] (μ1) q (PMi (nI (dH D)) (sHo S (sn, D)) μ0 q) := by
  intro m
  induction m with
  | zero =>
    intro i μ1 hm g hp
    have hH4 := okd.1
    refine kG.iload 113 dX5_houses_111 rfl rfl ?_
    refine kG.aload_n 114 dX5_houses_113 rfl rfl ?_
    refine gG.getI 117 dX5_houses_114 fX5_93 ⟨by decide, by decide⟩ rfl rfl rfl ?_
    rw [g 49 (by decide), a6]
    refine kG.icmp_ge 160 120 dX5_houses_117 (by decide) rfl (fun h117 => ?_) (fun h117 => ?_)
    · refine kG.iconst (v := nI 0) 161 dX5_houses_160 (by decide) rfl ?_
      refine kG.istore 163 dX5_houses_161 (by decide) rfl rfl ?_
      dsimp only [List.set]
      exact ho_2 Γ okd a5 a6 a7 a0 a1 am rh rp a4 (dP D) 0 _ (by omega) (fun k hk => g k (by omega)) (fun x hx => hp x (by omega)) (fun p hq => absurd hq (Nat.not_lt_zero _))
    · exact absurd (nI_le (by omega) (by omega)) h117
  | succ m ih =>
    intro i μ1 hm g hp
    have hH4 := okd.1
    refine kG.iload 113 dX5_houses_111 rfl rfl ?_
    refine kG.aload_n 114 dX5_houses_113 rfl rfl ?_
    refine gG.getI 117 dX5_houses_114 fX5_93 ⟨by decide, by decide⟩ rfl rfl rfl ?_
    rw [g 49 (by decide), a6]
    obtain ⟨r0, r1⟩ := rh i (by omega)
    refine kG.icmp_ge 160 120 dX5_houses_117 (by decide) rfl (fun h117 => ?_) (fun h117 => ?_)
    · exact absurd h117 (nI_ge (by omega) (by omega))
    · refine kG.aload_n 121 dX5_houses_120 rfl rfl ?_
      refine gG.getP 124 dX5_houses_121 fX5_19 ⟨by decide, by decide⟩ rfl rfl rfl rfl ?_
      refine kG.iload 126 dX5_houses_124 rfl rfl ?_
      refine kG.aload_n 127 dX5_houses_126 rfl rfl ?_
      refine gG.getP 130 dX5_houses_127 fX5_44 ⟨by decide, by decide⟩ rfl rfl rfl rfl ?_
      refine kG.iconst (v := nI 2) 131 dX5_houses_130 (by decide) rfl ?_
      refine kG.iload 133 dX5_houses_131 rfl rfl ?_
      refine kG.imul 134 dX5_houses_133 rfl ?_
      rw [pk_mul]
      refine gG.iald (n := 8) (2 * i) 135 dX5_houses_134 ⟨by decide, by decide⟩ rfl rfl (by omega) (by decide) rfl ?_
      rw [g 61 (by decide), r0]
      refine gG.iast (n := 4) _ 136 dX5_houses_135 ⟨by decide, by decide⟩ rfl rfl (by omega) (by decide) rfl ?_
      refine kG.aload_n 137 dX5_houses_136 rfl rfl ?_
      refine gG.getP 140 dX5_houses_137 fX5_22 ⟨by decide, by decide⟩ rfl rfl rfl rfl ?_
      refine kG.iload 142 dX5_houses_140 rfl rfl ?_
      refine kG.aload_n 143 dX5_houses_142 rfl rfl ?_
      refine gG.getP 146 dX5_houses_143 fX5_44 ⟨by decide, by decide⟩ rfl rfl rfl rfl ?_
      refine kG.iconst (v := nI 2) 147 dX5_houses_146 (by decide) rfl ?_
      refine kG.iload 149 dX5_houses_147 rfl rfl ?_
      refine kG.imul 150 dX5_houses_149 rfl ?_
      rw [pk_mul]
      refine kG.iconst (v := nI 1) 151 dX5_houses_150 (by decide) rfl ?_
      refine kG.iadd 152 dX5_houses_151 rfl ?_
      rw [nI_add]
      refine gG.iald (n := 8) (2 * i + 1) 153 dX5_houses_152 ⟨by decide, by decide⟩ rfl rfl (by omega) (by decide) rfl ?_
      rw [uI_off (by decide), g 61 (by decide), r1]
      refine gG.iast (n := 4) _ 154 dX5_houses_153 ⟨by decide, by decide⟩ rfl rfl (by omega) (by decide) rfl ?_
      refine kG.iinc (v := nI (i + 1)) 157 dX5_houses_154 rfl (nI_1 i) (by decide) rfl rfl ?_
      dsimp only [List.set]
      refine kG.goto 111 dX5_houses_157 (by decide) ?_
      refine ih (i + 1) _ (by omega) (fun k hk => by rw [uI_off (by omega), uI_off (by omega)]; exact g k hk) (fun p hq => ?_)
      by_cases e : p = i
      · subst e
        refine ⟨?_, ?_⟩ <;> (repeat (first | rw [uI_same] | rw [uI_off (by decide)]))
      · have z := hp p (by omega)
        refine ⟨?_, ?_⟩ <;> (repeat (first | rw [uI_ne (Or.inr e)] | rw [uI_off (by decide)]))
        · exact z.1
        · exact z.2
set_option maxHeartbeats 4000000 in
theorem y_houses (Γ : kGm) {S : AS} {μ : kM} {q : kq4} (ok : okS S) (h : MS S μ) (x : Int32) (y : Int32) (z : Int32) (w : Int32) : gC Γ yX5_houses mX5_houses 5 [.ref 49, .int x, .int y, .int z, .int w] μ q (PMi (s_houses S x y z w) (n_houses S x y z w) μ q) := by
  refine gC.ofG (n := 0) ⟨by decide +kernel, rfl, rfl, by decide⟩ (Nat.le_of_ble_eq_true rfl) ?_
  show gG Γ mX5_houses 5 0 [some (.ref 49), some (.int x), some (.int y), some (.int z), some (.int w), none, none, none] [] μ q _
  have okd := ok.1
  have hH4 := ok.1.1
  have hP6 := ok.1.2.1
  have hc := h.1
  have hp := hc.2.2.2.2.2.1
  have hh := hc.2.2.2.2.1
  refine kG.aload_n 1 dX5_houses_0 rfl rfl ?_
  refine kG.iconst (v := nI 0) 2 dX5_houses_1 (by decide) rfl ?_
  refine gG.putI 5 dX5_houses_2 fX5_83 ⟨by decide, by decide⟩ rfl rfl rfl ⟨rfl, rfl⟩ rfl ?_
  have h1 := MS_fa (nI 0) h
  refine kG.iload_n 6 dX5_houses_5 rfl rfl ?_
  refine gG.callS 9 dX5_houses_6 lX5_102 vX5_isSheet (m_isSheet Γ x) rfl rfl ⟨by decide, by decide⟩ (Nat.le_of_ble_eq_true rfl) rfl (fun r6 μ6 q6 hc6 => ?_)
  obtain ⟨rfl, rfl, rfl⟩ := hc6
  refine kG.if_ne 14 12 dX5_houses_9 (by decide) rfl (fun h9 => ?_) (fun h9 => ?_)
  · have hb6 := b2_n0.mp h9
    obtain ⟨kx, hkx, rfl, ex⟩ := inB_t (by decide) hb6
    have hl3 := (ok.2.2.2.2.2.2.2 kx hkx).1
    have hn6 := (ok.2.2.2.2.2.2.2 kx hkx).2
    have hs := h.2.2.1 kx hkx
    refine kG.iload_n 15 dX5_houses_14 rfl rfl ?_
    refine gG.callS 18 dX5_houses_15 lX5_106 vX5_isSort (m_isSort Γ y) rfl rfl ⟨by decide, by decide⟩ (Nat.le_of_ble_eq_true rfl) rfl (fun r15 μ15 q15 hc15 => ?_)
    obtain ⟨rfl, rfl, rfl⟩ := hc15
    refine kG.if_ne 24 21 dX5_houses_18 (by decide) rfl (fun h18 => ?_) (fun h18 => ?_)
    · have hb15 := b2_n0.mp h18
      refine kG.aload_n 25 dX5_houses_24 rfl rfl ?_
      refine kG.iload_n 26 dX5_houses_25 rfl rfl ?_
      refine kG.iload_n 27 dX5_houses_26 rfl rfl ?_
      refine kG.iload_n 28 dX5_houses_27 rfl rfl ?_
      refine kG.iload 30 dX5_houses_28 rfl rfl ?_
      refine gG.callV 33 dX5_houses_30 lX5_109 vX5_against (m_against (S := sFa S (nI 0)) Γ ok h1.2.2.1 hkx y z w hb15) rfl rfl ⟨by decide, by decide⟩ rfl ⟨by decide, rfl⟩ ⟨by decide, by decide⟩ (Nat.le_of_ble_eq_true rfl) rfl (fun r30 μ30 q30 hc30 => ?_)
      obtain ⟨rfl, rfl, rfl⟩ := hc30
      rw [show ceF (sFa S (nI 0)) (nI kx) y z w = ceF S (nI kx) y z w from rfl]
      refine kG.istore 35 dX5_houses_33 (by decide) rfl rfl ?_
      dsimp only [List.set]
      refine kG.iload 37 dX5_houses_35 rfl rfl ?_
      refine kG.if_eq 47 40 dX5_houses_37 (by decide) rfl (fun h37 => ?_) (fun h37 => ?_)
      · have hcn : ceF S (nI kx) y z w = none := by
          cases hq : ceF S (nI kx) y z w with
          | none => rfl
          | some e => rw [hq] at h37; exact absurd h37 (ce_ab hb6 hb15 hq).2
        obtain ⟨hl, hw0, hi0, hi1, hi2⟩ := ceF_t hcn
        obtain ⟨-, -, hn0⟩ := laF_t hl
        rw [ex] at hn0 hi1 hi2
        obtain ⟨ki, kn, rfl, rfl, hN⟩ := hc_t hn6 hw0 hi0 hi1 hi2
        have ei := ixn_n (k := ki) (by omega)
        have en := ixn_n (k := kn) (by omega)
        have g2 := hs.2 hn0
        refine kG.bipush (v := nI 60) 49 dX5_houses_47 (by decide) rfl ?_
        refine kG.iload_n 50 dX5_houses_49 rfl rfl ?_
        refine kG.imul 51 dX5_houses_50 rfl ?_
        rw [pk_mul]
        refine kG.iload_n 52 dX5_houses_51 rfl rfl ?_
        refine kG.iadd 53 dX5_houses_52 rfl ?_
        rw [nI_add]
        refine kG.istore 55 dX5_houses_53 (by decide) rfl rfl ?_
        dsimp only [List.set]
        refine kG.aload_n 56 dX5_houses_55 rfl rfl ?_
        refine kG.iload 58 dX5_houses_56 rfl rfl ?_
        refine gG.putI 61 dX5_houses_58 fX5_99 ⟨by decide, by decide⟩ rfl rfl rfl ⟨rfl, rfl⟩ rfl ?_
        refine kG.aload_n 62 dX5_houses_61 rfl rfl ?_
        refine kG.iload 64 dX5_houses_62 rfl rfl ?_
        refine kG.iload 66 dX5_houses_64 rfl rfl ?_
        refine kG.iadd 67 dX5_houses_66 rfl ?_
        rw [nI_add]
        refine gG.callV 70 dX5_houses_67 lX5_117 vX5_readAll (m_readAll Γ (c := (txC S kx ki)) (n := kn) (f := 60 * kx + ki) (fun j hj => by rw [uI_off (by decide), uI_off (by decide), Nat.add_assoc]; exact g2.2 (ki + j) (by omega)) (by omega) (uI_same _ _ _ _)) rfl rfl ⟨by decide, by decide⟩ rfl ⟨by decide, rfl⟩ ⟨by decide, by decide⟩ (Nat.le_of_ble_eq_true rfl) rfl (fun r67 μ67 q67 hc67 => ?_)
        obtain ⟨rfl, fs, okb, rfl, hF, hT⟩ := hc67
        have hsc : MS (sFa S (nI 0)) μ67 := MS_sc h1 (fun j hj => by rw [fs.2 j (by omega), uI_ne (Or.inr (by omega))]) (fun k a b c => by rw [fs.1 k (by omega) (by omega) (by omega), uI_off (by omega)])
        have h4 : ∀ k, k < 49 → μ67 k = μ k := fun k hk => by rw [fs.1 k (by omega) (by omega) (by omega), uI_off (by omega), uI_off (by omega)]
        refine kG.if_ne 84 73 dX5_houses_70 (by decide) rfl (fun h70 => ?_) (fun h70 => ?_)
        · obtain ⟨j, hj, ej, s, hr, hw, rs⟩ := hT (b2_n0.mp h70)
          have okp := okP_D (okP_rn hr) hw
          have eff : ffN (txC S kx ki) kn = none := by rw [ffN_end hr, hw]; rfl
          have eR : s_houses S (nI kx) y (nI ki) (nI kn) = nI (dH s.2.2.2) := by
            unfold s_houses
            rw [hcn, ex, ei, en]
            show (match ffN (txC S kx ki) kn with | some j => -100 - nI j | none => nI (dH (psD (rn (txC S kx ki) kn)).2)) = _
            rw [eff, hr]
            rfl
          have eS : n_houses S (nI kx) y (nI ki) (nI kn) = sHo S (s.2.2.1, s.2.2.2) := by
            unfold n_houses
            rw [hcn, ex, ei, en]
            show (match ffN (txC S kx ki) kn with | some _ => sFa S (nI 0) | none => sHo S (psD (rn (txC S kx ki) kn))) = _
            rw [eff, hr]
            rfl
          rw [eR, eS]
          obtain ⟨pp, ll, sn, D⟩ := s
          refine kG.aload_n 85 dX5_houses_84 rfl rfl ?_
          refine kG.aload_n 86 dX5_houses_85 rfl rfl ?_
          refine gG.getI 89 dX5_houses_86 fX5_120 ⟨by decide, by decide⟩ rfl rfl rfl ?_
          rw [rs.1]
          refine gG.putI 92 dX5_houses_89 fX5_123 ⟨by decide, by decide⟩ rfl rfl rfl ⟨rfl, rfl⟩ rfl ?_
          refine kG.aload_n 93 dX5_houses_92 rfl rfl ?_
          refine kG.aload_n 94 dX5_houses_93 rfl rfl ?_
          refine gG.getI 97 dX5_houses_94 fX5_126 ⟨by decide, by decide⟩ rfl rfl rfl ?_
          rw [uI_ne (Or.inr (by decide)), rs.2.1]
          refine gG.putI 100 dX5_houses_97 fX5_93 ⟨by decide, by decide⟩ rfl rfl rfl ⟨rfl, rfl⟩ rfl ?_
          refine kG.aload_n 101 dX5_houses_100 rfl rfl ?_
          refine kG.aload_n 102 dX5_houses_101 rfl rfl ?_
          refine gG.getI 105 dX5_houses_102 fX5_129 ⟨by decide, by decide⟩ rfl rfl rfl ?_
          rw [uI_ne (Or.inr (by decide)), uI_ne (Or.inr (by decide)), rs.2.2.1]
          refine gG.putI 108 dX5_houses_105 fX5_96 ⟨by decide, by decide⟩ rfl rfl rfl ⟨rfl, rfl⟩ rfl ?_
          refine kG.iconst (v := nI 0) 109 dX5_houses_108 (by decide) rfl ?_
          refine kG.istore 111 dX5_houses_109 (by decide) rfl rfl ?_
          dsimp only [List.set]
          refine ho_1 Γ (S := S) okp.1 ?_ ?_ (uI_same _ _ _ _) ?_ ?_ (MH_fr (S := S) hsc.2.2.1 (fun j a b => by rw [uI_off (by omega), uI_off (by omega), uI_off (by omega)])) ?_ ?_ (fun k hk => by rw [uI_off (by omega), uI_off (by omega), uI_off (by omega)]; exact h4 k hk) (dH D) 0 _ (Nat.zero_add _) (fun _ _ => rfl) (fun p hq => absurd hq (Nat.not_lt_zero _))
          · rw [uI_ne (Or.inr (by decide)), uI_ne (Or.inr (by decide)), uI_same]
          · rw [uI_ne (Or.inr (by decide)), uI_same]
          · rw [uI_ne (Or.inr (by decide)), uI_ne (Or.inr (by decide)), uI_ne (Or.inr (by decide))]; exact hsc.2.2.2.2
          · rw [uI_ne (Or.inr (by decide)), uI_ne (Or.inr (by decide)), uI_ne (Or.inr (by decide))]; exact hsc.2.2.2.1
          · unfold RH
            rw [uI_off (by decide), uI_off (by decide), uI_off (by decide)]
            exact rs.2.2.2.1
          · unfold RP
            rw [uI_off (by decide), uI_off (by decide), uI_off (by decide)]
            exact rs.2.2.2.2
        · obtain ⟨j, hj, ej, eff⟩ := hF (b2_0.mp h70)
          refine kG.bipush (v := (-100)) 75 dX5_houses_73 (by decide) rfl ?_
          refine kG.aload_n 76 dX5_houses_75 rfl rfl ?_
          refine gG.getI 79 dX5_houses_76 fX5_99 ⟨by decide, by decide⟩ rfl rfl rfl ?_
          rw [ej]
          refine kG.iload 81 dX5_houses_79 rfl rfl ?_
          refine kG.isub 82 dX5_houses_81 rfl ?_
          rw [pk_sub (by omega), Nat.add_sub_cancel_left]
          refine kG.isub 83 dX5_houses_82 rfl ?_
          refine gG.iret dX5_houses_83 rfl ?_
          refine ⟨?_, ?_, rfl, h4⟩
          · unfold s_houses
            rw [hcn, ex, ei, en]
            show _ = some (Value.int (match ffN (txC S kx ki) kn with | some j => -100 - nI j | none => nI (dH (psD (rn (txC S kx ki) kn)).2)))
            rw [eff]
          · unfold n_houses
            rw [hcn, ex, ei, en]
            show MS (match ffN (txC S kx ki) kn with | some _ => sFa S (nI 0) | none => sHo S (psD (rn (txC S kx ki) kn))) _
            rw [eff]
            exact hsc
      · obtain ⟨e, hq⟩ : ∃ e, ceF S (nI kx) y z w = some e := by
          cases hq : ceF S (nI kx) y z w with
          | none => rw [hq] at h37; exact absurd rfl h37
          | some e => exact ⟨e, rfl⟩
        rw [hq]
        refine kG.aload_n 41 dX5_houses_40 rfl rfl ?_
        refine kG.iload 43 dX5_houses_41 rfl rfl ?_
        refine gG.callV 46 dX5_houses_43 lX5_113 vX5_fails (m_fails Γ (oB (some e))) rfl rfl ⟨by decide, by decide⟩ rfl ⟨by decide, rfl⟩ ⟨by decide, by decide⟩ (Nat.le_of_ble_eq_true rfl) rfl (fun r43 μ43 q43 hc43 => ?_)
        obtain ⟨rfl, rfl, rfl⟩ := hc43
        have h2 := MS_fa (oB (some e)) h1
        refine gG.iret dX5_houses_46 rfl ?_
        refine ⟨?_, ?_, rfl, fun k hk => by rw [uI_off (by omega), uI_off (by omega)]⟩
        · unfold s_houses
          rw [hq]
          exact congrArg (fun v => some (Value.int v)) (ce_ab hb6 hb15 hq).1.symm
        · unfold n_houses
          rw [hq]
          exact h2
    · have hb15 := b2_0.mp h18
      have hcf : ceF S (nI kx) y z w = some (-2, nI 0) := by
        unfold ceF
        rw [show laF S (nI kx) y = some (-2, nI 0) by unfold laF; rw [if_pos hb6, if_neg (by rw [hb15]; decide)]]
      refine kG.bipush (v := (-2)) 23 dX5_houses_21 (by decide) rfl ?_
      refine gG.iret dX5_houses_23 rfl ?_
      refine ⟨?_, ?_, rfl, fun k hk => uI_off (by omega)⟩
      · unfold s_houses
        rw [hcf]
      · unfold n_houses
        rw [hcf]
        exact h1
  · have hb6 := b2_0.mp h9
    have hcf : ceF S x y z w = some (-1, nI 0) := by
      unfold ceF
      rw [show laF S x y = some (-1, nI 0) by unfold laF; rw [if_neg (by rw [hb6]; decide)]]
    refine kG.iconst (v := (-1)) 13 dX5_houses_12 (by decide) rfl ?_
    refine gG.iret dX5_houses_13 rfl ?_
    refine ⟨?_, ?_, rfl, fun k hk => uI_off (by omega)⟩
    · unfold s_houses
      rw [hcf]
    · unfold n_houses
      rw [hcf]
      exact h1
