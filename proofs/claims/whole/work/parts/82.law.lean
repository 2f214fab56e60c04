set_option maxHeartbeats 4000000 in
theorem law_0 (Γ : kGm) {S : AS} {μ : kM} {q : kq4} (hc : CS S μ q) (hm : MS S μ) {i : Nat} (hi : i + 6 ≤ kLn Γ) (hL : kLn Γ ≤ 384) (kk : ∀ (S' : AS) (μ' : kM) (q' : kq4), CS S' μ' q' → MS S' μ' → hG Γ 1403 [some (.ref 0), some (.ref 1), some (.ref 49), some (.int (nI i))] [] μ' q') : hG Γ 200 [some (.ref 0), some (.ref 1), some (.ref 49), some (.int (nI i))] [] μ q := by
  refine kG.aload_n 201 dL_law_200 rfl rfl ?_
  refine kG.aload_n 202 dL_law_201 rfl rfl ?_
  refine kG.iload_n 203 dL_law_202 rfl rfl ?_
  refine kG.iconst (v := nI 1) 204 dL_law_203 (by decide) rfl ?_
  refine kG.iadd 205 dL_law_204 rfl ?_
  rw [nI_add]
  refine kG.sld (q := i + 1) 206 dL_law_205 rfl rfl (by omega) (by omega) rfl ?_
  refine kG.aload_n 207 dL_law_206 rfl rfl ?_
  refine kG.iload_n 208 dL_law_207 rfl rfl ?_
  refine kG.iconst (v := nI 2) 209 dL_law_208 (by decide) rfl ?_
  refine kG.iadd 210 dL_law_209 rfl ?_
  rw [nI_add]
  refine kG.sld (q := i + 2) 211 dL_law_210 rfl rfl (by omega) (by omega) rfl ?_
  refine kG.aload_n 212 dL_law_211 rfl rfl ?_
  refine kG.iload_n 213 dL_law_212 rfl rfl ?_
  refine kG.iconst (v := nI 3) 214 dL_law_213 (by decide) rfl ?_
  refine kG.iadd 215 dL_law_214 rfl ?_
  rw [nI_add]
  refine kG.sld (q := i + 3) 216 dL_law_215 rfl rfl (by omega) (by omega) rfl ?_
  refine kG.aload_n 217 dL_law_216 rfl rfl ?_
  refine kG.iload_n 218 dL_law_217 rfl rfl ?_
  refine kG.iconst (v := nI 4) 219 dL_law_218 (by decide) rfl ?_
  refine kG.iadd 220 dL_law_219 rfl ?_
  rw [nI_add]
  refine kG.sld (q := i + 4) 221 dL_law_220 rfl rfl (by omega) (by omega) rfl ?_
  refine hG.cX 224 dL_law_221 lL_13 vX4_houses (x_houses Γ hc (kxs Γ (i + 1)) (kxs Γ (i + 2)) (kxs Γ (i + 3)) (kxs Γ (i + 4))) rfl rfl rfl ⟨by decide, by decide⟩ (Nat.le_of_ble_eq_true rfl) rfl (fun μ1 q1 hc1 f1 => ?_)
  have hm1 := MS_up hm f1
  refine kG.aload_n 225 dL_law_224 rfl rfl ?_
  refine kG.aload_n 226 dL_law_225 rfl rfl ?_
  refine kG.iload_n 227 dL_law_226 rfl rfl ?_
  refine kG.iconst (v := nI 1) 228 dL_law_227 (by decide) rfl ?_
  refine kG.iadd 229 dL_law_228 rfl ?_
  rw [nI_add]
  refine kG.sld (q := i + 1) 230 dL_law_229 rfl rfl (by omega) (by omega) rfl ?_
  refine kG.aload_n 231 dL_law_230 rfl rfl ?_
  refine kG.iload_n 232 dL_law_231 rfl rfl ?_
  refine kG.iconst (v := nI 2) 233 dL_law_232 (by decide) rfl ?_
  refine kG.iadd 234 dL_law_233 rfl ?_
  rw [nI_add]
  refine kG.sld (q := i + 2) 235 dL_law_234 rfl rfl (by omega) (by omega) rfl ?_
  refine kG.aload_n 236 dL_law_235 rfl rfl ?_
  refine kG.iload_n 237 dL_law_236 rfl rfl ?_
  refine kG.iconst (v := nI 3) 238 dL_law_237 (by decide) rfl ?_
  refine kG.iadd 239 dL_law_238 rfl ?_
  rw [nI_add]
  refine kG.sld (q := i + 3) 240 dL_law_239 rfl rfl (by omega) (by omega) rfl ?_
  refine kG.aload_n 241 dL_law_240 rfl rfl ?_
  refine kG.iload_n 242 dL_law_241 rfl rfl ?_
  refine kG.iconst (v := nI 4) 243 dL_law_242 (by decide) rfl ?_
  refine kG.iadd 244 dL_law_243 rfl ?_
  rw [nI_add]
  refine kG.sld (q := i + 4) 245 dL_law_244 rfl rfl (by omega) (by omega) rfl ?_
  refine hG.cM 248 dL_law_245 lL_17 vX5_houses (y_houses Γ hc.1 hm1 (kxs Γ (i + 1)) (kxs Γ (i + 2)) (kxs Γ (i + 3)) (kxs Γ (i + 4))) rfl rfl rfl ⟨by decide, by decide⟩ (Nat.le_of_ble_eq_true rfl) rfl (fun μ2 hm2 f2 => ?_)
  exact kG.icmp_eq 1403 251 dL_law_248 (by decide) rfl (fun _ => kk _ _ _ (CS_dn hc1 f2) hm2) (fun h => absurd rfl h)
set_option maxHeartbeats 4000000 in
theorem law_1 (Γ : kGm) {S : AS} {μ : kM} {q : kq4} (hc : CS S μ q) (hm : MS S μ) {i : Nat} (hi : i + 6 ≤ kLn Γ) (hL : kLn Γ ≤ 384) (kk : ∀ (S' : AS) (μ' : kM) (q' : kq4), CS S' μ' q' → MS S' μ' → hG Γ 1403 [some (.ref 0), some (.ref 1), some (.ref 49), some (.int (nI i))] [] μ' q') : hG Γ 253 [some (.ref 0), some (.ref 1), some (.ref 49), some (.int (nI i))] [] μ q := by
  refine kG.aload_n 254 dL_law_253 rfl rfl ?_
  refine kG.aload_n 255 dL_law_254 rfl rfl ?_
  refine kG.iload_n 256 dL_law_255 rfl rfl ?_
  refine kG.iconst (v := nI 1) 257 dL_law_256 (by decide) rfl ?_
  refine kG.iadd 258 dL_law_257 rfl ?_
  rw [nI_add]
  refine kG.sld (q := i + 1) 259 dL_law_258 rfl rfl (by omega) (by omega) rfl ?_
  refine kG.aload_n 260 dL_law_259 rfl rfl ?_
  refine kG.iload_n 261 dL_law_260 rfl rfl ?_
  refine kG.iconst (v := nI 2) 262 dL_law_261 (by decide) rfl ?_
  refine kG.iadd 263 dL_law_262 rfl ?_
  rw [nI_add]
  refine kG.sld (q := i + 2) 264 dL_law_263 rfl rfl (by omega) (by omega) rfl ?_
  refine hG.cX 267 dL_law_264 lL_18 vX4_ofHouse (x_ofHouse Γ hc (kxs Γ (i + 1)) (kxs Γ (i + 2))) rfl rfl rfl ⟨by decide, by decide⟩ (Nat.le_of_ble_eq_true rfl) rfl (fun μ1 q1 hc1 f1 => ?_)
  have hm1 := MS_up hm f1
  refine kG.aload_n 268 dL_law_267 rfl rfl ?_
  refine kG.aload_n 269 dL_law_268 rfl rfl ?_
  refine kG.iload_n 270 dL_law_269 rfl rfl ?_
  refine kG.iconst (v := nI 1) 271 dL_law_270 (by decide) rfl ?_
  refine kG.iadd 272 dL_law_271 rfl ?_
  rw [nI_add]
  refine kG.sld (q := i + 1) 273 dL_law_272 rfl rfl (by omega) (by omega) rfl ?_
  refine kG.aload_n 274 dL_law_273 rfl rfl ?_
  refine kG.iload_n 275 dL_law_274 rfl rfl ?_
  refine kG.iconst (v := nI 2) 276 dL_law_275 (by decide) rfl ?_
  refine kG.iadd 277 dL_law_276 rfl ?_
  rw [nI_add]
  refine kG.sld (q := i + 2) 278 dL_law_277 rfl rfl (by omega) (by omega) rfl ?_
  refine hG.cM 281 dL_law_278 lL_22 vX5_ofHouse (y_ofHouse Γ hc.1 hm1 (kxs Γ (i + 1)) (kxs Γ (i + 2))) rfl rfl rfl ⟨by decide, by decide⟩ (Nat.le_of_ble_eq_true rfl) rfl (fun μ2 hm2 f2 => ?_)
  exact kG.icmp_eq 1403 284 dL_law_281 (by decide) rfl (fun _ => kk _ _ _ (CS_dn hc1 f2) hm2) (fun h => absurd rfl h)
set_option maxHeartbeats 4000000 in
theorem law_2 (Γ : kGm) {S : AS} {μ : kM} {q : kq4} (hc : CS S μ q) (hm : MS S μ) {i : Nat} (hi : i + 6 ≤ kLn Γ) (hL : kLn Γ ≤ 384) (kk : ∀ (S' : AS) (μ' : kM) (q' : kq4), CS S' μ' q' → MS S' μ' → hG Γ 1403 [some (.ref 0), some (.ref 1), some (.ref 49), some (.int (nI i))] [] μ' q') : hG Γ 286 [some (.ref 0), some (.ref 1), some (.ref 49), some (.int (nI i))] [] μ q := by
  refine kG.aload_n 287 dL_law_286 rfl rfl ?_
  refine kG.aload_n 288 dL_law_287 rfl rfl ?_
  refine kG.iload_n 289 dL_law_288 rfl rfl ?_
  refine kG.iconst (v := nI 1) 290 dL_law_289 (by decide) rfl ?_
  refine kG.iadd 291 dL_law_290 rfl ?_
  rw [nI_add]
  refine kG.sld (q := i + 1) 292 dL_law_291 rfl rfl (by omega) (by omega) rfl ?_
  refine kG.aload_n 293 dL_law_292 rfl rfl ?_
  refine kG.iload_n 294 dL_law_293 rfl rfl ?_
  refine kG.iconst (v := nI 2) 295 dL_law_294 (by decide) rfl ?_
  refine kG.iadd 296 dL_law_295 rfl ?_
  rw [nI_add]
  refine kG.sld (q := i + 2) 297 dL_law_296 rfl rfl (by omega) (by omega) rfl ?_
  refine hG.cX 300 dL_law_297 lL_23 vX4_ofPerson (x_ofPerson Γ hc (kxs Γ (i + 1)) (kxs Γ (i + 2))) rfl rfl rfl ⟨by decide, by decide⟩ (Nat.le_of_ble_eq_true rfl) rfl (fun μ1 q1 hc1 f1 => ?_)
  have hm1 := MS_up hm f1
  refine kG.aload_n 301 dL_law_300 rfl rfl ?_
  refine kG.aload_n 302 dL_law_301 rfl rfl ?_
  refine kG.iload_n 303 dL_law_302 rfl rfl ?_
  refine kG.iconst (v := nI 1) 304 dL_law_303 (by decide) rfl ?_
  refine kG.iadd 305 dL_law_304 rfl ?_
  rw [nI_add]
  refine kG.sld (q := i + 1) 306 dL_law_305 rfl rfl (by omega) (by omega) rfl ?_
  refine kG.aload_n 307 dL_law_306 rfl rfl ?_
  refine kG.iload_n 308 dL_law_307 rfl rfl ?_
  refine kG.iconst (v := nI 2) 309 dL_law_308 (by decide) rfl ?_
  refine kG.iadd 310 dL_law_309 rfl ?_
  rw [nI_add]
  refine kG.sld (q := i + 2) 311 dL_law_310 rfl rfl (by omega) (by omega) rfl ?_
  refine hG.cM 314 dL_law_311 lL_26 vX5_ofPerson (y_ofPerson Γ hc.1 hm1 (kxs Γ (i + 1)) (kxs Γ (i + 2))) rfl rfl rfl ⟨by decide, by decide⟩ (Nat.le_of_ble_eq_true rfl) rfl (fun μ2 hm2 f2 => ?_)
  exact kG.icmp_eq 1403 317 dL_law_314 (by decide) rfl (fun _ => kk _ _ _ (CS_dn hc1 f2) hm2) (fun h => absurd rfl h)
set_option maxHeartbeats 4000000 in
theorem law_3 (Γ : kGm) {S : AS} {μ : kM} {q : kq4} (hc : CS S μ q) (hm : MS S μ) {i : Nat} (hi : i + 6 ≤ kLn Γ) (hL : kLn Γ ≤ 384) (kk : ∀ (S' : AS) (μ' : kM) (q' : kq4), CS S' μ' q' → MS S' μ' → hG Γ 1403 [some (.ref 0), some (.ref 1), some (.ref 49), some (.int (nI i))] [] μ' q') : hG Γ 319 [some (.ref 0), some (.ref 1), some (.ref 49), some (.int (nI i))] [] μ q := by
  refine kG.aload_n 320 dL_law_319 rfl rfl ?_
  refine kG.aload_n 321 dL_law_320 rfl rfl ?_
  refine kG.iload_n 322 dL_law_321 rfl rfl ?_
  refine kG.iconst (v := nI 1) 323 dL_law_322 (by decide) rfl ?_
  refine kG.iadd 324 dL_law_323 rfl ?_
  rw [nI_add]
  refine kG.sld (q := i + 1) 325 dL_law_324 rfl rfl (by omega) (by omega) rfl ?_
  refine hG.cX 328 dL_law_325 lL_27 vX4_seam (x_seam Γ hc (kxs Γ (i + 1))) rfl rfl rfl ⟨by decide, by decide⟩ (Nat.le_of_ble_eq_true rfl) rfl (fun μ1 q1 hc1 f1 => ?_)
  have hm1 := MS_up hm f1
  refine kG.aload_n 329 dL_law_328 rfl rfl ?_
  refine kG.aload_n 330 dL_law_329 rfl rfl ?_
  refine kG.iload_n 331 dL_law_330 rfl rfl ?_
  refine kG.iconst (v := nI 1) 332 dL_law_331 (by decide) rfl ?_
  refine kG.iadd 333 dL_law_332 rfl ?_
  rw [nI_add]
  refine kG.sld (q := i + 1) 334 dL_law_333 rfl rfl (by omega) (by omega) rfl ?_
  refine hG.cM 337 dL_law_334 lL_31 vX5_seam (y_seam Γ hc.1 hm1 (kxs Γ (i + 1))) rfl rfl rfl ⟨by decide, by decide⟩ (Nat.le_of_ble_eq_true rfl) rfl (fun μ2 hm2 f2 => ?_)
  exact kG.icmp_eq 1403 340 dL_law_337 (by decide) rfl (fun _ => kk _ _ _ (CS_dn hc1 f2) hm2) (fun h => absurd rfl h)
set_option maxHeartbeats 4000000 in
theorem law_4 (Γ : kGm) {S : AS} {μ : kM} {q : kq4} (hc : CS S μ q) (hm : MS S μ) {i : Nat} (hi : i + 6 ≤ kLn Γ) (hL : kLn Γ ≤ 384) (kk : ∀ (S' : AS) (μ' : kM) (q' : kq4), CS S' μ' q' → MS S' μ' → hG Γ 1403 [some (.ref 0), some (.ref 1), some (.ref 49), some (.int (nI i))] [] μ' q') : hG Γ 342 [some (.ref 0), some (.ref 1), some (.ref 49), some (.int (nI i))] [] μ q := by
  refine kG.aload_n 343 dL_law_342 rfl rfl ?_
  refine kG.aload_n 344 dL_law_343 rfl rfl ?_
  refine kG.iload_n 345 dL_law_344 rfl rfl ?_
  refine kG.iconst (v := nI 1) 346 dL_law_345 (by decide) rfl ?_
  refine kG.iadd 347 dL_law_346 rfl ?_
  rw [nI_add]
  refine kG.sld (q := i + 1) 348 dL_law_347 rfl rfl (by omega) (by omega) rfl ?_
  refine kG.aload_n 349 dL_law_348 rfl rfl ?_
  refine kG.iload_n 350 dL_law_349 rfl rfl ?_
  refine kG.iconst (v := nI 2) 351 dL_law_350 (by decide) rfl ?_
  refine kG.iadd 352 dL_law_351 rfl ?_
  rw [nI_add]
  refine kG.sld (q := i + 2) 353 dL_law_352 rfl rfl (by omega) (by omega) rfl ?_
  refine kG.if_eq 360 356 dL_law_353 (by decide) rfl (fun h0 => ?_) (fun h0 => ?_)
  · refine kG.iconst (v := nI 0) 361 dL_law_360 (by decide) rfl ?_
    refine hG.cX 364 dL_law_361 lL_32 vX4_away (x_away Γ hc (kxs Γ (i + 1)) false) rfl rfl rfl ⟨by decide, by decide⟩ (Nat.le_of_ble_eq_true rfl) rfl (fun μ1 q1 hc1 f1 => ?_)
    have hm1 := MS_up hm f1
    refine kG.aload_n 365 dL_law_364 rfl rfl ?_
    refine kG.aload_n 366 dL_law_365 rfl rfl ?_
    refine kG.iload_n 367 dL_law_366 rfl rfl ?_
    refine kG.iconst (v := nI 1) 368 dL_law_367 (by decide) rfl ?_
    refine kG.iadd 369 dL_law_368 rfl ?_
    rw [nI_add]
    refine kG.sld (q := i + 1) 370 dL_law_369 rfl rfl (by omega) (by omega) rfl ?_
    refine kG.aload_n 371 dL_law_370 rfl rfl ?_
    refine kG.iload_n 372 dL_law_371 rfl rfl ?_
    refine kG.iconst (v := nI 2) 373 dL_law_372 (by decide) rfl ?_
    refine kG.iadd 374 dL_law_373 rfl ?_
    rw [nI_add]
    refine kG.sld (q := i + 2) 375 dL_law_374 rfl rfl (by omega) (by omega) rfl ?_
    refine kG.if_eq 382 378 dL_law_375 (by decide) rfl (fun h1 => ?_) (fun h1 => ?_)
    · refine kG.iconst (v := nI 0) 383 dL_law_382 (by decide) rfl ?_
      refine hG.cM 386 dL_law_383 lL_36 vX5_away (y_away Γ hc.1 hm1 false (kxs Γ (i + 1))) rfl rfl rfl ⟨by decide, by decide⟩ (Nat.le_of_ble_eq_true rfl) rfl (fun μ2 hm2 f2 => ?_)
      exact kG.icmp_eq 1403 389 dL_law_386 (by decide) rfl (fun _ => kk _ _ _ (CS_dn hc1 f2) hm2) (fun h => absurd rfl h)
    · exact absurd h0 h1
  · refine kG.iconst (v := nI 1) 357 dL_law_356 (by decide) rfl ?_
    refine kG.goto 361 dL_law_357 (by decide) ?_
    refine hG.cX 364 dL_law_361 lL_32 vX4_away (x_away Γ hc (kxs Γ (i + 1)) true) rfl rfl rfl ⟨by decide, by decide⟩ (Nat.le_of_ble_eq_true rfl) rfl (fun μ1 q1 hc1 f1 => ?_)
    have hm1 := MS_up hm f1
    refine kG.aload_n 365 dL_law_364 rfl rfl ?_
    refine kG.aload_n 366 dL_law_365 rfl rfl ?_
    refine kG.iload_n 367 dL_law_366 rfl rfl ?_
    refine kG.iconst (v := nI 1) 368 dL_law_367 (by decide) rfl ?_
    refine kG.iadd 369 dL_law_368 rfl ?_
    rw [nI_add]
    refine kG.sld (q := i + 1) 370 dL_law_369 rfl rfl (by omega) (by omega) rfl ?_
    refine kG.aload_n 371 dL_law_370 rfl rfl ?_
    refine kG.iload_n 372 dL_law_371 rfl rfl ?_
    refine kG.iconst (v := nI 2) 373 dL_law_372 (by decide) rfl ?_
    refine kG.iadd 374 dL_law_373 rfl ?_
    rw [nI_add]
    refine kG.sld (q := i + 2) 375 dL_law_374 rfl rfl (by omega) (by omega) rfl ?_
    refine kG.if_eq 382 378 dL_law_375 (by decide) rfl (fun h1 => ?_) (fun h1 => ?_)
    · exact absurd h1 h0
    · refine kG.iconst (v := nI 1) 379 dL_law_378 (by decide) rfl ?_
      refine kG.goto 383 dL_law_379 (by decide) ?_
      refine hG.cM 386 dL_law_383 lL_36 vX5_away (y_away Γ hc.1 hm1 true (kxs Γ (i + 1))) rfl rfl rfl ⟨by decide, by decide⟩ (Nat.le_of_ble_eq_true rfl) rfl (fun μ2 hm2 f2 => ?_)
      exact kG.icmp_eq 1403 389 dL_law_386 (by decide) rfl (fun _ => kk _ _ _ (CS_dn hc1 f2) hm2) (fun h => absurd rfl h)
set_option maxHeartbeats 4000000 in
theorem law_5 (Γ : kGm) {S : AS} {μ : kM} {q : kq4} (hc : CS S μ q) (hm : MS S μ) {i : Nat} (hi : i + 6 ≤ kLn Γ) (hL : kLn Γ ≤ 384) (kk : ∀ (S' : AS) (μ' : kM) (q' : kq4), CS S' μ' q' → MS S' μ' → hG Γ 1403 [some (.ref 0), some (.ref 1), some (.ref 49), some (.int (nI i))] [] μ' q') : hG Γ 391 [some (.ref 0), some (.ref 1), some (.ref 49), some (.int (nI i))] [] μ q := by
  refine kG.aload_n 392 dL_law_391 rfl rfl ?_
  refine kG.aload_n 393 dL_law_392 rfl rfl ?_
  refine kG.iload_n 394 dL_law_393 rfl rfl ?_
  refine kG.iconst (v := nI 1) 395 dL_law_394 (by decide) rfl ?_
  refine kG.iadd 396 dL_law_395 rfl ?_
  rw [nI_add]
  refine kG.sld (q := i + 1) 397 dL_law_396 rfl rfl (by omega) (by omega) rfl ?_
  refine kG.aload_n 398 dL_law_397 rfl rfl ?_
  refine kG.iload_n 399 dL_law_398 rfl rfl ?_
  refine kG.iconst (v := nI 2) 400 dL_law_399 (by decide) rfl ?_
  refine kG.iadd 401 dL_law_400 rfl ?_
  rw [nI_add]
  refine kG.sld (q := i + 2) 402 dL_law_401 rfl rfl (by omega) (by omega) rfl ?_
  refine kG.aload_n 403 dL_law_402 rfl rfl ?_
  refine kG.iload_n 404 dL_law_403 rfl rfl ?_
  refine kG.iconst (v := nI 3) 405 dL_law_404 (by decide) rfl ?_
  refine kG.iadd 406 dL_law_405 rfl ?_
  rw [nI_add]
  refine kG.sld (q := i + 3) 407 dL_law_406 rfl rfl (by omega) (by omega) rfl ?_
  refine hG.cX 410 dL_law_407 lL_37 vX4_gift (x_gift Γ hc (kxs Γ (i + 1)) (kxs Γ (i + 2)) (kxs Γ (i + 3))) rfl rfl rfl ⟨by decide, by decide⟩ (Nat.le_of_ble_eq_true rfl) rfl (fun μ1 q1 hc1 f1 => ?_)
  have hm1 := MS_up hm f1
  refine kG.aload_n 411 dL_law_410 rfl rfl ?_
  refine kG.aload_n 412 dL_law_411 rfl rfl ?_
  refine kG.iload_n 413 dL_law_412 rfl rfl ?_
  refine kG.iconst (v := nI 1) 414 dL_law_413 (by decide) rfl ?_
  refine kG.iadd 415 dL_law_414 rfl ?_
  rw [nI_add]
  refine kG.sld (q := i + 1) 416 dL_law_415 rfl rfl (by omega) (by omega) rfl ?_
  refine kG.aload_n 417 dL_law_416 rfl rfl ?_
  refine kG.iload_n 418 dL_law_417 rfl rfl ?_
  refine kG.iconst (v := nI 2) 419 dL_law_418 (by decide) rfl ?_
  refine kG.iadd 420 dL_law_419 rfl ?_
  rw [nI_add]
  refine kG.sld (q := i + 2) 421 dL_law_420 rfl rfl (by omega) (by omega) rfl ?_
  refine kG.aload_n 422 dL_law_421 rfl rfl ?_
  refine kG.iload_n 423 dL_law_422 rfl rfl ?_
  refine kG.iconst (v := nI 3) 424 dL_law_423 (by decide) rfl ?_
  refine kG.iadd 425 dL_law_424 rfl ?_
  rw [nI_add]
  refine kG.sld (q := i + 3) 426 dL_law_425 rfl rfl (by omega) (by omega) rfl ?_
  refine hG.cM 429 dL_law_426 lL_41 vX5_gift (y_gift Γ hc.1 hm1 (kxs Γ (i + 1)) (kxs Γ (i + 2)) (kxs Γ (i + 3))) rfl rfl rfl ⟨by decide, by decide⟩ (Nat.le_of_ble_eq_true rfl) rfl (fun μ2 hm2 f2 => ?_)
  exact kG.icmp_eq 1403 432 dL_law_429 (by decide) rfl (fun _ => kk _ _ _ (CS_dn hc1 f2) hm2) (fun h => absurd rfl h)
set_option maxHeartbeats 4000000 in
theorem law_6 (Γ : kGm) {S : AS} {μ : kM} {q : kq4} (hc : CS S μ q) (hm : MS S μ) {i : Nat} (hi : i + 6 ≤ kLn Γ) (hL : kLn Γ ≤ 384) (kk : ∀ (S' : AS) (μ' : kM) (q' : kq4), CS S' μ' q' → MS S' μ' → hG Γ 1403 [some (.ref 0), some (.ref 1), some (.ref 49), some (.int (nI i))] [] μ' q') : hG Γ 434 [some (.ref 0), some (.ref 1), some (.ref 49), some (.int (nI i))] [] μ q := by
  refine kG.aload_n 435 dL_law_434 rfl rfl ?_
  refine kG.aload_n 436 dL_law_435 rfl rfl ?_
  refine kG.iload_n 437 dL_law_436 rfl rfl ?_
  refine kG.iconst (v := nI 1) 438 dL_law_437 (by decide) rfl ?_
  refine kG.iadd 439 dL_law_438 rfl ?_
  rw [nI_add]
  refine kG.sld (q := i + 1) 440 dL_law_439 rfl rfl (by omega) (by omega) rfl ?_
  refine hG.cX 443 dL_law_440 lL_42 vX4_undo (x_undo Γ hc (kxs Γ (i + 1))) rfl rfl rfl ⟨by decide, by decide⟩ (Nat.le_of_ble_eq_true rfl) rfl (fun μ1 q1 hc1 f1 => ?_)
  have hm1 := MS_up hm f1
  refine kG.aload_n 444 dL_law_443 rfl rfl ?_
  refine kG.aload_n 445 dL_law_444 rfl rfl ?_
  refine kG.iload_n 446 dL_law_445 rfl rfl ?_
  refine kG.iconst (v := nI 1) 447 dL_law_446 (by decide) rfl ?_
  refine kG.iadd 448 dL_law_447 rfl ?_
  rw [nI_add]
  refine kG.sld (q := i + 1) 449 dL_law_448 rfl rfl (by omega) (by omega) rfl ?_
  refine hG.cM 452 dL_law_449 lL_45 vX5_undo (y_undo Γ hc.1 hm1 (kxs Γ (i + 1))) rfl rfl rfl ⟨by decide, by decide⟩ (Nat.le_of_ble_eq_true rfl) rfl (fun μ2 hm2 f2 => ?_)
  exact kG.icmp_eq 1403 455 dL_law_452 (by decide) rfl (fun _ => kk _ _ _ (CS_dn hc1 f2) hm2) (fun h => absurd rfl h)
set_option maxHeartbeats 4000000 in
theorem law_7 (Γ : kGm) {S : AS} {μ : kM} {q : kq4} (hc : CS S μ q) (hm : MS S μ) {i : Nat} (hi : i + 6 ≤ kLn Γ) (hL : kLn Γ ≤ 384) (kk : ∀ (S' : AS) (μ' : kM) (q' : kq4), CS S' μ' q' → MS S' μ' → hG Γ 1403 [some (.ref 0), some (.ref 1), some (.ref 49), some (.int (nI i))] [] μ' q') : hG Γ 457 [some (.ref 0), some (.ref 1), some (.ref 49), some (.int (nI i))] [] μ q := by
  refine kG.aload_n 458 dL_law_457 rfl rfl ?_
  refine kG.aload_n 459 dL_law_458 rfl rfl ?_
  refine kG.iload_n 460 dL_law_459 rfl rfl ?_
  refine kG.iconst (v := nI 1) 461 dL_law_460 (by decide) rfl ?_
  refine kG.iadd 462 dL_law_461 rfl ?_
  rw [nI_add]
  refine kG.sld (q := i + 1) 463 dL_law_462 rfl rfl (by omega) (by omega) rfl ?_
  refine kG.aload_n 464 dL_law_463 rfl rfl ?_
  refine kG.iload_n 465 dL_law_464 rfl rfl ?_
  refine kG.iconst (v := nI 2) 466 dL_law_465 (by decide) rfl ?_
  refine kG.iadd 467 dL_law_466 rfl ?_
  rw [nI_add]
  refine kG.sld (q := i + 2) 468 dL_law_467 rfl rfl (by omega) (by omega) rfl ?_
  refine kG.aload_n 469 dL_law_468 rfl rfl ?_
  refine kG.iload_n 470 dL_law_469 rfl rfl ?_
  refine kG.iconst (v := nI 3) 471 dL_law_470 (by decide) rfl ?_
  refine kG.iadd 472 dL_law_471 rfl ?_
  rw [nI_add]
  refine kG.sld (q := i + 3) 473 dL_law_472 rfl rfl (by omega) (by omega) rfl ?_
  refine hG.cX 476 dL_law_473 lL_46 vX4_wood (x_wood Γ hc (kxs Γ (i + 1)) (kxs Γ (i + 2)) (kxs Γ (i + 3))) rfl rfl rfl ⟨by decide, by decide⟩ (Nat.le_of_ble_eq_true rfl) rfl (fun μ1 q1 hc1 f1 => ?_)
  have hm1 := MS_up hm f1
  refine kG.aload_n 477 dL_law_476 rfl rfl ?_
  refine kG.aload_n 478 dL_law_477 rfl rfl ?_
  refine kG.iload_n 479 dL_law_478 rfl rfl ?_
  refine kG.iconst (v := nI 1) 480 dL_law_479 (by decide) rfl ?_
  refine kG.iadd 481 dL_law_480 rfl ?_
  rw [nI_add]
  refine kG.sld (q := i + 1) 482 dL_law_481 rfl rfl (by omega) (by omega) rfl ?_
  refine kG.aload_n 483 dL_law_482 rfl rfl ?_
  refine kG.iload_n 484 dL_law_483 rfl rfl ?_
  refine kG.iconst (v := nI 2) 485 dL_law_484 (by decide) rfl ?_
  refine kG.iadd 486 dL_law_485 rfl ?_
  rw [nI_add]
  refine kG.sld (q := i + 2) 487 dL_law_486 rfl rfl (by omega) (by omega) rfl ?_
  refine kG.aload_n 488 dL_law_487 rfl rfl ?_
  refine kG.iload_n 489 dL_law_488 rfl rfl ?_
  refine kG.iconst (v := nI 3) 490 dL_law_489 (by decide) rfl ?_
  refine kG.iadd 491 dL_law_490 rfl ?_
  rw [nI_add]
  refine kG.sld (q := i + 3) 492 dL_law_491 rfl rfl (by omega) (by omega) rfl ?_
  refine hG.cM 495 dL_law_492 lL_49 vX5_wood (y_wood Γ hc.1 hm1 (kxs Γ (i + 1)) (kxs Γ (i + 2)) (kxs Γ (i + 3))) rfl rfl rfl ⟨by decide, by decide⟩ (Nat.le_of_ble_eq_true rfl) rfl (fun μ2 hm2 f2 => ?_)
  exact kG.icmp_eq 1403 498 dL_law_495 (by decide) rfl (fun _ => kk _ _ _ (CS_dn hc1 f2) hm2) (fun h => absurd rfl h)
set_option maxHeartbeats 4000000 in
theorem law_8 (Γ : kGm) {S : AS} {μ : kM} {q : kq4} (hc : CS S μ q) (hm : MS S μ) {i : Nat} (hi : i + 6 ≤ kLn Γ) (hL : kLn Γ ≤ 384) (kk : ∀ (S' : AS) (μ' : kM) (q' : kq4), CS S' μ' q' → MS S' μ' → hG Γ 1403 [some (.ref 0), some (.ref 1), some (.ref 49), some (.int (nI i))] [] μ' q') : hG Γ 500 [some (.ref 0), some (.ref 1), some (.ref 49), some (.int (nI i))] [] μ q := by
  refine kG.aload_n 501 dL_law_500 rfl rfl ?_
  refine kG.aload_n 502 dL_law_501 rfl rfl ?_
  refine kG.iload_n 503 dL_law_502 rfl rfl ?_
  refine kG.iconst (v := nI 1) 504 dL_law_503 (by decide) rfl ?_
  refine kG.iadd 505 dL_law_504 rfl ?_
  rw [nI_add]
  refine kG.sld (q := i + 1) 506 dL_law_505 rfl rfl (by omega) (by omega) rfl ?_
  refine kG.aload_n 507 dL_law_506 rfl rfl ?_
  refine kG.iload_n 508 dL_law_507 rfl rfl ?_
  refine kG.iconst (v := nI 2) 509 dL_law_508 (by decide) rfl ?_
  refine kG.iadd 510 dL_law_509 rfl ?_
  rw [nI_add]
  refine kG.sld (q := i + 2) 511 dL_law_510 rfl rfl (by omega) (by omega) rfl ?_
  refine kG.aload_n 512 dL_law_511 rfl rfl ?_
  refine kG.iload_n 513 dL_law_512 rfl rfl ?_
  refine kG.iconst (v := nI 3) 514 dL_law_513 (by decide) rfl ?_
  refine kG.iadd 515 dL_law_514 rfl ?_
  rw [nI_add]
  refine kG.sld (q := i + 3) 516 dL_law_515 rfl rfl (by omega) (by omega) rfl ?_
  refine hG.cX 519 dL_law_516 lL_50 vX4_wear (x_wear Γ hc (kxs Γ (i + 1)) (kxs Γ (i + 2)) (kxs Γ (i + 3))) rfl rfl rfl ⟨by decide, by decide⟩ (Nat.le_of_ble_eq_true rfl) rfl (fun μ1 q1 hc1 f1 => ?_)
  have hm1 := MS_up hm f1
  refine kG.aload_n 520 dL_law_519 rfl rfl ?_
  refine kG.aload_n 521 dL_law_520 rfl rfl ?_
  refine kG.iload_n 522 dL_law_521 rfl rfl ?_
  refine kG.iconst (v := nI 1) 523 dL_law_522 (by decide) rfl ?_
  refine kG.iadd 524 dL_law_523 rfl ?_
  rw [nI_add]
  refine kG.sld (q := i + 1) 525 dL_law_524 rfl rfl (by omega) (by omega) rfl ?_
  refine kG.aload_n 526 dL_law_525 rfl rfl ?_
  refine kG.iload_n 527 dL_law_526 rfl rfl ?_
  refine kG.iconst (v := nI 2) 528 dL_law_527 (by decide) rfl ?_
  refine kG.iadd 529 dL_law_528 rfl ?_
  rw [nI_add]
  refine kG.sld (q := i + 2) 530 dL_law_529 rfl rfl (by omega) (by omega) rfl ?_
  refine kG.aload_n 531 dL_law_530 rfl rfl ?_
  refine kG.iload_n 532 dL_law_531 rfl rfl ?_
  refine kG.iconst (v := nI 3) 533 dL_law_532 (by decide) rfl ?_
  refine kG.iadd 534 dL_law_533 rfl ?_
  rw [nI_add]
  refine kG.sld (q := i + 3) 535 dL_law_534 rfl rfl (by omega) (by omega) rfl ?_
  refine hG.cM 538 dL_law_535 lL_53 vX5_wear (y_wear Γ hc.1 hm1 (kxs Γ (i + 1)) (kxs Γ (i + 2)) (kxs Γ (i + 3))) rfl rfl rfl ⟨by decide, by decide⟩ (Nat.le_of_ble_eq_true rfl) rfl (fun μ2 hm2 f2 => ?_)
  exact kG.icmp_eq 1403 541 dL_law_538 (by decide) rfl (fun _ => kk _ _ _ (CS_dn hc1 f2) hm2) (fun h => absurd rfl h)
set_option maxHeartbeats 4000000 in
theorem law_9 (Γ : kGm) {S : AS} {μ : kM} {q : kq4} (hc : CS S μ q) (hm : MS S μ) {i : Nat} (hi : i + 6 ≤ kLn Γ) (hL : kLn Γ ≤ 384) (kk : ∀ (S' : AS) (μ' : kM) (q' : kq4), CS S' μ' q' → MS S' μ' → hG Γ 1403 [some (.ref 0), some (.ref 1), some (.ref 49), some (.int (nI i))] [] μ' q') : hG Γ 543 [some (.ref 0), some (.ref 1), some (.ref 49), some (.int (nI i))] [] μ q := by
  refine kG.aload_n 544 dL_law_543 rfl rfl ?_
  refine kG.aload_n 545 dL_law_544 rfl rfl ?_
  refine kG.iload_n 546 dL_law_545 rfl rfl ?_
  refine kG.iconst (v := nI 1) 547 dL_law_546 (by decide) rfl ?_
  refine kG.iadd 548 dL_law_547 rfl ?_
  rw [nI_add]
  refine kG.sld (q := i + 1) 549 dL_law_548 rfl rfl (by omega) (by omega) rfl ?_
  refine kG.aload_n 550 dL_law_549 rfl rfl ?_
  refine kG.iload_n 551 dL_law_550 rfl rfl ?_
  refine kG.iconst (v := nI 2) 552 dL_law_551 (by decide) rfl ?_
  refine kG.iadd 553 dL_law_552 rfl ?_
  rw [nI_add]
  refine kG.sld (q := i + 2) 554 dL_law_553 rfl rfl (by omega) (by omega) rfl ?_
  refine hG.cX 557 dL_law_554 lL_54 vX4_cold (x_cold Γ hc (kxs Γ (i + 1)) (kxs Γ (i + 2))) rfl rfl rfl ⟨by decide, by decide⟩ (Nat.le_of_ble_eq_true rfl) rfl (fun μ1 q1 hc1 f1 => ?_)
  have hm1 := MS_up hm f1
  refine kG.aload_n 558 dL_law_557 rfl rfl ?_
  refine kG.aload_n 559 dL_law_558 rfl rfl ?_
  refine kG.iload_n 560 dL_law_559 rfl rfl ?_
  refine kG.iconst (v := nI 1) 561 dL_law_560 (by decide) rfl ?_
  refine kG.iadd 562 dL_law_561 rfl ?_
  rw [nI_add]
  refine kG.sld (q := i + 1) 563 dL_law_562 rfl rfl (by omega) (by omega) rfl ?_
  refine kG.aload_n 564 dL_law_563 rfl rfl ?_
  refine kG.iload_n 565 dL_law_564 rfl rfl ?_
  refine kG.iconst (v := nI 2) 566 dL_law_565 (by decide) rfl ?_
  refine kG.iadd 567 dL_law_566 rfl ?_
  rw [nI_add]
  refine kG.sld (q := i + 2) 568 dL_law_567 rfl rfl (by omega) (by omega) rfl ?_
  refine hG.cM 571 dL_law_568 lL_57 vX5_cold (y_cold Γ hc.1 hm1 (kxs Γ (i + 1)) (kxs Γ (i + 2))) rfl rfl rfl ⟨by decide, by decide⟩ (Nat.le_of_ble_eq_true rfl) rfl (fun μ2 hm2 f2 => ?_)
  exact kG.icmp_eq 1403 574 dL_law_571 (by decide) rfl (fun _ => kk _ _ _ (CS_dn hc1 f2) hm2) (fun h => absurd rfl h)
set_option maxHeartbeats 4000000 in
theorem law_10 (Γ : kGm) {S : AS} {μ : kM} {q : kq4} (hc : CS S μ q) (hm : MS S μ) {i : Nat} (hi : i + 6 ≤ kLn Γ) (hL : kLn Γ ≤ 384) (kk : ∀ (S' : AS) (μ' : kM) (q' : kq4), CS S' μ' q' → MS S' μ' → hG Γ 1403 [some (.ref 0), some (.ref 1), some (.ref 49), some (.int (nI i))] [] μ' q') : hG Γ 576 [some (.ref 0), some (.ref 1), some (.ref 49), some (.int (nI i))] [] μ q := by
  refine kG.aload_n 577 dL_law_576 rfl rfl ?_
  refine kG.aload_n 578 dL_law_577 rfl rfl ?_
  refine kG.iload_n 579 dL_law_578 rfl rfl ?_
  refine kG.iconst (v := nI 1) 580 dL_law_579 (by decide) rfl ?_
  refine kG.iadd 581 dL_law_580 rfl ?_
  rw [nI_add]
  refine kG.sld (q := i + 1) 582 dL_law_581 rfl rfl (by omega) (by omega) rfl ?_
  refine kG.aload_n 583 dL_law_582 rfl rfl ?_
  refine kG.iload_n 584 dL_law_583 rfl rfl ?_
  refine kG.iconst (v := nI 2) 585 dL_law_584 (by decide) rfl ?_
  refine kG.iadd 586 dL_law_585 rfl ?_
  rw [nI_add]
  refine kG.sld (q := i + 2) 587 dL_law_586 rfl rfl (by omega) (by omega) rfl ?_
  refine hG.cX 590 dL_law_587 lL_58 vX4_chills (x_chills Γ hc (kxs Γ (i + 1)) (kxs Γ (i + 2))) rfl rfl rfl ⟨by decide, by decide⟩ (Nat.le_of_ble_eq_true rfl) rfl (fun μ1 q1 hc1 f1 => ?_)
  have hm1 := MS_up hm f1
  refine kG.aload_n 591 dL_law_590 rfl rfl ?_
  refine kG.aload_n 592 dL_law_591 rfl rfl ?_
  refine kG.iload_n 593 dL_law_592 rfl rfl ?_
  refine kG.iconst (v := nI 1) 594 dL_law_593 (by decide) rfl ?_
  refine kG.iadd 595 dL_law_594 rfl ?_
  rw [nI_add]
  refine kG.sld (q := i + 1) 596 dL_law_595 rfl rfl (by omega) (by omega) rfl ?_
  refine kG.aload_n 597 dL_law_596 rfl rfl ?_
  refine kG.iload_n 598 dL_law_597 rfl rfl ?_
  refine kG.iconst (v := nI 2) 599 dL_law_598 (by decide) rfl ?_
  refine kG.iadd 600 dL_law_599 rfl ?_
  rw [nI_add]
  refine kG.sld (q := i + 2) 601 dL_law_600 rfl rfl (by omega) (by omega) rfl ?_
  refine hG.cM 604 dL_law_601 lL_61 vX5_chills (y_chills Γ hc.1 hm1 (kxs Γ (i + 1)) (kxs Γ (i + 2))) rfl rfl rfl ⟨by decide, by decide⟩ (Nat.le_of_ble_eq_true rfl) rfl (fun μ2 hm2 f2 => ?_)
  exact kG.icmp_eq 1403 607 dL_law_604 (by decide) rfl (fun _ => kk _ _ _ (CS_dn hc1 f2) hm2) (fun h => absurd rfl h)
set_option maxHeartbeats 4000000 in
theorem law_11 (Γ : kGm) {S : AS} {μ : kM} {q : kq4} (hc : CS S μ q) (hm : MS S μ) {i : Nat} (hi : i + 6 ≤ kLn Γ) (hL : kLn Γ ≤ 384) (kk : ∀ (S' : AS) (μ' : kM) (q' : kq4), CS S' μ' q' → MS S' μ' → hG Γ 1403 [some (.ref 0), some (.ref 1), some (.ref 49), some (.int (nI i))] [] μ' q') : hG Γ 609 [some (.ref 0), some (.ref 1), some (.ref 49), some (.int (nI i))] [] μ q := by
  refine kG.aload_n 610 dL_law_609 rfl rfl ?_
  refine hG.cX 613 dL_law_610 lL_62 vX4_all (x_all Γ hc ) rfl rfl rfl ⟨by decide, by decide⟩ (Nat.le_of_ble_eq_true rfl) rfl (fun μ1 q1 hc1 f1 => ?_)
  have hm1 := MS_up hm f1
  refine kG.aload_n 614 dL_law_613 rfl rfl ?_
  refine hG.cM 617 dL_law_614 lL_66 vX5_all (y_all Γ hc.1 hm1 ) rfl rfl rfl ⟨by decide, by decide⟩ (Nat.le_of_ble_eq_true rfl) rfl (fun μ2 hm2 f2 => ?_)
  exact kG.icmp_eq 1403 620 dL_law_617 (by decide) rfl (fun _ => kk _ _ _ (CS_dn hc1 f2) hm2) (fun h => absurd rfl h)
set_option maxHeartbeats 4000000 in
theorem law_12 (Γ : kGm) {S : AS} {μ : kM} {q : kq4} (hc : CS S μ q) (hm : MS S μ) {i : Nat} (hi : i + 6 ≤ kLn Γ) (hL : kLn Γ ≤ 384) (kk : ∀ (S' : AS) (μ' : kM) (q' : kq4), CS S' μ' q' → MS S' μ' → hG Γ 1403 [some (.ref 0), some (.ref 1), some (.ref 49), some (.int (nI i))] [] μ' q') : hG Γ 622 [some (.ref 0), some (.ref 1), some (.ref 49), some (.int (nI i))] [] μ q := by
  refine kG.aload_n 623 dL_law_622 rfl rfl ?_
  refine kG.aload_n 624 dL_law_623 rfl rfl ?_
  refine kG.iload_n 625 dL_law_624 rfl rfl ?_
  refine kG.iconst (v := nI 1) 626 dL_law_625 (by decide) rfl ?_
  refine kG.iadd 627 dL_law_626 rfl ?_
  rw [nI_add]
  refine kG.sld (q := i + 1) 628 dL_law_627 rfl rfl (by omega) (by omega) rfl ?_
  refine hG.cX 631 dL_law_628 lL_67 vX4_breaks (x_breaks Γ hc (kxs Γ (i + 1))) rfl rfl rfl ⟨by decide, by decide⟩ (Nat.le_of_ble_eq_true rfl) rfl (fun μ1 q1 hc1 f1 => ?_)
  have hm1 := MS_up hm f1
  refine kG.aload_n 632 dL_law_631 rfl rfl ?_
  refine kG.aload_n 633 dL_law_632 rfl rfl ?_
  refine kG.iload_n 634 dL_law_633 rfl rfl ?_
  refine kG.iconst (v := nI 1) 635 dL_law_634 (by decide) rfl ?_
  refine kG.iadd 636 dL_law_635 rfl ?_
  rw [nI_add]
  refine kG.sld (q := i + 1) 637 dL_law_636 rfl rfl (by omega) (by omega) rfl ?_
  refine hG.cM 640 dL_law_637 lL_70 vX5_breaks (y_breaks Γ hc.1 hm1 (kxs Γ (i + 1))) rfl rfl rfl ⟨by decide, by decide⟩ (Nat.le_of_ble_eq_true rfl) rfl (fun μ2 hm2 f2 => ?_)
  exact kG.icmp_eq 1403 643 dL_law_640 (by decide) rfl (fun _ => kk _ _ _ (CS_dn hc1 f2) hm2) (fun h => absurd rfl h)
set_option maxHeartbeats 4000000 in
theorem law_13 (Γ : kGm) {S : AS} {μ : kM} {q : kq4} (hc : CS S μ q) (hm : MS S μ) {i : Nat} (hi : i + 6 ≤ kLn Γ) (hL : kLn Γ ≤ 384) (kk : ∀ (S' : AS) (μ' : kM) (q' : kq4), CS S' μ' q' → MS S' μ' → hG Γ 1403 [some (.ref 0), some (.ref 1), some (.ref 49), some (.int (nI i))] [] μ' q') : hG Γ 645 [some (.ref 0), some (.ref 1), some (.ref 49), some (.int (nI i))] [] μ q := by
  refine kG.aload_n 646 dL_law_645 rfl rfl ?_
  refine kG.aload_n 647 dL_law_646 rfl rfl ?_
  refine kG.iload_n 648 dL_law_647 rfl rfl ?_
  refine kG.iconst (v := nI 1) 649 dL_law_648 (by decide) rfl ?_
  refine kG.iadd 650 dL_law_649 rfl ?_
  rw [nI_add]
  refine kG.sld (q := i + 1) 651 dL_law_650 rfl rfl (by omega) (by omega) rfl ?_
  refine hG.cX 654 dL_law_651 lL_71 vX4_best (x_best Γ hc (kxs Γ (i + 1))) rfl rfl rfl ⟨by decide, by decide⟩ (Nat.le_of_ble_eq_true rfl) rfl (fun μ1 q1 hc1 f1 => ?_)
  have hm1 := MS_up hm f1
  refine kG.aload_n 655 dL_law_654 rfl rfl ?_
  refine kG.aload_n 656 dL_law_655 rfl rfl ?_
  refine kG.iload_n 657 dL_law_656 rfl rfl ?_
  refine kG.iconst (v := nI 1) 658 dL_law_657 (by decide) rfl ?_
  refine kG.iadd 659 dL_law_658 rfl ?_
  rw [nI_add]
  refine kG.sld (q := i + 1) 660 dL_law_659 rfl rfl (by omega) (by omega) rfl ?_
  refine hG.cM 663 dL_law_660 lL_74 vX5_best (y_best Γ hc.1 hm1 (kxs Γ (i + 1))) rfl rfl rfl ⟨by decide, by decide⟩ (Nat.le_of_ble_eq_true rfl) rfl (fun μ2 hm2 f2 => ?_)
  exact kG.icmp_eq 1403 666 dL_law_663 (by decide) rfl (fun _ => kk _ _ _ (CS_dn hc1 f2) hm2) (fun h => absurd rfl h)
set_option maxHeartbeats 4000000 in
theorem law_14 (Γ : kGm) {S : AS} {μ : kM} {q : kq4} (hc : CS S μ q) (hm : MS S μ) {i : Nat} (hi : i + 6 ≤ kLn Γ) (hL : kLn Γ ≤ 384) (kk : ∀ (S' : AS) (μ' : kM) (q' : kq4), CS S' μ' q' → MS S' μ' → hG Γ 1403 [some (.ref 0), some (.ref 1), some (.ref 49), some (.int (nI i))] [] μ' q') : hG Γ 668 [some (.ref 0), some (.ref 1), some (.ref 49), some (.int (nI i))] [] μ q := by
  refine kG.aload_n 669 dL_law_668 rfl rfl ?_
  refine kG.aload_n 670 dL_law_669 rfl rfl ?_
  refine kG.iload_n 671 dL_law_670 rfl rfl ?_
  refine kG.iconst (v := nI 1) 672 dL_law_671 (by decide) rfl ?_
  refine kG.iadd 673 dL_law_672 rfl ?_
  rw [nI_add]
  refine kG.sld (q := i + 1) 674 dL_law_673 rfl rfl (by omega) (by omega) rfl ?_
  refine hG.cX 677 dL_law_674 lL_75 vX4_blame (x_blame Γ hc (kxs Γ (i + 1))) rfl rfl rfl ⟨by decide, by decide⟩ (Nat.le_of_ble_eq_true rfl) rfl (fun μ1 q1 hc1 f1 => ?_)
  have hm1 := MS_up hm f1
  refine kG.aload_n 678 dL_law_677 rfl rfl ?_
  refine kG.aload_n 679 dL_law_678 rfl rfl ?_
  refine kG.iload_n 680 dL_law_679 rfl rfl ?_
  refine kG.iconst (v := nI 1) 681 dL_law_680 (by decide) rfl ?_
  refine kG.iadd 682 dL_law_681 rfl ?_
  rw [nI_add]
  refine kG.sld (q := i + 1) 683 dL_law_682 rfl rfl (by omega) (by omega) rfl ?_
  refine hG.cM 686 dL_law_683 lL_78 vX5_blame (y_blame Γ hc.1 hm1 (kxs Γ (i + 1))) rfl rfl rfl ⟨by decide, by decide⟩ (Nat.le_of_ble_eq_true rfl) rfl (fun μ2 hm2 f2 => ?_)
  exact kG.icmp_eq 1403 689 dL_law_686 (by decide) rfl (fun _ => kk _ _ _ (CS_dn hc1 f2) hm2) (fun h => absurd rfl h)
set_option maxHeartbeats 4000000 in
theorem law_15 (Γ : kGm) {S : AS} {μ : kM} {q : kq4} (hc : CS S μ q) (hm : MS S μ) {i : Nat} (hi : i + 6 ≤ kLn Γ) (hL : kLn Γ ≤ 384) (kk : ∀ (S' : AS) (μ' : kM) (q' : kq4), CS S' μ' q' → MS S' μ' → hG Γ 1403 [some (.ref 0), some (.ref 1), some (.ref 49), some (.int (nI i))] [] μ' q') : hG Γ 691 [some (.ref 0), some (.ref 1), some (.ref 49), some (.int (nI i))] [] μ q := by
  refine kG.aload_n 692 dL_law_691 rfl rfl ?_
  refine kG.aload_n 693 dL_law_692 rfl rfl ?_
  refine kG.iload_n 694 dL_law_693 rfl rfl ?_
  refine kG.iconst (v := nI 1) 695 dL_law_694 (by decide) rfl ?_
  refine kG.iadd 696 dL_law_695 rfl ?_
  rw [nI_add]
  refine kG.sld (q := i + 1) 697 dL_law_696 rfl rfl (by omega) (by omega) rfl ?_
  refine hG.cX 700 dL_law_697 lL_79 vX4_warm (x_warm Γ hc (kxs Γ (i + 1))) rfl rfl rfl ⟨by decide, by decide⟩ (Nat.le_of_ble_eq_true rfl) rfl (fun μ1 q1 hc1 f1 => ?_)
  have hm1 := MS_up hm f1
  refine kG.aload_n 701 dL_law_700 rfl rfl ?_
  refine kG.aload_n 702 dL_law_701 rfl rfl ?_
  refine kG.iload_n 703 dL_law_702 rfl rfl ?_
  refine kG.iconst (v := nI 1) 704 dL_law_703 (by decide) rfl ?_
  refine kG.iadd 705 dL_law_704 rfl ?_
  rw [nI_add]
  refine kG.sld (q := i + 1) 706 dL_law_705 rfl rfl (by omega) (by omega) rfl ?_
  refine hG.cM 709 dL_law_706 lL_82 vX5_warm (y_warm Γ hc.1 hm1 (kxs Γ (i + 1))) rfl rfl rfl ⟨by decide, by decide⟩ (Nat.le_of_ble_eq_true rfl) rfl (fun μ2 hm2 f2 => ?_)
  exact kG.icmp_eq 1403 712 dL_law_709 (by decide) rfl (fun _ => kk _ _ _ (CS_dn hc1 f2) hm2) (fun h => absurd rfl h)
set_option maxHeartbeats 4000000 in
theorem law_16 (Γ : kGm) {S : AS} {μ : kM} {q : kq4} (hc : CS S μ q) (hm : MS S μ) {i : Nat} (hi : i + 6 ≤ kLn Γ) (hL : kLn Γ ≤ 384) (kk : ∀ (S' : AS) (μ' : kM) (q' : kq4), CS S' μ' q' → MS S' μ' → hG Γ 1403 [some (.ref 0), some (.ref 1), some (.ref 49), some (.int (nI i))] [] μ' q') : hG Γ 714 [some (.ref 0), some (.ref 1), some (.ref 49), some (.int (nI i))] [] μ q := by
  refine kG.aload_n 715 dL_law_714 rfl rfl ?_
  refine kG.aload_n 716 dL_law_715 rfl rfl ?_
  refine kG.iload_n 717 dL_law_716 rfl rfl ?_
  refine kG.iconst (v := nI 1) 718 dL_law_717 (by decide) rfl ?_
  refine kG.iadd 719 dL_law_718 rfl ?_
  rw [nI_add]
  refine kG.sld (q := i + 1) 720 dL_law_719 rfl rfl (by omega) (by omega) rfl ?_
  refine hG.cX 723 dL_law_720 lL_83 vX4_logs (x_logs Γ hc (kxs Γ (i + 1))) rfl rfl rfl ⟨by decide, by decide⟩ (Nat.le_of_ble_eq_true rfl) rfl (fun μ1 q1 hc1 f1 => ?_)
  have hm1 := MS_up hm f1
  refine kG.aload_n 724 dL_law_723 rfl rfl ?_
  refine kG.aload_n 725 dL_law_724 rfl rfl ?_
  refine kG.iload_n 726 dL_law_725 rfl rfl ?_
  refine kG.iconst (v := nI 1) 727 dL_law_726 (by decide) rfl ?_
  refine kG.iadd 728 dL_law_727 rfl ?_
  rw [nI_add]
  refine kG.sld (q := i + 1) 729 dL_law_728 rfl rfl (by omega) (by omega) rfl ?_
  refine hG.cM 732 dL_law_729 lL_86 vX5_logs (y_logs Γ hc.1 hm1 (kxs Γ (i + 1))) rfl rfl rfl ⟨by decide, by decide⟩ (Nat.le_of_ble_eq_true rfl) rfl (fun μ2 hm2 f2 => ?_)
  exact kG.icmp_eq 1403 735 dL_law_732 (by decide) rfl (fun _ => kk _ _ _ (CS_dn hc1 f2) hm2) (fun h => absurd rfl h)
set_option maxHeartbeats 4000000 in
theorem law_17 (Γ : kGm) {S : AS} {μ : kM} {q : kq4} (hc : CS S μ q) (hm : MS S μ) {i : Nat} (hi : i + 6 ≤ kLn Γ) (hL : kLn Γ ≤ 384) (kk : ∀ (S' : AS) (μ' : kM) (q' : kq4), CS S' μ' q' → MS S' μ' → hG Γ 1403 [some (.ref 0), some (.ref 1), some (.ref 49), some (.int (nI i))] [] μ' q') : hG Γ 737 [some (.ref 0), some (.ref 1), some (.ref 49), some (.int (nI i))] [] μ q := by
  refine kG.aload_n 738 dL_law_737 rfl rfl ?_
  refine kG.aload_n 739 dL_law_738 rfl rfl ?_
  refine kG.iload_n 740 dL_law_739 rfl rfl ?_
  refine kG.iconst (v := nI 1) 741 dL_law_740 (by decide) rfl ?_
  refine kG.iadd 742 dL_law_741 rfl ?_
  rw [nI_add]
  refine kG.sld (q := i + 1) 743 dL_law_742 rfl rfl (by omega) (by omega) rfl ?_
  refine kG.aload_n 744 dL_law_743 rfl rfl ?_
  refine kG.iload_n 745 dL_law_744 rfl rfl ?_
  refine kG.iconst (v := nI 2) 746 dL_law_745 (by decide) rfl ?_
  refine kG.iadd 747 dL_law_746 rfl ?_
  rw [nI_add]
  refine kG.sld (q := i + 2) 748 dL_law_747 rfl rfl (by omega) (by omega) rfl ?_
  refine kG.aload_n 749 dL_law_748 rfl rfl ?_
  refine kG.iload_n 750 dL_law_749 rfl rfl ?_
  refine kG.iconst (v := nI 3) 751 dL_law_750 (by decide) rfl ?_
  refine kG.iadd 752 dL_law_751 rfl ?_
  rw [nI_add]
  refine kG.sld (q := i + 3) 753 dL_law_752 rfl rfl (by omega) (by omega) rfl ?_
  refine hG.cXl 756 dL_law_753 lL_87 vX4_pays (x_pays Γ hc (kxs Γ (i + 1)) (kxs Γ (i + 2)) (kxs Γ (i + 3))) rfl rfl rfl ⟨by decide, by decide⟩ (Nat.le_of_ble_eq_true rfl) rfl (fun μ1 q1 hc1 f1 => ?_)
  have hm1 := MS_up hm f1
  refine kG.aload_n 757 dL_law_756 rfl rfl ?_
  refine kG.aload_n 758 dL_law_757 rfl rfl ?_
  refine kG.iload_n 759 dL_law_758 rfl rfl ?_
  refine kG.iconst (v := nI 1) 760 dL_law_759 (by decide) rfl ?_
  refine kG.iadd 761 dL_law_760 rfl ?_
  rw [nI_add]
  refine kG.sld (q := i + 1) 762 dL_law_761 rfl rfl (by omega) (by omega) rfl ?_
  refine kG.aload_n 763 dL_law_762 rfl rfl ?_
  refine kG.iload_n 764 dL_law_763 rfl rfl ?_
  refine kG.iconst (v := nI 2) 765 dL_law_764 (by decide) rfl ?_
  refine kG.iadd 766 dL_law_765 rfl ?_
  rw [nI_add]
  refine kG.sld (q := i + 2) 767 dL_law_766 rfl rfl (by omega) (by omega) rfl ?_
  refine kG.aload_n 768 dL_law_767 rfl rfl ?_
  refine kG.iload_n 769 dL_law_768 rfl rfl ?_
  refine kG.iconst (v := nI 3) 770 dL_law_769 (by decide) rfl ?_
  refine kG.iadd 771 dL_law_770 rfl ?_
  rw [nI_add]
  refine kG.sld (q := i + 3) 772 dL_law_771 rfl rfl (by omega) (by omega) rfl ?_
  refine hG.cMl 775 dL_law_772 lL_91 vX5_pays (y_pays Γ hc.1 hm1 (kxs Γ (i + 1)) (kxs Γ (i + 2)) (kxs Γ (i + 3))) rfl rfl rfl ⟨by decide, by decide⟩ (Nat.le_of_ble_eq_true rfl) rfl (fun μ2 hm2 f2 => ?_)
  refine kG.lcmp 776 dL_law_775 rfl ?_
  exact kG.if_eq 1403 779 dL_law_776 (by decide) rfl (fun _ => kk _ _ _ (CS_dn hc1 f2) hm2) (fun h => absurd (lg_same _) h)
set_option maxHeartbeats 4000000 in
theorem law_18 (Γ : kGm) {S : AS} {μ : kM} {q : kq4} (hc : CS S μ q) (hm : MS S μ) {i : Nat} (hi : i + 6 ≤ kLn Γ) (hL : kLn Γ ≤ 384) (kk : ∀ (S' : AS) (μ' : kM) (q' : kq4), CS S' μ' q' → MS S' μ' → hG Γ 1403 [some (.ref 0), some (.ref 1), some (.ref 49), some (.int (nI i))] [] μ' q') : hG Γ 781 [some (.ref 0), some (.ref 1), some (.ref 49), some (.int (nI i))] [] μ q := by
  refine kG.aload_n 782 dL_law_781 rfl rfl ?_
  refine kG.aload_n 783 dL_law_782 rfl rfl ?_
  refine kG.iload_n 784 dL_law_783 rfl rfl ?_
  refine kG.iconst (v := nI 1) 785 dL_law_784 (by decide) rfl ?_
  refine kG.iadd 786 dL_law_785 rfl ?_
  rw [nI_add]
  refine kG.sld (q := i + 1) 787 dL_law_786 rfl rfl (by omega) (by omega) rfl ?_
  refine kG.aload_n 788 dL_law_787 rfl rfl ?_
  refine kG.iload_n 789 dL_law_788 rfl rfl ?_
  refine kG.iconst (v := nI 2) 790 dL_law_789 (by decide) rfl ?_
  refine kG.iadd 791 dL_law_790 rfl ?_
  rw [nI_add]
  refine kG.sld (q := i + 2) 792 dL_law_791 rfl rfl (by omega) (by omega) rfl ?_
  refine kG.aload_n 793 dL_law_792 rfl rfl ?_
  refine kG.iload_n 794 dL_law_793 rfl rfl ?_
  refine kG.iconst (v := nI 3) 795 dL_law_794 (by decide) rfl ?_
  refine kG.iadd 796 dL_law_795 rfl ?_
  rw [nI_add]
  refine kG.sld (q := i + 3) 797 dL_law_796 rfl rfl (by omega) (by omega) rfl ?_
  refine hG.cX 800 dL_law_797 lL_92 vX4_together (x_together Γ hc (kxs Γ (i + 1)) (kxs Γ (i + 2)) (kxs Γ (i + 3))) rfl rfl rfl ⟨by decide, by decide⟩ (Nat.le_of_ble_eq_true rfl) rfl (fun μ1 q1 hc1 f1 => ?_)
  have hm1 := MS_up hm f1
  refine kG.aload_n 801 dL_law_800 rfl rfl ?_
  refine kG.aload_n 802 dL_law_801 rfl rfl ?_
  refine kG.iload_n 803 dL_law_802 rfl rfl ?_
  refine kG.iconst (v := nI 1) 804 dL_law_803 (by decide) rfl ?_
  refine kG.iadd 805 dL_law_804 rfl ?_
  rw [nI_add]
  refine kG.sld (q := i + 1) 806 dL_law_805 rfl rfl (by omega) (by omega) rfl ?_
  refine kG.aload_n 807 dL_law_806 rfl rfl ?_
  refine kG.iload_n 808 dL_law_807 rfl rfl ?_
  refine kG.iconst (v := nI 2) 809 dL_law_808 (by decide) rfl ?_
  refine kG.iadd 810 dL_law_809 rfl ?_
  rw [nI_add]
  refine kG.sld (q := i + 2) 811 dL_law_810 rfl rfl (by omega) (by omega) rfl ?_
  refine kG.aload_n 812 dL_law_811 rfl rfl ?_
  refine kG.iload_n 813 dL_law_812 rfl rfl ?_
  refine kG.iconst (v := nI 3) 814 dL_law_813 (by decide) rfl ?_
  refine kG.iadd 815 dL_law_814 rfl ?_
  rw [nI_add]
  refine kG.sld (q := i + 3) 816 dL_law_815 rfl rfl (by omega) (by omega) rfl ?_
  refine hG.cM 819 dL_law_816 lL_95 vX5_together (y_together Γ hc.1 hm1 (kxs Γ (i + 1)) (kxs Γ (i + 2)) (kxs Γ (i + 3))) rfl rfl rfl ⟨by decide, by decide⟩ (Nat.le_of_ble_eq_true rfl) rfl (fun μ2 hm2 f2 => ?_)
  exact kG.icmp_eq 1403 822 dL_law_819 (by decide) rfl (fun _ => kk _ _ _ (CS_dn hc1 f2) hm2) (fun h => absurd rfl h)
set_option maxHeartbeats 4000000 in
theorem law_19 (Γ : kGm) {S : AS} {μ : kM} {q : kq4} (hc : CS S μ q) (hm : MS S μ) {i : Nat} (hi : i + 6 ≤ kLn Γ) (hL : kLn Γ ≤ 384) (kk : ∀ (S' : AS) (μ' : kM) (q' : kq4), CS S' μ' q' → MS S' μ' → hG Γ 1403 [some (.ref 0), some (.ref 1), some (.ref 49), some (.int (nI i))] [] μ' q') : hG Γ 824 [some (.ref 0), some (.ref 1), some (.ref 49), some (.int (nI i))] [] μ q := by
  refine kG.aload_n 825 dL_law_824 rfl rfl ?_
  refine kG.aload_n 826 dL_law_825 rfl rfl ?_
  refine kG.iload_n 827 dL_law_826 rfl rfl ?_
  refine kG.iconst (v := nI 1) 828 dL_law_827 (by decide) rfl ?_
  refine kG.iadd 829 dL_law_828 rfl ?_
  rw [nI_add]
  refine kG.sld (q := i + 1) 830 dL_law_829 rfl rfl (by omega) (by omega) rfl ?_
  refine hG.cX 833 dL_law_830 lL_96 vX4_third (x_third Γ hc (kxs Γ (i + 1))) rfl rfl rfl ⟨by decide, by decide⟩ (Nat.le_of_ble_eq_true rfl) rfl (fun μ1 q1 hc1 f1 => ?_)
  have hm1 := MS_up hm f1
  refine kG.aload_n 834 dL_law_833 rfl rfl ?_
  refine kG.aload_n 835 dL_law_834 rfl rfl ?_
  refine kG.iload_n 836 dL_law_835 rfl rfl ?_
  refine kG.iconst (v := nI 1) 837 dL_law_836 (by decide) rfl ?_
  refine kG.iadd 838 dL_law_837 rfl ?_
  rw [nI_add]
  refine kG.sld (q := i + 1) 839 dL_law_838 rfl rfl (by omega) (by omega) rfl ?_
  refine hG.cM 842 dL_law_839 lL_99 vX5_third (y_third Γ hc.1 hm1 (kxs Γ (i + 1))) rfl rfl rfl ⟨by decide, by decide⟩ (Nat.le_of_ble_eq_true rfl) rfl (fun μ2 hm2 f2 => ?_)
  exact kG.icmp_eq 1403 845 dL_law_842 (by decide) rfl (fun _ => kk _ _ _ (CS_dn hc1 f2) hm2) (fun h => absurd rfl h)
set_option maxHeartbeats 4000000 in
theorem law_20 (Γ : kGm) {S : AS} {μ : kM} {q : kq4} (hc : CS S μ q) (hm : MS S μ) {i : Nat} (hi : i + 6 ≤ kLn Γ) (hL : kLn Γ ≤ 384) (kk : ∀ (S' : AS) (μ' : kM) (q' : kq4), CS S' μ' q' → MS S' μ' → hG Γ 1403 [some (.ref 0), some (.ref 1), some (.ref 49), some (.int (nI i))] [] μ' q') : hG Γ 847 [some (.ref 0), some (.ref 1), some (.ref 49), some (.int (nI i))] [] μ q := by
  refine kG.aload_n 848 dL_law_847 rfl rfl ?_
  refine kG.aload_n 849 dL_law_848 rfl rfl ?_
  refine kG.iload_n 850 dL_law_849 rfl rfl ?_
  refine kG.iconst (v := nI 1) 851 dL_law_850 (by decide) rfl ?_
  refine kG.iadd 852 dL_law_851 rfl ?_
  rw [nI_add]
  refine kG.sld (q := i + 1) 853 dL_law_852 rfl rfl (by omega) (by omega) rfl ?_
  refine kG.aload_n 854 dL_law_853 rfl rfl ?_
  refine kG.iload_n 855 dL_law_854 rfl rfl ?_
  refine kG.iconst (v := nI 2) 856 dL_law_855 (by decide) rfl ?_
  refine kG.iadd 857 dL_law_856 rfl ?_
  rw [nI_add]
  refine kG.sld (q := i + 2) 858 dL_law_857 rfl rfl (by omega) (by omega) rfl ?_
  refine kG.aload_n 859 dL_law_858 rfl rfl ?_
  refine kG.iload_n 860 dL_law_859 rfl rfl ?_
  refine kG.iconst (v := nI 3) 861 dL_law_860 (by decide) rfl ?_
  refine kG.iadd 862 dL_law_861 rfl ?_
  rw [nI_add]
  refine kG.sld (q := i + 3) 863 dL_law_862 rfl rfl (by omega) (by omega) rfl ?_
  refine kG.aload_n 864 dL_law_863 rfl rfl ?_
  refine kG.iload_n 865 dL_law_864 rfl rfl ?_
  refine kG.iconst (v := nI 4) 866 dL_law_865 (by decide) rfl ?_
  refine kG.iadd 867 dL_law_866 rfl ?_
  rw [nI_add]
  refine kG.sld (q := i + 4) 868 dL_law_867 rfl rfl (by omega) (by omega) rfl ?_
  refine hG.cX 871 dL_law_868 lL_100 vX4_row (x_row Γ hc (kxs Γ (i + 1)) (kxs Γ (i + 2)) (kxs Γ (i + 3)) (kxs Γ (i + 4))) rfl rfl rfl ⟨by decide, by decide⟩ (Nat.le_of_ble_eq_true rfl) rfl (fun μ1 q1 hc1 f1 => ?_)
  have hm1 := MS_up hm f1
  refine kG.aload_n 872 dL_law_871 rfl rfl ?_
  refine kG.aload_n 873 dL_law_872 rfl rfl ?_
  refine kG.iload_n 874 dL_law_873 rfl rfl ?_
  refine kG.iconst (v := nI 1) 875 dL_law_874 (by decide) rfl ?_
  refine kG.iadd 876 dL_law_875 rfl ?_
  rw [nI_add]
  refine kG.sld (q := i + 1) 877 dL_law_876 rfl rfl (by omega) (by omega) rfl ?_
  refine kG.aload_n 878 dL_law_877 rfl rfl ?_
  refine kG.iload_n 879 dL_law_878 rfl rfl ?_
  refine kG.iconst (v := nI 2) 880 dL_law_879 (by decide) rfl ?_
  refine kG.iadd 881 dL_law_880 rfl ?_
  rw [nI_add]
  refine kG.sld (q := i + 2) 882 dL_law_881 rfl rfl (by omega) (by omega) rfl ?_
  refine kG.aload_n 883 dL_law_882 rfl rfl ?_
  refine kG.iload_n 884 dL_law_883 rfl rfl ?_
  refine kG.iconst (v := nI 3) 885 dL_law_884 (by decide) rfl ?_
  refine kG.iadd 886 dL_law_885 rfl ?_
  rw [nI_add]
  refine kG.sld (q := i + 3) 887 dL_law_886 rfl rfl (by omega) (by omega) rfl ?_
  refine kG.aload_n 888 dL_law_887 rfl rfl ?_
  refine kG.iload_n 889 dL_law_888 rfl rfl ?_
  refine kG.iconst (v := nI 4) 890 dL_law_889 (by decide) rfl ?_
  refine kG.iadd 891 dL_law_890 rfl ?_
  rw [nI_add]
  refine kG.sld (q := i + 4) 892 dL_law_891 rfl rfl (by omega) (by omega) rfl ?_
  refine hG.cM 895 dL_law_892 lL_103 vX5_row (y_row Γ hc.1 hm1 (kxs Γ (i + 1)) (kxs Γ (i + 2)) (kxs Γ (i + 3)) (kxs Γ (i + 4))) rfl rfl rfl ⟨by decide, by decide⟩ (Nat.le_of_ble_eq_true rfl) rfl (fun μ2 hm2 f2 => ?_)
  exact kG.icmp_eq 1403 898 dL_law_895 (by decide) rfl (fun _ => kk _ _ _ (CS_dn hc1 f2) hm2) (fun h => absurd rfl h)
set_option maxHeartbeats 4000000 in
theorem law_21 (Γ : kGm) {S : AS} {μ : kM} {q : kq4} (hc : CS S μ q) (hm : MS S μ) {i : Nat} (hi : i + 6 ≤ kLn Γ) (hL : kLn Γ ≤ 384) (kk : ∀ (S' : AS) (μ' : kM) (q' : kq4), CS S' μ' q' → MS S' μ' → hG Γ 1403 [some (.ref 0), some (.ref 1), some (.ref 49), some (.int (nI i))] [] μ' q') : hG Γ 900 [some (.ref 0), some (.ref 1), some (.ref 49), some (.int (nI i))] [] μ q := by
  refine kG.aload_n 901 dL_law_900 rfl rfl ?_
  refine kG.aload_n 902 dL_law_901 rfl rfl ?_
  refine kG.iload_n 903 dL_law_902 rfl rfl ?_
  refine kG.iconst (v := nI 1) 904 dL_law_903 (by decide) rfl ?_
  refine kG.iadd 905 dL_law_904 rfl ?_
  rw [nI_add]
  refine kG.sld (q := i + 1) 906 dL_law_905 rfl rfl (by omega) (by omega) rfl ?_
  refine kG.aload_n 907 dL_law_906 rfl rfl ?_
  refine kG.iload_n 908 dL_law_907 rfl rfl ?_
  refine kG.iconst (v := nI 2) 909 dL_law_908 (by decide) rfl ?_
  refine kG.iadd 910 dL_law_909 rfl ?_
  rw [nI_add]
  refine kG.sld (q := i + 2) 911 dL_law_910 rfl rfl (by omega) (by omega) rfl ?_
  refine kG.aload_n 912 dL_law_911 rfl rfl ?_
  refine kG.iload_n 913 dL_law_912 rfl rfl ?_
  refine kG.iconst (v := nI 3) 914 dL_law_913 (by decide) rfl ?_
  refine kG.iadd 915 dL_law_914 rfl ?_
  rw [nI_add]
  refine kG.sld (q := i + 3) 916 dL_law_915 rfl rfl (by omega) (by omega) rfl ?_
  refine kG.aload_n 917 dL_law_916 rfl rfl ?_
  refine kG.iload_n 918 dL_law_917 rfl rfl ?_
  refine kG.iconst (v := nI 4) 919 dL_law_918 (by decide) rfl ?_
  refine kG.iadd 920 dL_law_919 rfl ?_
  rw [nI_add]
  refine kG.sld (q := i + 4) 921 dL_law_920 rfl rfl (by omega) (by omega) rfl ?_
  refine hG.cX 924 dL_law_921 lL_104 vX4_reading (x_reading Γ hc (kxs Γ (i + 1)) (kxs Γ (i + 2)) (kxs Γ (i + 3)) (kxs Γ (i + 4))) rfl rfl rfl ⟨by decide, by decide⟩ (Nat.le_of_ble_eq_true rfl) rfl (fun μ1 q1 hc1 f1 => ?_)
  have hm1 := MS_up hm f1
  refine kG.aload_n 925 dL_law_924 rfl rfl ?_
  refine kG.aload_n 926 dL_law_925 rfl rfl ?_
  refine kG.iload_n 927 dL_law_926 rfl rfl ?_
  refine kG.iconst (v := nI 1) 928 dL_law_927 (by decide) rfl ?_
  refine kG.iadd 929 dL_law_928 rfl ?_
  rw [nI_add]
  refine kG.sld (q := i + 1) 930 dL_law_929 rfl rfl (by omega) (by omega) rfl ?_
  refine kG.aload_n 931 dL_law_930 rfl rfl ?_
  refine kG.iload_n 932 dL_law_931 rfl rfl ?_
  refine kG.iconst (v := nI 2) 933 dL_law_932 (by decide) rfl ?_
  refine kG.iadd 934 dL_law_933 rfl ?_
  rw [nI_add]
  refine kG.sld (q := i + 2) 935 dL_law_934 rfl rfl (by omega) (by omega) rfl ?_
  refine kG.aload_n 936 dL_law_935 rfl rfl ?_
  refine kG.iload_n 937 dL_law_936 rfl rfl ?_
  refine kG.iconst (v := nI 3) 938 dL_law_937 (by decide) rfl ?_
  refine kG.iadd 939 dL_law_938 rfl ?_
  rw [nI_add]
  refine kG.sld (q := i + 3) 940 dL_law_939 rfl rfl (by omega) (by omega) rfl ?_
  refine kG.aload_n 941 dL_law_940 rfl rfl ?_
  refine kG.iload_n 942 dL_law_941 rfl rfl ?_
  refine kG.iconst (v := nI 4) 943 dL_law_942 (by decide) rfl ?_
  refine kG.iadd 944 dL_law_943 rfl ?_
  rw [nI_add]
  refine kG.sld (q := i + 4) 945 dL_law_944 rfl rfl (by omega) (by omega) rfl ?_
  refine hG.cM 948 dL_law_945 lL_107 vX5_reading (y_reading Γ hc.1 hm1 (kxs Γ (i + 1)) (kxs Γ (i + 2)) (kxs Γ (i + 3)) (kxs Γ (i + 4))) rfl rfl rfl ⟨by decide, by decide⟩ (Nat.le_of_ble_eq_true rfl) rfl (fun μ2 hm2 f2 => ?_)
  exact kG.icmp_eq 1403 951 dL_law_948 (by decide) rfl (fun _ => kk _ _ _ (CS_dn hc1 f2) hm2) (fun h => absurd rfl h)
set_option maxHeartbeats 4000000 in
theorem law_22 (Γ : kGm) {S : AS} {μ : kM} {q : kq4} (hc : CS S μ q) (hm : MS S μ) {i : Nat} (hi : i + 6 ≤ kLn Γ) (hL : kLn Γ ≤ 384) (kk : ∀ (S' : AS) (μ' : kM) (q' : kq4), CS S' μ' q' → MS S' μ' → hG Γ 1403 [some (.ref 0), some (.ref 1), some (.ref 49), some (.int (nI i))] [] μ' q') : hG Γ 953 [some (.ref 0), some (.ref 1), some (.ref 49), some (.int (nI i))] [] μ q := by
  refine kG.aload_n 954 dL_law_953 rfl rfl ?_
  refine kG.aload_n 955 dL_law_954 rfl rfl ?_
  refine kG.iload_n 956 dL_law_955 rfl rfl ?_
  refine kG.iconst (v := nI 1) 957 dL_law_956 (by decide) rfl ?_
  refine kG.iadd 958 dL_law_957 rfl ?_
  rw [nI_add]
  refine kG.sld (q := i + 1) 959 dL_law_958 rfl rfl (by omega) (by omega) rfl ?_
  refine hG.cX 962 dL_law_959 lL_108 vX4_back (x_back Γ hc (kxs Γ (i + 1))) rfl rfl rfl ⟨by decide, by decide⟩ (Nat.le_of_ble_eq_true rfl) rfl (fun μ1 q1 hc1 f1 => ?_)
  have hm1 := MS_up hm f1
  refine kG.aload_n 963 dL_law_962 rfl rfl ?_
  refine kG.aload_n 964 dL_law_963 rfl rfl ?_
  refine kG.iload_n 965 dL_law_964 rfl rfl ?_
  refine kG.iconst (v := nI 1) 966 dL_law_965 (by decide) rfl ?_
  refine kG.iadd 967 dL_law_966 rfl ?_
  rw [nI_add]
  refine kG.sld (q := i + 1) 968 dL_law_967 rfl rfl (by omega) (by omega) rfl ?_
  refine hG.cM 971 dL_law_968 lL_111 vX5_back (y_back Γ hc.1 hm1 (kxs Γ (i + 1))) rfl rfl rfl ⟨by decide, by decide⟩ (Nat.le_of_ble_eq_true rfl) rfl (fun μ2 hm2 f2 => ?_)
  exact kG.icmp_eq 1403 974 dL_law_971 (by decide) rfl (fun _ => kk _ _ _ (CS_dn hc1 f2) hm2) (fun h => absurd rfl h)
set_option maxHeartbeats 4000000 in
theorem law_23 (Γ : kGm) {S : AS} {μ : kM} {q : kq4} (hc : CS S μ q) (hm : MS S μ) {i : Nat} (hi : i + 6 ≤ kLn Γ) (hL : kLn Γ ≤ 384) (kk : ∀ (S' : AS) (μ' : kM) (q' : kq4), CS S' μ' q' → MS S' μ' → hG Γ 1403 [some (.ref 0), some (.ref 1), some (.ref 49), some (.int (nI i))] [] μ' q') : hG Γ 976 [some (.ref 0), some (.ref 1), some (.ref 49), some (.int (nI i))] [] μ q := by
  refine kG.aload_n 977 dL_law_976 rfl rfl ?_
  refine hG.cX 980 dL_law_977 lL_112 vX4_gone (x_gone Γ hc ) rfl rfl rfl ⟨by decide, by decide⟩ (Nat.le_of_ble_eq_true rfl) rfl (fun μ1 q1 hc1 f1 => ?_)
  have hm1 := MS_up hm f1
  refine kG.aload_n 981 dL_law_980 rfl rfl ?_
  refine hG.cM 984 dL_law_981 lL_115 vX5_gone (y_gone Γ hc.1 hm1 ) rfl rfl rfl ⟨by decide, by decide⟩ (Nat.le_of_ble_eq_true rfl) rfl (fun μ2 hm2 f2 => ?_)
  exact kG.icmp_eq 1403 987 dL_law_984 (by decide) rfl (fun _ => kk _ _ _ (CS_dn hc1 f2) hm2) (fun h => absurd rfl h)
set_option maxHeartbeats 4000000 in
theorem law_24 (Γ : kGm) {S : AS} {μ : kM} {q : kq4} (hc : CS S μ q) (hm : MS S μ) {i : Nat} (hi : i + 6 ≤ kLn Γ) (hL : kLn Γ ≤ 384) (kk : ∀ (S' : AS) (μ' : kM) (q' : kq4), CS S' μ' q' → MS S' μ' → hG Γ 1403 [some (.ref 0), some (.ref 1), some (.ref 49), some (.int (nI i))] [] μ' q') : hG Γ 989 [some (.ref 0), some (.ref 1), some (.ref 49), some (.int (nI i))] [] μ q := by
  refine kG.aload_n 990 dL_law_989 rfl rfl ?_
  refine hG.cX 993 dL_law_990 lL_116 vX4_seams (x_seams Γ hc ) rfl rfl rfl ⟨by decide, by decide⟩ (Nat.le_of_ble_eq_true rfl) rfl (fun μ1 q1 hc1 f1 => ?_)
  have hm1 := MS_up hm f1
  refine kG.aload_n 994 dL_law_993 rfl rfl ?_
  refine hG.cM 997 dL_law_994 lL_119 vX5_seams (y_seams Γ hc.1 hm1 ) rfl rfl rfl ⟨by decide, by decide⟩ (Nat.le_of_ble_eq_true rfl) rfl (fun μ2 hm2 f2 => ?_)
  exact kG.icmp_eq 1403 1000 dL_law_997 (by decide) rfl (fun _ => kk _ _ _ (CS_dn hc1 f2) hm2) (fun h => absurd rfl h)
set_option maxHeartbeats 4000000 in
theorem law_25 (Γ : kGm) {S : AS} {μ : kM} {q : kq4} (hc : CS S μ q) (hm : MS S μ) {i : Nat} (hi : i + 6 ≤ kLn Γ) (hL : kLn Γ ≤ 384) (kk : ∀ (S' : AS) (μ' : kM) (q' : kq4), CS S' μ' q' → MS S' μ' → hG Γ 1403 [some (.ref 0), some (.ref 1), some (.ref 49), some (.int (nI i))] [] μ' q') : hG Γ 1002 [some (.ref 0), some (.ref 1), some (.ref 49), some (.int (nI i))] [] μ q := by
  refine kG.aload_n 1003 dL_law_1002 rfl rfl ?_
  refine kG.aload_n 1004 dL_law_1003 rfl rfl ?_
  refine kG.iload_n 1005 dL_law_1004 rfl rfl ?_
  refine kG.iconst (v := nI 1) 1006 dL_law_1005 (by decide) rfl ?_
  refine kG.iadd 1007 dL_law_1006 rfl ?_
  rw [nI_add]
  refine kG.sld (q := i + 1) 1008 dL_law_1007 rfl rfl (by omega) (by omega) rfl ?_
  refine hG.cX 1011 dL_law_1008 lL_120 vX4_kinds (x_kinds Γ hc (kxs Γ (i + 1))) rfl rfl rfl ⟨by decide, by decide⟩ (Nat.le_of_ble_eq_true rfl) rfl (fun μ1 q1 hc1 f1 => ?_)
  have hm1 := MS_up hm f1
  refine kG.aload_n 1012 dL_law_1011 rfl rfl ?_
  refine kG.aload_n 1013 dL_law_1012 rfl rfl ?_
  refine kG.iload_n 1014 dL_law_1013 rfl rfl ?_
  refine kG.iconst (v := nI 1) 1015 dL_law_1014 (by decide) rfl ?_
  refine kG.iadd 1016 dL_law_1015 rfl ?_
  rw [nI_add]
  refine kG.sld (q := i + 1) 1017 dL_law_1016 rfl rfl (by omega) (by omega) rfl ?_
  refine hG.cM 1020 dL_law_1017 lL_123 vX5_kinds (y_kinds Γ hc.1 hm1 (kxs Γ (i + 1))) rfl rfl rfl ⟨by decide, by decide⟩ (Nat.le_of_ble_eq_true rfl) rfl (fun μ2 hm2 f2 => ?_)
  exact kG.icmp_eq 1403 1023 dL_law_1020 (by decide) rfl (fun _ => kk _ _ _ (CS_dn hc1 f2) hm2) (fun h => absurd rfl h)
set_option maxHeartbeats 4000000 in
theorem law_26 (Γ : kGm) {S : AS} {μ : kM} {q : kq4} (hc : CS S μ q) (hm : MS S μ) {i : Nat} (hi : i + 6 ≤ kLn Γ) (hL : kLn Γ ≤ 384) (kk : ∀ (S' : AS) (μ' : kM) (q' : kq4), CS S' μ' q' → MS S' μ' → hG Γ 1403 [some (.ref 0), some (.ref 1), some (.ref 49), some (.int (nI i))] [] μ' q') : hG Γ 1025 [some (.ref 0), some (.ref 1), some (.ref 49), some (.int (nI i))] [] μ q := by
  refine kG.aload_n 1026 dL_law_1025 rfl rfl ?_
  refine kG.aload_n 1027 dL_law_1026 rfl rfl ?_
  refine kG.iload_n 1028 dL_law_1027 rfl rfl ?_
  refine kG.iconst (v := nI 1) 1029 dL_law_1028 (by decide) rfl ?_
  refine kG.iadd 1030 dL_law_1029 rfl ?_
  rw [nI_add]
  refine kG.sld (q := i + 1) 1031 dL_law_1030 rfl rfl (by omega) (by omega) rfl ?_
  refine kG.aload_n 1032 dL_law_1031 rfl rfl ?_
  refine kG.iload_n 1033 dL_law_1032 rfl rfl ?_
  refine kG.iconst (v := nI 2) 1034 dL_law_1033 (by decide) rfl ?_
  refine kG.iadd 1035 dL_law_1034 rfl ?_
  rw [nI_add]
  refine kG.sld (q := i + 2) 1036 dL_law_1035 rfl rfl (by omega) (by omega) rfl ?_
  refine hG.cXl 1039 dL_law_1036 lL_124 vX4_odds (x_odds Γ hc (kxs Γ (i + 1)) (kxs Γ (i + 2))) rfl rfl rfl ⟨by decide, by decide⟩ (Nat.le_of_ble_eq_true rfl) rfl (fun μ1 q1 hc1 f1 => ?_)
  have hm1 := MS_up hm f1
  refine kG.aload_n 1040 dL_law_1039 rfl rfl ?_
  refine kG.aload_n 1041 dL_law_1040 rfl rfl ?_
  refine kG.iload_n 1042 dL_law_1041 rfl rfl ?_
  refine kG.iconst (v := nI 1) 1043 dL_law_1042 (by decide) rfl ?_
  refine kG.iadd 1044 dL_law_1043 rfl ?_
  rw [nI_add]
  refine kG.sld (q := i + 1) 1045 dL_law_1044 rfl rfl (by omega) (by omega) rfl ?_
  refine kG.aload_n 1046 dL_law_1045 rfl rfl ?_
  refine kG.iload_n 1047 dL_law_1046 rfl rfl ?_
  refine kG.iconst (v := nI 2) 1048 dL_law_1047 (by decide) rfl ?_
  refine kG.iadd 1049 dL_law_1048 rfl ?_
  rw [nI_add]
  refine kG.sld (q := i + 2) 1050 dL_law_1049 rfl rfl (by omega) (by omega) rfl ?_
  refine hG.cMl 1053 dL_law_1050 lL_128 vX5_odds (y_odds Γ hc.1 hm1 (kxs Γ (i + 1)) (kxs Γ (i + 2))) rfl rfl rfl ⟨by decide, by decide⟩ (Nat.le_of_ble_eq_true rfl) rfl (fun μ2 hm2 f2 => ?_)
  refine kG.lcmp 1054 dL_law_1053 rfl ?_
  exact kG.if_eq 1403 1057 dL_law_1054 (by decide) rfl (fun _ => kk _ _ _ (CS_dn hc1 f2) hm2) (fun h => absurd (lg_same _) h)
set_option maxHeartbeats 4000000 in
theorem law_27 (Γ : kGm) {S : AS} {μ : kM} {q : kq4} (hc : CS S μ q) (hm : MS S μ) {i : Nat} (hi : i + 6 ≤ kLn Γ) (hL : kLn Γ ≤ 384) (kk : ∀ (S' : AS) (μ' : kM) (q' : kq4), CS S' μ' q' → MS S' μ' → hG Γ 1403 [some (.ref 0), some (.ref 1), some (.ref 49), some (.int (nI i))] [] μ' q') : hG Γ 1059 [some (.ref 0), some (.ref 1), some (.ref 49), some (.int (nI i))] [] μ q := by
  refine kG.aload_n 1060 dL_law_1059 rfl rfl ?_
  refine kG.aload_n 1061 dL_law_1060 rfl rfl ?_
  refine kG.iload_n 1062 dL_law_1061 rfl rfl ?_
  refine kG.iconst (v := nI 1) 1063 dL_law_1062 (by decide) rfl ?_
  refine kG.iadd 1064 dL_law_1063 rfl ?_
  rw [nI_add]
  refine kG.sld (q := i + 1) 1065 dL_law_1064 rfl rfl (by omega) (by omega) rfl ?_
  refine kG.aload_n 1066 dL_law_1065 rfl rfl ?_
  refine kG.iload_n 1067 dL_law_1066 rfl rfl ?_
  refine kG.iconst (v := nI 2) 1068 dL_law_1067 (by decide) rfl ?_
  refine kG.iadd 1069 dL_law_1068 rfl ?_
  rw [nI_add]
  refine kG.sld (q := i + 2) 1070 dL_law_1069 rfl rfl (by omega) (by omega) rfl ?_
  refine kG.aload_n 1071 dL_law_1070 rfl rfl ?_
  refine kG.iload_n 1072 dL_law_1071 rfl rfl ?_
  refine kG.iconst (v := nI 3) 1073 dL_law_1072 (by decide) rfl ?_
  refine kG.iadd 1074 dL_law_1073 rfl ?_
  rw [nI_add]
  refine kG.sld (q := i + 3) 1075 dL_law_1074 rfl rfl (by omega) (by omega) rfl ?_
  refine hG.cX 1078 dL_law_1075 lL_129 vX4_sheet (x_sheet Γ hc (kxs Γ (i + 1)) (kxs Γ (i + 2)) (kxs Γ (i + 3))) rfl rfl rfl ⟨by decide, by decide⟩ (Nat.le_of_ble_eq_true rfl) rfl (fun μ1 q1 hc1 f1 => ?_)
  have hm1 := MS_up hm f1
  refine kG.aload_n 1079 dL_law_1078 rfl rfl ?_
  refine kG.aload_n 1080 dL_law_1079 rfl rfl ?_
  refine kG.iload_n 1081 dL_law_1080 rfl rfl ?_
  refine kG.iconst (v := nI 1) 1082 dL_law_1081 (by decide) rfl ?_
  refine kG.iadd 1083 dL_law_1082 rfl ?_
  rw [nI_add]
  refine kG.sld (q := i + 1) 1084 dL_law_1083 rfl rfl (by omega) (by omega) rfl ?_
  refine kG.aload_n 1085 dL_law_1084 rfl rfl ?_
  refine kG.iload_n 1086 dL_law_1085 rfl rfl ?_
  refine kG.iconst (v := nI 2) 1087 dL_law_1086 (by decide) rfl ?_
  refine kG.iadd 1088 dL_law_1087 rfl ?_
  rw [nI_add]
  refine kG.sld (q := i + 2) 1089 dL_law_1088 rfl rfl (by omega) (by omega) rfl ?_
  refine kG.aload_n 1090 dL_law_1089 rfl rfl ?_
  refine kG.iload_n 1091 dL_law_1090 rfl rfl ?_
  refine kG.iconst (v := nI 3) 1092 dL_law_1091 (by decide) rfl ?_
  refine kG.iadd 1093 dL_law_1092 rfl ?_
  rw [nI_add]
  refine kG.sld (q := i + 3) 1094 dL_law_1093 rfl rfl (by omega) (by omega) rfl ?_
  refine hG.cM 1097 dL_law_1094 lL_132 vX5_sheet (y_sheet Γ hc.1 hm1 (kxs Γ (i + 1)) (kxs Γ (i + 2)) (kxs Γ (i + 3))) rfl rfl rfl ⟨by decide, by decide⟩ (Nat.le_of_ble_eq_true rfl) rfl (fun μ2 hm2 f2 => ?_)
  exact kG.icmp_eq 1403 1100 dL_law_1097 (by decide) rfl (fun _ => kk _ _ _ (CS_dn hc1 f2) hm2) (fun h => absurd rfl h)
set_option maxHeartbeats 4000000 in
theorem law_28 (Γ : kGm) {S : AS} {μ : kM} {q : kq4} (hc : CS S μ q) (hm : MS S μ) {i : Nat} (hi : i + 6 ≤ kLn Γ) (hL : kLn Γ ≤ 384) (kk : ∀ (S' : AS) (μ' : kM) (q' : kq4), CS S' μ' q' → MS S' μ' → hG Γ 1403 [some (.ref 0), some (.ref 1), some (.ref 49), some (.int (nI i))] [] μ' q') : hG Γ 1102 [some (.ref 0), some (.ref 1), some (.ref 49), some (.int (nI i))] [] μ q := by
  refine kG.aload_n 1103 dL_law_1102 rfl rfl ?_
  refine kG.aload_n 1104 dL_law_1103 rfl rfl ?_
  refine kG.iload_n 1105 dL_law_1104 rfl rfl ?_
  refine kG.iconst (v := nI 1) 1106 dL_law_1105 (by decide) rfl ?_
  refine kG.iadd 1107 dL_law_1106 rfl ?_
  rw [nI_add]
  refine kG.sld (q := i + 1) 1108 dL_law_1107 rfl rfl (by omega) (by omega) rfl ?_
  refine hG.cX 1111 dL_law_1108 lL_133 vX4_lose (x_lose Γ hc (kxs Γ (i + 1))) rfl rfl rfl ⟨by decide, by decide⟩ (Nat.le_of_ble_eq_true rfl) rfl (fun μ1 q1 hc1 f1 => ?_)
  have hm1 := MS_up hm f1
  refine kG.aload_n 1112 dL_law_1111 rfl rfl ?_
  refine kG.aload_n 1113 dL_law_1112 rfl rfl ?_
  refine kG.iload_n 1114 dL_law_1113 rfl rfl ?_
  refine kG.iconst (v := nI 1) 1115 dL_law_1114 (by decide) rfl ?_
  refine kG.iadd 1116 dL_law_1115 rfl ?_
  rw [nI_add]
  refine kG.sld (q := i + 1) 1117 dL_law_1116 rfl rfl (by omega) (by omega) rfl ?_
  refine hG.cM 1120 dL_law_1117 lL_136 vX5_lose (y_lose Γ hc.1 hm1 (kxs Γ (i + 1))) rfl rfl rfl ⟨by decide, by decide⟩ (Nat.le_of_ble_eq_true rfl) rfl (fun μ2 hm2 f2 => ?_)
  exact kG.icmp_eq 1403 1123 dL_law_1120 (by decide) rfl (fun _ => kk _ _ _ (CS_dn hc1 f2) hm2) (fun h => absurd rfl h)
set_option maxHeartbeats 4000000 in
theorem law_29 (Γ : kGm) {S : AS} {μ : kM} {q : kq4} (hc : CS S μ q) (hm : MS S μ) {i : Nat} (hi : i + 6 ≤ kLn Γ) (hL : kLn Γ ≤ 384) (kk : ∀ (S' : AS) (μ' : kM) (q' : kq4), CS S' μ' q' → MS S' μ' → hG Γ 1403 [some (.ref 0), some (.ref 1), some (.ref 49), some (.int (nI i))] [] μ' q') : hG Γ 1125 [some (.ref 0), some (.ref 1), some (.ref 49), some (.int (nI i))] [] μ q := by
  refine kG.aload_n 1126 dL_law_1125 rfl rfl ?_
  refine kG.aload_n 1127 dL_law_1126 rfl rfl ?_
  refine kG.iload_n 1128 dL_law_1127 rfl rfl ?_
  refine kG.iconst (v := nI 1) 1129 dL_law_1128 (by decide) rfl ?_
  refine kG.iadd 1130 dL_law_1129 rfl ?_
  rw [nI_add]
  refine kG.sld (q := i + 1) 1131 dL_law_1130 rfl rfl (by omega) (by omega) rfl ?_
  refine kG.aload_n 1132 dL_law_1131 rfl rfl ?_
  refine kG.iload_n 1133 dL_law_1132 rfl rfl ?_
  refine kG.iconst (v := nI 2) 1134 dL_law_1133 (by decide) rfl ?_
  refine kG.iadd 1135 dL_law_1134 rfl ?_
  rw [nI_add]
  refine kG.sld (q := i + 2) 1136 dL_law_1135 rfl rfl (by omega) (by omega) rfl ?_
  refine kG.aload_n 1137 dL_law_1136 rfl rfl ?_
  refine kG.iload_n 1138 dL_law_1137 rfl rfl ?_
  refine kG.iconst (v := nI 3) 1139 dL_law_1138 (by decide) rfl ?_
  refine kG.iadd 1140 dL_law_1139 rfl ?_
  rw [nI_add]
  refine kG.sld (q := i + 3) 1141 dL_law_1140 rfl rfl (by omega) (by omega) rfl ?_
  refine hG.cX 1144 dL_law_1141 lL_137 vX4_put (x_put Γ hc (kxs Γ (i + 1)) (kxs Γ (i + 2)) (kxs Γ (i + 3))) rfl rfl rfl ⟨by decide, by decide⟩ (Nat.le_of_ble_eq_true rfl) rfl (fun μ1 q1 hc1 f1 => ?_)
  have hm1 := MS_up hm f1
  refine kG.aload_n 1145 dL_law_1144 rfl rfl ?_
  refine kG.aload_n 1146 dL_law_1145 rfl rfl ?_
  refine kG.iload_n 1147 dL_law_1146 rfl rfl ?_
  refine kG.iconst (v := nI 1) 1148 dL_law_1147 (by decide) rfl ?_
  refine kG.iadd 1149 dL_law_1148 rfl ?_
  rw [nI_add]
  refine kG.sld (q := i + 1) 1150 dL_law_1149 rfl rfl (by omega) (by omega) rfl ?_
  refine kG.aload_n 1151 dL_law_1150 rfl rfl ?_
  refine kG.iload_n 1152 dL_law_1151 rfl rfl ?_
  refine kG.iconst (v := nI 2) 1153 dL_law_1152 (by decide) rfl ?_
  refine kG.iadd 1154 dL_law_1153 rfl ?_
  rw [nI_add]
  refine kG.sld (q := i + 2) 1155 dL_law_1154 rfl rfl (by omega) (by omega) rfl ?_
  refine kG.aload_n 1156 dL_law_1155 rfl rfl ?_
  refine kG.iload_n 1157 dL_law_1156 rfl rfl ?_
  refine kG.iconst (v := nI 3) 1158 dL_law_1157 (by decide) rfl ?_
  refine kG.iadd 1159 dL_law_1158 rfl ?_
  rw [nI_add]
  refine kG.sld (q := i + 3) 1160 dL_law_1159 rfl rfl (by omega) (by omega) rfl ?_
  refine hG.cM 1163 dL_law_1160 lL_140 vX5_put (y_put Γ hc.1 hm1 (kxs Γ (i + 1)) (kxs Γ (i + 2)) (kxs Γ (i + 3))) rfl rfl rfl ⟨by decide, by decide⟩ (Nat.le_of_ble_eq_true rfl) rfl (fun μ2 hm2 f2 => ?_)
  exact kG.icmp_eq 1403 1166 dL_law_1163 (by decide) rfl (fun _ => kk _ _ _ (CS_dn hc1 f2) hm2) (fun h => absurd rfl h)
set_option maxHeartbeats 4000000 in
theorem law_30 (Γ : kGm) {S : AS} {μ : kM} {q : kq4} (hc : CS S μ q) (hm : MS S μ) {i : Nat} (hi : i + 6 ≤ kLn Γ) (hL : kLn Γ ≤ 384) (kk : ∀ (S' : AS) (μ' : kM) (q' : kq4), CS S' μ' q' → MS S' μ' → hG Γ 1403 [some (.ref 0), some (.ref 1), some (.ref 49), some (.int (nI i))] [] μ' q') : hG Γ 1168 [some (.ref 0), some (.ref 1), some (.ref 49), some (.int (nI i))] [] μ q := by
  refine kG.aload_n 1169 dL_law_1168 rfl rfl ?_
  refine kG.aload_n 1170 dL_law_1169 rfl rfl ?_
  refine kG.iload_n 1171 dL_law_1170 rfl rfl ?_
  refine kG.iconst (v := nI 1) 1172 dL_law_1171 (by decide) rfl ?_
  refine kG.iadd 1173 dL_law_1172 rfl ?_
  rw [nI_add]
  refine kG.sld (q := i + 1) 1174 dL_law_1173 rfl rfl (by omega) (by omega) rfl ?_
  refine kG.aload_n 1175 dL_law_1174 rfl rfl ?_
  refine kG.iload_n 1176 dL_law_1175 rfl rfl ?_
  refine kG.iconst (v := nI 2) 1177 dL_law_1176 (by decide) rfl ?_
  refine kG.iadd 1178 dL_law_1177 rfl ?_
  rw [nI_add]
  refine kG.sld (q := i + 2) 1179 dL_law_1178 rfl rfl (by omega) (by omega) rfl ?_
  refine kG.aload_n 1180 dL_law_1179 rfl rfl ?_
  refine kG.iload_n 1181 dL_law_1180 rfl rfl ?_
  refine kG.iconst (v := nI 3) 1182 dL_law_1181 (by decide) rfl ?_
  refine kG.iadd 1183 dL_law_1182 rfl ?_
  rw [nI_add]
  refine kG.sld (q := i + 3) 1184 dL_law_1183 rfl rfl (by omega) (by omega) rfl ?_
  refine hG.cXl 1187 dL_law_1184 lL_141 vX4_cell (x_cell Γ hc (kxs Γ (i + 1)) (kxs Γ (i + 2)) (kxs Γ (i + 3))) rfl rfl rfl ⟨by decide, by decide⟩ (Nat.le_of_ble_eq_true rfl) rfl (fun μ1 q1 hc1 f1 => ?_)
  have hm1 := MS_up hm f1
  refine kG.aload_n 1188 dL_law_1187 rfl rfl ?_
  refine kG.aload_n 1189 dL_law_1188 rfl rfl ?_
  refine kG.iload_n 1190 dL_law_1189 rfl rfl ?_
  refine kG.iconst (v := nI 1) 1191 dL_law_1190 (by decide) rfl ?_
  refine kG.iadd 1192 dL_law_1191 rfl ?_
  rw [nI_add]
  refine kG.sld (q := i + 1) 1193 dL_law_1192 rfl rfl (by omega) (by omega) rfl ?_
  refine kG.aload_n 1194 dL_law_1193 rfl rfl ?_
  refine kG.iload_n 1195 dL_law_1194 rfl rfl ?_
  refine kG.iconst (v := nI 2) 1196 dL_law_1195 (by decide) rfl ?_
  refine kG.iadd 1197 dL_law_1196 rfl ?_
  rw [nI_add]
  refine kG.sld (q := i + 2) 1198 dL_law_1197 rfl rfl (by omega) (by omega) rfl ?_
  refine kG.aload_n 1199 dL_law_1198 rfl rfl ?_
  refine kG.iload_n 1200 dL_law_1199 rfl rfl ?_
  refine kG.iconst (v := nI 3) 1201 dL_law_1200 (by decide) rfl ?_
  refine kG.iadd 1202 dL_law_1201 rfl ?_
  rw [nI_add]
  refine kG.sld (q := i + 3) 1203 dL_law_1202 rfl rfl (by omega) (by omega) rfl ?_
  refine hG.cMl 1206 dL_law_1203 lL_144 vX5_cell (y_cell Γ hc.1 hm1 (kxs Γ (i + 1)) (kxs Γ (i + 2)) (kxs Γ (i + 3))) rfl rfl rfl ⟨by decide, by decide⟩ (Nat.le_of_ble_eq_true rfl) rfl (fun μ2 hm2 f2 => ?_)
  refine kG.lcmp 1207 dL_law_1206 rfl ?_
  exact kG.if_eq 1403 1210 dL_law_1207 (by decide) rfl (fun _ => kk _ _ _ (CS_dn hc1 f2) hm2) (fun h => absurd (lg_same _) h)
set_option maxHeartbeats 4000000 in
theorem law_31 (Γ : kGm) {S : AS} {μ : kM} {q : kq4} (hc : CS S μ q) (hm : MS S μ) {i : Nat} (hi : i + 6 ≤ kLn Γ) (hL : kLn Γ ≤ 384) (kk : ∀ (S' : AS) (μ' : kM) (q' : kq4), CS S' μ' q' → MS S' μ' → hG Γ 1403 [some (.ref 0), some (.ref 1), some (.ref 49), some (.int (nI i))] [] μ' q') : hG Γ 1212 [some (.ref 0), some (.ref 1), some (.ref 49), some (.int (nI i))] [] μ q := by
  refine kG.aload_n 1213 dL_law_1212 rfl rfl ?_
  refine kG.aload_n 1214 dL_law_1213 rfl rfl ?_
  refine kG.iload_n 1215 dL_law_1214 rfl rfl ?_
  refine kG.iconst (v := nI 1) 1216 dL_law_1215 (by decide) rfl ?_
  refine kG.iadd 1217 dL_law_1216 rfl ?_
  rw [nI_add]
  refine kG.sld (q := i + 1) 1218 dL_law_1217 rfl rfl (by omega) (by omega) rfl ?_
  refine kG.aload_n 1219 dL_law_1218 rfl rfl ?_
  refine kG.iload_n 1220 dL_law_1219 rfl rfl ?_
  refine kG.iconst (v := nI 2) 1221 dL_law_1220 (by decide) rfl ?_
  refine kG.iadd 1222 dL_law_1221 rfl ?_
  rw [nI_add]
  refine kG.sld (q := i + 2) 1223 dL_law_1222 rfl rfl (by omega) (by omega) rfl ?_
  refine kG.aload_n 1224 dL_law_1223 rfl rfl ?_
  refine kG.iload_n 1225 dL_law_1224 rfl rfl ?_
  refine kG.iconst (v := nI 3) 1226 dL_law_1225 (by decide) rfl ?_
  refine kG.iadd 1227 dL_law_1226 rfl ?_
  rw [nI_add]
  refine kG.sld (q := i + 3) 1228 dL_law_1227 rfl rfl (by omega) (by omega) rfl ?_
  refine kG.aload_n 1229 dL_law_1228 rfl rfl ?_
  refine kG.iload_n 1230 dL_law_1229 rfl rfl ?_
  refine kG.iconst (v := nI 4) 1231 dL_law_1230 (by decide) rfl ?_
  refine kG.iadd 1232 dL_law_1231 rfl ?_
  rw [nI_add]
  refine kG.sld (q := i + 4) 1233 dL_law_1232 rfl rfl (by omega) (by omega) rfl ?_
  refine kG.aload_n 1234 dL_law_1233 rfl rfl ?_
  refine kG.iload_n 1235 dL_law_1234 rfl rfl ?_
  refine kG.iconst (v := nI 5) 1236 dL_law_1235 (by decide) rfl ?_
  refine kG.iadd 1237 dL_law_1236 rfl ?_
  rw [nI_add]
  refine kG.sld (q := i + 5) 1238 dL_law_1237 rfl rfl (by omega) (by omega) rfl ?_
  refine hG.cX 1241 dL_law_1238 lL_145 vX4_copy (x_copy Γ hc (kxs Γ (i + 1)) (kxs Γ (i + 2)) (kxs Γ (i + 3)) (kxs Γ (i + 4)) (kxs Γ (i + 5))) rfl rfl rfl ⟨by decide, by decide⟩ (Nat.le_of_ble_eq_true rfl) rfl (fun μ1 q1 hc1 f1 => ?_)
  have hm1 := MS_up hm f1
  refine kG.aload_n 1242 dL_law_1241 rfl rfl ?_
  refine kG.aload_n 1243 dL_law_1242 rfl rfl ?_
  refine kG.iload_n 1244 dL_law_1243 rfl rfl ?_
  refine kG.iconst (v := nI 1) 1245 dL_law_1244 (by decide) rfl ?_
  refine kG.iadd 1246 dL_law_1245 rfl ?_
  rw [nI_add]
  refine kG.sld (q := i + 1) 1247 dL_law_1246 rfl rfl (by omega) (by omega) rfl ?_
  refine kG.aload_n 1248 dL_law_1247 rfl rfl ?_
  refine kG.iload_n 1249 dL_law_1248 rfl rfl ?_
  refine kG.iconst (v := nI 2) 1250 dL_law_1249 (by decide) rfl ?_
  refine kG.iadd 1251 dL_law_1250 rfl ?_
  rw [nI_add]
  refine kG.sld (q := i + 2) 1252 dL_law_1251 rfl rfl (by omega) (by omega) rfl ?_
  refine kG.aload_n 1253 dL_law_1252 rfl rfl ?_
  refine kG.iload_n 1254 dL_law_1253 rfl rfl ?_
  refine kG.iconst (v := nI 3) 1255 dL_law_1254 (by decide) rfl ?_
  refine kG.iadd 1256 dL_law_1255 rfl ?_
  rw [nI_add]
  refine kG.sld (q := i + 3) 1257 dL_law_1256 rfl rfl (by omega) (by omega) rfl ?_
  refine kG.aload_n 1258 dL_law_1257 rfl rfl ?_
  refine kG.iload_n 1259 dL_law_1258 rfl rfl ?_
  refine kG.iconst (v := nI 4) 1260 dL_law_1259 (by decide) rfl ?_
  refine kG.iadd 1261 dL_law_1260 rfl ?_
  rw [nI_add]
  refine kG.sld (q := i + 4) 1262 dL_law_1261 rfl rfl (by omega) (by omega) rfl ?_
  refine kG.aload_n 1263 dL_law_1262 rfl rfl ?_
  refine kG.iload_n 1264 dL_law_1263 rfl rfl ?_
  refine kG.iconst (v := nI 5) 1265 dL_law_1264 (by decide) rfl ?_
  refine kG.iadd 1266 dL_law_1265 rfl ?_
  rw [nI_add]
  refine kG.sld (q := i + 5) 1267 dL_law_1266 rfl rfl (by omega) (by omega) rfl ?_
  refine hG.cM 1270 dL_law_1267 lL_149 vX5_copy (y_copy Γ hc.1 hm1 (kxs Γ (i + 1)) (kxs Γ (i + 2)) (kxs Γ (i + 3)) (kxs Γ (i + 4)) (kxs Γ (i + 5))) rfl rfl rfl ⟨by decide, by decide⟩ (Nat.le_of_ble_eq_true rfl) rfl (fun μ2 hm2 f2 => ?_)
  exact kG.icmp_eq 1403 1273 dL_law_1270 (by decide) rfl (fun _ => kk _ _ _ (CS_dn hc1 f2) hm2) (fun h => absurd rfl h)
set_option maxHeartbeats 4000000 in
theorem law_32 (Γ : kGm) {S : AS} {μ : kM} {q : kq4} (hc : CS S μ q) (hm : MS S μ) {i : Nat} (hi : i + 6 ≤ kLn Γ) (hL : kLn Γ ≤ 384) (kk : ∀ (S' : AS) (μ' : kM) (q' : kq4), CS S' μ' q' → MS S' μ' → hG Γ 1403 [some (.ref 0), some (.ref 1), some (.ref 49), some (.int (nI i))] [] μ' q') : hG Γ 1275 [some (.ref 0), some (.ref 1), some (.ref 49), some (.int (nI i))] [] μ q := by
  refine kG.aload_n 1276 dL_law_1275 rfl rfl ?_
  refine kG.aload_n 1277 dL_law_1276 rfl rfl ?_
  refine kG.iload_n 1278 dL_law_1277 rfl rfl ?_
  refine kG.iconst (v := nI 1) 1279 dL_law_1278 (by decide) rfl ?_
  refine kG.iadd 1280 dL_law_1279 rfl ?_
  rw [nI_add]
  refine kG.sld (q := i + 1) 1281 dL_law_1280 rfl rfl (by omega) (by omega) rfl ?_
  refine hG.cX 1284 dL_law_1281 lL_150 vX4_tell (x_tell Γ hc (kxs Γ (i + 1))) rfl rfl rfl ⟨by decide, by decide⟩ (Nat.le_of_ble_eq_true rfl) rfl (fun μ1 q1 hc1 f1 => ?_)
  have hm1 := MS_up hm f1
  refine kG.aload_n 1285 dL_law_1284 rfl rfl ?_
  refine kG.aload_n 1286 dL_law_1285 rfl rfl ?_
  refine kG.iload_n 1287 dL_law_1286 rfl rfl ?_
  refine kG.iconst (v := nI 1) 1288 dL_law_1287 (by decide) rfl ?_
  refine kG.iadd 1289 dL_law_1288 rfl ?_
  rw [nI_add]
  refine kG.sld (q := i + 1) 1290 dL_law_1289 rfl rfl (by omega) (by omega) rfl ?_
  refine hG.cM 1293 dL_law_1290 lL_153 vX5_tell (y_tell Γ hc.1 hm1 (kxs Γ (i + 1))) rfl rfl rfl ⟨by decide, by decide⟩ (Nat.le_of_ble_eq_true rfl) rfl (fun μ2 hm2 f2 => ?_)
  exact kG.icmp_eq 1403 1296 dL_law_1293 (by decide) rfl (fun _ => kk _ _ _ (CS_dn hc1 f2) hm2) (fun h => absurd rfl h)
set_option maxHeartbeats 4000000 in
theorem law_33 (Γ : kGm) {S : AS} {μ : kM} {q : kq4} (hc : CS S μ q) (hm : MS S μ) {i : Nat} (hi : i + 6 ≤ kLn Γ) (hL : kLn Γ ≤ 384) (kk : ∀ (S' : AS) (μ' : kM) (q' : kq4), CS S' μ' q' → MS S' μ' → hG Γ 1403 [some (.ref 0), some (.ref 1), some (.ref 49), some (.int (nI i))] [] μ' q') : hG Γ 1298 [some (.ref 0), some (.ref 1), some (.ref 49), some (.int (nI i))] [] μ q := by
  refine kG.aload_n 1299 dL_law_1298 rfl rfl ?_
  refine kG.aload_n 1300 dL_law_1299 rfl rfl ?_
  refine kG.iload_n 1301 dL_law_1300 rfl rfl ?_
  refine kG.iconst (v := nI 1) 1302 dL_law_1301 (by decide) rfl ?_
  refine kG.iadd 1303 dL_law_1302 rfl ?_
  rw [nI_add]
  refine kG.sld (q := i + 1) 1304 dL_law_1303 rfl rfl (by omega) (by omega) rfl ?_
  refine hG.cX 1307 dL_law_1304 lL_154 vX4_knock (x_knock Γ hc (kxs Γ (i + 1))) rfl rfl rfl ⟨by decide, by decide⟩ (Nat.le_of_ble_eq_true rfl) rfl (fun μ1 q1 hc1 f1 => ?_)
  have hm1 := MS_up hm f1
  refine kG.aload_n 1308 dL_law_1307 rfl rfl ?_
  refine kG.aload_n 1309 dL_law_1308 rfl rfl ?_
  refine kG.iload_n 1310 dL_law_1309 rfl rfl ?_
  refine kG.iconst (v := nI 1) 1311 dL_law_1310 (by decide) rfl ?_
  refine kG.iadd 1312 dL_law_1311 rfl ?_
  rw [nI_add]
  refine kG.sld (q := i + 1) 1313 dL_law_1312 rfl rfl (by omega) (by omega) rfl ?_
  refine hG.cM 1316 dL_law_1313 lL_157 vX5_knock (y_knock Γ hc.1 hm1 (kxs Γ (i + 1))) rfl rfl rfl ⟨by decide, by decide⟩ (Nat.le_of_ble_eq_true rfl) rfl (fun μ2 hm2 f2 => ?_)
  exact kG.icmp_eq 1403 1319 dL_law_1316 (by decide) rfl (fun _ => kk _ _ _ (CS_dn hc1 f2) hm2) (fun h => absurd rfl h)
set_option maxHeartbeats 4000000 in
theorem law_34 (Γ : kGm) {S : AS} {μ : kM} {q : kq4} (hc : CS S μ q) (hm : MS S μ) {i : Nat} (hi : i + 6 ≤ kLn Γ) (hL : kLn Γ ≤ 384) (kk : ∀ (S' : AS) (μ' : kM) (q' : kq4), CS S' μ' q' → MS S' μ' → hG Γ 1403 [some (.ref 0), some (.ref 1), some (.ref 49), some (.int (nI i))] [] μ' q') : hG Γ 1321 [some (.ref 0), some (.ref 1), some (.ref 49), some (.int (nI i))] [] μ q := by
  refine kG.aload_n 1322 dL_law_1321 rfl rfl ?_
  refine kG.aload_n 1323 dL_law_1322 rfl rfl ?_
  refine kG.iload_n 1324 dL_law_1323 rfl rfl ?_
  refine kG.iconst (v := nI 1) 1325 dL_law_1324 (by decide) rfl ?_
  refine kG.iadd 1326 dL_law_1325 rfl ?_
  rw [nI_add]
  refine kG.sld (q := i + 1) 1327 dL_law_1326 rfl rfl (by omega) (by omega) rfl ?_
  refine kG.aload_n 1328 dL_law_1327 rfl rfl ?_
  refine kG.iload_n 1329 dL_law_1328 rfl rfl ?_
  refine kG.iconst (v := nI 2) 1330 dL_law_1329 (by decide) rfl ?_
  refine kG.iadd 1331 dL_law_1330 rfl ?_
  rw [nI_add]
  refine kG.sld (q := i + 2) 1332 dL_law_1331 rfl rfl (by omega) (by omega) rfl ?_
  refine hG.cX 1335 dL_law_1332 lL_158 vX4_as (x_as Γ hc (kxs Γ (i + 1)) (kxs Γ (i + 2))) rfl rfl rfl ⟨by decide, by decide⟩ (Nat.le_of_ble_eq_true rfl) rfl (fun μ1 q1 hc1 f1 => ?_)
  have hm1 := MS_up hm f1
  refine kG.aload_n 1336 dL_law_1335 rfl rfl ?_
  refine kG.aload_n 1337 dL_law_1336 rfl rfl ?_
  refine kG.iload_n 1338 dL_law_1337 rfl rfl ?_
  refine kG.iconst (v := nI 1) 1339 dL_law_1338 (by decide) rfl ?_
  refine kG.iadd 1340 dL_law_1339 rfl ?_
  rw [nI_add]
  refine kG.sld (q := i + 1) 1341 dL_law_1340 rfl rfl (by omega) (by omega) rfl ?_
  refine kG.aload_n 1342 dL_law_1341 rfl rfl ?_
  refine kG.iload_n 1343 dL_law_1342 rfl rfl ?_
  refine kG.iconst (v := nI 2) 1344 dL_law_1343 (by decide) rfl ?_
  refine kG.iadd 1345 dL_law_1344 rfl ?_
  rw [nI_add]
  refine kG.sld (q := i + 2) 1346 dL_law_1345 rfl rfl (by omega) (by omega) rfl ?_
  refine hG.cM 1349 dL_law_1346 lL_161 vX5_as (y_as Γ hc.1 hm1 (kxs Γ (i + 1)) (kxs Γ (i + 2))) rfl rfl rfl ⟨by decide, by decide⟩ (Nat.le_of_ble_eq_true rfl) rfl (fun μ2 hm2 f2 => ?_)
  exact kG.icmp_eq 1403 1352 dL_law_1349 (by decide) rfl (fun _ => kk _ _ _ (CS_dn hc1 f2) hm2) (fun h => absurd rfl h)
set_option maxHeartbeats 4000000 in
theorem law_35 (Γ : kGm) {S : AS} {μ : kM} {q : kq4} (hc : CS S μ q) (hm : MS S μ) {i : Nat} (hi : i + 6 ≤ kLn Γ) (hL : kLn Γ ≤ 384) (kk : ∀ (S' : AS) (μ' : kM) (q' : kq4), CS S' μ' q' → MS S' μ' → hG Γ 1403 [some (.ref 0), some (.ref 1), some (.ref 49), some (.int (nI i))] [] μ' q') : hG Γ 1354 [some (.ref 0), some (.ref 1), some (.ref 49), some (.int (nI i))] [] μ q := by
  refine kG.aload_n 1355 dL_law_1354 rfl rfl ?_
  refine hG.cX 1358 dL_law_1355 lL_162 vX4_trace (x_trace Γ hc ) rfl rfl rfl ⟨by decide, by decide⟩ (Nat.le_of_ble_eq_true rfl) rfl (fun μ1 q1 hc1 f1 => ?_)
  have hm1 := MS_up hm f1
  refine kG.aload_n 1359 dL_law_1358 rfl rfl ?_
  refine hG.cM 1362 dL_law_1359 lL_165 vX5_trace (y_trace Γ hc.1 hm1 ) rfl rfl rfl ⟨by decide, by decide⟩ (Nat.le_of_ble_eq_true rfl) rfl (fun μ2 hm2 f2 => ?_)
  exact kG.icmp_eq 1403 1365 dL_law_1362 (by decide) rfl (fun _ => kk _ _ _ (CS_dn hc1 f2) hm2) (fun h => absurd rfl h)
set_option maxHeartbeats 4000000 in
theorem law_36 (Γ : kGm) {S : AS} {μ : kM} {q : kq4} (hc : CS S μ q) (hm : MS S μ) {i : Nat} (hi : i + 6 ≤ kLn Γ) (hL : kLn Γ ≤ 384) (kk : ∀ (S' : AS) (μ' : kM) (q' : kq4), CS S' μ' q' → MS S' μ' → hG Γ 1403 [some (.ref 0), some (.ref 1), some (.ref 49), some (.int (nI i))] [] μ' q') : hG Γ 1367 [some (.ref 0), some (.ref 1), some (.ref 49), some (.int (nI i))] [] μ q := by
  refine kG.aload_n 1368 dL_law_1367 rfl rfl ?_
  refine hG.cX 1371 dL_law_1368 lL_166 vX4_fault (x_fault Γ hc ) rfl rfl rfl ⟨by decide, by decide⟩ (Nat.le_of_ble_eq_true rfl) rfl (fun μ1 q1 hc1 f1 => ?_)
  have hm1 := MS_up hm f1
  refine kG.aload_n 1372 dL_law_1371 rfl rfl ?_
  refine hG.cM 1375 dL_law_1372 lL_169 vX5_fault (y_fault Γ hc.1 hm1 ) rfl rfl rfl ⟨by decide, by decide⟩ (Nat.le_of_ble_eq_true rfl) rfl (fun μ2 hm2 f2 => ?_)
  exact kG.icmp_eq 1403 1378 dL_law_1375 (by decide) rfl (fun _ => kk _ _ _ (CS_dn hc1 f2) hm2) (fun h => absurd rfl h)
set_option maxHeartbeats 4000000 in
theorem law_37 (Γ : kGm) {S : AS} {μ : kM} {q : kq4} (hc : CS S μ q) (hm : MS S μ) {i : Nat} (hi : i + 6 ≤ kLn Γ) (hL : kLn Γ ≤ 384) (kk : ∀ (S' : AS) (μ' : kM) (q' : kq4), CS S' μ' q' → MS S' μ' → hG Γ 1403 [some (.ref 0), some (.ref 1), some (.ref 49), some (.int (nI i))] [] μ' q') : hG Γ 1380 [some (.ref 0), some (.ref 1), some (.ref 49), some (.int (nI i))] [] μ q := by
  refine kG.aload_n 1381 dL_law_1380 rfl rfl ?_
  refine kG.aload_n 1382 dL_law_1381 rfl rfl ?_
  refine kG.iload_n 1383 dL_law_1382 rfl rfl ?_
  refine kG.iconst (v := nI 1) 1384 dL_law_1383 (by decide) rfl ?_
  refine kG.iadd 1385 dL_law_1384 rfl ?_
  rw [nI_add]
  refine kG.sld (q := i + 1) 1386 dL_law_1385 rfl rfl (by omega) (by omega) rfl ?_
  refine hG.cX 1389 dL_law_1386 lL_170 vX4_many (x_many Γ hc (kxs Γ (i + 1))) rfl rfl rfl ⟨by decide, by decide⟩ (Nat.le_of_ble_eq_true rfl) rfl (fun μ1 q1 hc1 f1 => ?_)
  have hm1 := MS_up hm f1
  refine kG.aload_n 1390 dL_law_1389 rfl rfl ?_
  refine kG.aload_n 1391 dL_law_1390 rfl rfl ?_
  refine kG.iload_n 1392 dL_law_1391 rfl rfl ?_
  refine kG.iconst (v := nI 1) 1393 dL_law_1392 (by decide) rfl ?_
  refine kG.iadd 1394 dL_law_1393 rfl ?_
  rw [nI_add]
  refine kG.sld (q := i + 1) 1395 dL_law_1394 rfl rfl (by omega) (by omega) rfl ?_
  refine hG.cM 1398 dL_law_1395 lL_173 vX5_many (y_many Γ hc.1 hm1 (kxs Γ (i + 1))) rfl rfl rfl ⟨by decide, by decide⟩ (Nat.le_of_ble_eq_true rfl) rfl (fun μ2 hm2 f2 => ?_)
  exact kG.icmp_eq 1403 1401 dL_law_1398 (by decide) rfl (fun _ => kk _ _ _ (CS_dn hc1 f2) hm2) (fun h => absurd rfl h)
set_option maxHeartbeats 4000000 in
theorem law_step (Γ : kGm) {S : AS} {μ : kM} {q : kq4} (hc : CS S μ q) (hm : MS S μ) {i : Nat} (hi : i + 6 ≤ kLn Γ) (hL : kLn Γ ≤ 384) (kk : ∀ (S' : AS) (μ' : kM) (q' : kq4), CS S' μ' q' → MS S' μ' → hG Γ 1403 [some (.ref 0), some (.ref 1), some (.ref 49), some (.int (nI i))] [] μ' q') : hG Γ 27 [some (.ref 0), some (.ref 1), some (.ref 49), some (.int (nI i))] [] μ q := by
    refine kG.aload_n 28 dL_law_27 rfl rfl ?_
    refine kG.iload_n 29 dL_law_28 rfl rfl ?_
    refine kG.sld (q := i) 30 dL_law_29 rfl rfl (by omega) (by omega) rfl ?_
    refine kG.bipush (v := nI 63) 32 dL_law_30 (by decide) rfl ?_
    refine kG.iand 33 dL_law_32 rfl ?_
    by_cases hs0 : kxs Γ i &&& nI 63 = nI 0
    · rw [hs0]
      refine kG.tableIn 200 dL_law_33 (by decide) (by decide) rfl (by decide) ?_
      exact law_0 Γ hc hm (by omega) hL kk
    by_cases hs1 : kxs Γ i &&& nI 63 = nI 1
    · rw [hs1]
      refine kG.tableIn 253 dL_law_33 (by decide) (by decide) rfl (by decide) ?_
      exact law_1 Γ hc hm (by omega) hL kk
    by_cases hs2 : kxs Γ i &&& nI 63 = nI 2
    · rw [hs2]
      refine kG.tableIn 286 dL_law_33 (by decide) (by decide) rfl (by decide) ?_
      exact law_2 Γ hc hm (by omega) hL kk
    by_cases hs3 : kxs Γ i &&& nI 63 = nI 3
    · rw [hs3]
      refine kG.tableIn 319 dL_law_33 (by decide) (by decide) rfl (by decide) ?_
      exact law_3 Γ hc hm (by omega) hL kk
    by_cases hs4 : kxs Γ i &&& nI 63 = nI 4
    · rw [hs4]
      refine kG.tableIn 342 dL_law_33 (by decide) (by decide) rfl (by decide) ?_
      exact law_4 Γ hc hm (by omega) hL kk
    by_cases hs5 : kxs Γ i &&& nI 63 = nI 5
    · rw [hs5]
      refine kG.tableIn 391 dL_law_33 (by decide) (by decide) rfl (by decide) ?_
      exact law_5 Γ hc hm (by omega) hL kk
    by_cases hs6 : kxs Γ i &&& nI 63 = nI 6
    · rw [hs6]
      refine kG.tableIn 434 dL_law_33 (by decide) (by decide) rfl (by decide) ?_
      exact law_6 Γ hc hm (by omega) hL kk
    by_cases hs7 : kxs Γ i &&& nI 63 = nI 7
    · rw [hs7]
      refine kG.tableIn 457 dL_law_33 (by decide) (by decide) rfl (by decide) ?_
      exact law_7 Γ hc hm (by omega) hL kk
    by_cases hs8 : kxs Γ i &&& nI 63 = nI 8
    · rw [hs8]
      refine kG.tableIn 500 dL_law_33 (by decide) (by decide) rfl (by decide) ?_
      exact law_8 Γ hc hm (by omega) hL kk
    by_cases hs9 : kxs Γ i &&& nI 63 = nI 9
    · rw [hs9]
      refine kG.tableIn 543 dL_law_33 (by decide) (by decide) rfl (by decide) ?_
      exact law_9 Γ hc hm (by omega) hL kk
    by_cases hs10 : kxs Γ i &&& nI 63 = nI 10
    · rw [hs10]
      refine kG.tableIn 576 dL_law_33 (by decide) (by decide) rfl (by decide) ?_
      exact law_10 Γ hc hm (by omega) hL kk
    by_cases hs11 : kxs Γ i &&& nI 63 = nI 11
    · rw [hs11]
      refine kG.tableIn 609 dL_law_33 (by decide) (by decide) rfl (by decide) ?_
      exact law_11 Γ hc hm (by omega) hL kk
    by_cases hs12 : kxs Γ i &&& nI 63 = nI 12
    · rw [hs12]
      refine kG.tableIn 622 dL_law_33 (by decide) (by decide) rfl (by decide) ?_
      exact law_12 Γ hc hm (by omega) hL kk
    by_cases hs13 : kxs Γ i &&& nI 63 = nI 13
    · rw [hs13]
      refine kG.tableIn 645 dL_law_33 (by decide) (by decide) rfl (by decide) ?_
      exact law_13 Γ hc hm (by omega) hL kk
    by_cases hs14 : kxs Γ i &&& nI 63 = nI 14
    · rw [hs14]
      refine kG.tableIn 668 dL_law_33 (by decide) (by decide) rfl (by decide) ?_
      exact law_14 Γ hc hm (by omega) hL kk
    by_cases hs15 : kxs Γ i &&& nI 63 = nI 15
    · rw [hs15]
      refine kG.tableIn 691 dL_law_33 (by decide) (by decide) rfl (by decide) ?_
      exact law_15 Γ hc hm (by omega) hL kk
    by_cases hs16 : kxs Γ i &&& nI 63 = nI 16
    · rw [hs16]
      refine kG.tableIn 714 dL_law_33 (by decide) (by decide) rfl (by decide) ?_
      exact law_16 Γ hc hm (by omega) hL kk
    by_cases hs17 : kxs Γ i &&& nI 63 = nI 17
    · rw [hs17]
      refine kG.tableIn 737 dL_law_33 (by decide) (by decide) rfl (by decide) ?_
      exact law_17 Γ hc hm (by omega) hL kk
    by_cases hs18 : kxs Γ i &&& nI 63 = nI 18
    · rw [hs18]
      refine kG.tableIn 781 dL_law_33 (by decide) (by decide) rfl (by decide) ?_
      exact law_18 Γ hc hm (by omega) hL kk
    by_cases hs19 : kxs Γ i &&& nI 63 = nI 19
    · rw [hs19]
      refine kG.tableIn 824 dL_law_33 (by decide) (by decide) rfl (by decide) ?_
      exact law_19 Γ hc hm (by omega) hL kk
    by_cases hs20 : kxs Γ i &&& nI 63 = nI 20
    · rw [hs20]
      refine kG.tableIn 847 dL_law_33 (by decide) (by decide) rfl (by decide) ?_
      exact law_20 Γ hc hm (by omega) hL kk
    by_cases hs21 : kxs Γ i &&& nI 63 = nI 21
    · rw [hs21]
      refine kG.tableIn 900 dL_law_33 (by decide) (by decide) rfl (by decide) ?_
      exact law_21 Γ hc hm (by omega) hL kk
    by_cases hs22 : kxs Γ i &&& nI 63 = nI 22
    · rw [hs22]
      refine kG.tableIn 953 dL_law_33 (by decide) (by decide) rfl (by decide) ?_
      exact law_22 Γ hc hm (by omega) hL kk
    by_cases hs23 : kxs Γ i &&& nI 63 = nI 23
    · rw [hs23]
      refine kG.tableIn 976 dL_law_33 (by decide) (by decide) rfl (by decide) ?_
      exact law_23 Γ hc hm (by omega) hL kk
    by_cases hs24 : kxs Γ i &&& nI 63 = nI 24
    · rw [hs24]
      refine kG.tableIn 989 dL_law_33 (by decide) (by decide) rfl (by decide) ?_
      exact law_24 Γ hc hm (by omega) hL kk
    by_cases hs25 : kxs Γ i &&& nI 63 = nI 25
    · rw [hs25]
      refine kG.tableIn 1002 dL_law_33 (by decide) (by decide) rfl (by decide) ?_
      exact law_25 Γ hc hm (by omega) hL kk
    by_cases hs26 : kxs Γ i &&& nI 63 = nI 26
    · rw [hs26]
      refine kG.tableIn 1025 dL_law_33 (by decide) (by decide) rfl (by decide) ?_
      exact law_26 Γ hc hm (by omega) hL kk
    by_cases hs27 : kxs Γ i &&& nI 63 = nI 27
    · rw [hs27]
      refine kG.tableIn 1059 dL_law_33 (by decide) (by decide) rfl (by decide) ?_
      exact law_27 Γ hc hm (by omega) hL kk
    by_cases hs28 : kxs Γ i &&& nI 63 = nI 28
    · rw [hs28]
      refine kG.tableIn 1102 dL_law_33 (by decide) (by decide) rfl (by decide) ?_
      exact law_28 Γ hc hm (by omega) hL kk
    by_cases hs29 : kxs Γ i &&& nI 63 = nI 29
    · rw [hs29]
      refine kG.tableIn 1125 dL_law_33 (by decide) (by decide) rfl (by decide) ?_
      exact law_29 Γ hc hm (by omega) hL kk
    by_cases hs30 : kxs Γ i &&& nI 63 = nI 30
    · rw [hs30]
      refine kG.tableIn 1168 dL_law_33 (by decide) (by decide) rfl (by decide) ?_
      exact law_30 Γ hc hm (by omega) hL kk
    by_cases hs31 : kxs Γ i &&& nI 63 = nI 31
    · rw [hs31]
      refine kG.tableIn 1212 dL_law_33 (by decide) (by decide) rfl (by decide) ?_
      exact law_31 Γ hc hm (by omega) hL kk
    by_cases hs32 : kxs Γ i &&& nI 63 = nI 32
    · rw [hs32]
      refine kG.tableIn 1275 dL_law_33 (by decide) (by decide) rfl (by decide) ?_
      exact law_32 Γ hc hm (by omega) hL kk
    by_cases hs33 : kxs Γ i &&& nI 63 = nI 33
    · rw [hs33]
      refine kG.tableIn 1298 dL_law_33 (by decide) (by decide) rfl (by decide) ?_
      exact law_33 Γ hc hm (by omega) hL kk
    by_cases hs34 : kxs Γ i &&& nI 63 = nI 34
    · rw [hs34]
      refine kG.tableIn 1321 dL_law_33 (by decide) (by decide) rfl (by decide) ?_
      exact law_34 Γ hc hm (by omega) hL kk
    by_cases hs35 : kxs Γ i &&& nI 63 = nI 35
    · rw [hs35]
      refine kG.tableIn 1354 dL_law_33 (by decide) (by decide) rfl (by decide) ?_
      exact law_35 Γ hc hm (by omega) hL kk
    by_cases hs36 : kxs Γ i &&& nI 63 = nI 36
    · rw [hs36]
      refine kG.tableIn 1367 dL_law_33 (by decide) (by decide) rfl (by decide) ?_
      exact law_36 Γ hc hm (by omega) hL kk
    by_cases hs37 : kxs Γ i &&& nI 63 = nI 37
    · rw [hs37]
      refine kG.tableIn 1380 dL_law_33 (by decide) (by decide) rfl (by decide) ?_
      exact law_37 Γ hc hm (by omega) hL kk
    refine kG.tableOut 1403 dL_law_33 (ksw_38 hs0 hs1 hs2 hs3 hs4 hs5 hs6 hs7 hs8 hs9 hs10 hs11 hs12 hs13 hs14 hs15 hs16 hs17 hs18 hs19 hs20 hs21 hs22 hs23 hs24 hs25 hs26 hs27 hs28 hs29 hs30 hs31 hs32 hs33 hs34 hs35 hs36 hs37) (by decide) ?_
    exact kk S μ q hc hm
theorem law_next (Γ : kGm) {μ : kM} {q : kq4} {i : Nat} (kk : hG Γ 18 [some (.ref 0), some (.ref 1), some (.ref 49), some (.int (nI (i + 6)))] [] μ q) : hG Γ 1403 [some (.ref 0), some (.ref 1), some (.ref 49), some (.int (nI i))] [] μ q := by
  refine kG.iinc (v := nI (i + 6)) 1406 dL_law_1403 rfl (nI_add i 6) (by decide) rfl rfl ?_
  dsimp only [List.set]
  refine kG.goto 18 dL_law_1406 (by decide) ?_
  exact kk
set_option maxHeartbeats 4000000 in
theorem law_loop (Γ : kGm) (hL : kLn Γ ≤ 384) : ∀ (m i : Nat) (S : AS) (μ : kM) (q : kq4), kLn Γ < i + m → i ≤ 400 → CS S μ q → MS S μ → hG Γ 18 [some (.ref 0), some (.ref 1), some (.ref 49), some (.int (nI i))] [] μ q := by
  intro m
  induction m with
  | zero =>
    intro i S μ q h1 h2 hc hm
    refine kG.iload_n 19 dL_law_18 rfl rfl ?_
    refine kG.aload_n 20 dL_law_19 rfl rfl ?_
    refine kG.slen (v := nI (kLn Γ)) 21 dL_law_20 rfl rfl rfl ?_
    refine kG.bipush (v := nI 6) 23 dL_law_21 (by decide) rfl ?_
    refine kG.isub 24 dL_law_23 rfl ?_
    refine kG.icmp_gt 1409 27 dL_law_24 (by decide) rfl (fun h24 => ?_) (fun h24 => ?_)
    · refine kG.iconst (v := nI 1) 1410 dL_law_1409 (by decide) rfl ?_
      exact law_ret
    · exact absurd ((gt24 (by omega) (by omega)).mpr (by omega)) h24
  | succ m ih =>
    intro i S μ q h1 h2 hc hm
    refine kG.iload_n 19 dL_law_18 rfl rfl ?_
    refine kG.aload_n 20 dL_law_19 rfl rfl ?_
    refine kG.slen (v := nI (kLn Γ)) 21 dL_law_20 rfl rfl rfl ?_
    refine kG.bipush (v := nI 6) 23 dL_law_21 (by decide) rfl ?_
    refine kG.isub 24 dL_law_23 rfl ?_
    refine kG.icmp_gt 1409 27 dL_law_24 (by decide) rfl (fun h24 => ?_) (fun h24 => ?_)
    · refine kG.iconst (v := nI 1) 1410 dL_law_1409 (by decide) rfl ?_
      exact law_ret
    · have hi : i + 6 ≤ kLn Γ := Nat.not_lt.mp (fun z => h24 ((gt24 (by omega) (by omega)).mpr z))
      exact law_step Γ hc hm hi hL (fun S' μ' q' hc' hm' => law_next Γ (ih (i + 6) S' μ' q' (by omega) (by omega) hc' hm'))
