set_option maxHeartbeats 4000000 in
set_option maxRecDepth 100000 in
theorem law_0 {l : Launch} {D : va_G} {cA : Nat → ClassId} {r : Nat → Nat} {Γ : Cx} {b L : Nat} {xs : Nat → Int32} {z : Zt} {i : Int} {kc ks : Nat} (hr : Inj r) (hst : l.stackTraces = false) (hG : Cok l D cA r room_1 Γ cL_law RL wsL_law 7) (hW : LwR b L xs Γ) (hL : L ≤ 2560) (hR : Rel z) (hi : 0 ≤ i ∧ i + 5 ≤ (L : Int)) (hk : kc + 4 ≤ 627503 ∧ ks + 24 ≤ 7213595) (kk : ∀ (z1 : Zt) (kc1 ks1 : Nat), Rel z1 → kc1 ≤ kc + 4 ∧ ks1 ≤ ks + 24 → V Γ z1 kc1 ks1 [(0, .ref b), (1, .ref (r 0)), (2, .ref (r 169)), (3, .ref (r 176)), (4, .int (iN i))] 2572 []) : V Γ z kc ks [(0, .ref b), (1, .ref (r 0)), (2, .ref (r 169)), (3, .ref (r 176)), (4, .int (iN i))] 232 [] := by
  have b1 : 0 ≤ i + 1 ∧ i + 1 < (L : Int) := by omega
  have b2 : 0 ≤ i + 2 ∧ i + 2 < (L : Int) := by omega
  have b3 : 0 ≤ i + 3 ∧ i + 3 < (L : Int) := by omega
  have c0 : kc + 4 ≤ 627503 ∧ ks + 6 * 4 ≤ 7213595 := by omega
  have hc4 : kc + 4 ≤ kc + 4 ∧ ks + 6 * 4 ≤ ks + 24 := by omega
  refine v_aload_n hG dL_law_232 1 rfl ?_
  refine v_aload_n hG dL_law_233 0 rfl ?_
  refine v_iload hG dL_law_234 4 rfl ?_
  refine v_iconst hG dL_law_236 ?_
  refine v_iadd hG dL_law_237 ?_
  refine w_sld hG hW hL b1 dL_law_238 ?_
  refine v_aload_n hG dL_law_239 0 rfl ?_
  refine v_iload hG dL_law_240 4 rfl ?_
  refine v_iconst hG dL_law_242 ?_
  refine v_iadd hG dL_law_243 ?_
  refine w_sld hG hW hL b2 dL_law_244 ?_
  refine v_aload_n hG dL_law_245 0 rfl ?_
  refine v_iload hG dL_law_246 4 rfl ?_
  refine v_iconst hG dL_law_248 ?_
  refine v_iadd hG dL_law_249 ?_
  refine w_sld hG hW hL b3 dL_law_250 ?_
  refine v_aload_n hG dL_law_251 3 rfl ?_
  refine w_callS (n := 5) hG hW (c_L_addGap hr hst k_0 hR.1.1 (PJ_PI hR.2.1) hR.2.2.1 (sv_rg xs (i + 1)) (sv_rg xs (i + 2)) (sv_rg xs (i + 3))) gL_law_L_addGap rfl (by decide +kernel) rfl ⟨Nat.le_of_ble_eq_true rfl, Nat.le_of_ble_eq_true rfl⟩ dL_law_252 rfl (Nat.le_of_ble_eq_true rfl) c0 ?_
  intro k1 z1 hp1
  have hF : WF z1 := WF_mid hR (mid_addGap hR hp1)
  have rk : 0 ≤ k1 ∧ k1 ≤ 3 := by
    rcases hp1 with ⟨h9, -⟩ | ⟨h9, -⟩ | ⟨h9, -⟩ | ⟨h9, -⟩
    · clear hF; omega
    · clear hF; omega
    · clear hF; omega
    · clear hF; omega
  refine v_istore hG [(0, _), (1, _), (2, _), (3, _), (4, _), (5, _)] dL_law_255 (by decide) rfl ?_
  refine v_aload_n hG dL_law_257 2 rfl ?_
  refine v_aload_n hG dL_law_258 0 rfl ?_
  refine v_iload hG dL_law_259 4 rfl ?_
  refine v_iconst hG dL_law_261 ?_
  refine v_iadd hG dL_law_262 ?_
  refine w_sld hG hW hL b1 dL_law_263 ?_
  refine v_aload_n hG dL_law_264 0 rfl ?_
  refine v_iload hG dL_law_265 4 rfl ?_
  refine v_iconst hG dL_law_267 ?_
  refine v_iadd hG dL_law_268 ?_
  refine w_sld hG hW hL b2 dL_law_269 ?_
  refine v_aload_n hG dL_law_270 0 rfl ?_
  refine v_iload hG dL_law_271 4 rfl ?_
  refine v_iconst hG dL_law_273 ?_
  refine v_iadd hG dL_law_274 ?_
  refine w_sld hG hW hL b3 dL_law_275 ?_
  refine v_callVi (n := 3) (ci := 5) hG (c_X5_addGap hr k_169 rfl hF.1 hF.2.1 (sv_rg xs (i + 1)) (sv_rg xs (i + 2)) (sv_rg xs (i + 3))) gL_law_X5_addGap rfl (by decide +kernel) rfl ⟨Nat.le_of_ble_eq_true rfl, Nat.le_of_ble_eq_true rfl⟩ k_169 (by decide) (cl_6 _ _ _ _) rfl dL_law_276 rfl (Nat.le_of_ble_eq_true rfl) c0 ?_
  intro v2 z2 hp2
  refine v_istore hG [(0, _), (1, _), (2, _), (3, _), (4, _), (5, _), (6, _)] dL_law_279 (by decide) rfl ?_
  refine v_aload_n hG dL_law_281 2 rfl ?_
  refine v_callVi (n := 0) (ci := 5) hG (c_X5_thrown hr k_169) gL_law_X5_thrown rfl (by decide +kernel) rfl ⟨Nat.le_of_ble_eq_true rfl, Nat.le_of_ble_eq_true rfl⟩ k_169 (by decide) (cl_6 _ _ _ _) rfl dL_law_282 rfl (Nat.le_of_ble_eq_true rfl) c0 ?_
  intro k3 z3 hp3
  obtain ⟨rfl, e3⟩ := hp3
  have hok := ok_addGap (k := k1) (v := v2) hR rfl hp1 hp2
  have e9 : k3 = k1 := e3.trans hok.1
  rw [e9]
  clear hp1 hp2 hF e3 e9
  refine v_iload hG dL_law_285 5 rfl ?_
  refine w_icmp hG 292 dL_law_287 (by decide) ?_
  refine v_iload hG dL_law_292 5 rfl ?_
  refine v_if_ne hG 309 (by omega) dL_law_294 (by decide) (fun h8 => ?_) (fun h8 => ?_)
  · refine v_goto hG 2572 dL_law_309 (by decide) ?_
    refine v_sub hG [(0, _), (1, _), (2, _), (3, _), (4, _)] [0, 1, 2, 3, 4] rfl ?_
    exact kk _ _ _ hok.2.2 hc4
  · refine v_aload_n hG dL_law_297 3 rfl ?_
    refine v_iconst hG dL_law_298 ?_
    refine v_laload hG dL_law_299 ?_
    rw [hok.2.1 h8]
    refine v_iload hG dL_law_300 6 rfl ?_
    refine v_i2l hG dL_law_302 ?_
    refine v_lcmp hG dL_law_303 ?_
    rw [lcr_0.mpr rfl]
    refine v_if_eq hG 309 (by decide) dL_law_304 (by decide) (fun _ => ?_) (fun h7 => absurd rfl h7)
    refine v_goto hG 2572 dL_law_309 (by decide) ?_
    refine v_sub hG [(0, _), (1, _), (2, _), (3, _), (4, _)] [0, 1, 2, 3, 4] rfl ?_
    exact kk _ _ _ hok.2.2 hc4

set_option maxHeartbeats 4000000 in
set_option maxRecDepth 100000 in
theorem law_1 {l : Launch} {D : va_G} {cA : Nat → ClassId} {r : Nat → Nat} {Γ : Cx} {b L : Nat} {xs : Nat → Int32} {z : Zt} {i : Int} {kc ks : Nat} (hr : Inj r) (hst : l.stackTraces = false) (hG : Cok l D cA r room_1 Γ cL_law RL wsL_law 7) (hW : LwR b L xs Γ) (hL : L ≤ 2560) (hR : Rel z) (hi : 0 ≤ i ∧ i + 5 ≤ (L : Int)) (hk : kc + 4 ≤ 627503 ∧ ks + 24 ≤ 7213595) (kk : ∀ (z1 : Zt) (kc1 ks1 : Nat), Rel z1 → kc1 ≤ kc + 4 ∧ ks1 ≤ ks + 24 → V Γ z1 kc1 ks1 [(0, .ref b), (1, .ref (r 0)), (2, .ref (r 169)), (3, .ref (r 176)), (4, .int (iN i))] 2572 []) : V Γ z kc ks [(0, .ref b), (1, .ref (r 0)), (2, .ref (r 169)), (3, .ref (r 176)), (4, .int (iN i))] 312 [] := by
  have b1 : 0 ≤ i + 1 ∧ i + 1 < (L : Int) := by omega
  have c0 : kc + 1 ≤ 627503 ∧ ks + 6 * 1 ≤ 7213595 := by omega
  have hc4 : kc + 1 ≤ kc + 4 ∧ ks + 6 * 1 ≤ ks + 24 := by omega
  refine v_aload_n hG dL_law_312 1 rfl ?_
  refine v_aload_n hG dL_law_313 0 rfl ?_
  refine v_iload hG dL_law_314 4 rfl ?_
  refine v_iconst hG dL_law_316 ?_
  refine v_iadd hG dL_law_317 ?_
  refine w_sld hG hW hL b1 dL_law_318 ?_
  refine v_aload_n hG dL_law_319 3 rfl ?_
  refine w_callS (n := 3) hG hW (c_L_gapCount hr hst k_0 (sv_rg xs (i + 1))) gL_law_L_gapCount rfl (by decide +kernel) rfl ⟨Nat.le_of_ble_eq_true rfl, Nat.le_of_ble_eq_true rfl⟩ dL_law_320 rfl (Nat.le_of_ble_eq_true rfl) c0 ?_
  intro k1 z1 hp1
  have hF : WF z1 := WF_nz hR (nz_gapCount hp1)
  have rk : 0 ≤ k1 ∧ k1 ≤ 3 := by
    rcases hp1 with ⟨h9, -⟩ | ⟨h9, -⟩
    · clear hF; omega
    · clear hF; omega
  refine v_istore hG [(0, _), (1, _), (2, _), (3, _), (4, _), (5, _)] dL_law_323 (by decide) rfl ?_
  refine v_aload_n hG dL_law_325 2 rfl ?_
  refine v_aload_n hG dL_law_326 0 rfl ?_
  refine v_iload hG dL_law_327 4 rfl ?_
  refine v_iconst hG dL_law_329 ?_
  refine v_iadd hG dL_law_330 ?_
  refine w_sld hG hW hL b1 dL_law_331 ?_
  refine v_callVi (n := 1) (ci := 5) hG (c_X5_gapCount hr k_169 rfl hF.1 (sv_rg xs (i + 1))) gL_law_X5_gapCount rfl (by decide +kernel) rfl ⟨Nat.le_of_ble_eq_true rfl, Nat.le_of_ble_eq_true rfl⟩ k_169 (by decide) (cl_6 _ _ _ _) rfl dL_law_332 rfl (Nat.le_of_ble_eq_true rfl) c0 ?_
  intro v2 z2 hp2
  refine v_istore hG [(0, _), (1, _), (2, _), (3, _), (4, _), (5, _), (6, _)] dL_law_335 (by decide) rfl ?_
  refine v_aload_n hG dL_law_337 2 rfl ?_
  refine v_callVi (n := 0) (ci := 5) hG (c_X5_thrown hr k_169) gL_law_X5_thrown rfl (by decide +kernel) rfl ⟨Nat.le_of_ble_eq_true rfl, Nat.le_of_ble_eq_true rfl⟩ k_169 (by decide) (cl_6 _ _ _ _) rfl dL_law_338 rfl (Nat.le_of_ble_eq_true rfl) c0 ?_
  intro k3 z3 hp3
  obtain ⟨rfl, e3⟩ := hp3
  have hok := ok_gapCount (k := k1) (v := v2) hR rfl hp1 hp2
  have e9 : k3 = k1 := e3.trans hok.1
  rw [e9]
  clear hp1 hp2 hF e3 e9
  refine v_iload hG dL_law_341 5 rfl ?_
  refine w_icmp hG 348 dL_law_343 (by decide) ?_
  refine v_iload hG dL_law_348 5 rfl ?_
  refine v_if_ne hG 365 (by omega) dL_law_350 (by decide) (fun h8 => ?_) (fun h8 => ?_)
  · refine v_goto hG 2572 dL_law_365 (by decide) ?_
    refine v_sub hG [(0, _), (1, _), (2, _), (3, _), (4, _)] [0, 1, 2, 3, 4] rfl ?_
    exact kk _ _ _ hok.2.2 hc4
  · refine v_aload_n hG dL_law_353 3 rfl ?_
    refine v_iconst hG dL_law_354 ?_
    refine v_laload hG dL_law_355 ?_
    rw [hok.2.1 h8]
    refine v_iload hG dL_law_356 6 rfl ?_
    refine v_i2l hG dL_law_358 ?_
    refine v_lcmp hG dL_law_359 ?_
    rw [lcr_0.mpr rfl]
    refine v_if_eq hG 365 (by decide) dL_law_360 (by decide) (fun _ => ?_) (fun h7 => absurd rfl h7)
    refine v_goto hG 2572 dL_law_365 (by decide) ?_
    refine v_sub hG [(0, _), (1, _), (2, _), (3, _), (4, _)] [0, 1, 2, 3, 4] rfl ?_
    exact kk _ _ _ hok.2.2 hc4

set_option maxHeartbeats 4000000 in
set_option maxRecDepth 100000 in
theorem law_2 {l : Launch} {D : va_G} {cA : Nat → ClassId} {r : Nat → Nat} {Γ : Cx} {b L : Nat} {xs : Nat → Int32} {z : Zt} {i : Int} {kc ks : Nat} (hr : Inj r) (hst : l.stackTraces = false) (hG : Cok l D cA r room_1 Γ cL_law RL wsL_law 7) (hW : LwR b L xs Γ) (hL : L ≤ 2560) (hR : Rel z) (hi : 0 ≤ i ∧ i + 5 ≤ (L : Int)) (hk : kc + 4 ≤ 627503 ∧ ks + 24 ≤ 7213595) (kk : ∀ (z1 : Zt) (kc1 ks1 : Nat), Rel z1 → kc1 ≤ kc + 4 ∧ ks1 ≤ ks + 24 → V Γ z1 kc1 ks1 [(0, .ref b), (1, .ref (r 0)), (2, .ref (r 169)), (3, .ref (r 176)), (4, .int (iN i))] 2572 []) : V Γ z kc ks [(0, .ref b), (1, .ref (r 0)), (2, .ref (r 169)), (3, .ref (r 176)), (4, .int (iN i))] 368 [] := by
  have b1 : 0 ≤ i + 1 ∧ i + 1 < (L : Int) := by omega
  have b2 : 0 ≤ i + 2 ∧ i + 2 < (L : Int) := by omega
  have c0 : kc + 2 ≤ 627503 ∧ ks + 6 * 2 ≤ 7213595 := by omega
  have hc4 : kc + 2 ≤ kc + 4 ∧ ks + 6 * 2 ≤ ks + 24 := by omega
  refine v_aload_n hG dL_law_368 1 rfl ?_
  refine v_aload_n hG dL_law_369 0 rfl ?_
  refine v_iload hG dL_law_370 4 rfl ?_
  refine v_iconst hG dL_law_372 ?_
  refine v_iadd hG dL_law_373 ?_
  refine w_sld hG hW hL b1 dL_law_374 ?_
  refine v_aload_n hG dL_law_375 0 rfl ?_
  refine v_iload hG dL_law_376 4 rfl ?_
  refine v_iconst hG dL_law_378 ?_
  refine v_iadd hG dL_law_379 ?_
  refine w_sld hG hW hL b2 dL_law_380 ?_
  refine v_aload_n hG dL_law_381 3 rfl ?_
  refine w_callS (n := 4) hG hW (c_L_gapDay hr hst k_0 hR.1.1 (sv_rg xs (i + 1)) (sv_rg xs (i + 2))) gL_law_L_gapDay rfl (by decide +kernel) rfl ⟨Nat.le_of_ble_eq_true rfl, Nat.le_of_ble_eq_true rfl⟩ dL_law_382 rfl (Nat.le_of_ble_eq_true rfl) c0 ?_
  intro k1 z1 hp1
  have hF : WF z1 := WF_nz hR (nz_gapDay hp1)
  have rk : 0 ≤ k1 ∧ k1 ≤ 3 := by
    rcases hp1 with ⟨h9, -⟩ | ⟨h9, -⟩
    · clear hF; omega
    · clear hF; omega
  refine v_istore hG [(0, _), (1, _), (2, _), (3, _), (4, _), (5, _)] dL_law_385 (by decide) rfl ?_
  refine v_aload_n hG dL_law_387 2 rfl ?_
  refine v_aload_n hG dL_law_388 0 rfl ?_
  refine v_iload hG dL_law_389 4 rfl ?_
  refine v_iconst hG dL_law_391 ?_
  refine v_iadd hG dL_law_392 ?_
  refine w_sld hG hW hL b1 dL_law_393 ?_
  refine v_aload_n hG dL_law_394 0 rfl ?_
  refine v_iload hG dL_law_395 4 rfl ?_
  refine v_iconst hG dL_law_397 ?_
  refine v_iadd hG dL_law_398 ?_
  refine w_sld hG hW hL b2 dL_law_399 ?_
  refine v_callVi (n := 2) (ci := 5) hG (c_X5_gapDay hr k_169 rfl hF.1 (sv_rg xs (i + 1)) (sv_rg xs (i + 2))) gL_law_X5_gapDay rfl (by decide +kernel) rfl ⟨Nat.le_of_ble_eq_true rfl, Nat.le_of_ble_eq_true rfl⟩ k_169 (by decide) (cl_6 _ _ _ _) rfl dL_law_400 rfl (Nat.le_of_ble_eq_true rfl) c0 ?_
  intro v2 z2 hp2
  refine v_istore hG [(0, _), (1, _), (2, _), (3, _), (4, _), (5, _), (6, _)] dL_law_403 (by decide) rfl ?_
  refine v_aload_n hG dL_law_405 2 rfl ?_
  refine v_callVi (n := 0) (ci := 5) hG (c_X5_thrown hr k_169) gL_law_X5_thrown rfl (by decide +kernel) rfl ⟨Nat.le_of_ble_eq_true rfl, Nat.le_of_ble_eq_true rfl⟩ k_169 (by decide) (cl_6 _ _ _ _) rfl dL_law_406 rfl (Nat.le_of_ble_eq_true rfl) c0 ?_
  intro k3 z3 hp3
  obtain ⟨rfl, e3⟩ := hp3
  have hok := ok_gapDay (k := k1) (v := v2) hR rfl hp1 hp2
  have e9 : k3 = k1 := e3.trans hok.1
  rw [e9]
  clear hp1 hp2 hF e3 e9
  refine v_iload hG dL_law_409 5 rfl ?_
  refine w_icmp hG 416 dL_law_411 (by decide) ?_
  refine v_iload hG dL_law_416 5 rfl ?_
  refine v_if_ne hG 433 (by omega) dL_law_418 (by decide) (fun h8 => ?_) (fun h8 => ?_)
  · refine v_goto hG 2572 dL_law_433 (by decide) ?_
    refine v_sub hG [(0, _), (1, _), (2, _), (3, _), (4, _)] [0, 1, 2, 3, 4] rfl ?_
    exact kk _ _ _ hok.2.2 hc4
  · refine v_aload_n hG dL_law_421 3 rfl ?_
    refine v_iconst hG dL_law_422 ?_
    refine v_laload hG dL_law_423 ?_
    rw [hok.2.1 h8]
    refine v_iload hG dL_law_424 6 rfl ?_
    refine v_i2l hG dL_law_426 ?_
    refine v_lcmp hG dL_law_427 ?_
    rw [lcr_0.mpr rfl]
    refine v_if_eq hG 433 (by decide) dL_law_428 (by decide) (fun _ => ?_) (fun h7 => absurd rfl h7)
    refine v_goto hG 2572 dL_law_433 (by decide) ?_
    refine v_sub hG [(0, _), (1, _), (2, _), (3, _), (4, _)] [0, 1, 2, 3, 4] rfl ?_
    exact kk _ _ _ hok.2.2 hc4

set_option maxHeartbeats 4000000 in
set_option maxRecDepth 100000 in
theorem law_3 {l : Launch} {D : va_G} {cA : Nat → ClassId} {r : Nat → Nat} {Γ : Cx} {b L : Nat} {xs : Nat → Int32} {z : Zt} {i : Int} {kc ks : Nat} (hr : Inj r) (hst : l.stackTraces = false) (hG : Cok l D cA r room_1 Γ cL_law RL wsL_law 7) (hW : LwR b L xs Γ) (hL : L ≤ 2560) (hR : Rel z) (hi : 0 ≤ i ∧ i + 5 ≤ (L : Int)) (hk : kc + 4 ≤ 627503 ∧ ks + 24 ≤ 7213595) (kk : ∀ (z1 : Zt) (kc1 ks1 : Nat), Rel z1 → kc1 ≤ kc + 4 ∧ ks1 ≤ ks + 24 → V Γ z1 kc1 ks1 [(0, .ref b), (1, .ref (r 0)), (2, .ref (r 169)), (3, .ref (r 176)), (4, .int (iN i))] 2572 []) : V Γ z kc ks [(0, .ref b), (1, .ref (r 0)), (2, .ref (r 169)), (3, .ref (r 176)), (4, .int (iN i))] 436 [] := by
  have b1 : 0 ≤ i + 1 ∧ i + 1 < (L : Int) := by omega
  have b2 : 0 ≤ i + 2 ∧ i + 2 < (L : Int) := by omega
  have c0 : kc + 2 ≤ 627503 ∧ ks + 6 * 2 ≤ 7213595 := by omega
  have hc4 : kc + 2 ≤ kc + 4 ∧ ks + 6 * 2 ≤ ks + 24 := by omega
  refine v_aload_n hG dL_law_436 1 rfl ?_
  refine v_aload_n hG dL_law_437 0 rfl ?_
  refine v_iload hG dL_law_438 4 rfl ?_
  refine v_iconst hG dL_law_440 ?_
  refine v_iadd hG dL_law_441 ?_
  refine w_sld hG hW hL b1 dL_law_442 ?_
  refine v_aload_n hG dL_law_443 0 rfl ?_
  refine v_iload hG dL_law_444 4 rfl ?_
  refine v_iconst hG dL_law_446 ?_
  refine v_iadd hG dL_law_447 ?_
  refine w_sld hG hW hL b2 dL_law_448 ?_
  refine v_aload_n hG dL_law_449 3 rfl ?_
  refine w_callS (n := 4) hG hW (c_L_gapLength hr hst k_0 hR.1.1 (sv_rg xs (i + 1)) (sv_rg xs (i + 2))) gL_law_L_gapLength rfl (by decide +kernel) rfl ⟨Nat.le_of_ble_eq_true rfl, Nat.le_of_ble_eq_true rfl⟩ dL_law_450 rfl (Nat.le_of_ble_eq_true rfl) c0 ?_
  intro k1 z1 hp1
  have hF : WF z1 := WF_nz hR (nz_gapLength hp1)
  have rk : 0 ≤ k1 ∧ k1 ≤ 3 := by
    rcases hp1 with ⟨h9, -⟩ | ⟨h9, -⟩
    · clear hF; omega
    · clear hF; omega
  refine v_istore hG [(0, _), (1, _), (2, _), (3, _), (4, _), (5, _)] dL_law_453 (by decide) rfl ?_
  refine v_aload_n hG dL_law_455 2 rfl ?_
  refine v_aload_n hG dL_law_456 0 rfl ?_
  refine v_iload hG dL_law_457 4 rfl ?_
  refine v_iconst hG dL_law_459 ?_
  refine v_iadd hG dL_law_460 ?_
  refine w_sld hG hW hL b1 dL_law_461 ?_
  refine v_aload_n hG dL_law_462 0 rfl ?_
  refine v_iload hG dL_law_463 4 rfl ?_
  refine v_iconst hG dL_law_465 ?_
  refine v_iadd hG dL_law_466 ?_
  refine w_sld hG hW hL b2 dL_law_467 ?_
  refine v_callVi (n := 2) (ci := 5) hG (c_X5_gapLength hr k_169 rfl hF.1 (sv_rg xs (i + 1)) (sv_rg xs (i + 2))) gL_law_X5_gapLength rfl (by decide +kernel) rfl ⟨Nat.le_of_ble_eq_true rfl, Nat.le_of_ble_eq_true rfl⟩ k_169 (by decide) (cl_6 _ _ _ _) rfl dL_law_468 rfl (Nat.le_of_ble_eq_true rfl) c0 ?_
  intro v2 z2 hp2
  refine v_istore hG [(0, _), (1, _), (2, _), (3, _), (4, _), (5, _), (6, _)] dL_law_471 (by decide) rfl ?_
  refine v_aload_n hG dL_law_473 2 rfl ?_
  refine v_callVi (n := 0) (ci := 5) hG (c_X5_thrown hr k_169) gL_law_X5_thrown rfl (by decide +kernel) rfl ⟨Nat.le_of_ble_eq_true rfl, Nat.le_of_ble_eq_true rfl⟩ k_169 (by decide) (cl_6 _ _ _ _) rfl dL_law_474 rfl (Nat.le_of_ble_eq_true rfl) c0 ?_
  intro k3 z3 hp3
  obtain ⟨rfl, e3⟩ := hp3
  have hok := ok_gapLength (k := k1) (v := v2) hR rfl hp1 hp2
  have e9 : k3 = k1 := e3.trans hok.1
  rw [e9]
  clear hp1 hp2 hF e3 e9
  refine v_iload hG dL_law_477 5 rfl ?_
  refine w_icmp hG 484 dL_law_479 (by decide) ?_
  refine v_iload hG dL_law_484 5 rfl ?_
  refine v_if_ne hG 501 (by omega) dL_law_486 (by decide) (fun h8 => ?_) (fun h8 => ?_)
  · refine v_goto hG 2572 dL_law_501 (by decide) ?_
    refine v_sub hG [(0, _), (1, _), (2, _), (3, _), (4, _)] [0, 1, 2, 3, 4] rfl ?_
    exact kk _ _ _ hok.2.2 hc4
  · refine v_aload_n hG dL_law_489 3 rfl ?_
    refine v_iconst hG dL_law_490 ?_
    refine v_laload hG dL_law_491 ?_
    rw [hok.2.1 h8]
    refine v_iload hG dL_law_492 6 rfl ?_
    refine v_i2l hG dL_law_494 ?_
    refine v_lcmp hG dL_law_495 ?_
    rw [lcr_0.mpr rfl]
    refine v_if_eq hG 501 (by decide) dL_law_496 (by decide) (fun _ => ?_) (fun h7 => absurd rfl h7)
    refine v_goto hG 2572 dL_law_501 (by decide) ?_
    refine v_sub hG [(0, _), (1, _), (2, _), (3, _), (4, _)] [0, 1, 2, 3, 4] rfl ?_
    exact kk _ _ _ hok.2.2 hc4

set_option maxHeartbeats 4000000 in
set_option maxRecDepth 100000 in
theorem law_4 {l : Launch} {D : va_G} {cA : Nat → ClassId} {r : Nat → Nat} {Γ : Cx} {b L : Nat} {xs : Nat → Int32} {z : Zt} {i : Int} {kc ks : Nat} (hr : Inj r) (hst : l.stackTraces = false) (hG : Cok l D cA r room_1 Γ cL_law RL wsL_law 7) (hW : LwR b L xs Γ) (hL : L ≤ 2560) (hR : Rel z) (hi : 0 ≤ i ∧ i + 5 ≤ (L : Int)) (hk : kc + 4 ≤ 627503 ∧ ks + 24 ≤ 7213595) (kk : ∀ (z1 : Zt) (kc1 ks1 : Nat), Rel z1 → kc1 ≤ kc + 4 ∧ ks1 ≤ ks + 24 → V Γ z1 kc1 ks1 [(0, .ref b), (1, .ref (r 0)), (2, .ref (r 169)), (3, .ref (r 176)), (4, .int (iN i))] 2572 []) : V Γ z kc ks [(0, .ref b), (1, .ref (r 0)), (2, .ref (r 169)), (3, .ref (r 176)), (4, .int (iN i))] 504 [] := by
  have b1 : 0 ≤ i + 1 ∧ i + 1 < (L : Int) := by omega
  have b2 : 0 ≤ i + 2 ∧ i + 2 < (L : Int) := by omega
  have c0 : kc + 2 ≤ 627503 ∧ ks + 6 * 2 ≤ 7213595 := by omega
  have hc4 : kc + 2 ≤ kc + 4 ∧ ks + 6 * 2 ≤ ks + 24 := by omega
  refine v_aload_n hG dL_law_504 1 rfl ?_
  refine v_aload_n hG dL_law_505 0 rfl ?_
  refine v_iload hG dL_law_506 4 rfl ?_
  refine v_iconst hG dL_law_508 ?_
  refine v_iadd hG dL_law_509 ?_
  refine w_sld hG hW hL b1 dL_law_510 ?_
  refine v_aload_n hG dL_law_511 0 rfl ?_
  refine v_iload hG dL_law_512 4 rfl ?_
  refine v_iconst hG dL_law_514 ?_
  refine v_iadd hG dL_law_515 ?_
  refine w_sld hG hW hL b2 dL_law_516 ?_
  refine v_aload_n hG dL_law_517 3 rfl ?_
  refine w_callS (n := 4) hG hW (c_L_monthLength hr hst k_0 hR.1.1 (sv_rg xs (i + 1)) (sv_rg xs (i + 2))) gL_law_L_monthLength rfl (by decide +kernel) rfl ⟨Nat.le_of_ble_eq_true rfl, Nat.le_of_ble_eq_true rfl⟩ dL_law_518 rfl (Nat.le_of_ble_eq_true rfl) c0 ?_
  intro k1 z1 hp1
  have hF : WF z1 := WF_nz hR (nz_monthLength hp1)
  have rk : 0 ≤ k1 ∧ k1 ≤ 3 := by
    rcases hp1 with ⟨h9, -⟩ | ⟨h9, -⟩ | ⟨h9, -⟩
    · clear hF; omega
    · clear hF; omega
    · clear hF; omega
  refine v_istore hG [(0, _), (1, _), (2, _), (3, _), (4, _), (5, _)] dL_law_521 (by decide) rfl ?_
  refine v_aload_n hG dL_law_523 2 rfl ?_
  refine v_aload_n hG dL_law_524 0 rfl ?_
  refine v_iload hG dL_law_525 4 rfl ?_
  refine v_iconst hG dL_law_527 ?_
  refine v_iadd hG dL_law_528 ?_
  refine w_sld hG hW hL b1 dL_law_529 ?_
  refine v_aload_n hG dL_law_530 0 rfl ?_
  refine v_iload hG dL_law_531 4 rfl ?_
  refine v_iconst hG dL_law_533 ?_
  refine v_iadd hG dL_law_534 ?_
  refine w_sld hG hW hL b2 dL_law_535 ?_
  refine v_callVi (n := 2) (ci := 5) hG (c_X5_monthLength hr k_169 rfl hF.1 (sv_rg xs (i + 1)) (sv_rg xs (i + 2))) gL_law_X5_monthLength rfl (by decide +kernel) rfl ⟨Nat.le_of_ble_eq_true rfl, Nat.le_of_ble_eq_true rfl⟩ k_169 (by decide) (cl_6 _ _ _ _) rfl dL_law_536 rfl (Nat.le_of_ble_eq_true rfl) c0 ?_
  intro v2 z2 hp2
  refine v_istore hG [(0, _), (1, _), (2, _), (3, _), (4, _), (5, _), (6, _)] dL_law_539 (by decide) rfl ?_
  refine v_aload_n hG dL_law_541 2 rfl ?_
  refine v_callVi (n := 0) (ci := 5) hG (c_X5_thrown hr k_169) gL_law_X5_thrown rfl (by decide +kernel) rfl ⟨Nat.le_of_ble_eq_true rfl, Nat.le_of_ble_eq_true rfl⟩ k_169 (by decide) (cl_6 _ _ _ _) rfl dL_law_542 rfl (Nat.le_of_ble_eq_true rfl) c0 ?_
  intro k3 z3 hp3
  obtain ⟨rfl, e3⟩ := hp3
  have hok := ok_monthLength (k := k1) (v := v2) hR rfl hp1 hp2
  have e9 : k3 = k1 := e3.trans hok.1
  rw [e9]
  clear hp1 hp2 hF e3 e9
  refine v_iload hG dL_law_545 5 rfl ?_
  refine w_icmp hG 552 dL_law_547 (by decide) ?_
  refine v_iload hG dL_law_552 5 rfl ?_
  refine v_if_ne hG 569 (by omega) dL_law_554 (by decide) (fun h8 => ?_) (fun h8 => ?_)
  · refine v_goto hG 2572 dL_law_569 (by decide) ?_
    refine v_sub hG [(0, _), (1, _), (2, _), (3, _), (4, _)] [0, 1, 2, 3, 4] rfl ?_
    exact kk _ _ _ hok.2.2 hc4
  · refine v_aload_n hG dL_law_557 3 rfl ?_
    refine v_iconst hG dL_law_558 ?_
    refine v_laload hG dL_law_559 ?_
    rw [hok.2.1 h8]
    refine v_iload hG dL_law_560 6 rfl ?_
    refine v_i2l hG dL_law_562 ?_
    refine v_lcmp hG dL_law_563 ?_
    rw [lcr_0.mpr rfl]
    refine v_if_eq hG 569 (by decide) dL_law_564 (by decide) (fun _ => ?_) (fun h7 => absurd rfl h7)
    refine v_goto hG 2572 dL_law_569 (by decide) ?_
    refine v_sub hG [(0, _), (1, _), (2, _), (3, _), (4, _)] [0, 1, 2, 3, 4] rfl ?_
    exact kk _ _ _ hok.2.2 hc4

set_option maxHeartbeats 4000000 in
set_option maxRecDepth 100000 in
theorem law_5 {l : Launch} {D : va_G} {cA : Nat → ClassId} {r : Nat → Nat} {Γ : Cx} {b L : Nat} {xs : Nat → Int32} {z : Zt} {i : Int} {kc ks : Nat} (hr : Inj r) (hst : l.stackTraces = false) (hG : Cok l D cA r room_1 Γ cL_law RL wsL_law 7) (hW : LwR b L xs Γ) (hL : L ≤ 2560) (hR : Rel z) (hi : 0 ≤ i ∧ i + 5 ≤ (L : Int)) (hk : kc + 4 ≤ 627503 ∧ ks + 24 ≤ 7213595) (kk : ∀ (z1 : Zt) (kc1 ks1 : Nat), Rel z1 → kc1 ≤ kc + 4 ∧ ks1 ≤ ks + 24 → V Γ z1 kc1 ks1 [(0, .ref b), (1, .ref (r 0)), (2, .ref (r 169)), (3, .ref (r 176)), (4, .int (iN i))] 2572 []) : V Γ z kc ks [(0, .ref b), (1, .ref (r 0)), (2, .ref (r 169)), (3, .ref (r 176)), (4, .int (iN i))] 572 [] := by
  have b1 : 0 ≤ i + 1 ∧ i + 1 < (L : Int) := by omega
  have b2 : 0 ≤ i + 2 ∧ i + 2 < (L : Int) := by omega
  have c0 : kc + 2 ≤ 627503 ∧ ks + 6 * 2 ≤ 7213595 := by omega
  have hc4 : kc + 2 ≤ kc + 4 ∧ ks + 6 * 2 ≤ ks + 24 := by omega
  refine v_aload_n hG dL_law_572 1 rfl ?_
  refine v_aload_n hG dL_law_573 0 rfl ?_
  refine v_iload hG dL_law_574 4 rfl ?_
  refine v_iconst hG dL_law_576 ?_
  refine v_iadd hG dL_law_577 ?_
  refine w_sld hG hW hL b1 dL_law_578 ?_
  refine v_aload_n hG dL_law_579 0 rfl ?_
  refine v_iload hG dL_law_580 4 rfl ?_
  refine v_iconst hG dL_law_582 ?_
  refine v_iadd hG dL_law_583 ?_
  refine w_sld hG hW hL b2 dL_law_584 ?_
  refine v_aload_n hG dL_law_585 3 rfl ?_
  refine w_callS (n := 4) hG hW (c_L_dayOfMonth hr hst k_0 hR.1.1 (sv_rg xs (i + 1)) (sv_rg xs (i + 2))) gL_law_L_dayOfMonth rfl (by decide +kernel) rfl ⟨Nat.le_of_ble_eq_true rfl, Nat.le_of_ble_eq_true rfl⟩ dL_law_586 rfl (Nat.le_of_ble_eq_true rfl) c0 ?_
  intro k1 z1 hp1
  have hF : WF z1 := WF_nz hR (nz_dayOfMonth hp1)
  have rk : 0 ≤ k1 ∧ k1 ≤ 3 := by
    rcases hp1 with ⟨h9, -⟩ | ⟨h9, -⟩ | ⟨h9, -⟩
    · clear hF; omega
    · clear hF; omega
    · clear hF; omega
  refine v_istore hG [(0, _), (1, _), (2, _), (3, _), (4, _), (5, _)] dL_law_589 (by decide) rfl ?_
  refine v_aload_n hG dL_law_591 2 rfl ?_
  refine v_aload_n hG dL_law_592 0 rfl ?_
  refine v_iload hG dL_law_593 4 rfl ?_
  refine v_iconst hG dL_law_595 ?_
  refine v_iadd hG dL_law_596 ?_
  refine w_sld hG hW hL b1 dL_law_597 ?_
  refine v_aload_n hG dL_law_598 0 rfl ?_
  refine v_iload hG dL_law_599 4 rfl ?_
  refine v_iconst hG dL_law_601 ?_
  refine v_iadd hG dL_law_602 ?_
  refine w_sld hG hW hL b2 dL_law_603 ?_
  refine v_callVi (n := 2) (ci := 5) hG (c_X5_dayOfMonth hr k_169 rfl hF.1 (sv_rg xs (i + 1)) (sv_rg xs (i + 2))) gL_law_X5_dayOfMonth rfl (by decide +kernel) rfl ⟨Nat.le_of_ble_eq_true rfl, Nat.le_of_ble_eq_true rfl⟩ k_169 (by decide) (cl_6 _ _ _ _) rfl dL_law_604 rfl (Nat.le_of_ble_eq_true rfl) c0 ?_
  intro v2 z2 hp2
  refine v_istore hG [(0, _), (1, _), (2, _), (3, _), (4, _), (5, _), (6, _)] dL_law_607 (by decide) rfl ?_
  refine v_aload_n hG dL_law_609 2 rfl ?_
  refine v_callVi (n := 0) (ci := 5) hG (c_X5_thrown hr k_169) gL_law_X5_thrown rfl (by decide +kernel) rfl ⟨Nat.le_of_ble_eq_true rfl, Nat.le_of_ble_eq_true rfl⟩ k_169 (by decide) (cl_6 _ _ _ _) rfl dL_law_610 rfl (Nat.le_of_ble_eq_true rfl) c0 ?_
  intro k3 z3 hp3
  obtain ⟨rfl, e3⟩ := hp3
  have hok := ok_dayOfMonth (k := k1) (v := v2) hR rfl hp1 hp2
  have e9 : k3 = k1 := e3.trans hok.1
  rw [e9]
  clear hp1 hp2 hF e3 e9
  refine v_iload hG dL_law_613 5 rfl ?_
  refine w_icmp hG 620 dL_law_615 (by decide) ?_
  refine v_iload hG dL_law_620 5 rfl ?_
  refine v_if_ne hG 637 (by omega) dL_law_622 (by decide) (fun h8 => ?_) (fun h8 => ?_)
  · refine v_goto hG 2572 dL_law_637 (by decide) ?_
    refine v_sub hG [(0, _), (1, _), (2, _), (3, _), (4, _)] [0, 1, 2, 3, 4] rfl ?_
    exact kk _ _ _ hok.2.2 hc4
  · refine v_aload_n hG dL_law_625 3 rfl ?_
    refine v_iconst hG dL_law_626 ?_
    refine v_laload hG dL_law_627 ?_
    rw [hok.2.1 h8]
    refine v_iload hG dL_law_628 6 rfl ?_
    refine v_i2l hG dL_law_630 ?_
    refine v_lcmp hG dL_law_631 ?_
    rw [lcr_0.mpr rfl]
    refine v_if_eq hG 637 (by decide) dL_law_632 (by decide) (fun _ => ?_) (fun h7 => absurd rfl h7)
    refine v_goto hG 2572 dL_law_637 (by decide) ?_
    refine v_sub hG [(0, _), (1, _), (2, _), (3, _), (4, _)] [0, 1, 2, 3, 4] rfl ?_
    exact kk _ _ _ hok.2.2 hc4

set_option maxHeartbeats 4000000 in
set_option maxRecDepth 100000 in
theorem law_6 {l : Launch} {D : va_G} {cA : Nat → ClassId} {r : Nat → Nat} {Γ : Cx} {b L : Nat} {xs : Nat → Int32} {z : Zt} {i : Int} {kc ks : Nat} (hr : Inj r) (hst : l.stackTraces = false) (hG : Cok l D cA r room_1 Γ cL_law RL wsL_law 7) (hW : LwR b L xs Γ) (hL : L ≤ 2560) (hR : Rel z) (hi : 0 ≤ i ∧ i + 5 ≤ (L : Int)) (hk : kc + 4 ≤ 627503 ∧ ks + 24 ≤ 7213595) (kk : ∀ (z1 : Zt) (kc1 ks1 : Nat), Rel z1 → kc1 ≤ kc + 4 ∧ ks1 ≤ ks + 24 → V Γ z1 kc1 ks1 [(0, .ref b), (1, .ref (r 0)), (2, .ref (r 169)), (3, .ref (r 176)), (4, .int (iN i))] 2572 []) : V Γ z kc ks [(0, .ref b), (1, .ref (r 0)), (2, .ref (r 169)), (3, .ref (r 176)), (4, .int (iN i))] 640 [] := by
  have b1 : 0 ≤ i + 1 ∧ i + 1 < (L : Int) := by omega
  have b2 : 0 ≤ i + 2 ∧ i + 2 < (L : Int) := by omega
  have c0 : kc + 2 ≤ 627503 ∧ ks + 6 * 2 ≤ 7213595 := by omega
  have hc4 : kc + 2 ≤ kc + 4 ∧ ks + 6 * 2 ≤ ks + 24 := by omega
  refine v_aload_n hG dL_law_640 1 rfl ?_
  refine v_aload_n hG dL_law_641 0 rfl ?_
  refine v_iload hG dL_law_642 4 rfl ?_
  refine v_iconst hG dL_law_644 ?_
  refine v_iadd hG dL_law_645 ?_
  refine w_sld hG hW hL b1 dL_law_646 ?_
  refine v_aload_n hG dL_law_647 0 rfl ?_
  refine v_iload hG dL_law_648 4 rfl ?_
  refine v_iconst hG dL_law_650 ?_
  refine v_iadd hG dL_law_651 ?_
  refine w_sld hG hW hL b2 dL_law_652 ?_
  refine v_aload_n hG dL_law_653 3 rfl ?_
  refine w_callS (n := 4) hG hW (c_L_monthOf hr hst k_0 hR.1.1 (sv_rg xs (i + 1)) (sv_rg xs (i + 2))) gL_law_L_monthOf rfl (by decide +kernel) rfl ⟨Nat.le_of_ble_eq_true rfl, Nat.le_of_ble_eq_true rfl⟩ dL_law_654 rfl (Nat.le_of_ble_eq_true rfl) c0 ?_
  intro k1 z1 hp1
  have hF : WF z1 := WF_nz hR (nz_monthOf hp1)
  have rk : 0 ≤ k1 ∧ k1 ≤ 3 := by
    rcases hp1 with ⟨h9, -⟩ | ⟨h9, -⟩ | ⟨h9, -⟩
    · clear hF; omega
    · clear hF; omega
    · clear hF; omega
  refine v_istore hG [(0, _), (1, _), (2, _), (3, _), (4, _), (5, _)] dL_law_657 (by decide) rfl ?_
  refine v_aload_n hG dL_law_659 2 rfl ?_
  refine v_aload_n hG dL_law_660 0 rfl ?_
  refine v_iload hG dL_law_661 4 rfl ?_
  refine v_iconst hG dL_law_663 ?_
  refine v_iadd hG dL_law_664 ?_
  refine w_sld hG hW hL b1 dL_law_665 ?_
  refine v_aload_n hG dL_law_666 0 rfl ?_
  refine v_iload hG dL_law_667 4 rfl ?_
  refine v_iconst hG dL_law_669 ?_
  refine v_iadd hG dL_law_670 ?_
  refine w_sld hG hW hL b2 dL_law_671 ?_
  refine v_callVi (n := 2) (ci := 5) hG (c_X5_monthOf hr k_169 rfl hF.1 (sv_rg xs (i + 1)) (sv_rg xs (i + 2))) gL_law_X5_monthOf rfl (by decide +kernel) rfl ⟨Nat.le_of_ble_eq_true rfl, Nat.le_of_ble_eq_true rfl⟩ k_169 (by decide) (cl_6 _ _ _ _) rfl dL_law_672 rfl (Nat.le_of_ble_eq_true rfl) c0 ?_
  intro v2 z2 hp2
  refine v_istore hG [(0, _), (1, _), (2, _), (3, _), (4, _), (5, _), (6, _)] dL_law_675 (by decide) rfl ?_
  refine v_aload_n hG dL_law_677 2 rfl ?_
  refine v_callVi (n := 0) (ci := 5) hG (c_X5_thrown hr k_169) gL_law_X5_thrown rfl (by decide +kernel) rfl ⟨Nat.le_of_ble_eq_true rfl, Nat.le_of_ble_eq_true rfl⟩ k_169 (by decide) (cl_6 _ _ _ _) rfl dL_law_678 rfl (Nat.le_of_ble_eq_true rfl) c0 ?_
  intro k3 z3 hp3
  obtain ⟨rfl, e3⟩ := hp3
  have hok := ok_monthOf (k := k1) (v := v2) hR rfl hp1 hp2
  have e9 : k3 = k1 := e3.trans hok.1
  rw [e9]
  clear hp1 hp2 hF e3 e9
  refine v_iload hG dL_law_681 5 rfl ?_
  refine w_icmp hG 688 dL_law_683 (by decide) ?_
  refine v_iload hG dL_law_688 5 rfl ?_
  refine v_if_ne hG 705 (by omega) dL_law_690 (by decide) (fun h8 => ?_) (fun h8 => ?_)
  · refine v_goto hG 2572 dL_law_705 (by decide) ?_
    refine v_sub hG [(0, _), (1, _), (2, _), (3, _), (4, _)] [0, 1, 2, 3, 4] rfl ?_
    exact kk _ _ _ hok.2.2 hc4
  · refine v_aload_n hG dL_law_693 3 rfl ?_
    refine v_iconst hG dL_law_694 ?_
    refine v_laload hG dL_law_695 ?_
    rw [hok.2.1 h8]
    refine v_iload hG dL_law_696 6 rfl ?_
    refine v_i2l hG dL_law_698 ?_
    refine v_lcmp hG dL_law_699 ?_
    rw [lcr_0.mpr rfl]
    refine v_if_eq hG 705 (by decide) dL_law_700 (by decide) (fun _ => ?_) (fun h7 => absurd rfl h7)
    refine v_goto hG 2572 dL_law_705 (by decide) ?_
    refine v_sub hG [(0, _), (1, _), (2, _), (3, _), (4, _)] [0, 1, 2, 3, 4] rfl ?_
    exact kk _ _ _ hok.2.2 hc4

set_option maxHeartbeats 4000000 in
set_option maxRecDepth 100000 in
theorem law_7 {l : Launch} {D : va_G} {cA : Nat → ClassId} {r : Nat → Nat} {Γ : Cx} {b L : Nat} {xs : Nat → Int32} {z : Zt} {i : Int} {kc ks : Nat} (hr : Inj r) (hst : l.stackTraces = false) (hG : Cok l D cA r room_1 Γ cL_law RL wsL_law 7) (hW : LwR b L xs Γ) (hL : L ≤ 2560) (hR : Rel z) (hi : 0 ≤ i ∧ i + 5 ≤ (L : Int)) (hk : kc + 4 ≤ 627503 ∧ ks + 24 ≤ 7213595) (kk : ∀ (z1 : Zt) (kc1 ks1 : Nat), Rel z1 → kc1 ≤ kc + 4 ∧ ks1 ≤ ks + 24 → V Γ z1 kc1 ks1 [(0, .ref b), (1, .ref (r 0)), (2, .ref (r 169)), (3, .ref (r 176)), (4, .int (iN i))] 2572 []) : V Γ z kc ks [(0, .ref b), (1, .ref (r 0)), (2, .ref (r 169)), (3, .ref (r 176)), (4, .int (iN i))] 708 [] := by
  have b1 : 0 ≤ i + 1 ∧ i + 1 < (L : Int) := by omega
  have b2 : 0 ≤ i + 2 ∧ i + 2 < (L : Int) := by omega
  have c0 : kc + 2 ≤ 627503 ∧ ks + 6 * 2 ≤ 7213595 := by omega
  have hc4 : kc + 2 ≤ kc + 4 ∧ ks + 6 * 2 ≤ ks + 24 := by omega
  refine v_aload_n hG dL_law_708 1 rfl ?_
  refine v_aload_n hG dL_law_709 0 rfl ?_
  refine v_iload hG dL_law_710 4 rfl ?_
  refine v_iconst hG dL_law_712 ?_
  refine v_iadd hG dL_law_713 ?_
  refine w_sld hG hW hL b1 dL_law_714 ?_
  refine v_aload_n hG dL_law_715 0 rfl ?_
  refine v_iload hG dL_law_716 4 rfl ?_
  refine v_iconst hG dL_law_718 ?_
  refine v_iadd hG dL_law_719 ?_
  refine w_sld hG hW hL b2 dL_law_720 ?_
  refine v_aload_n hG dL_law_721 3 rfl ?_
  refine w_callS (n := 4) hG hW (c_L_yearOf hr hst k_0 hR.1.1 (sv_rg xs (i + 1)) (sv_rg xs (i + 2))) gL_law_L_yearOf rfl (by decide +kernel) rfl ⟨Nat.le_of_ble_eq_true rfl, Nat.le_of_ble_eq_true rfl⟩ dL_law_722 rfl (Nat.le_of_ble_eq_true rfl) c0 ?_
  intro k1 z1 hp1
  have hF : WF z1 := WF_nz hR (nz_yearOf hp1)
  have rk : 0 ≤ k1 ∧ k1 ≤ 3 := by
    rcases hp1 with ⟨h9, -⟩ | ⟨h9, -⟩ | ⟨h9, -⟩
    · clear hF; omega
    · clear hF; omega
    · clear hF; omega
  refine v_istore hG [(0, _), (1, _), (2, _), (3, _), (4, _), (5, _)] dL_law_725 (by decide) rfl ?_
  refine v_aload_n hG dL_law_727 2 rfl ?_
  refine v_aload_n hG dL_law_728 0 rfl ?_
  refine v_iload hG dL_law_729 4 rfl ?_
  refine v_iconst hG dL_law_731 ?_
  refine v_iadd hG dL_law_732 ?_
  refine w_sld hG hW hL b1 dL_law_733 ?_
  refine v_aload_n hG dL_law_734 0 rfl ?_
  refine v_iload hG dL_law_735 4 rfl ?_
  refine v_iconst hG dL_law_737 ?_
  refine v_iadd hG dL_law_738 ?_
  refine w_sld hG hW hL b2 dL_law_739 ?_
  refine v_callVi (n := 2) (ci := 5) hG (c_X5_yearOf hr k_169 rfl hF.1 (sv_rg xs (i + 1)) (sv_rg xs (i + 2))) gL_law_X5_yearOf rfl (by decide +kernel) rfl ⟨Nat.le_of_ble_eq_true rfl, Nat.le_of_ble_eq_true rfl⟩ k_169 (by decide) (cl_6 _ _ _ _) rfl dL_law_740 rfl (Nat.le_of_ble_eq_true rfl) c0 ?_
  intro v2 z2 hp2
  refine v_istore hG [(0, _), (1, _), (2, _), (3, _), (4, _), (5, _), (6, _)] dL_law_743 (by decide) rfl ?_
  refine v_aload_n hG dL_law_745 2 rfl ?_
  refine v_callVi (n := 0) (ci := 5) hG (c_X5_thrown hr k_169) gL_law_X5_thrown rfl (by decide +kernel) rfl ⟨Nat.le_of_ble_eq_true rfl, Nat.le_of_ble_eq_true rfl⟩ k_169 (by decide) (cl_6 _ _ _ _) rfl dL_law_746 rfl (Nat.le_of_ble_eq_true rfl) c0 ?_
  intro k3 z3 hp3
  obtain ⟨rfl, e3⟩ := hp3
  have hok := ok_yearOf (k := k1) (v := v2) hR rfl hp1 hp2
  have e9 : k3 = k1 := e3.trans hok.1
  rw [e9]
  clear hp1 hp2 hF e3 e9
  refine v_iload hG dL_law_749 5 rfl ?_
  refine w_icmp hG 756 dL_law_751 (by decide) ?_
  refine v_iload hG dL_law_756 5 rfl ?_
  refine v_if_ne hG 773 (by omega) dL_law_758 (by decide) (fun h8 => ?_) (fun h8 => ?_)
  · refine v_goto hG 2572 dL_law_773 (by decide) ?_
    refine v_sub hG [(0, _), (1, _), (2, _), (3, _), (4, _)] [0, 1, 2, 3, 4] rfl ?_
    exact kk _ _ _ hok.2.2 hc4
  · refine v_aload_n hG dL_law_761 3 rfl ?_
    refine v_iconst hG dL_law_762 ?_
    refine v_laload hG dL_law_763 ?_
    rw [hok.2.1 h8]
    refine v_iload hG dL_law_764 6 rfl ?_
    refine v_i2l hG dL_law_766 ?_
    refine v_lcmp hG dL_law_767 ?_
    rw [lcr_0.mpr rfl]
    refine v_if_eq hG 773 (by decide) dL_law_768 (by decide) (fun _ => ?_) (fun h7 => absurd rfl h7)
    refine v_goto hG 2572 dL_law_773 (by decide) ?_
    refine v_sub hG [(0, _), (1, _), (2, _), (3, _), (4, _)] [0, 1, 2, 3, 4] rfl ?_
    exact kk _ _ _ hok.2.2 hc4

set_option maxHeartbeats 4000000 in
set_option maxRecDepth 100000 in
theorem law_8 {l : Launch} {D : va_G} {cA : Nat → ClassId} {r : Nat → Nat} {Γ : Cx} {b L : Nat} {xs : Nat → Int32} {z : Zt} {i : Int} {kc ks : Nat} (hr : Inj r) (hst : l.stackTraces = false) (hG : Cok l D cA r room_1 Γ cL_law RL wsL_law 7) (hW : LwR b L xs Γ) (hL : L ≤ 2560) (hR : Rel z) (hi : 0 ≤ i ∧ i + 5 ≤ (L : Int)) (hk : kc + 4 ≤ 627503 ∧ ks + 24 ≤ 7213595) (kk : ∀ (z1 : Zt) (kc1 ks1 : Nat), Rel z1 → kc1 ≤ kc + 4 ∧ ks1 ≤ ks + 24 → V Γ z1 kc1 ks1 [(0, .ref b), (1, .ref (r 0)), (2, .ref (r 169)), (3, .ref (r 176)), (4, .int (iN i))] 2572 []) : V Γ z kc ks [(0, .ref b), (1, .ref (r 0)), (2, .ref (r 169)), (3, .ref (r 176)), (4, .int (iN i))] 776 [] := by
  have b1 : 0 ≤ i + 1 ∧ i + 1 < (L : Int) := by omega
  have c0 : kc + 1 ≤ 627503 ∧ ks + 6 * 1 ≤ 7213595 := by omega
  have hc4 : kc + 1 ≤ kc + 4 ∧ ks + 6 * 1 ≤ ks + 24 := by omega
  refine v_aload_n hG dL_law_776 1 rfl ?_
  refine v_aload_n hG dL_law_777 0 rfl ?_
  refine v_iload hG dL_law_778 4 rfl ?_
  refine v_iconst hG dL_law_780 ?_
  refine v_iadd hG dL_law_781 ?_
  refine w_sld hG hW hL b1 dL_law_782 ?_
  refine v_aload_n hG dL_law_783 3 rfl ?_
  refine w_callS (n := 3) hG hW (c_L_weekday hr hst k_0 (sv_rg xs (i + 1))) gL_law_L_weekday rfl (by decide +kernel) rfl ⟨Nat.le_of_ble_eq_true rfl, Nat.le_of_ble_eq_true rfl⟩ dL_law_784 rfl (Nat.le_of_ble_eq_true rfl) c0 ?_
  intro k1 z1 hp1
  have hF : WF z1 := WF_nz hR (nz_weekday hp1)
  have rk : 0 ≤ k1 ∧ k1 ≤ 3 := by
    rcases hp1 with ⟨h9, -⟩ | ⟨h9, -⟩
    · clear hF; omega
    · clear hF; omega
  refine v_istore hG [(0, _), (1, _), (2, _), (3, _), (4, _), (5, _)] dL_law_787 (by decide) rfl ?_
  refine v_aload_n hG dL_law_789 2 rfl ?_
  refine v_aload_n hG dL_law_790 0 rfl ?_
  refine v_iload hG dL_law_791 4 rfl ?_
  refine v_iconst hG dL_law_793 ?_
  refine v_iadd hG dL_law_794 ?_
  refine w_sld hG hW hL b1 dL_law_795 ?_
  refine v_callVi (n := 1) (ci := 5) hG (c_X5_weekday hr k_169 rfl (sv_rg xs (i + 1))) gL_law_X5_weekday rfl (by decide +kernel) rfl ⟨Nat.le_of_ble_eq_true rfl, Nat.le_of_ble_eq_true rfl⟩ k_169 (by decide) (cl_6 _ _ _ _) rfl dL_law_796 rfl (Nat.le_of_ble_eq_true rfl) c0 ?_
  intro v2 z2 hp2
  refine v_istore hG [(0, _), (1, _), (2, _), (3, _), (4, _), (5, _), (6, _)] dL_law_799 (by decide) rfl ?_
  refine v_aload_n hG dL_law_801 2 rfl ?_
  refine v_callVi (n := 0) (ci := 5) hG (c_X5_thrown hr k_169) gL_law_X5_thrown rfl (by decide +kernel) rfl ⟨Nat.le_of_ble_eq_true rfl, Nat.le_of_ble_eq_true rfl⟩ k_169 (by decide) (cl_6 _ _ _ _) rfl dL_law_802 rfl (Nat.le_of_ble_eq_true rfl) c0 ?_
  intro k3 z3 hp3
  obtain ⟨rfl, e3⟩ := hp3
  have hok := ok_weekday (k := k1) (v := v2) hR rfl hp1 hp2
  have e9 : k3 = k1 := e3.trans hok.1
  rw [e9]
  clear hp1 hp2 hF e3 e9
  refine v_iload hG dL_law_805 5 rfl ?_
  refine w_icmp hG 812 dL_law_807 (by decide) ?_
  refine v_iload hG dL_law_812 5 rfl ?_
  refine v_if_ne hG 829 (by omega) dL_law_814 (by decide) (fun h8 => ?_) (fun h8 => ?_)
  · refine v_goto hG 2572 dL_law_829 (by decide) ?_
    refine v_sub hG [(0, _), (1, _), (2, _), (3, _), (4, _)] [0, 1, 2, 3, 4] rfl ?_
    exact kk _ _ _ hok.2.2 hc4
  · refine v_aload_n hG dL_law_817 3 rfl ?_
    refine v_iconst hG dL_law_818 ?_
    refine v_laload hG dL_law_819 ?_
    rw [hok.2.1 h8]
    refine v_iload hG dL_law_820 6 rfl ?_
    refine v_i2l hG dL_law_822 ?_
    refine v_lcmp hG dL_law_823 ?_
    rw [lcr_0.mpr rfl]
    refine v_if_eq hG 829 (by decide) dL_law_824 (by decide) (fun _ => ?_) (fun h7 => absurd rfl h7)
    refine v_goto hG 2572 dL_law_829 (by decide) ?_
    refine v_sub hG [(0, _), (1, _), (2, _), (3, _), (4, _)] [0, 1, 2, 3, 4] rfl ?_
    exact kk _ _ _ hok.2.2 hc4
