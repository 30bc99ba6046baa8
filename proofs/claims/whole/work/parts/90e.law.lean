set_option maxHeartbeats 4000000 in
set_option maxRecDepth 100000 in
theorem law_36 {l : Launch} {D : va_G} {cA : Nat → ClassId} {r : Nat → Nat} {Γ : Cx} {b L : Nat} {xs : Nat → Int32} {z : Zt} {i : Int} {kc ks : Nat} (hr : Inj r) (hst : l.stackTraces = false) (hG : Cok l D cA r room_1 Γ cL_law RL wsL_law 7) (hW : LwR b L xs Γ) (hL : L ≤ 2560) (hR : Rel z) (hi : 0 ≤ i ∧ i + 5 ≤ (L : Int)) (hk : kc + 4 ≤ 627503 ∧ ks + 24 ≤ 7213595) (kk : ∀ (z1 : Zt) (kc1 ks1 : Nat), Rel z1 → kc1 ≤ kc + 4 ∧ ks1 ≤ ks + 24 → V Γ z1 kc1 ks1 [(0, .ref b), (1, .ref (r 0)), (2, .ref (r 169)), (3, .ref (r 176)), (4, .int (iN i))] 2572 []) : V Γ z kc ks [(0, .ref b), (1, .ref (r 0)), (2, .ref (r 169)), (3, .ref (r 176)), (4, .int (iN i))] 2209 [] := by
  have c1 : kc ≤ 627503 ∧ ks ≤ 7213595 := by omega
  refine v_aload_n hG dL_law_2209 1 rfl ?_
  refine v_callVi (n := 0) (ci := 4) hG (c_X4_textLength hr k_0) gL_law_X4_textLength rfl (by decide +kernel) rfl ⟨Nat.le_of_ble_eq_true rfl, Nat.le_of_ble_eq_true rfl⟩ k_0 (by decide) (cl_1 _ _ _ _) rfl dL_law_2210 rfl (Nat.le_of_ble_eq_true rfl) c1 ?_
  intro k1 z1 hp1
  refine v_aload_n hG dL_law_2213 2 rfl ?_
  refine v_callVi (n := 0) (ci := 5) hG (c_X5_textLength hr k_169 rfl) gL_law_X5_textLength rfl (by decide +kernel) rfl ⟨Nat.le_of_ble_eq_true rfl, Nat.le_of_ble_eq_true rfl⟩ k_169 (by decide) (cl_6 _ _ _ _) rfl dL_law_2214 rfl (Nat.le_of_ble_eq_true rfl) c1 ?_
  intro v2 z2 hp2
  have hok := ok_textLength (x := k1) (v := v2) hR rfl hp1 hp2
  rw [← hok.1]
  refine w_icmp hG 2572 dL_law_2217 (by decide) ?_
  exact kk _ _ _ hok.2 ⟨Nat.le_add_right _ _, Nat.le_add_right _ _⟩

set_option maxHeartbeats 4000000 in
set_option maxRecDepth 100000 in
theorem law_37 {l : Launch} {D : va_G} {cA : Nat → ClassId} {r : Nat → Nat} {Γ : Cx} {b L : Nat} {xs : Nat → Int32} {z : Zt} {i : Int} {kc ks : Nat} (hr : Inj r) (hst : l.stackTraces = false) (hG : Cok l D cA r room_1 Γ cL_law RL wsL_law 7) (hW : LwR b L xs Γ) (hL : L ≤ 2560) (hR : Rel z) (hi : 0 ≤ i ∧ i + 5 ≤ (L : Int)) (hk : kc + 4 ≤ 627503 ∧ ks + 24 ≤ 7213595) (kk : ∀ (z1 : Zt) (kc1 ks1 : Nat), Rel z1 → kc1 ≤ kc + 4 ∧ ks1 ≤ ks + 24 → V Γ z1 kc1 ks1 [(0, .ref b), (1, .ref (r 0)), (2, .ref (r 169)), (3, .ref (r 176)), (4, .int (iN i))] 2572 []) : V Γ z kc ks [(0, .ref b), (1, .ref (r 0)), (2, .ref (r 169)), (3, .ref (r 176)), (4, .int (iN i))] 2222 [] := by
  have c1 : kc ≤ 627503 ∧ ks ≤ 7213595 := by omega
  refine v_aload_n hG dL_law_2222 1 rfl ?_
  refine v_callVi (n := 0) (ci := 4) hG (c_X4_textError hr k_0 hR.2.2.2.2.2.2.2.1) gL_law_X4_textError rfl (by decide +kernel) rfl ⟨Nat.le_of_ble_eq_true rfl, Nat.le_of_ble_eq_true rfl⟩ k_0 (by decide) (cl_1 _ _ _ _) rfl dL_law_2223 rfl (Nat.le_of_ble_eq_true rfl) c1 ?_
  intro k1 z1 hp1
  have hF : WF z1 := WF_nz hR (hp1.1 ▸ Nz.rf z)
  refine v_aload_n hG dL_law_2226 2 rfl ?_
  refine v_callVi (n := 0) (ci := 5) hG (c_X5_textError hr k_169 rfl hF.2.2.1) gL_law_X5_textError rfl (by decide +kernel) rfl ⟨Nat.le_of_ble_eq_true rfl, Nat.le_of_ble_eq_true rfl⟩ k_169 (by decide) (cl_6 _ _ _ _) rfl dL_law_2227 rfl (Nat.le_of_ble_eq_true rfl) c1 ?_
  intro v2 z2 hp2
  have hok := ok_textError (x := k1) (v := v2) hR rfl hp1 hp2
  rw [← hok.1]
  refine w_icmp hG 2572 dL_law_2230 (by decide) ?_
  exact kk _ _ _ hok.2 ⟨Nat.le_add_right _ _, Nat.le_add_right _ _⟩

set_option maxHeartbeats 4000000 in
set_option maxRecDepth 100000 in
theorem law_38 {l : Launch} {D : va_G} {cA : Nat → ClassId} {r : Nat → Nat} {Γ : Cx} {b L : Nat} {xs : Nat → Int32} {z : Zt} {i : Int} {kc ks : Nat} (hr : Inj r) (hst : l.stackTraces = false) (hG : Cok l D cA r room_1 Γ cL_law RL wsL_law 7) (hW : LwR b L xs Γ) (hL : L ≤ 2560) (hR : Rel z) (hi : 0 ≤ i ∧ i + 5 ≤ (L : Int)) (hk : kc + 4 ≤ 627503 ∧ ks + 24 ≤ 7213595) (kk : ∀ (z1 : Zt) (kc1 ks1 : Nat), Rel z1 → kc1 ≤ kc + 4 ∧ ks1 ≤ ks + 24 → V Γ z1 kc1 ks1 [(0, .ref b), (1, .ref (r 0)), (2, .ref (r 169)), (3, .ref (r 176)), (4, .int (iN i))] 2572 []) : V Γ z kc ks [(0, .ref b), (1, .ref (r 0)), (2, .ref (r 169)), (3, .ref (r 176)), (4, .int (iN i))] 2235 [] := by
  have b1 : 0 ≤ i + 1 ∧ i + 1 < (L : Int) := by omega
  have c0 : kc + 1 ≤ 627503 ∧ ks + 6 * 1 ≤ 7213595 := by omega
  have hc4 : kc + 1 ≤ kc + 4 ∧ ks + 6 * 1 ≤ ks + 24 := by omega
  refine v_aload_n hG dL_law_2235 1 rfl ?_
  refine v_aload_n hG dL_law_2236 0 rfl ?_
  refine v_iload hG dL_law_2237 4 rfl ?_
  refine v_iconst hG dL_law_2239 ?_
  refine v_iadd hG dL_law_2240 ?_
  refine w_sld hG hW hL b1 dL_law_2241 ?_
  refine v_aload_n hG dL_law_2242 3 rfl ?_
  refine w_callS (n := 3) hG hW (c_L_textCharacter hr hst k_0 hR.2.2.2.2.2.2.2.1 (sv_rg xs (i + 1))) gL_law_L_textCharacter rfl (by decide +kernel) rfl ⟨Nat.le_of_ble_eq_true rfl, Nat.le_of_ble_eq_true rfl⟩ dL_law_2243 rfl (Nat.le_of_ble_eq_true rfl) c0 ?_
  intro k1 z1 hp1
  have hF : WF z1 := WF_nz hR (nz_textCharacter hp1)
  have rk : 0 ≤ k1 ∧ k1 ≤ 3 := by
    rcases hp1 with ⟨h9, -⟩ | ⟨h9, -⟩
    · clear hF; omega
    · clear hF; omega
  refine v_istore hG [(0, _), (1, _), (2, _), (3, _), (4, _), (5, _)] dL_law_2246 (by decide) rfl ?_
  refine v_aload_n hG dL_law_2248 2 rfl ?_
  refine v_aload_n hG dL_law_2249 0 rfl ?_
  refine v_iload hG dL_law_2250 4 rfl ?_
  refine v_iconst hG dL_law_2252 ?_
  refine v_iadd hG dL_law_2253 ?_
  refine w_sld hG hW hL b1 dL_law_2254 ?_
  refine v_callVi (n := 1) (ci := 5) hG (c_X5_textCharacter hr k_169 rfl hF.2.2.1 (sv_rg xs (i + 1))) gL_law_X5_textCharacter rfl (by decide +kernel) rfl ⟨Nat.le_of_ble_eq_true rfl, Nat.le_of_ble_eq_true rfl⟩ k_169 (by decide) (cl_6 _ _ _ _) rfl dL_law_2255 rfl (Nat.le_of_ble_eq_true rfl) c0 ?_
  intro v2 z2 hp2
  refine v_istore hG [(0, _), (1, _), (2, _), (3, _), (4, _), (5, _), (6, _)] dL_law_2258 (by decide) rfl ?_
  refine v_aload_n hG dL_law_2260 2 rfl ?_
  refine v_callVi (n := 0) (ci := 5) hG (c_X5_thrown hr k_169) gL_law_X5_thrown rfl (by decide +kernel) rfl ⟨Nat.le_of_ble_eq_true rfl, Nat.le_of_ble_eq_true rfl⟩ k_169 (by decide) (cl_6 _ _ _ _) rfl dL_law_2261 rfl (Nat.le_of_ble_eq_true rfl) c0 ?_
  intro k3 z3 hp3
  obtain ⟨rfl, e3⟩ := hp3
  have hok := ok_textCharacter (k := k1) (v := v2) hR rfl hp1 hp2
  have e9 : k3 = k1 := e3.trans hok.1
  rw [e9]
  clear hp1 hp2 hF e3 e9
  refine v_iload hG dL_law_2264 5 rfl ?_
  refine w_icmp hG 2271 dL_law_2266 (by decide) ?_
  refine v_iload hG dL_law_2271 5 rfl ?_
  refine v_if_ne hG 2288 (by omega) dL_law_2273 (by decide) (fun h8 => ?_) (fun h8 => ?_)
  · refine v_goto hG 2572 dL_law_2288 (by decide) ?_
    refine v_sub hG [(0, _), (1, _), (2, _), (3, _), (4, _)] [0, 1, 2, 3, 4] rfl ?_
    exact kk _ _ _ hok.2.2 hc4
  · refine v_aload_n hG dL_law_2276 3 rfl ?_
    refine v_iconst hG dL_law_2277 ?_
    refine v_laload hG dL_law_2278 ?_
    rw [hok.2.1 h8]
    refine v_iload hG dL_law_2279 6 rfl ?_
    refine v_i2l hG dL_law_2281 ?_
    refine v_lcmp hG dL_law_2282 ?_
    rw [lcr_0.mpr rfl]
    refine v_if_eq hG 2288 (by decide) dL_law_2283 (by decide) (fun _ => ?_) (fun h7 => absurd rfl h7)
    refine v_goto hG 2572 dL_law_2288 (by decide) ?_
    refine v_sub hG [(0, _), (1, _), (2, _), (3, _), (4, _)] [0, 1, 2, 3, 4] rfl ?_
    exact kk _ _ _ hok.2.2 hc4

set_option maxHeartbeats 4000000 in
set_option maxRecDepth 100000 in
theorem law_39 {l : Launch} {D : va_G} {cA : Nat → ClassId} {r : Nat → Nat} {Γ : Cx} {b L : Nat} {xs : Nat → Int32} {z : Zt} {i : Int} {kc ks : Nat} (hr : Inj r) (hst : l.stackTraces = false) (hG : Cok l D cA r room_1 Γ cL_law RL wsL_law 7) (hW : LwR b L xs Γ) (hL : L ≤ 2560) (hR : Rel z) (hi : 0 ≤ i ∧ i + 5 ≤ (L : Int)) (hk : kc + 4 ≤ 627503 ∧ ks + 24 ≤ 7213595) (kk : ∀ (z1 : Zt) (kc1 ks1 : Nat), Rel z1 → kc1 ≤ kc + 4 ∧ ks1 ≤ ks + 24 → V Γ z1 kc1 ks1 [(0, .ref b), (1, .ref (r 0)), (2, .ref (r 169)), (3, .ref (r 176)), (4, .int (iN i))] 2572 []) : V Γ z kc ks [(0, .ref b), (1, .ref (r 0)), (2, .ref (r 169)), (3, .ref (r 176)), (4, .int (iN i))] 2291 [] := by
  have c0 : kc + 1 ≤ 627503 ∧ ks + 6 * 1 ≤ 7213595 := by omega
  have hc4 : kc + 1 ≤ kc + 4 ∧ ks + 6 * 1 ≤ ks + 24 := by omega
  refine v_aload_n hG dL_law_2291 1 rfl ?_
  refine v_aload_n hG dL_law_2292 3 rfl ?_
  refine w_callS (n := 2) hG hW (c_L_dayOfText hr hst k_0 hR.1.1 hR.2.2.2.2.2.2.2.1 rfl) gL_law_L_dayOfText rfl (by decide +kernel) rfl ⟨Nat.le_of_ble_eq_true rfl, Nat.le_of_ble_eq_true rfl⟩ dL_law_2293 rfl (Nat.le_of_ble_eq_true rfl) c0 ?_
  intro k1 z1 hp1
  have hF : WF z1 := WF_mid hR (mid_dayOfText hR hp1)
  have rk : 0 ≤ k1 ∧ k1 ≤ 3 := by
    rcases hp1 with ⟨h9, -⟩ | ⟨h9, -⟩
    · clear hF; omega
    · clear hF; omega
  refine v_istore hG [(0, _), (1, _), (2, _), (3, _), (4, _), (5, _)] dL_law_2296 (by decide) rfl ?_
  refine v_aload_n hG dL_law_2298 2 rfl ?_
  refine v_callVi (n := 0) (ci := 5) hG (c_X5_dayOfText hr k_169 rfl hF.1 hF.2.2.1 rfl) gL_law_X5_dayOfText rfl (by decide +kernel) rfl ⟨Nat.le_of_ble_eq_true rfl, Nat.le_of_ble_eq_true rfl⟩ k_169 (by decide) (cl_6 _ _ _ _) rfl dL_law_2299 rfl (Nat.le_of_ble_eq_true rfl) c0 ?_
  intro v2 z2 hp2
  refine v_istore hG [(0, _), (1, _), (2, _), (3, _), (4, _), (5, _), (6, _)] dL_law_2302 (by decide) rfl ?_
  refine v_aload_n hG dL_law_2304 2 rfl ?_
  refine v_callVi (n := 0) (ci := 5) hG (c_X5_thrown hr k_169) gL_law_X5_thrown rfl (by decide +kernel) rfl ⟨Nat.le_of_ble_eq_true rfl, Nat.le_of_ble_eq_true rfl⟩ k_169 (by decide) (cl_6 _ _ _ _) rfl dL_law_2305 rfl (Nat.le_of_ble_eq_true rfl) c0 ?_
  intro k3 z3 hp3
  obtain ⟨rfl, e3⟩ := hp3
  have hok := ok_dayOfText (k := k1) (v := v2) hR rfl rfl rfl hp1 hp2
  have e9 : k3 = k1 := e3.trans hok.1
  rw [e9]
  clear hp1 hp2 hF e3 e9
  refine v_iload hG dL_law_2308 5 rfl ?_
  refine w_icmp hG 2315 dL_law_2310 (by decide) ?_
  refine v_iload hG dL_law_2315 5 rfl ?_
  refine v_if_ne hG 2332 (by omega) dL_law_2317 (by decide) (fun h8 => ?_) (fun h8 => ?_)
  · refine v_goto hG 2572 dL_law_2332 (by decide) ?_
    refine v_sub hG [(0, _), (1, _), (2, _), (3, _), (4, _)] [0, 1, 2, 3, 4] rfl ?_
    exact kk _ _ _ hok.2.2 hc4
  · refine v_aload_n hG dL_law_2320 3 rfl ?_
    refine v_iconst hG dL_law_2321 ?_
    refine v_laload hG dL_law_2322 ?_
    rw [hok.2.1 h8]
    refine v_iload hG dL_law_2323 6 rfl ?_
    refine v_i2l hG dL_law_2325 ?_
    refine v_lcmp hG dL_law_2326 ?_
    rw [lcr_0.mpr rfl]
    refine v_if_eq hG 2332 (by decide) dL_law_2327 (by decide) (fun _ => ?_) (fun h7 => absurd rfl h7)
    refine v_goto hG 2572 dL_law_2332 (by decide) ?_
    refine v_sub hG [(0, _), (1, _), (2, _), (3, _), (4, _)] [0, 1, 2, 3, 4] rfl ?_
    exact kk _ _ _ hok.2.2 hc4

set_option maxHeartbeats 4000000 in
set_option maxRecDepth 100000 in
theorem law_40 {l : Launch} {D : va_G} {cA : Nat → ClassId} {r : Nat → Nat} {Γ : Cx} {b L : Nat} {xs : Nat → Int32} {z : Zt} {i : Int} {kc ks : Nat} (hr : Inj r) (hst : l.stackTraces = false) (hG : Cok l D cA r room_1 Γ cL_law RL wsL_law 7) (hW : LwR b L xs Γ) (hL : L ≤ 2560) (hR : Rel z) (hi : 0 ≤ i ∧ i + 5 ≤ (L : Int)) (hk : kc + 4 ≤ 627503 ∧ ks + 24 ≤ 7213595) (kk : ∀ (z1 : Zt) (kc1 ks1 : Nat), Rel z1 → kc1 ≤ kc + 4 ∧ ks1 ≤ ks + 24 → V Γ z1 kc1 ks1 [(0, .ref b), (1, .ref (r 0)), (2, .ref (r 169)), (3, .ref (r 176)), (4, .int (iN i))] 2572 []) : V Γ z kc ks [(0, .ref b), (1, .ref (r 0)), (2, .ref (r 169)), (3, .ref (r 176)), (4, .int (iN i))] 2335 [] := by
  have b1 : 0 ≤ i + 1 ∧ i + 1 < (L : Int) := by omega
  have b2 : 0 ≤ i + 2 ∧ i + 2 < (L : Int) := by omega
  have c0 : kc + 2 ≤ 627503 ∧ ks + 6 * 2 ≤ 7213595 := by omega
  have hc4 : kc + 2 ≤ kc + 4 ∧ ks + 6 * 2 ≤ ks + 24 := by omega
  refine v_aload_n hG dL_law_2335 1 rfl ?_
  refine v_aload_n hG dL_law_2336 0 rfl ?_
  refine v_iload hG dL_law_2337 4 rfl ?_
  refine v_iconst hG dL_law_2339 ?_
  refine v_iadd hG dL_law_2340 ?_
  refine w_sld hG hW hL b1 dL_law_2341 ?_
  refine v_aload_n hG dL_law_2342 0 rfl ?_
  refine v_iload hG dL_law_2343 4 rfl ?_
  refine v_iconst hG dL_law_2345 ?_
  refine v_iadd hG dL_law_2346 ?_
  refine w_sld hG hW hL b2 dL_law_2347 ?_
  refine v_aload_n hG dL_law_2348 3 rfl ?_
  refine w_callS (n := 4) hG hW (c_L_writeDate hr hst k_0 hR.1.1 (sv_rg xs (i + 1)) (sv_rg xs (i + 2))) gL_law_L_writeDate rfl (by decide +kernel) rfl ⟨Nat.le_of_ble_eq_true rfl, Nat.le_of_ble_eq_true rfl⟩ dL_law_2349 rfl (Nat.le_of_ble_eq_true rfl) c0 ?_
  intro k1 z1 hp1
  have hF : WF z1 := WF_mid hR (mid_writeDate hR hp1)
  have rk : 0 ≤ k1 ∧ k1 ≤ 3 := by
    rcases hp1 with ⟨h9, -⟩ | ⟨h9, -⟩ | ⟨h9, -⟩
    · clear hF; omega
    · clear hF; omega
    · clear hF; omega
  refine v_istore hG [(0, _), (1, _), (2, _), (3, _), (4, _), (5, _)] dL_law_2352 (by decide) rfl ?_
  refine v_aload_n hG dL_law_2354 2 rfl ?_
  refine v_aload_n hG dL_law_2355 0 rfl ?_
  refine v_iload hG dL_law_2356 4 rfl ?_
  refine v_iconst hG dL_law_2358 ?_
  refine v_iadd hG dL_law_2359 ?_
  refine w_sld hG hW hL b1 dL_law_2360 ?_
  refine v_aload_n hG dL_law_2361 0 rfl ?_
  refine v_iload hG dL_law_2362 4 rfl ?_
  refine v_iconst hG dL_law_2364 ?_
  refine v_iadd hG dL_law_2365 ?_
  refine w_sld hG hW hL b2 dL_law_2366 ?_
  refine v_callVi (n := 2) (ci := 5) hG (c_X5_writeDate hr k_169 rfl hF.1 (sv_rg xs (i + 1)) (sv_rg xs (i + 2))) gL_law_X5_writeDate rfl (by decide +kernel) rfl ⟨Nat.le_of_ble_eq_true rfl, Nat.le_of_ble_eq_true rfl⟩ k_169 (by decide) (cl_6 _ _ _ _) rfl dL_law_2367 rfl (Nat.le_of_ble_eq_true rfl) c0 ?_
  intro v2 z2 hp2
  refine v_istore hG [(0, _), (1, _), (2, _), (3, _), (4, _), (5, _), (6, _)] dL_law_2370 (by decide) rfl ?_
  refine v_aload_n hG dL_law_2372 2 rfl ?_
  refine v_callVi (n := 0) (ci := 5) hG (c_X5_thrown hr k_169) gL_law_X5_thrown rfl (by decide +kernel) rfl ⟨Nat.le_of_ble_eq_true rfl, Nat.le_of_ble_eq_true rfl⟩ k_169 (by decide) (cl_6 _ _ _ _) rfl dL_law_2373 rfl (Nat.le_of_ble_eq_true rfl) c0 ?_
  intro k3 z3 hp3
  obtain ⟨rfl, e3⟩ := hp3
  have hok := ok_writeDate (k := k1) (v := v2) hR rfl hp1 hp2
  have e9 : k3 = k1 := e3.trans hok.1
  rw [e9]
  clear hp1 hp2 hF e3 e9
  refine v_iload hG dL_law_2376 5 rfl ?_
  refine w_icmp hG 2383 dL_law_2378 (by decide) ?_
  refine v_iload hG dL_law_2383 5 rfl ?_
  refine v_if_ne hG 2400 (by omega) dL_law_2385 (by decide) (fun h8 => ?_) (fun h8 => ?_)
  · refine v_goto hG 2572 dL_law_2400 (by decide) ?_
    refine v_sub hG [(0, _), (1, _), (2, _), (3, _), (4, _)] [0, 1, 2, 3, 4] rfl ?_
    exact kk _ _ _ hok.2.2 hc4
  · refine v_aload_n hG dL_law_2388 3 rfl ?_
    refine v_iconst hG dL_law_2389 ?_
    refine v_laload hG dL_law_2390 ?_
    rw [hok.2.1 h8]
    refine v_iload hG dL_law_2391 6 rfl ?_
    refine v_i2l hG dL_law_2393 ?_
    refine v_lcmp hG dL_law_2394 ?_
    rw [lcr_0.mpr rfl]
    refine v_if_eq hG 2400 (by decide) dL_law_2395 (by decide) (fun _ => ?_) (fun h7 => absurd rfl h7)
    refine v_goto hG 2572 dL_law_2400 (by decide) ?_
    refine v_sub hG [(0, _), (1, _), (2, _), (3, _), (4, _)] [0, 1, 2, 3, 4] rfl ?_
    exact kk _ _ _ hok.2.2 hc4

set_option maxHeartbeats 4000000 in
set_option maxRecDepth 100000 in
theorem law_41 {l : Launch} {D : va_G} {cA : Nat → ClassId} {r : Nat → Nat} {Γ : Cx} {b L : Nat} {xs : Nat → Int32} {z : Zt} {i : Int} {kc ks : Nat} (hr : Inj r) (hst : l.stackTraces = false) (hG : Cok l D cA r room_1 Γ cL_law RL wsL_law 7) (hW : LwR b L xs Γ) (hL : L ≤ 2560) (hR : Rel z) (hi : 0 ≤ i ∧ i + 5 ≤ (L : Int)) (hk : kc + 4 ≤ 627503 ∧ ks + 24 ≤ 7213595) (kk : ∀ (z1 : Zt) (kc1 ks1 : Nat), Rel z1 → kc1 ≤ kc + 4 ∧ ks1 ≤ ks + 24 → V Γ z1 kc1 ks1 [(0, .ref b), (1, .ref (r 0)), (2, .ref (r 169)), (3, .ref (r 176)), (4, .int (iN i))] 2572 []) : V Γ z kc ks [(0, .ref b), (1, .ref (r 0)), (2, .ref (r 169)), (3, .ref (r 176)), (4, .int (iN i))] 2403 [] := by
  have c0 : kc + 1 ≤ 627503 ∧ ks + 6 * 1 ≤ 7213595 := by omega
  have hc4 : kc + 1 ≤ kc + 4 ∧ ks + 6 * 1 ≤ ks + 24 := by omega
  refine v_aload_n hG dL_law_2403 1 rfl ?_
  refine v_aload_n hG dL_law_2404 3 rfl ?_
  refine w_callS (n := 2) hG hW (c_L_undo hr hst k_0 (PJ_PI hR.2.1) hR.2.2.1) gL_law_L_undo rfl (by decide +kernel) rfl ⟨Nat.le_of_ble_eq_true rfl, Nat.le_of_ble_eq_true rfl⟩ dL_law_2405 rfl (Nat.le_of_ble_eq_true rfl) c0 ?_
  intro k1 z1 hp1
  have hF : WF z1 := WF_mid hR (mid_undo hR hp1)
  have rk : 0 ≤ k1 ∧ k1 ≤ 3 := by
    rcases hp1 with ⟨h9, -⟩ | ⟨h9, -⟩
    · clear hF; omega
    · clear hF; omega
  refine v_istore hG [(0, _), (1, _), (2, _), (3, _), (4, _), (5, _)] dL_law_2408 (by decide) rfl ?_
  refine v_aload_n hG dL_law_2410 2 rfl ?_
  refine v_callVi (n := 0) (ci := 5) hG (c_X5_undo hr k_169 rfl hF.2.1) gL_law_X5_undo rfl (by decide +kernel) rfl ⟨Nat.le_of_ble_eq_true rfl, Nat.le_of_ble_eq_true rfl⟩ k_169 (by decide) (cl_6 _ _ _ _) rfl dL_law_2411 rfl (Nat.le_of_ble_eq_true rfl) c0 ?_
  intro v2 z2 hp2
  refine v_istore hG [(0, _), (1, _), (2, _), (3, _), (4, _), (5, _), (6, _)] dL_law_2414 (by decide) rfl ?_
  refine v_aload_n hG dL_law_2416 2 rfl ?_
  refine v_callVi (n := 0) (ci := 5) hG (c_X5_thrown hr k_169) gL_law_X5_thrown rfl (by decide +kernel) rfl ⟨Nat.le_of_ble_eq_true rfl, Nat.le_of_ble_eq_true rfl⟩ k_169 (by decide) (cl_6 _ _ _ _) rfl dL_law_2417 rfl (Nat.le_of_ble_eq_true rfl) c0 ?_
  intro k3 z3 hp3
  obtain ⟨rfl, e3⟩ := hp3
  have hok := ok_undo (k := k1) (v := v2) hR rfl hp1 hp2
  have e9 : k3 = k1 := e3.trans hok.1
  rw [e9]
  clear hp1 hp2 hF e3 e9
  refine v_iload hG dL_law_2420 5 rfl ?_
  refine w_icmp hG 2427 dL_law_2422 (by decide) ?_
  refine v_iload hG dL_law_2427 5 rfl ?_
  refine v_if_ne hG 2444 (by omega) dL_law_2429 (by decide) (fun h8 => ?_) (fun h8 => ?_)
  · refine v_goto hG 2572 dL_law_2444 (by decide) ?_
    refine v_sub hG [(0, _), (1, _), (2, _), (3, _), (4, _)] [0, 1, 2, 3, 4] rfl ?_
    exact kk _ _ _ hok.2.2 hc4
  · refine v_aload_n hG dL_law_2432 3 rfl ?_
    refine v_iconst hG dL_law_2433 ?_
    refine v_laload hG dL_law_2434 ?_
    rw [hok.2.1 h8]
    refine v_iload hG dL_law_2435 6 rfl ?_
    refine v_i2l hG dL_law_2437 ?_
    refine v_lcmp hG dL_law_2438 ?_
    rw [lcr_0.mpr rfl]
    refine v_if_eq hG 2444 (by decide) dL_law_2439 (by decide) (fun _ => ?_) (fun h7 => absurd rfl h7)
    refine v_goto hG 2572 dL_law_2444 (by decide) ?_
    refine v_sub hG [(0, _), (1, _), (2, _), (3, _), (4, _)] [0, 1, 2, 3, 4] rfl ?_
    exact kk _ _ _ hok.2.2 hc4

set_option maxHeartbeats 4000000 in
set_option maxRecDepth 100000 in
theorem law_42 {l : Launch} {D : va_G} {cA : Nat → ClassId} {r : Nat → Nat} {Γ : Cx} {b L : Nat} {xs : Nat → Int32} {z : Zt} {i : Int} {kc ks : Nat} (hr : Inj r) (hst : l.stackTraces = false) (hG : Cok l D cA r room_1 Γ cL_law RL wsL_law 7) (hW : LwR b L xs Γ) (hL : L ≤ 2560) (hR : Rel z) (hi : 0 ≤ i ∧ i + 5 ≤ (L : Int)) (hk : kc + 4 ≤ 627503 ∧ ks + 24 ≤ 7213595) (kk : ∀ (z1 : Zt) (kc1 ks1 : Nat), Rel z1 → kc1 ≤ kc + 4 ∧ ks1 ≤ ks + 24 → V Γ z1 kc1 ks1 [(0, .ref b), (1, .ref (r 0)), (2, .ref (r 169)), (3, .ref (r 176)), (4, .int (iN i))] 2572 []) : V Γ z kc ks [(0, .ref b), (1, .ref (r 0)), (2, .ref (r 169)), (3, .ref (r 176)), (4, .int (iN i))] 2447 [] := by
  have c1 : kc ≤ 627503 ∧ ks ≤ 7213595 := by omega
  refine v_aload_n hG dL_law_2447 1 rfl ?_
  refine v_callVi (n := 0) (ci := 4) hG (c_X4_undoCount hr k_0) gL_law_X4_undoCount rfl (by decide +kernel) rfl ⟨Nat.le_of_ble_eq_true rfl, Nat.le_of_ble_eq_true rfl⟩ k_0 (by decide) (cl_1 _ _ _ _) rfl dL_law_2448 rfl (Nat.le_of_ble_eq_true rfl) c1 ?_
  intro k1 z1 hp1
  refine v_aload_n hG dL_law_2451 2 rfl ?_
  refine v_callVi (n := 0) (ci := 5) hG (c_X5_undoCount hr k_169 rfl) gL_law_X5_undoCount rfl (by decide +kernel) rfl ⟨Nat.le_of_ble_eq_true rfl, Nat.le_of_ble_eq_true rfl⟩ k_169 (by decide) (cl_6 _ _ _ _) rfl dL_law_2452 rfl (Nat.le_of_ble_eq_true rfl) c1 ?_
  intro v2 z2 hp2
  have hok := ok_undoCount (x := k1) (v := v2) hR rfl hp1 hp2
  rw [← hok.1]
  refine w_icmp hG 2572 dL_law_2455 (by decide) ?_
  exact kk _ _ _ hok.2 ⟨Nat.le_add_right _ _, Nat.le_add_right _ _⟩

set_option maxHeartbeats 4000000 in
set_option maxRecDepth 100000 in
theorem law_43 {l : Launch} {D : va_G} {cA : Nat → ClassId} {r : Nat → Nat} {Γ : Cx} {b L : Nat} {xs : Nat → Int32} {z : Zt} {i : Int} {kc ks : Nat} (hr : Inj r) (hst : l.stackTraces = false) (hG : Cok l D cA r room_1 Γ cL_law RL wsL_law 7) (hW : LwR b L xs Γ) (hL : L ≤ 2560) (hR : Rel z) (hi : 0 ≤ i ∧ i + 5 ≤ (L : Int)) (hk : kc + 4 ≤ 627503 ∧ ks + 24 ≤ 7213595) (kk : ∀ (z1 : Zt) (kc1 ks1 : Nat), Rel z1 → kc1 ≤ kc + 4 ∧ ks1 ≤ ks + 24 → V Γ z1 kc1 ks1 [(0, .ref b), (1, .ref (r 0)), (2, .ref (r 169)), (3, .ref (r 176)), (4, .int (iN i))] 2572 []) : V Γ z kc ks [(0, .ref b), (1, .ref (r 0)), (2, .ref (r 169)), (3, .ref (r 176)), (4, .int (iN i))] 2460 [] := by
  have b1 : 0 ≤ i + 1 ∧ i + 1 < (L : Int) := by omega
  have c0 : kc + 1 ≤ 627503 ∧ ks + 6 * 1 ≤ 7213595 := by omega
  have hc4 : kc + 1 ≤ kc + 4 ∧ ks + 6 * 1 ≤ ks + 24 := by omega
  refine v_aload_n hG dL_law_2460 1 rfl ?_
  refine v_aload_n hG dL_law_2461 0 rfl ?_
  refine v_iload hG dL_law_2462 4 rfl ?_
  refine v_iconst hG dL_law_2464 ?_
  refine v_iadd hG dL_law_2465 ?_
  refine w_sld hG hW hL b1 dL_law_2466 ?_
  refine v_aload_n hG dL_law_2467 3 rfl ?_
  refine w_callS (n := 3) hG hW (c_L_saveState hr hst k_0 hR.2.2.1 (Rel_LI hR) (sv_rg xs (i + 1))) gL_law_L_saveState rfl (by decide +kernel) rfl ⟨Nat.le_of_ble_eq_true rfl, Nat.le_of_ble_eq_true rfl⟩ dL_law_2468 rfl (Nat.le_of_ble_eq_true rfl) c0 ?_
  intro k1 z1 hp1
  have hF : WF z1 := WF_mid hR (mid_saveState hR hp1)
  have rk : 0 ≤ k1 ∧ k1 ≤ 3 := by
    rcases hp1 with ⟨h9, -⟩ | ⟨h9, -⟩
    · clear hF; omega
    · clear hF; omega
  refine v_istore hG [(0, _), (1, _), (2, _), (3, _), (4, _), (5, _)] dL_law_2471 (by decide) rfl ?_
  refine v_aload_n hG dL_law_2473 2 rfl ?_
  refine v_aload_n hG dL_law_2474 0 rfl ?_
  refine v_iload hG dL_law_2475 4 rfl ?_
  refine v_iconst hG dL_law_2477 ?_
  refine v_iadd hG dL_law_2478 ?_
  refine w_sld hG hW hL b1 dL_law_2479 ?_
  refine v_callVi (n := 1) (ci := 5) hG (c_X5_saveState hr k_169 rfl (sv_rg xs (i + 1))) gL_law_X5_saveState rfl (by decide +kernel) rfl ⟨Nat.le_of_ble_eq_true rfl, Nat.le_of_ble_eq_true rfl⟩ k_169 (by decide) (cl_6 _ _ _ _) rfl dL_law_2480 rfl (Nat.le_of_ble_eq_true rfl) c0 ?_
  intro v2 z2 hp2
  refine v_istore hG [(0, _), (1, _), (2, _), (3, _), (4, _), (5, _), (6, _)] dL_law_2483 (by decide) rfl ?_
  refine v_aload_n hG dL_law_2485 2 rfl ?_
  refine v_callVi (n := 0) (ci := 5) hG (c_X5_thrown hr k_169) gL_law_X5_thrown rfl (by decide +kernel) rfl ⟨Nat.le_of_ble_eq_true rfl, Nat.le_of_ble_eq_true rfl⟩ k_169 (by decide) (cl_6 _ _ _ _) rfl dL_law_2486 rfl (Nat.le_of_ble_eq_true rfl) c0 ?_
  intro k3 z3 hp3
  obtain ⟨rfl, e3⟩ := hp3
  have hok := ok_saveState (k := k1) (v := v2) hR rfl hp1 hp2
  have e9 : k3 = k1 := e3.trans hok.1
  rw [e9]
  clear hp1 hp2 hF e3 e9
  refine v_iload hG dL_law_2489 5 rfl ?_
  refine w_icmp hG 2496 dL_law_2491 (by decide) ?_
  refine v_iload hG dL_law_2496 5 rfl ?_
  refine v_if_ne hG 2513 (by omega) dL_law_2498 (by decide) (fun h8 => ?_) (fun h8 => ?_)
  · refine v_goto hG 2572 dL_law_2513 (by decide) ?_
    refine v_sub hG [(0, _), (1, _), (2, _), (3, _), (4, _)] [0, 1, 2, 3, 4] rfl ?_
    exact kk _ _ _ hok.2.2 hc4
  · refine v_aload_n hG dL_law_2501 3 rfl ?_
    refine v_iconst hG dL_law_2502 ?_
    refine v_laload hG dL_law_2503 ?_
    rw [hok.2.1 h8]
    refine v_iload hG dL_law_2504 6 rfl ?_
    refine v_i2l hG dL_law_2506 ?_
    refine v_lcmp hG dL_law_2507 ?_
    rw [lcr_0.mpr rfl]
    refine v_if_eq hG 2513 (by decide) dL_law_2508 (by decide) (fun _ => ?_) (fun h7 => absurd rfl h7)
    refine v_goto hG 2572 dL_law_2513 (by decide) ?_
    refine v_sub hG [(0, _), (1, _), (2, _), (3, _), (4, _)] [0, 1, 2, 3, 4] rfl ?_
    exact kk _ _ _ hok.2.2 hc4

set_option maxHeartbeats 4000000 in
set_option maxRecDepth 100000 in
theorem law_44 {l : Launch} {D : va_G} {cA : Nat → ClassId} {r : Nat → Nat} {Γ : Cx} {b L : Nat} {xs : Nat → Int32} {z : Zt} {i : Int} {kc ks : Nat} (hr : Inj r) (hst : l.stackTraces = false) (hG : Cok l D cA r room_1 Γ cL_law RL wsL_law 7) (hW : LwR b L xs Γ) (hL : L ≤ 2560) (hR : Rel z) (hi : 0 ≤ i ∧ i + 5 ≤ (L : Int)) (hk : kc + 4 ≤ 627503 ∧ ks + 24 ≤ 7213595) (kk : ∀ (z1 : Zt) (kc1 ks1 : Nat), Rel z1 → kc1 ≤ kc + 4 ∧ ks1 ≤ ks + 24 → V Γ z1 kc1 ks1 [(0, .ref b), (1, .ref (r 0)), (2, .ref (r 169)), (3, .ref (r 176)), (4, .int (iN i))] 2572 []) : V Γ z kc ks [(0, .ref b), (1, .ref (r 0)), (2, .ref (r 169)), (3, .ref (r 176)), (4, .int (iN i))] 2516 [] := by
  have b1 : 0 ≤ i + 1 ∧ i + 1 < (L : Int) := by omega
  have c0 : kc + 2 ≤ 627503 ∧ ks + 6 * 2 ≤ 7213595 := by omega
  have hc4 : kc + 2 ≤ kc + 4 ∧ ks + 6 * 2 ≤ ks + 24 := by omega
  refine v_aload_n hG dL_law_2516 1 rfl ?_
  refine v_aload_n hG dL_law_2517 0 rfl ?_
  refine v_iload hG dL_law_2518 4 rfl ?_
  refine v_iconst hG dL_law_2520 ?_
  refine v_iadd hG dL_law_2521 ?_
  refine w_sld hG hW hL b1 dL_law_2522 ?_
  refine v_aload_n hG dL_law_2523 3 rfl ?_
  refine w_callS (n := 3) hG hW (c_L_loadState hr hst k_0 (PJ_PI hR.2.1) hR.2.2.1 (Rel_LI hR) (Rel_B hR) (sv_rg xs (i + 1))) gL_law_L_loadState rfl (by decide +kernel) rfl ⟨Nat.le_of_ble_eq_true rfl, Nat.le_of_ble_eq_true rfl⟩ dL_law_2524 rfl (Nat.le_of_ble_eq_true rfl) c0 ?_
  intro k1 z1 hp1
  have hF : WF z1 := WF_mid hR (mid_loadState hR hp1)
  have rk : 0 ≤ k1 ∧ k1 ≤ 3 := by
    rcases hp1 with ⟨h9, -⟩ | ⟨h9, -⟩ | ⟨h9, -⟩
    · clear hF; omega
    · clear hF; omega
    · clear hF; omega
  refine v_istore hG [(0, _), (1, _), (2, _), (3, _), (4, _), (5, _)] dL_law_2527 (by decide) rfl ?_
  refine v_aload_n hG dL_law_2529 2 rfl ?_
  refine v_aload_n hG dL_law_2530 0 rfl ?_
  refine v_iload hG dL_law_2531 4 rfl ?_
  refine v_iconst hG dL_law_2533 ?_
  refine v_iadd hG dL_law_2534 ?_
  refine w_sld hG hW hL b1 dL_law_2535 ?_
  refine v_callVi (n := 1) (ci := 5) hG (c_X5_loadState hr k_169 rfl hF.2.1 hF.2.2.2 (sv_rg xs (i + 1))) gL_law_X5_loadState rfl (by decide +kernel) rfl ⟨Nat.le_of_ble_eq_true rfl, Nat.le_of_ble_eq_true rfl⟩ k_169 (by decide) (cl_6 _ _ _ _) rfl dL_law_2536 rfl (Nat.le_of_ble_eq_true rfl) c0 ?_
  intro v2 z2 hp2
  refine v_istore hG [(0, _), (1, _), (2, _), (3, _), (4, _), (5, _), (6, _)] dL_law_2539 (by decide) rfl ?_
  refine v_aload_n hG dL_law_2541 2 rfl ?_
  refine v_callVi (n := 0) (ci := 5) hG (c_X5_thrown hr k_169) gL_law_X5_thrown rfl (by decide +kernel) rfl ⟨Nat.le_of_ble_eq_true rfl, Nat.le_of_ble_eq_true rfl⟩ k_169 (by decide) (cl_6 _ _ _ _) rfl dL_law_2542 rfl (Nat.le_of_ble_eq_true rfl) c0 ?_
  intro k3 z3 hp3
  obtain ⟨rfl, e3⟩ := hp3
  have hok := ok_loadState (k := k1) (v := v2) hR rfl hp1 hp2
  have e9 : k3 = k1 := e3.trans hok.1
  rw [e9]
  clear hp1 hp2 hF e3 e9
  refine v_iload hG dL_law_2545 5 rfl ?_
  refine w_icmp hG 2552 dL_law_2547 (by decide) ?_
  refine v_iload hG dL_law_2552 5 rfl ?_
  refine v_if_ne hG 2569 (by omega) dL_law_2554 (by decide) (fun h8 => ?_) (fun h8 => ?_)
  · refine v_goto hG 2572 dL_law_2569 (by decide) ?_
    refine v_sub hG [(0, _), (1, _), (2, _), (3, _), (4, _)] [0, 1, 2, 3, 4] rfl ?_
    exact kk _ _ _ hok.2.2 hc4
  · refine v_aload_n hG dL_law_2557 3 rfl ?_
    refine v_iconst hG dL_law_2558 ?_
    refine v_laload hG dL_law_2559 ?_
    rw [hok.2.1 h8]
    refine v_iload hG dL_law_2560 6 rfl ?_
    refine v_i2l hG dL_law_2562 ?_
    refine v_lcmp hG dL_law_2563 ?_
    rw [lcr_0.mpr rfl]
    refine v_if_eq hG 2569 (by decide) dL_law_2564 (by decide) (fun _ => ?_) (fun h7 => absurd rfl h7)
    refine v_goto hG 2572 dL_law_2569 (by decide) ?_
    refine v_sub hG [(0, _), (1, _), (2, _), (3, _), (4, _)] [0, 1, 2, 3, 4] rfl ?_
    exact kk _ _ _ hok.2.2 hc4
