theorem inlJ249 : Cond.constantLong RL 249 4294967295 ∈ wsL_law := List.mem_append_left _ (List.mem_append_left _ (List.mem_append_left _ (by decide +kernel)))
set_option maxHeartbeats 4000000 in
set_option maxRecDepth 100000 in
theorem law_34 {l : Launch} {D : va_G} {cA : Nat → ClassId} {r : Nat → Nat} {Γ : Cx} {b L : Nat} {xs : Nat → Int32} {z : Zt} {i : Int} {kc ks : Nat} (hr : Inj r) (hst : l.stackTraces = false) (hG : Cok l D cA r room_1 Γ cL_law RL wsL_law 7) (hW : LwR b L xs Γ) (hL : L ≤ 2560) (hR : Rel z) (hi : 0 ≤ i ∧ i + 5 ≤ (L : Int)) (hk : kc + 4 ≤ 627503 ∧ ks + 24 ≤ 7213595) (kk : ∀ (z1 : Zt) (kc1 ks1 : Nat), Rel z1 → kc1 ≤ kc + 4 ∧ ks1 ≤ ks + 24 → V Γ z1 kc1 ks1 [(0, .ref b), (1, .ref (r 0)), (2, .ref (r 169)), (3, .ref (r 176)), (4, .int (iN i))] 2572 []) : V Γ z kc ks [(0, .ref b), (1, .ref (r 0)), (2, .ref (r 169)), (3, .ref (r 176)), (4, .int (iN i))] 2108 [] := by
  have b1 : 0 ≤ i + 1 ∧ i + 1 < (L : Int) := by omega
  have b2 : 0 ≤ i + 2 ∧ i + 2 < (L : Int) := by omega
  have c0 : kc + 1 ≤ 627503 ∧ ks + 6 * 1 ≤ 7213595 := by omega
  have hc4 : kc + 1 ≤ kc + 4 ∧ ks + 6 * 1 ≤ ks + 24 := by omega
  refine v_aload_n hG dL_law_2108 1 rfl ?_
  refine v_aload_n hG dL_law_2109 0 rfl ?_
  refine v_iload hG dL_law_2110 4 rfl ?_
  refine v_iconst hG dL_law_2112 ?_
  refine v_iadd hG dL_law_2113 ?_
  refine w_sld hG hW hL b1 dL_law_2114 ?_
  refine v_i2l hG dL_law_2115 ?_
  refine v_bipush hG dL_law_2116 (by decide) ?_
  refine w_lshl hG dL_law_2118 ?_
  refine v_aload_n hG dL_law_2119 0 rfl ?_
  refine v_iload hG dL_law_2120 4 rfl ?_
  refine v_iconst hG dL_law_2122 ?_
  refine v_iadd hG dL_law_2123 ?_
  refine w_sld hG hW hL b2 dL_law_2124 ?_
  refine v_i2l hG dL_law_2125 ?_
  refine v_ldc2 (v := 4294967295) hG inlJ249 dL_law_2126 ?_
  refine w_land hG dL_law_2129 ?_
  refine w_lor hG dL_law_2130 ?_
  refine w_long (fun u hu eu => ?_)
  refine v_aload_n hG dL_law_2131 3 rfl ?_
  refine w_callS (n := 3) hG hW (c_L_appendText hr hst k_0 hu hR.2.2.2.2.2.2.2.1) gL_law_L_appendText rfl (by decide +kernel) rfl ⟨Nat.le_of_ble_eq_true rfl, Nat.le_of_ble_eq_true rfl⟩ dL_law_2132 rfl (Nat.le_of_ble_eq_true rfl) c0 ?_
  intro k1 z1 hp1
  have hF : WF z1 := WF_mid hR (mid_appendText hR hp1)
  have rk : 0 ≤ k1 ∧ k1 ≤ 3 := by
    rcases hp1 with ⟨h9, -⟩ | ⟨h9, -⟩ | ⟨h9, -⟩
    · clear hF; omega
    · clear hF; omega
    · clear hF; omega
  refine v_istore hG [(0, _), (1, _), (2, _), (3, _), (4, _), (5, _)] dL_law_2135 (by decide) rfl ?_
  refine v_aload_n hG dL_law_2137 2 rfl ?_
  refine v_aload_n hG dL_law_2138 0 rfl ?_
  refine v_iload hG dL_law_2139 4 rfl ?_
  refine v_iconst hG dL_law_2141 ?_
  refine v_iadd hG dL_law_2142 ?_
  refine w_sld hG hW hL b1 dL_law_2143 ?_
  refine v_i2l hG dL_law_2144 ?_
  refine v_bipush hG dL_law_2145 (by decide) ?_
  refine w_lshl hG dL_law_2147 ?_
  refine v_aload_n hG dL_law_2148 0 rfl ?_
  refine v_iload hG dL_law_2149 4 rfl ?_
  refine v_iconst hG dL_law_2151 ?_
  refine v_iadd hG dL_law_2152 ?_
  refine w_sld hG hW hL b2 dL_law_2153 ?_
  refine v_i2l hG dL_law_2154 ?_
  refine v_ldc2 (v := 4294967295) hG inlJ249 dL_law_2155 ?_
  refine w_land hG dL_law_2158 ?_
  refine w_lor hG dL_law_2159 ?_
  refine v_eql hG eu ?_
  refine v_callVi (n := 1) (ci := 5) hG (c_X5_appendText hr k_169 rfl hF.2.2.1 hu) gL_law_X5_appendText rfl (by decide +kernel) rfl ⟨Nat.le_of_ble_eq_true rfl, Nat.le_of_ble_eq_true rfl⟩ k_169 (by decide) (cl_6 _ _ _ _) rfl dL_law_2160 rfl (Nat.le_of_ble_eq_true rfl) c0 ?_
  intro v2 z2 hp2
  refine v_istore hG [(0, _), (1, _), (2, _), (3, _), (4, _), (5, _), (6, _)] dL_law_2163 (by decide) rfl ?_
  refine v_aload_n hG dL_law_2165 2 rfl ?_
  refine v_callVi (n := 0) (ci := 5) hG (c_X5_thrown hr k_169) gL_law_X5_thrown rfl (by decide +kernel) rfl ⟨Nat.le_of_ble_eq_true rfl, Nat.le_of_ble_eq_true rfl⟩ k_169 (by decide) (cl_6 _ _ _ _) rfl dL_law_2166 rfl (Nat.le_of_ble_eq_true rfl) c0 ?_
  intro k3 z3 hp3
  obtain ⟨rfl, e3⟩ := hp3
  have hok := ok_appendText (k := k1) (v := v2) hR rfl hp1 hp2
  have e9 : k3 = k1 := e3.trans hok.1
  rw [e9]
  clear hp1 hp2 hF e3 e9
  refine v_iload hG dL_law_2169 5 rfl ?_
  refine w_icmp hG 2176 dL_law_2171 (by decide) ?_
  refine v_iload hG dL_law_2176 5 rfl ?_
  refine v_if_ne hG 2193 (by omega) dL_law_2178 (by decide) (fun h8 => ?_) (fun h8 => ?_)
  · refine v_goto hG 2572 dL_law_2193 (by decide) ?_
    refine v_sub hG [(0, _), (1, _), (2, _), (3, _), (4, _)] [0, 1, 2, 3, 4] rfl ?_
    exact kk _ _ _ hok.2.2 hc4
  · refine v_aload_n hG dL_law_2181 3 rfl ?_
    refine v_iconst hG dL_law_2182 ?_
    refine v_laload hG dL_law_2183 ?_
    rw [hok.2.1 h8]
    refine v_iload hG dL_law_2184 6 rfl ?_
    refine v_i2l hG dL_law_2186 ?_
    refine v_lcmp hG dL_law_2187 ?_
    rw [lcr_0.mpr rfl]
    refine v_if_eq hG 2193 (by decide) dL_law_2188 (by decide) (fun _ => ?_) (fun h7 => absurd rfl h7)
    refine v_goto hG 2572 dL_law_2193 (by decide) ?_
    refine v_sub hG [(0, _), (1, _), (2, _), (3, _), (4, _)] [0, 1, 2, 3, 4] rfl ?_
    exact kk _ _ _ hok.2.2 hc4
