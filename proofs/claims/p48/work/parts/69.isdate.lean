set_option maxHeartbeats 4000000 in
set_option maxRecDepth 100000 in
theorem c_L_isDate {l : Launch} {D : va_G} {cA : Nat → ClassId} {r : Nat → Nat} {z : Zt} {t d : Int} (hr : Inj r) (hRl : Rel z) (ht : t = 0 ∨ t = 1) (hd : 0 ≤ d ∧ d ≤ 20000) : Ki l D cA r yL_isDate wsL_isDate 5 112 z [.ref (r 0), .ref (r 169), .int (iN t), .int (iN d)] (fun v z1 => agQ z z1 ∧ v = 1) := by
  obtain ⟨hB, hP, hA, hbd⟩ := id hRl
  have hM := RB_MI hB
  obtain ⟨hG1, h14, hFe, h55, h56, h57⟩ := id hM
  obtain ⟨hS, hT, ⟨n1, n2, n3, n4, n5, n6⟩, hFf⟩ := id hB
  obtain ⟨c1, c2, c3, c4⟩ := id hbd
  have eC : ∀ x, calT z (tid t) x = calM (rho z) t x := fun x => (RB_cal hB ht x).1
  have eF : ∀ x, fdT z (tid t) x = fdM (rho z) t x := fun x => (RB_cal hB ht x).2
  have eA : z (tid t) 0 = 1 - t := RB_A hB ht
  have hcb := calM_bd hG1 ht d
  have hyl := yl_bd (1 - t)
  have hyr := yr_bd (a := 1 - t) (c := calM (rho z) t d) (by omega) (by omega)
  refine Ki_of [(0, _), (1, _), (2, _), (3, _)] hr (by decide) rfl rfl (Nat.le_of_ble_eq_true rfl) rfl (fun Γ hG hR => ?_)
  refine v_aload_n hG dL_isDate_0 1 rfl ?_
  refine v_iload_n hG dL_isDate_1 2 rfl ?_
  refine v_iload_n hG dL_isDate_2 3 rfl ?_
  refine v_callSi (n := 3) hG (c_L_date hr ht hG1 (by omega)) gL_isDate_L_date rfl (by decide +kernel) rfl (by decide) dL_isDate_3 rfl (Nat.le_of_ble_eq_true rfl) (by decide) ?_
  intro v3 z3 hp3
  obtain ⟨rfl, hx3⟩ := hp3
  obtain ⟨m, q, i1, i2, i3, i4, i5, i6, i7, i8, i9, i10, i11, i12⟩ := dtV_is hx3 (by omega)
  have hown := dwM_own hG1 ht hd.1 i1
  rw [← i2, ← i7] at hown
  have hmlb := mlen_bd (1 - t) (v3 / 100 % 100)
  refine v_istore hG [(0, _), (1, _), (2, _), (3, _), (4, _)] dL_isDate_6 (by decide) rfl ?_
  refine v_iload hG dL_isDate_8 4 rfl ?_
  refine v_sipush hG dL_isDate_10 (by decide) ?_
  refine v_idiv hG (by omega) (by omega) dL_isDate_13 ?_
  refine v_istore hG [(0, _), (1, _), (2, _), (3, _), (4, _), (5, _)] dL_isDate_14 (by decide) rfl ?_
  refine v_iload hG dL_isDate_16 4 rfl ?_
  refine v_bipush hG dL_isDate_18 (by decide) ?_
  refine v_idiv hG (by omega) (by omega) dL_isDate_20 ?_
  refine v_bipush hG dL_isDate_21 (by decide) ?_
  refine v_irem hG (by omega) (by omega) dL_isDate_23 ?_
  refine v_istore hG [(0, _), (1, _), (2, _), (3, _), (4, _), (5, _), (6, _)] dL_isDate_24 (by decide) rfl ?_
  refine v_aload_n hG dL_isDate_26 0 rfl ?_
  refine v_iload_n hG dL_isDate_27 2 rfl ?_
  refine v_iload_n hG dL_isDate_28 3 rfl ?_
  refine v_callVi (n := 2) (ci := 4) hG (c_X4_dayOfMonth hr k_0 hS (by omega) (by omega) (by omega)) gL_isDate_X4_dayOfMonth rfl (by decide +kernel) rfl (by decide) k_0 (by decide) (cl_1 _ _ _ _) rfl dL_isDate_29 rfl (Nat.le_of_ble_eq_true rfl) (by decide) ?_
  intro v29 z29 hp29
  obtain ⟨rfl, hb29, hc29, mm29, hm29, rfl⟩ := hp29
  rw [eA, eC] at hm29
  have e29 := isMon_one hm29 i1
  rw [eA, eC, e29, ← i2]
  refine v_iload hG dL_isDate_32 4 rfl ?_
  refine v_bipush hG dL_isDate_34 (by decide) ?_
  refine v_irem hG (by omega) (by omega) dL_isDate_36 ?_
  refine v_icmp_ne hG 119 (by omega) (by omega) dL_isDate_37 (by decide) (fun h37 => ?_) (fun h37 => ?_)
  · exfalso; omega
  · refine v_aload_n hG dL_isDate_40 0 rfl ?_
    refine v_iload_n hG dL_isDate_41 2 rfl ?_
    refine v_iload_n hG dL_isDate_42 3 rfl ?_
    refine v_callVi (n := 2) (ci := 4) hG (c_X4_monthOf hr k_0 hS (by omega) (by omega) (by omega)) gL_isDate_X4_monthOf rfl (by decide +kernel) rfl (by decide) k_0 (by decide) (cl_1 _ _ _ _) rfl dL_isDate_43 rfl (Nat.le_of_ble_eq_true rfl) (by decide) ?_
    intro v43 z43 hp43
    obtain ⟨rfl, hb43, hc43, hm43⟩ := hp43
    rw [eA, eC] at hm43
    have e43 := isMon_one hm43 i1
    refine v_iload hG dL_isDate_46 6 rfl ?_
    refine v_icmp_ne hG 119 (by omega) (by omega) dL_isDate_48 (by decide) (fun h48 => ?_) (fun h48 => ?_)
    · exfalso; omega
    · refine v_aload_n hG dL_isDate_51 0 rfl ?_
      refine v_iload_n hG dL_isDate_52 2 rfl ?_
      refine v_iload_n hG dL_isDate_53 3 rfl ?_
      refine v_callVi (n := 2) (ci := 4) hG (c_X4_yearOf hr k_0 hS (by omega) (by omega) (by omega)) gL_isDate_X4_yearOf rfl (by decide +kernel) rfl (by decide) k_0 (by decide) (cl_1 _ _ _ _) rfl dL_isDate_54 rfl (Nat.le_of_ble_eq_true rfl) (by decide) ?_
      intro v54 z54 hp54
      obtain ⟨rfl, hb54, hc54, rfl⟩ := hp54
      rw [eA, eC]
      refine v_iload hG dL_isDate_57 5 rfl ?_
      refine v_icmp_ne hG 119 (by omega) (by omega) dL_isDate_59 (by decide) (fun h59 => ?_) (fun h59 => ?_)
      · exfalso; omega
      · refine v_aload_n hG dL_isDate_62 0 rfl ?_
        refine v_iload_n hG dL_isDate_63 3 rfl ?_
        refine v_callVi (n := 1) (ci := 4) hG (c_X4_weekday hr k_0 (by omega) (by omega)) gL_isDate_X4_weekday rfl (by decide +kernel) rfl (by decide) k_0 (by decide) (cl_1 _ _ _ _) rfl dL_isDate_64 rfl (Nat.le_of_ble_eq_true rfl) (by decide) ?_
        intro v64 z64 hp64
        obtain ⟨rfl, hb64, rfl⟩ := hp64
        refine v_iload_n hG dL_isDate_67 3 rfl ?_
        refine v_bipush hG dL_isDate_68 (by decide) ?_
        refine v_irem hG (by omega) (by omega) dL_isDate_70 ?_
        refine v_icmp_ne hG 119 (by omega) (by omega) dL_isDate_71 (by decide) (fun h71 => ?_) (fun h71 => ?_)
        · exfalso; omega
        · refine v_aload_n hG dL_isDate_74 0 rfl ?_
          refine v_iload_n hG dL_isDate_75 2 rfl ?_
          refine v_iload hG dL_isDate_76 6 rfl ?_
          refine v_callVi (n := 2) (ci := 4) hG (c_X4_monthLength hr k_0 hS (by omega) (by omega) (by omega)) gL_isDate_X4_monthLength rfl (by decide +kernel) rfl (by decide) k_0 (by decide) (cl_1 _ _ _ _) rfl dL_isDate_78 rfl (Nat.le_of_ble_eq_true rfl) (by decide) ?_
          intro v78 z78 hp78
          obtain ⟨rfl, hb78, hc78, rfl⟩ := hp78
          rw [eA]
          refine v_iload_n hG dL_isDate_81 2 rfl ?_
          refine v_iload hG dL_isDate_82 6 rfl ?_
          refine v_callSi (n := 2) hG (c_L_length hr ht (by omega)) gL_isDate_L_length rfl (by decide +kernel) rfl (by decide) dL_isDate_84 rfl (Nat.le_of_ble_eq_true rfl) (by decide) ?_
          intro v84 z84 hp84
          obtain ⟨rfl, rfl⟩ := hp84
          refine v_icmp_ne hG 119 (by omega) (by omega) dL_isDate_87 (by decide) (fun h87 => ?_) (fun h87 => ?_)
          · exact absurd rfl h87
          · refine v_iload hG dL_isDate_90 5 rfl ?_
            refine v_bipush hG dL_isDate_92 (by decide) ?_
            refine v_icmp_gt hG 115 (by omega) (by omega) dL_isDate_94 (by decide) (fun h94 => ?_) (fun h94 => ?_)
            · exfalso; omega
            · refine v_aload_n hG dL_isDate_97 0 rfl ?_
              refine v_iload_n hG dL_isDate_98 2 rfl ?_
              refine v_iload hG dL_isDate_99 5 rfl ?_
              refine v_iload hG dL_isDate_101 6 rfl ?_
              refine v_iload hG dL_isDate_103 4 rfl ?_
              refine v_bipush hG dL_isDate_105 (by decide) ?_
              refine v_irem hG (by omega) (by omega) dL_isDate_107 ?_
              refine v_callVi (n := 4) (ci := 4) hG (c_X4_dayOfDate hr k_0 hS (by omega) (by omega) (by omega) (by omega) (by omega)) gL_isDate_X4_dayOfDate rfl (by decide +kernel) rfl (by decide) k_0 (by decide) (cl_1 _ _ _ _) rfl dL_isDate_108 rfl (Nat.le_of_ble_eq_true rfl) (by decide) ?_
              intro v108 z108 hp108
              obtain ⟨rfl, hb108, hc108, hv108⟩ := hp108
              have e108 : v108 = d := by
                rw [hv108, eA, eF, eC]
                have h9 := hown
                rw [← i9, ← i10] at h9
                exact h9
              refine v_iload_n hG dL_isDate_111 3 rfl ?_
              refine v_icmp_ne hG 119 (by omega) (by omega) dL_isDate_112 (by decide) (fun h112 => ?_) (fun h112 => ?_)
              · exfalso; omega
              · refine v_iconst hG dL_isDate_115 ?_
                refine v_goto hG 120 dL_isDate_116 (by decide) ?_
                refine v_istore hG [(0, _), (1, _), (2, _), (3, _), (4, _), (5, _), (6, _), (7, _)] dL_isDate_120 (by decide) rfl ?_
                refine v_bipush hG dL_isDate_122 (by decide) ?_
                refine v_iconst hG dL_isDate_124 ?_
                refine v_iload_n hG dL_isDate_125 3 rfl ?_
                refine v_bipush hG dL_isDate_126 (by decide) ?_
                refine v_irem hG (by omega) (by omega) dL_isDate_128 ?_
                refine v_iadd hG dL_isDate_129 ?_
                refine v_imul hG dL_isDate_130 ?_
                refine v_iconst hG dL_isDate_131 ?_
                refine v_iadd hG dL_isDate_132 ?_
                refine v_iload_n hG dL_isDate_133 3 rfl ?_
                refine v_bipush hG dL_isDate_134 (by decide) ?_
                refine v_idiv hG (by omega) (by omega) dL_isDate_136 ?_
                refine v_bipush hG dL_isDate_137 (by decide) ?_
                refine v_irem hG (by omega) (by omega) dL_isDate_139 ?_
                refine v_iadd hG dL_isDate_140 ?_
                refine v_istore hG [(0, _), (1, _), (2, _), (3, _), (4, _), (5, _), (6, _), (7, _), (8, _)] dL_isDate_141 (by decide) rfl ?_
                refine v_iconst hG dL_isDate_143 ?_
                refine v_istore hG [(0, _), (1, _), (2, _), (3, _), (4, _), (5, _), (6, _), (7, _), (8, _), (9, _)] dL_isDate_144 (by decide) rfl ?_
                have L162 : ∀ (lo T : Int), (T = 100 * (1 + d % 12) + 1 + d / 12 % 31 ∧ 0 ≤ lo ∧ lo ≤ d ∧ (lo = 0 ∨ lo = d - 400)) → V Γ z 0 0 [(0, .ref (r 0)), (1, .ref (r 169)), (2, .int (iN t)), (3, .int (iN d)), (4, .int (iN v3)), (5, .int (iN (v3 / 10000))), (6, .int (iN (v3 / 100 % 100))), (7, .int (iN 1)), (8, .int (iN T)), (9, .int (iN (-1)))] 162 [.int (iN lo)] := by
                  intro lo T hI
                  obtain ⟨hT9, l0, l1, l2⟩ := hI
                  have hTb := other_bd hd.1 hT9
                  clear hT9
                  refine v_istore hG [(0, _), (1, _), (2, _), (3, _), (4, _), (5, _), (6, _), (7, _), (8, _), (9, _), (10, _)] dL_isDate_162 (by decide) rfl ?_
                  have L164 : ∀ (n : Nat), ∀ (x9 x10 : Int), (lo ≤ x10 ∧ x10 ≤ d + 400 ∧ ((x9 = -1 ∧ ∀ u, lo ≤ u → u < x10 → ¬ dtV (1 - t) (calM (rho z) t u) (10000 * (v3 / 10000) + T)) ∨ (lo ≤ x9 ∧ x9 < x10 ∧ dtV (1 - t) (calM (rho z) t x9) (10000 * (v3 / 10000) + T)))) → (d + 400 - x10 + 1).toNat ≤ n → V Γ z 0 0 [(0, .ref (r 0)), (1, .ref (r 169)), (2, .int (iN t)), (3, .int (iN d)), (4, .int (iN v3)), (5, .int (iN (v3 / 10000))), (6, .int (iN (v3 / 100 % 100))), (7, .int (iN 1)), (8, .int (iN T)), (9, .int (iN x9)), (10, .int (iN x10))] 164 [] := by
                    intro n
                    induction n with
                    | zero =>
                      intro x9 x10 hI hm
                      obtain ⟨k1, k2, k3⟩ := hI
                      exact absurd hm (by omega)
                    | succ n ih164 =>
                      intro x9 x10 hI hm
                      obtain ⟨k1, k2, k3⟩ := hI
                      have k9 : -1 ≤ x9 ∧ x9 ≤ d + 400 := by rcases k3 with ⟨a9, -⟩ | ⟨a9, b9, -⟩ <;> omega
                      refine v_iload hG dL_isDate_164 10 rfl ?_
                      refine v_iload_n hG dL_isDate_166 3 rfl ?_
                      refine v_sipush hG dL_isDate_167 (by decide) ?_
                      refine v_iadd hG dL_isDate_170 ?_
                      refine v_icmp_ge hG 208 (by omega) (by omega) dL_isDate_171 (by decide) (fun h171 => ?_) (fun h171 => ?_)
                      · have hfo : dwM (rho z) t (v3 / 10000) (T / 100) (T % 100) = x9 := dwM_found hG1 ht hd hx3 ⟨hTb.1, hTb.2.1, hTb.2.2.1, hTb.2.2.2.1⟩ ⟨l0, l2⟩ (hi := x10) (by omega) k3
                        clear k3
                        refine v_iload hG dL_isDate_208 7 rfl ?_
                        refine v_if_eq hG 246 (by omega) dL_isDate_210 (by decide) (fun h210 => ?_) (fun h210 => ?_)
                        · exfalso; omega
                        · refine v_iload hG dL_isDate_213 5 rfl ?_
                          refine v_bipush hG dL_isDate_215 (by decide) ?_
                          refine v_icmp_gt hG 242 (by omega) (by omega) dL_isDate_217 (by decide) (fun h217 => ?_) (fun h217 => ?_)
                          · exfalso; omega
                          · refine v_aload_n hG dL_isDate_220 0 rfl ?_
                            refine v_iload_n hG dL_isDate_221 2 rfl ?_
                            refine v_iload hG dL_isDate_222 5 rfl ?_
                            refine v_iload hG dL_isDate_224 8 rfl ?_
                            refine v_bipush hG dL_isDate_226 (by decide) ?_
                            refine v_idiv hG (by omega) (by omega) dL_isDate_228 ?_
                            refine v_iload hG dL_isDate_229 8 rfl ?_
                            refine v_bipush hG dL_isDate_231 (by decide) ?_
                            refine v_irem hG (by omega) (by omega) dL_isDate_233 ?_
                            refine v_callVi (n := 4) (ci := 4) hG (c_X4_dayOfDate hr k_0 hS (by omega) (by omega) (by omega) (by omega) (by omega)) gL_isDate_X4_dayOfDate rfl (by decide +kernel) rfl (by decide) k_0 (by decide) (cl_1 _ _ _ _) rfl dL_isDate_234 rfl (Nat.le_of_ble_eq_true rfl) (by decide) ?_
                            intro v234 z234 hp234
                            obtain ⟨rfl, hb234, hc234, hv234⟩ := hp234
                            have e234 : v234 = x9 := by
                              rw [hv234, eA, eF, eC]
                              exact hfo
                            refine v_iload hG dL_isDate_237 9 rfl ?_
                            refine v_icmp_ne hG 246 (by omega) (by omega) dL_isDate_239 (by decide) (fun h239 => ?_) (fun h239 => ?_)
                            · exfalso; omega
                            · refine v_iconst hG dL_isDate_242 ?_
                              refine v_goto hG 247 dL_isDate_243 (by decide) ?_
                              refine v_istore hG [(0, _), (1, _), (2, _), (3, _), (4, _), (5, _), (6, _), (7, _), (8, _), (9, _), (10, _)] dL_isDate_247 (by decide) rfl ?_
                              refine v_aload_n hG dL_isDate_249 0 rfl ?_
                              refine v_iload_n hG dL_isDate_250 2 rfl ?_
                              refine v_iload_n hG dL_isDate_251 3 rfl ?_
                              refine v_callVi (n := 2) (ci := 4) hG (c_X4_writeDate hr k_0 hS (by omega) (by omega) (by omega)) gL_isDate_X4_writeDate rfl (by decide +kernel) rfl (by decide) k_0 (by decide) (cl_1 _ _ _ _) rfl dL_isDate_252 rfl (Nat.le_of_ble_eq_true rfl) (by decide) ?_
                              intro v252 z252 hp252
                              obtain ⟨hb252, hc252, ⟨m1252, m2252, hm1252, hm2252, hw252⟩, hv252⟩ := hp252
                              rw [eA, eC] at hm1252 hm2252 hw252
                              have e1 := isMon_one hm1252 i1
                              have e2 := isMon_one hm2252 i1
                              rw [e1, e2, ← i2] at hw252
                              obtain ⟨w1, w2, w3, w4, w5, w6, w7, w8⟩ := wr_ok ht i4 i3 hyr hw252
                              have hq252 : agQ z z252 := fun a h1 h2 _ => w1 a h1 h2
                              have hR2 := Rel_Q hRl hq252
                              have er2 := hq252.rho
                              have hB2 := hR2.1
                              have hS2 := hB2.1
                              have eC2 : ∀ x, calT z252 (tid t) x = calM (rho z) t x := fun x => by rw [← er2]; exact (RB_cal hB2 ht x).1
                              have eF2 : ∀ x, fdT z252 (tid t) x = fdM (rho z) t x := fun x => by rw [← er2]; exact (RB_cal hB2 ht x).2
                              have eA2 : z252 (tid t) 0 = 1 - t := RB_A hB2 ht
                              refine v_istore hG [(0, _), (1, _), (2, _), (3, _), (4, _), (5, _), (6, _), (7, _), (8, _), (9, _), (10, _)] dL_isDate_255 (by decide) rfl ?_
                              refine v_iload hG dL_isDate_257 7 rfl ?_
                              refine v_if_eq hG 312 (by omega) dL_isDate_259 (by decide) (fun h259 => ?_) (fun h259 => ?_)
                              · exfalso; omega
                              · refine v_iload hG dL_isDate_262 10 rfl ?_
                                refine v_aload_n hG dL_isDate_264 0 rfl ?_
                                refine v_callVi (n := 0) (ci := 4) hG (c_X4_textLength hr k_0) gL_isDate_X4_textLength rfl (by decide +kernel) rfl (by decide) k_0 (by decide) (cl_1 _ _ _ _) rfl dL_isDate_265 rfl (Nat.le_of_ble_eq_true rfl) (by decide) ?_
                                intro v265 z265 hp265
                                obtain ⟨rfl, rfl⟩ := hp265
                                refine v_icmp_ne hG 312 (by omega) (by omega) dL_isDate_268 (by decide) (fun h268 => ?_) (fun h268 => ?_)
                                · exact absurd hv252 h268
                                · refine v_aload_n hG dL_isDate_271 0 rfl ?_
                                  refine v_callVi (n := 0) (ci := 4) hG (c_X4_textError hr k_0 w2) gL_isDate_X4_textError rfl (by decide +kernel) rfl (by decide) k_0 (by decide) (cl_1 _ _ _ _) rfl dL_isDate_272 rfl (Nat.le_of_ble_eq_true rfl) (by decide) ?_
                                  intro v272 z272 hp272
                                  obtain ⟨rfl, hx272⟩ := hp272
                                  have e272 := FE_one hx272 w3
                                  refine v_iconst hG dL_isDate_275 ?_
                                  refine v_icmp_ne hG 312 (by omega) (by omega) dL_isDate_276 (by decide) (fun h276 => ?_) (fun h276 => ?_)
                                  · exfalso; omega
                                  · refine v_aload_n hG dL_isDate_279 0 rfl ?_
                                    refine v_callVi (n := 0) (ci := 4) hG (c_X4_dayOfText hr k_0 hS2 w2 (show t = (if 0 < z252 22 1 ∧ z252 23 0 = 65 then 0 else 1) by rw [w7]; rcases ht with rfl | rfl <;> simp <;> omega) (fun e he => FE_one he w3)) gL_isDate_X4_dayOfText rfl (by decide +kernel) rfl (by decide) k_0 (by decide) (cl_1 _ _ _ _) rfl dL_isDate_280 rfl (Nat.le_of_ble_eq_true rfl) (by decide) ?_
                                    intro v280 z280 hp280
                                    obtain ⟨rfl, hb280, hv280⟩ := hp280
                                    have e280 : v280 = d := by
                                      rw [hv280, w4, w5, w6, eA2, eF2, eC2]
                                      rw [i7] at hown
                                      exact hown
                                    refine v_iload_n hG dL_isDate_283 3 rfl ?_
                                    refine v_icmp_ne hG 312 (by omega) (by omega) dL_isDate_284 (by decide) (fun h284 => ?_) (fun h284 => ?_)
                                    · exfalso; omega
                                    · refine v_aload_n hG dL_isDate_287 0 rfl ?_
                                      refine v_iconst hG dL_isDate_288 ?_
                                      refine v_callVi (n := 1) (ci := 4) hG (c_X4_textCharacter hr k_0 w2 (by omega) (by omega)) gL_isDate_X4_textCharacter rfl (by decide +kernel) rfl (by decide) k_0 (by decide) (cl_1 _ _ _ _) rfl dL_isDate_289 rfl (Nat.le_of_ble_eq_true rfl) (by decide) ?_
                                      intro v289 z289 hp289
                                      obtain ⟨rfl, hb289, rfl⟩ := hp289
                                      rw [show (0 : Int).toNat = 0 from rfl, w7]
                                      refine v_bipush hG dL_isDate_292 (by decide) ?_
                                      refine v_iload_n hG dL_isDate_294 2 rfl ?_
                                      refine v_iadd hG dL_isDate_295 ?_
                                      refine v_icmp_ne hG 312 (by omega) (by omega) dL_isDate_296 (by decide) (fun h296 => ?_) (fun h296 => ?_)
                                      · exact absurd rfl h296
                                      · refine v_aload_n hG dL_isDate_299 0 rfl ?_
                                        refine v_callVi (n := 0) (ci := 4) hG (c_X4_clearText hr k_0) gL_isDate_X4_clearText rfl (by decide +kernel) rfl (by decide) k_0 (by decide) (cl_1 _ _ _ _) rfl dL_isDate_300 rfl (Nat.le_of_ble_eq_true rfl) (by decide) ?_
                                        intro v300 z300 hp300
                                        obtain ⟨hz300, hv300⟩ := hp300
                                        refine v_iload hG dL_isDate_303 10 rfl ?_
                                        refine v_icmp_ne hG 312 (by omega) (by omega) dL_isDate_305 (by decide) (fun h305 => ?_) (fun h305 => ?_)
                                        · exfalso; omega
                                        · refine v_iconst hG dL_isDate_308 ?_
                                          refine v_goto hG 313 dL_isDate_309 (by decide) ?_
                                          exact v_zret hG hR (by first | exact Or.inl rfl | exact Or.inr rfl | omega) dL_isDate_313 ⟨fun a h1 h2 h3 => by rw [← hz300, zup_o h1]; exact hq252 a h1 h2 h3, rfl⟩
                      · refine v_aload_n hG dL_isDate_174 1 rfl ?_
                        refine v_iload_n hG dL_isDate_175 2 rfl ?_
                        refine v_iload hG dL_isDate_176 10 rfl ?_
                        refine v_callSi (n := 3) hG (c_L_date hr ht hG1 (by omega)) gL_isDate_L_date rfl (by decide +kernel) rfl (by decide) dL_isDate_178 rfl (Nat.le_of_ble_eq_true rfl) (by decide) ?_
                        intro v178 z178 hp178
                        obtain ⟨rfl, hx178⟩ := hp178
                        have hb178 := dtV_bd hx178 (MI_cal hG1 ht (by omega))
                        refine v_sipush hG dL_isDate_181 (by decide) ?_
                        refine v_iload hG dL_isDate_184 5 rfl ?_
                        refine v_imul hG dL_isDate_186 ?_
                        refine v_iload hG dL_isDate_187 8 rfl ?_
                        refine v_iadd hG dL_isDate_189 ?_
                        refine v_icmp_ne hG 198 (by omega) (by omega) dL_isDate_190 (by decide) (fun h190 => ?_) (fun h190 => ?_)
                        · refine v_iload hG dL_isDate_198 9 rfl ?_
                          refine v_istore hG [(0, _), (1, _), (2, _), (3, _), (4, _), (5, _), (6, _), (7, _), (8, _), (9, _), (10, _)] dL_isDate_200 (by decide) rfl ?_
                          refine v_iinc hG [(0, _), (1, _), (2, _), (3, _), (4, _), (5, _), (6, _), (7, _), (8, _), (9, _), (10, _)] dL_isDate_202 10 rfl (by decide) rfl ?_
                          refine v_goto hG 164 dL_isDate_205 (by decide) ?_
                          refine ih164 _ _ ?_ (by omega)
                          refine ⟨by omega, by omega, ?_⟩
                          first
                            | exact Or.inr ⟨by omega, by omega, by rw [← h190]; exact hx178⟩
                            | (rcases k3 with ⟨a9, b9⟩ | ⟨a9, b9, c9⟩
                               · exact Or.inl ⟨a9, fun u h1 h2 h3 => by
                                   rcases Int.lt_or_eq_of_le (show u ≤ x10 by omega) with q9 | q9
                                   · exact b9 u h1 q9 h3
                                   · rw [q9] at h3
                                     exact h190 (dtV_one hx178 h3)⟩
                               · exact Or.inr ⟨a9, by omega, c9⟩)
                        · refine v_iload hG dL_isDate_193 10 rfl ?_
                          refine v_goto hG 200 dL_isDate_195 (by decide) ?_
                          refine v_istore hG [(0, _), (1, _), (2, _), (3, _), (4, _), (5, _), (6, _), (7, _), (8, _), (9, _), (10, _)] dL_isDate_200 (by decide) rfl ?_
                          refine v_iinc hG [(0, _), (1, _), (2, _), (3, _), (4, _), (5, _), (6, _), (7, _), (8, _), (9, _), (10, _)] dL_isDate_202 10 rfl (by decide) rfl ?_
                          refine v_goto hG 164 dL_isDate_205 (by decide) ?_
                          refine ih164 _ _ ?_ (by omega)
                          refine ⟨by omega, by omega, ?_⟩
                          first
                            | exact Or.inr ⟨by omega, by omega, by rw [← h190]; exact hx178⟩
                            | (rcases k3 with ⟨a9, b9⟩ | ⟨a9, b9, c9⟩
                               · exact Or.inl ⟨a9, fun u h1 h2 h3 => by
                                   rcases Int.lt_or_eq_of_le (show u ≤ x10 by omega) with q9 | q9
                                   · exact b9 u h1 q9 h3
                                   · rw [q9] at h3
                                     exact h190 (dtV_one hx178 h3)⟩
                               · exact Or.inr ⟨a9, by omega, c9⟩)
                  exact L164 _ _ _ ⟨by omega, by omega, Or.inl ⟨rfl, fun u h1 h2 => by omega⟩⟩ (Nat.le_refl _)
                refine v_iload_n hG dL_isDate_146 3 rfl ?_
                refine v_sipush hG dL_isDate_147 (by decide) ?_
                refine v_icmp_ge hG 157 (by omega) (by omega) dL_isDate_150 (by decide) (fun h150 => ?_) (fun h150 => ?_)
                · refine v_iload_n hG dL_isDate_157 3 rfl ?_
                  refine v_sipush hG dL_isDate_158 (by decide) ?_
                  refine v_isub hG dL_isDate_161 ?_
                  exact L162 _ _ ⟨rfl, by omega, by omega, by omega⟩
                · refine v_iconst hG dL_isDate_153 ?_
                  refine v_goto hG 162 dL_isDate_154 (by decide) ?_
                  exact L162 _ _ ⟨rfl, by omega, by omega, by omega⟩

