set_option maxHeartbeats 4000000 in
set_option maxRecDepth 100000 in
theorem c_L_isAll {l : Launch} {D : va_G} {cA : Nat → ClassId} {r : Nat → Nat} {z : Zt}  (hr : Inj r) (hRl : Rel z) : Ki l D cA r yL_isAll wsL_isAll 3 65 z [.ref (r 0), .ref (r 169), .ref (r 170), .ref (r 171)] (fun v z1 => z = z1 ∧ v = 1) := by
  obtain ⟨hB, hP, hA, hbd⟩ := id hRl
  have hM := RB_MI hB
  obtain ⟨hG1, h14, hFe, h55, h56, h57⟩ := id hM
  obtain ⟨hS, hT, ⟨n1, n2, n3, n4, n5, n6⟩, hFf⟩ := id hB
  obtain ⟨c1, c2, c3, c4⟩ := id hbd
  have k0 : z (tid 0) 4 = rho z 58 := (hT 0 (Or.inl rfl)).2.1
  have k1 : z (tid 1) 4 = rho z 59 := (hT 1 (Or.inr rfl)).2.1
  refine Ki_of [(0, _), (1, _), (2, _), (3, _)] hr (by decide) rfl rfl (Nat.le_of_ble_eq_true rfl) rfl (fun Γ hG hR => ?_)
  refine v_aload_n hG dL_isAll_0 0 rfl ?_
  refine v_callVi (n := 0) (ci := 4) hG (c_X4_shift hr k_0) gL_isAll_X4_shift rfl (by decide +kernel) rfl (by decide) k_0 (by decide) (cl_1 _ _ _ _) rfl dL_isAll_1 rfl (Nat.le_of_ble_eq_true rfl) (by decide) ?_
  intro v1 z1 hp1
  obtain ⟨rfl, rfl⟩ := hp1
  refine v_aload_n hG dL_isAll_4 3 rfl ?_
  refine v_iconst hG dL_isAll_5 ?_
  refine v_iald hG k_171 (by decide) (cl_108 _ _ _ _) (by decide) (by omega) dL_isAll_6 ?_
  rw [rho_55 z]
  refine v_icmp_ne hG 88 (by omega) (by omega) dL_isAll_7 (by decide) (fun h7 => ?_) (fun h7 => ?_)
  · exfalso; omega
  · refine v_aload_n hG dL_isAll_10 0 rfl ?_
    refine v_callVi (n := 0) (ci := 4) hG (c_X4_copiesPerDay hr k_0) gL_isAll_X4_copiesPerDay rfl (by decide +kernel) rfl (by decide) k_0 (by decide) (cl_1 _ _ _ _) rfl dL_isAll_11 rfl (Nat.le_of_ble_eq_true rfl) (by decide) ?_
    intro v11 z11 hp11
    obtain ⟨rfl, rfl⟩ := hp11
    refine v_aload_n hG dL_isAll_14 3 rfl ?_
    refine v_iconst hG dL_isAll_15 ?_
    refine v_iald hG k_171 (by decide) (cl_108 _ _ _ _) (by decide) (by omega) dL_isAll_16 ?_
    rw [rho_56 z]
    refine v_icmp_ne hG 88 (by omega) (by omega) dL_isAll_17 (by decide) (fun h17 => ?_) (fun h17 => ?_)
    · exfalso; omega
    · refine v_aload_n hG dL_isAll_20 0 rfl ?_
      refine v_callVi (n := 0) (ci := 4) hG (c_X4_today hr k_0) gL_isAll_X4_today rfl (by decide +kernel) rfl (by decide) k_0 (by decide) (cl_1 _ _ _ _) rfl dL_isAll_21 rfl (Nat.le_of_ble_eq_true rfl) (by decide) ?_
      intro v21 z21 hp21
      obtain ⟨rfl, rfl⟩ := hp21
      refine v_aload_n hG dL_isAll_24 3 rfl ?_
      refine v_iconst hG dL_isAll_25 ?_
      refine v_iald hG k_171 (by decide) (cl_108 _ _ _ _) (by decide) (by omega) dL_isAll_26 ?_
      rw [rho_57 z]
      refine v_icmp_ne hG 88 (by omega) (by omega) dL_isAll_27 (by decide) (fun h27 => ?_) (fun h27 => ?_)
      · exfalso; omega
      · refine v_aload_n hG dL_isAll_30 0 rfl ?_
        refine v_iconst hG dL_isAll_31 ?_
        refine v_callVi (n := 1) (ci := 4) hG (c_X4_feastsKept hr k_0 (by omega) (by omega)) gL_isAll_X4_feastsKept rfl (by decide +kernel) rfl (by decide) k_0 (by decide) (cl_1 _ _ _ _) rfl dL_isAll_32 rfl (Nat.le_of_ble_eq_true rfl) (by decide) ?_
        intro v32 z32 hp32
        obtain ⟨rfl, hb32, rfl⟩ := hp32
        refine v_aload_n hG dL_isAll_35 3 rfl ?_
        refine v_iconst hG dL_isAll_36 ?_
        refine v_iald hG k_171 (by decide) (cl_108 _ _ _ _) (by decide) (by omega) dL_isAll_37 ?_
        rw [rho_58 z]
        refine v_icmp_ne hG 88 (by omega) (by omega) dL_isAll_38 (by decide) (fun h38 => ?_) (fun h38 => ?_)
        · exfalso; omega
        · refine v_aload_n hG dL_isAll_41 0 rfl ?_
          refine v_iconst hG dL_isAll_42 ?_
          refine v_callVi (n := 1) (ci := 4) hG (c_X4_feastsKept hr k_0 (by omega) (by omega)) gL_isAll_X4_feastsKept rfl (by decide +kernel) rfl (by decide) k_0 (by decide) (cl_1 _ _ _ _) rfl dL_isAll_43 rfl (Nat.le_of_ble_eq_true rfl) (by decide) ?_
          intro v43 z43 hp43
          obtain ⟨rfl, hb43, rfl⟩ := hp43
          refine v_aload_n hG dL_isAll_46 3 rfl ?_
          refine v_iconst hG dL_isAll_47 ?_
          refine v_iald hG k_171 (by decide) (cl_108 _ _ _ _) (by decide) (by omega) dL_isAll_48 ?_
          rw [rho_59 z]
          refine v_icmp_ne hG 88 (by omega) (by omega) dL_isAll_49 (by decide) (fun h49 => ?_) (fun h49 => ?_)
          · exfalso; omega
          · refine v_aload_n hG dL_isAll_52 0 rfl ?_
            refine v_callVi (n := 0) (ci := 4) hG (c_X4_quarrelCount hr k_0) gL_isAll_X4_quarrelCount rfl (by decide +kernel) rfl (by decide) k_0 (by decide) (cl_1 _ _ _ _) rfl dL_isAll_53 rfl (Nat.le_of_ble_eq_true rfl) (by decide) ?_
            intro v53 z53 hp53
            obtain ⟨rfl, rfl⟩ := hp53
            refine v_aload_n hG dL_isAll_56 3 rfl ?_
            refine v_iconst hG dL_isAll_57 ?_
            refine v_iald hG k_171 (by decide) (cl_108 _ _ _ _) (by decide) (by omega) dL_isAll_58 ?_
            rw [rho_60 z]
            refine v_icmp_ne hG 88 (by omega) (by omega) dL_isAll_59 (by decide) (fun h59 => ?_) (fun h59 => ?_)
            · exfalso; omega
            · refine v_aload_n hG dL_isAll_62 0 rfl ?_
              refine v_callVi (n := 0) (ci := 4) hG (c_X4_copiesMade hr k_0) gL_isAll_X4_copiesMade rfl (by decide +kernel) rfl (by decide) k_0 (by decide) (cl_1 _ _ _ _) rfl dL_isAll_63 rfl (Nat.le_of_ble_eq_true rfl) (by decide) ?_
              intro v63 z63 hp63
              obtain ⟨rfl, rfl⟩ := hp63
              refine v_aload_n hG dL_isAll_66 3 rfl ?_
              refine v_bipush hG dL_isAll_67 (by decide) ?_
              refine v_iald hG k_171 (by decide) (cl_108 _ _ _ _) (by decide) (by omega) dL_isAll_69 ?_
              rw [rho_61 z]
              refine v_icmp_ne hG 88 (by omega) (by omega) dL_isAll_70 (by decide) (fun h70 => ?_) (fun h70 => ?_)
              · exfalso; omega
              · refine v_aload_n hG dL_isAll_73 0 rfl ?_
                refine v_callVi (n := 0) (ci := 4) hG (c_X4_feastCount hr k_0) gL_isAll_X4_feastCount rfl (by decide +kernel) rfl (by decide) k_0 (by decide) (cl_1 _ _ _ _) rfl dL_isAll_74 rfl (Nat.le_of_ble_eq_true rfl) (by decide) ?_
                intro v74 z74 hp74
                obtain ⟨rfl, rfl⟩ := hp74
                refine v_aload_n hG dL_isAll_77 3 rfl ?_
                refine v_bipush hG dL_isAll_78 (by decide) ?_
                refine v_iald hG k_171 (by decide) (cl_108 _ _ _ _) (by decide) (by omega) dL_isAll_80 ?_
                rw [rho_14 z]
                refine v_icmp_ne hG 88 (by omega) (by omega) dL_isAll_81 (by decide) (fun h81 => ?_) (fun h81 => ?_)
                · exfalso; omega
                · refine v_iconst hG dL_isAll_84 ?_
                  refine v_goto hG 89 dL_isAll_85 (by decide) ?_
                  refine v_istore hG [(0, _), (1, _), (2, _), (3, _), (4, _)] dL_isAll_89 (by decide) rfl ?_
                  refine v_iconst hG dL_isAll_91 ?_
                  refine v_istore hG [(0, _), (1, _), (2, _), (3, _), (4, _), (5, _)] dL_isAll_92 (by decide) rfl ?_
                  have L94 : ∀ (n : Nat), ∀ (x4 x5 : Int), (x4 = 1 ∧ 0 ≤ x5 ∧ x5 ≤ 2) → (2 - x5 + 1).toNat ≤ n → V Γ z 0 0 [(0, .ref (r 0)), (1, .ref (r 169)), (2, .ref (r 170)), (3, .ref (r 171)), (4, .int (iN x4)), (5, .int (iN x5))] 94 [] := by
                    intro n
                    induction n with
                    | zero =>
                      intro x4 x5 hI hm
                      obtain ⟨i0, i1, i2⟩ := hI
                      exact absurd hm (by omega)
                    | succ n ih94 =>
                      intro x4 x5 hI hm
                      obtain ⟨i0, i1, i2⟩ := hI
                      refine v_iload hG dL_isAll_94 5 rfl ?_
                      refine v_iconst hG dL_isAll_96 ?_
                      refine v_icmp_ge hG 217 (by omega) (by omega) dL_isAll_97 (by decide) (fun h97 => ?_) (fun h97 => ?_)
                      · refine v_iconst hG dL_isAll_217 ?_
                        refine v_istore hG [(0, _), (1, _), (2, _), (3, _), (4, _), (5, _)] dL_isAll_218 (by decide) rfl ?_
                        have L220 : ∀ (n : Nat), ∀ (x4 x5 : Int), (x4 = 1 ∧ 0 ≤ x5 ∧ x5 ≤ rho z 14) → (rho z 14 - x5 + 1).toNat ≤ n → V Γ z 0 0 [(0, .ref (r 0)), (1, .ref (r 169)), (2, .ref (r 170)), (3, .ref (r 171)), (4, .int (iN x4)), (5, .int (iN x5))] 220 [] := by
                          intro n
                          induction n with
                          | zero =>
                            intro x4 x5 hI hm
                            obtain ⟨i0, i1, i2⟩ := hI
                            exact absurd hm (by omega)
                          | succ n ih220 =>
                            intro x4 x5 hI hm
                            obtain ⟨i0, i1, i2⟩ := hI
                            refine v_iload hG dL_isAll_220 5 rfl ?_
                            refine v_aload_n hG dL_isAll_222 3 rfl ?_
                            refine v_bipush hG dL_isAll_223 (by decide) ?_
                            refine v_iald hG k_171 (by decide) (cl_108 _ _ _ _) (by decide) (by omega) dL_isAll_225 ?_
                            rw [rho_14 z]
                            refine v_icmp_ge hG 279 (by omega) (by omega) dL_isAll_226 (by decide) (fun h226 => ?_) (fun h226 => ?_)
                            · refine v_iload hG dL_isAll_279 4 rfl ?_
                              exact v_zret hG hR (by first | exact Or.inl rfl | exact Or.inr rfl | omega) dL_isAll_281 ⟨rfl, by omega⟩
                            · refine v_iload hG dL_isAll_229 4 rfl ?_
                              refine v_if_eq hG 270 (by omega) dL_isAll_231 (by decide) (fun h231 => ?_) (fun h231 => ?_)
                              · exfalso; omega
                              · have f0 : z (9 + x5.toNat) 0 = mF (rho z) x5 0 := by
                                  have h9 := RB_f hB (f := x5) (by omega) (w := 0) (by decide)
                                  rw [show 1 + 8 + x5.toNat = 9 + x5.toNat by omega] at h9
                                  exact h9
                                have f3 : z (9 + x5.toNat) 3 = mF (rho z) x5 3 := by
                                  have h9 := RB_f hB (f := x5) (by omega) (w := 3) (by decide)
                                  rw [show 1 + 8 + x5.toNat = 9 + x5.toNat by omega] at h9
                                  exact h9
                                have hF := hFe x5 (by omega) (by omega)
                                have hF0 := hF.1
                                have hF5 := hF.2.2.2.2.2
                                refine v_aload_n hG dL_isAll_234 0 rfl ?_
                                refine v_iload hG dL_isAll_235 5 rfl ?_
                                refine v_callVi (n := 1) (ci := 4) hG (c_X4_feastTown hr k_0 hS (by omega) (by omega)) gL_isAll_X4_feastTown rfl (by decide +kernel) rfl (by decide) k_0 (by decide) (cl_1 _ _ _ _) rfl dL_isAll_237 rfl (Nat.le_of_ble_eq_true rfl) (by decide) ?_
                                intro v237 z237 hp237
                                obtain ⟨rfl, hb237, rfl⟩ := hp237
                                refine v_aload_n hG dL_isAll_240 2 rfl ?_
                                refine v_iconst hG dL_isAll_241 ?_
                                refine v_iload hG dL_isAll_242 5 rfl ?_
                                refine v_imul hG dL_isAll_244 ?_
                                refine v_iald hG k_170 (by decide) (cl_140 _ _ _ _) (by decide) (by omega) dL_isAll_245 ?_
                                rw [rh_F0 z (by omega)]
                                refine v_icmp_ne hG 270 (by omega) (by omega) dL_isAll_246 (by decide) (fun h246 => ?_) (fun h246 => ?_)
                                · exfalso; omega
                                · refine v_aload_n hG dL_isAll_249 0 rfl ?_
                                  refine v_iload hG dL_isAll_250 5 rfl ?_
                                  refine v_callVi (n := 1) (ci := 4) hG (c_X4_barredWeekday hr k_0 hS (by omega) (by omega)) gL_isAll_X4_barredWeekday rfl (by decide +kernel) rfl (by decide) k_0 (by decide) (cl_1 _ _ _ _) rfl dL_isAll_252 rfl (Nat.le_of_ble_eq_true rfl) (by decide) ?_
                                  intro v252 z252 hp252
                                  obtain ⟨rfl, hb252, rfl⟩ := hp252
                                  refine v_aload_n hG dL_isAll_255 2 rfl ?_
                                  refine v_iconst hG dL_isAll_256 ?_
                                  refine v_iload hG dL_isAll_257 5 rfl ?_
                                  refine v_imul hG dL_isAll_259 ?_
                                  refine v_iconst hG dL_isAll_260 ?_
                                  refine v_iadd hG dL_isAll_261 ?_
                                  refine v_iald hG k_170 (by decide) (cl_140 _ _ _ _) (by decide) (by omega) dL_isAll_262 ?_
                                  rw [rh_F z (by omega) (by omega)]
                                  refine v_icmp_ne hG 270 (by omega) (by omega) dL_isAll_263 (by decide) (fun h263 => ?_) (fun h263 => ?_)
                                  · exfalso; omega
                                  · refine v_iconst hG dL_isAll_266 ?_
                                    refine v_goto hG 271 dL_isAll_267 (by decide) ?_
                                    refine v_istore hG [(0, _), (1, _), (2, _), (3, _), (4, _), (5, _)] dL_isAll_271 (by decide) rfl ?_
                                    refine v_iinc hG [(0, _), (1, _), (2, _), (3, _), (4, _), (5, _)] dL_isAll_273 5 rfl (by decide) rfl ?_
                                    refine v_goto hG 220 dL_isAll_276 (by decide) ?_
                                    exact ih220 _ _ ⟨by omega, by omega, by omega⟩ (by omega)
                        exact L220 _ _ _ ⟨by omega, by omega, by omega⟩ (Nat.le_refl _)
                      · refine v_iload hG dL_isAll_100 4 rfl ?_
                        refine v_if_eq hG 125 (by omega) dL_isAll_102 (by decide) (fun h102 => ?_) (fun h102 => ?_)
                        · exfalso; omega
                        · have hTt := hT x5 (by omega)
                          rw [tS_1] at hTt
                          obtain ⟨ht1, ht2, ht3⟩ := hTt
                          have hgn := hG1 x5 (by omega)
                          have hgn0 := hgn.1
                          have hgn3 := hgn.2.1
                          refine v_aload_n hG dL_isAll_105 0 rfl ?_
                          refine v_iload hG dL_isAll_106 5 rfl ?_
                          refine v_callVi (n := 1) (ci := 4) hG (c_X4_gapCount hr k_0 (by omega) (by omega)) gL_isAll_X4_gapCount rfl (by decide +kernel) rfl (by decide) k_0 (by decide) (cl_1 _ _ _ _) rfl dL_isAll_108 rfl (Nat.le_of_ble_eq_true rfl) (by decide) ?_
                          intro v108 z108 hp108
                          obtain ⟨rfl, hb108, rfl⟩ := hp108
                          refine v_aload_n hG dL_isAll_111 1 rfl ?_
                          refine v_bipush hG dL_isAll_112 (by decide) ?_
                          refine v_iload hG dL_isAll_114 5 rfl ?_
                          refine v_imul hG dL_isAll_116 ?_
                          refine v_iald hG k_169 (by decide) (cl_114 _ _ _ _) (by decide) (by omega) dL_isAll_117 ?_
                          rw [rh_N z (by omega)]
                          refine v_icmp_ne hG 125 (by omega) (by omega) dL_isAll_118 (by decide) (fun h118 => ?_) (fun h118 => ?_)
                          · exfalso; omega
                          · refine v_iconst hG dL_isAll_121 ?_
                            refine v_goto hG 126 dL_isAll_122 (by decide) ?_
                            refine v_istore hG [(0, _), (1, _), (2, _), (3, _), (4, _), (5, _)] dL_isAll_126 (by decide) rfl ?_
                            refine v_iconst hG dL_isAll_128 ?_
                            refine v_istore hG [(0, _), (1, _), (2, _), (3, _), (4, _), (5, _), (6, _)] dL_isAll_129 (by decide) rfl ?_
                            have L131 : ∀ (n : Nat), ∀ (y4 x6 : Int), (y4 = 1 ∧ 0 ≤ x6 ∧ x6 ≤ mN (rho z) x5) → (mN (rho z) x5 - x6 + 1).toNat ≤ n → V Γ z 0 0 [(0, .ref (r 0)), (1, .ref (r 169)), (2, .ref (r 170)), (3, .ref (r 171)), (4, .int (iN y4)), (5, .int (iN x5)), (6, .int (iN x6))] 131 [] := by
                              intro n
                              induction n with
                              | zero =>
                                intro y4 x6 hI hm
                                obtain ⟨j0, j1, j2⟩ := hI
                                exact absurd hm (by omega)
                              | succ n ih131 =>
                                intro y4 x6 hI hm
                                obtain ⟨j0, j1, j2⟩ := hI
                                refine v_iload hG dL_isAll_131 6 rfl ?_
                                refine v_aload_n hG dL_isAll_133 1 rfl ?_
                                refine v_bipush hG dL_isAll_134 (by decide) ?_
                                refine v_iload hG dL_isAll_136 5 rfl ?_
                                refine v_imul hG dL_isAll_138 ?_
                                refine v_iald hG k_169 (by decide) (cl_114 _ _ _ _) (by decide) (by omega) dL_isAll_139 ?_
                                rw [rh_N z (by omega)]
                                refine v_icmp_ge hG 211 (by omega) (by omega) dL_isAll_140 (by decide) (fun h140 => ?_) (fun h140 => ?_)
                                · refine v_iinc hG [(0, _), (1, _), (2, _), (3, _), (4, _), (5, _), (6, _)] dL_isAll_211 5 rfl (by decide) rfl ?_
                                  refine v_goto hG 94 dL_isAll_214 (by decide) ?_
                                  refine v_sub hG [(0, _), (1, _), (2, _), (3, _), (4, _), (5, _)] [0, 1, 2, 3, 4, 5] rfl ?_
                                  exact ih94 _ _ ⟨by omega, by omega, by omega⟩ (by omega)
                                · refine v_iload hG dL_isAll_143 4 rfl ?_
                                  refine v_if_eq hG 202 (by omega) dL_isAll_145 (by decide) (fun h145 => ?_) (fun h145 => ?_)
                                  · exfalso; omega
                                  · have ht4 := ht3 x6.toNat (by omega)
                                    have hgb := hgn.2.2.1 x6.toNat (by omega)
                                    refine v_aload_n hG dL_isAll_148 0 rfl ?_
                                    refine v_iload hG dL_isAll_149 5 rfl ?_
                                    refine v_iload hG dL_isAll_151 6 rfl ?_
                                    refine v_callVi (n := 2) (ci := 4) hG (c_X4_gapDay hr k_0 hS (by omega) (by omega) (by omega)) gL_isAll_X4_gapDay rfl (by decide +kernel) rfl (by decide) k_0 (by decide) (cl_1 _ _ _ _) rfl dL_isAll_153 rfl (Nat.le_of_ble_eq_true rfl) (by decide) ?_
                                    intro v153 z153 hp153
                                    obtain ⟨rfl, hb153, hc153, rfl⟩ := hp153
                                    refine v_aload_n hG dL_isAll_156 1 rfl ?_
                                    refine v_bipush hG dL_isAll_157 (by decide) ?_
                                    refine v_iload hG dL_isAll_159 5 rfl ?_
                                    refine v_imul hG dL_isAll_161 ?_
                                    refine v_iconst hG dL_isAll_162 ?_
                                    refine v_iadd hG dL_isAll_163 ?_
                                    refine v_iconst hG dL_isAll_164 ?_
                                    refine v_iload hG dL_isAll_165 6 rfl ?_
                                    refine v_imul hG dL_isAll_167 ?_
                                    refine v_iadd hG dL_isAll_168 ?_
                                    refine v_iald hG k_169 (by decide) (cl_114 _ _ _ _) (by decide) (by omega) dL_isAll_169 ?_
                                    rw [rh_D z (by omega) (by omega)]
                                    refine v_icmp_ne hG 202 (by omega) (by omega) dL_isAll_170 (by decide) (fun h170 => ?_) (fun h170 => ?_)
                                    · exfalso; omega
                                    · refine v_aload_n hG dL_isAll_173 0 rfl ?_
                                      refine v_iload hG dL_isAll_174 5 rfl ?_
                                      refine v_iload hG dL_isAll_176 6 rfl ?_
                                      refine v_callVi (n := 2) (ci := 4) hG (c_X4_gapLength hr k_0 hS (by omega) (by omega) (by omega)) gL_isAll_X4_gapLength rfl (by decide +kernel) rfl (by decide) k_0 (by decide) (cl_1 _ _ _ _) rfl dL_isAll_178 rfl (Nat.le_of_ble_eq_true rfl) (by decide) ?_
                                      intro v178 z178 hp178
                                      obtain ⟨rfl, hb178, hc178, rfl⟩ := hp178
                                      refine v_aload_n hG dL_isAll_181 1 rfl ?_
                                      refine v_bipush hG dL_isAll_182 (by decide) ?_
                                      refine v_iload hG dL_isAll_184 5 rfl ?_
                                      refine v_imul hG dL_isAll_186 ?_
                                      refine v_iconst hG dL_isAll_187 ?_
                                      refine v_iadd hG dL_isAll_188 ?_
                                      refine v_iconst hG dL_isAll_189 ?_
                                      refine v_iload hG dL_isAll_190 6 rfl ?_
                                      refine v_imul hG dL_isAll_192 ?_
                                      refine v_iadd hG dL_isAll_193 ?_
                                      refine v_iald hG k_169 (by decide) (cl_114 _ _ _ _) (by decide) (by omega) dL_isAll_194 ?_
                                      rw [rh_L z (by omega) (by omega)]
                                      refine v_icmp_ne hG 202 (by omega) (by omega) dL_isAll_195 (by decide) (fun h195 => ?_) (fun h195 => ?_)
                                      · exfalso; omega
                                      · refine v_iconst hG dL_isAll_198 ?_
                                        refine v_goto hG 203 dL_isAll_199 (by decide) ?_
                                        refine v_istore hG [(0, _), (1, _), (2, _), (3, _), (4, _), (5, _), (6, _)] dL_isAll_203 (by decide) rfl ?_
                                        refine v_iinc hG [(0, _), (1, _), (2, _), (3, _), (4, _), (5, _), (6, _)] dL_isAll_205 6 rfl (by decide) rfl ?_
                                        refine v_goto hG 131 dL_isAll_208 (by decide) ?_
                                        exact ih131 _ _ ⟨by omega, by omega, by omega⟩ (by omega)
                            exact L131 _ _ _ ⟨by omega, by omega, by omega⟩ (Nat.le_refl _)
                  exact L94 _ _ _ ⟨by omega, by omega, by omega⟩ (Nat.le_refl _)

