set_option maxHeartbeats 4000000 in
set_option maxRecDepth 100000 in
theorem law_loop {l : Launch} {D : va_G} {cA : Nat → ClassId} {r : Nat → Nat} {Γ : Cx} {b L : Nat} {xs : Nat → Int32} {z : Zt} {kc ks : Nat} (hr : Inj r) (hG : Cok l D cA r room_1 Γ cL_law RL wsL_law 11) (hW : LwR b L xs Γ) (hL : L ≤ 260) (hRl : Rel z) (hkc : kc ≤ room_1.cells ∧ ks ≤ room_1.slots) : V Γ z kc ks [(0, .ref b), (1, .ref (r 0)), (2, .ref (r 169)), (3, .ref (r 170)), (4, .ref (r 171)), (5, .int (iN 1))] 45 [.int (iN 0)] := by
  have hroom : room_1.cells = 621617 ∧ room_1.slots = 7236774 := ⟨rfl, rfl⟩
  refine v_istore hG [(0, _), (1, _), (2, _), (3, _), (4, _), (5, _), (6, _)] dL_law_45 (by decide) rfl ?_
  have L47 : ∀ (n : Nat), ∀ (x6 : Int) (y : Zt), (0 ≤ x6 ∧ x6 ≤ 28 ∧ Rel y) → (28 - x6 + 1).toNat ≤ n → V Γ y kc ks [(0, .ref b), (1, .ref (r 0)), (2, .ref (r 169)), (3, .ref (r 170)), (4, .ref (r 171)), (5, .int (iN 1)), (6, .int (iN x6))] 47 [] := by
    intro n
    induction n with
    | zero =>
      intro x6 y hI hm
      obtain ⟨i1, i2, hRy⟩ := hI
      exact absurd hm (by omega)
    | succ n ih47 =>
      intro x6 y hI hm
      obtain ⟨i1, i2, hRy⟩ := hI
      refine v_iload hG dL_law_47 6 rfl ?_
      refine v_bipush hG dL_law_49 (by decide) ?_
      refine v_icmp_ge hG 388 (by omega) (by omega) dL_law_51 (by decide) (fun h51 => ?_) (fun h51 => ?_)
      · refine v_iload hG dL_law_388 5 rfl ?_
        exact w_lret hG hW ⟨hkc.1, hkc.2⟩ dL_law_390
      · refine v_iload hG dL_law_54 5 rfl ?_
        refine v_if_eq hG 388 (by omega) dL_law_56 (by decide) (fun h56 => ?_) (fun h56 => ?_)
        · exfalso; omega
        · refine v_aload_n hG dL_law_59 0 rfl ?_
          refine v_iload hG dL_law_60 6 rfl ?_
          refine w_callC (L := L) (xs := xs) hG hW.sx hL ⟨by omega, by omega⟩ gL_law_L_cell (by decide) dL_law_62 rfl (Nat.le_of_ble_eq_true rfl) hkc ?_
          intro x
          refine v_istore hG [(0, _), (1, _), (2, _), (3, _), (4, _), (5, _), (6, _), (7, _)] dL_law_65 (by decide) rfl ?_
          refine v_aload_n hG dL_law_67 1 rfl ?_
          refine v_aload_n hG dL_law_68 2 rfl ?_
          refine v_aload_n hG dL_law_69 3 rfl ?_
          refine v_aload hG dL_law_70 4 rfl ?_
          have L92 : ∀ (K : Int), (0 ≤ K ∧ K ≤ 15) → V Γ y kc ks [(0, .ref b), (1, .ref (r 0)), (2, .ref (r 169)), (3, .ref (r 170)), (4, .ref (r 171)), (5, .int (iN 1)), (6, .int (iN x6)), (7, .int (iN x))] 92 [.int (iN K), .ref (r 171), .ref (r 170), .ref (r 169), .ref (r 0)] := by
            intro K hK
            refine v_iload hG dL_law_92 7 rfl ?_
            refine v_callSi (n := 6) hG (c_L_acts hr hRy (by omega)) gL_law_L_acts rfl (by decide +kernel) rfl (by decide) dL_law_94 rfl (Nat.le_of_ble_eq_true rfl) hkc ?_
            intro v94 z94 hp94
            obtain ⟨rfl, hR94, hn94⟩ := hp94
            refine v_if_eq hG 157 (by omega) dL_law_97 (by decide) (fun h97 => ?_) (fun h97 => ?_)
            · exfalso; omega
            · refine v_aload_n hG dL_law_100 1 rfl ?_
              refine v_aload_n hG dL_law_101 2 rfl ?_
              refine v_aload_n hG dL_law_102 3 rfl ?_
              refine v_aload hG dL_law_103 4 rfl ?_
              refine v_callSi (n := 4) hG (c_L_isAll hr hR94) gL_law_L_isAll rfl (by decide +kernel) rfl (by decide) dL_law_105 rfl (Nat.le_of_ble_eq_true rfl) hkc ?_
              intro v105 z105 hp105
              obtain ⟨rfl, rfl⟩ := hp105
              refine v_if_eq hG 157 (by omega) dL_law_108 (by decide) (fun h108 => ?_) (fun h108 => ?_)
              · exfalso; omega
              · refine v_aload_n hG dL_law_111 1 rfl ?_
                refine v_aload_n hG dL_law_112 2 rfl ?_
                refine v_iload hG dL_law_113 7 rfl ?_
                refine v_iconst hG dL_law_115 ?_
                refine v_callSi (n := 2) hG (c_L_low hr (by omega)) gL_law_L_low rfl (by decide +kernel) rfl (by decide) dL_law_116 rfl (Nat.le_of_ble_eq_true rfl) hkc ?_
                intro v116 z116 hp116
                obtain ⟨rfl, rfl, ha116, hb116⟩ := hp116
                refine v_iload hG dL_law_119 7 rfl ?_
                refine v_iconst hG dL_law_121 ?_
                refine v_ishr0 hG dL_law_122 ?_
                refine v_eqi hG (y := iN (shr x 3)) (iN_of _).symm ?_
                refine v_iload hG dL_law_123 7 rfl ?_
                refine v_bipush hG dL_law_125 (by decide) ?_
                refine v_ishr0 hG dL_law_127 ?_
                refine v_eqi hG (y := iN (shr x 12)) (iN_of _).symm ?_
                refine v_iconst hG dL_law_128 ?_
                refine v_callSi (n := 2) hG (c_L_low hr (by omega)) gL_law_L_low rfl (by decide +kernel) rfl (by decide) dL_law_129 rfl (Nat.le_of_ble_eq_true rfl) hkc ?_
                intro v129 z129 hp129
                obtain ⟨rfl, rfl, ha129, hb129⟩ := hp129
                have L144 : ∀ (W : Int), (W = 20001 ∨ W = 900) → V Γ z94 kc ks [(0, .ref b), (1, .ref (r 0)), (2, .ref (r 169)), (3, .ref (r 170)), (4, .ref (r 171)), (5, .int (iN 1)), (6, .int (iN x6)), (7, .int (iN x))] 144 [.int (iN W), .int (iN (shr x 3)), .int (iN (lo x 2)), .ref (r 169), .ref (r 0)] := by
                  intro W hW9
                  refine v_callSi (n := 2) hG (c_L_low hr (by omega)) gL_law_L_low rfl (by decide +kernel) rfl (by decide) dL_law_144 rfl (Nat.le_of_ble_eq_true rfl) hkc ?_
                  intro v144 z144 hp144
                  obtain ⟨rfl, rfl, ha144, hb144⟩ := hp144
                  refine v_callSi (n := 4) hG (c_L_isDate hr hR94 (by omega) (by omega)) gL_law_L_isDate rfl (by decide +kernel) rfl (by decide) dL_law_147 rfl (Nat.le_of_ble_eq_true rfl) hkc ?_
                  intro v147 z147 hp147
                  obtain ⟨hq147, rfl⟩ := hp147
                  have hR147 := Rel_Q hR94 hq147
                  have er147 : rho z147 14 = rho z94 14 := congrFun hq147.rho 14
                  have hn10 := RB_n hR94.1
                  refine v_if_eq hG 157 (by omega) dL_law_150 (by decide) (fun h150 => ?_) (fun h150 => ?_)
                  · exfalso; omega
                  · refine v_iconst hG dL_law_153 ?_
                    refine v_goto hG 158 dL_law_154 (by decide) ?_
                    refine v_istore hG [(0, _), (1, _), (2, _), (3, _), (4, _), (5, _), (6, _), (7, _)] dL_law_158 (by decide) rfl ?_
                    refine v_iload hG dL_law_160 7 rfl ?_
                    refine v_iconst hG dL_law_162 ?_
                    refine v_ishr0 hG dL_law_163 ?_
                    refine v_eqi hG (y := iN (shr x 4)) (iN_of _).symm ?_
                    refine v_aload hG dL_law_164 4 rfl ?_
                    refine v_bipush hG dL_law_166 (by decide) ?_
                    refine v_iald hG k_171 (by decide) (cl_108 _ _ _ _) (by decide) (by omega) dL_law_168 ?_
                    rw [rho_14 z147, er147]
                    refine v_callSi (n := 2) hG (c_L_low hr (by omega)) gL_law_L_low rfl (by decide +kernel) rfl (by decide) dL_law_169 rfl (Nat.le_of_ble_eq_true rfl) hkc ?_
                    intro v169 z169 hp169
                    obtain ⟨rfl, rfl, ha169, hb169⟩ := hp169
                    refine v_istore hG [(0, _), (1, _), (2, _), (3, _), (4, _), (5, _), (6, _), (7, _), (8, _)] dL_law_172 (by decide) rfl ?_
                    refine v_iload hG dL_law_174 5 rfl ?_
                    refine v_if_eq hG 229 (by omega) dL_law_176 (by decide) (fun h176 => ?_) (fun h176 => ?_)
                    · exfalso; omega
                    · refine v_aload_n hG dL_law_179 1 rfl ?_
                      refine v_aload_n hG dL_law_180 2 rfl ?_
                      refine v_aload_n hG dL_law_181 3 rfl ?_
                      refine v_aload hG dL_law_182 4 rfl ?_
                      refine v_iload hG dL_law_184 8 rfl ?_
                      refine v_iconst hG dL_law_186 ?_
                      refine v_iload hG dL_law_187 7 rfl ?_
                      refine v_bipush hG dL_law_189 (by decide) ?_
                      refine v_ishr0 hG dL_law_191 ?_
                      refine v_eqi hG (y := iN (shr x 7)) (iN_of _).symm ?_
                      refine v_bipush hG dL_law_192 (by decide) ?_
                      refine v_callSi (n := 2) hG (c_L_low hr (by omega)) gL_law_L_low rfl (by decide +kernel) rfl (by decide) dL_law_194 rfl (Nat.le_of_ble_eq_true rfl) hkc ?_
                      intro v194 z194 hp194
                      obtain ⟨rfl, rfl, ha194, hb194⟩ := hp194
                      refine v_iadd hG dL_law_197 ?_
                      refine v_callSi (n := 6) hG (c_L_isFeast hr hR147 (by omega) (by omega)) gL_law_L_isFeast rfl (by decide +kernel) rfl (by decide) dL_law_198 rfl (Nat.le_of_ble_eq_true rfl) hkc ?_
                      intro v198 z198 hp198
                      obtain ⟨rfl, rfl⟩ := hp198
                      refine v_if_eq hG 229 (by omega) dL_law_201 (by decide) (fun h201 => ?_) (fun h201 => ?_)
                      · exfalso; omega
                      · refine v_aload_n hG dL_law_204 1 rfl ?_
                        refine v_aload_n hG dL_law_205 2 rfl ?_
                        refine v_aload_n hG dL_law_206 3 rfl ?_
                        refine v_aload hG dL_law_207 4 rfl ?_
                        refine v_iload hG dL_law_209 7 rfl ?_
                        refine v_iconst hG dL_law_211 ?_
                        refine v_ishr0 hG dL_law_212 ?_
                        refine v_eqi hG (y := iN (shr x 2)) (iN_of _).symm ?_
                        refine v_sipush hG dL_law_213 (by decide) ?_
                        refine v_callSi (n := 2) hG (c_L_low hr (by omega)) gL_law_L_low rfl (by decide +kernel) rfl (by decide) dL_law_216 rfl (Nat.le_of_ble_eq_true rfl) hkc ?_
                        intro v216 z216 hp216
                        obtain ⟨rfl, rfl, ha216, hb216⟩ := hp216
                        refine v_callSi (n := 5) hG (c_L_areDays hr hR147 (by omega)) gL_law_L_areDays rfl (by decide +kernel) rfl (by decide) dL_law_219 rfl (Nat.le_of_ble_eq_true rfl) hkc ?_
                        intro v219 z219 hp219
                        obtain ⟨ha219, rfl⟩ := hp219
                        have hR219 := Rel_Q hR147 (agQ.of24 ha219)
                        have er219 : rho z219 14 = rho z94 14 := (congrFun (agQ.of24 ha219).rho 14).trans er147
                        refine v_if_eq hG 229 (by omega) dL_law_222 (by decide) (fun h222 => ?_) (fun h222 => ?_)
                        · exfalso; omega
                        · refine v_iconst hG dL_law_225 ?_
                          refine v_goto hG 230 dL_law_226 (by decide) ?_
                          refine v_istore hG [(0, _), (1, _), (2, _), (3, _), (4, _), (5, _), (6, _), (7, _), (8, _)] dL_law_230 (by decide) rfl ?_
                          refine v_iconst hG dL_law_232 ?_
                          refine v_istore hG [(0, _), (1, _), (2, _), (3, _), (4, _), (5, _), (6, _), (7, _), (8, _), (9, _)] dL_law_233 (by decide) rfl ?_
                          have L235 : ∀ (n : Nat), ∀ (x9 : Int) (y2 : Zt), (0 ≤ x9 ∧ x9 ≤ 9 ∧ Rel y2 ∧ rho y2 14 = rho z94 14) → (9 - x9 + 1).toNat ≤ n → V Γ y2 kc ks [(0, .ref b), (1, .ref (r 0)), (2, .ref (r 169)), (3, .ref (r 170)), (4, .ref (r 171)), (5, .int (iN 1)), (6, .int (iN x6)), (7, .int (iN x)), (8, .int (iN (lo (shr x 4) (rho z94 14)))), (9, .int (iN x9))] 235 [] := by
                            intro n
                            induction n with
                            | zero =>
                              intro x9 y2 hI hm
                              obtain ⟨j1, j2, hR2, er2⟩ := hI
                              exact absurd hm (by omega)
                            | succ n ih235 =>
                              intro x9 y2 hI hm
                              obtain ⟨j1, j2, hR2, er2⟩ := hI
                              refine v_iload hG dL_law_235 9 rfl ?_
                              refine v_bipush hG dL_law_237 (by decide) ?_
                              refine v_icmp_ge hG 309 (by omega) (by omega) dL_law_239 (by decide) (fun h239 => ?_) (fun h239 => ?_)
                              · refine v_iload hG dL_law_309 5 rfl ?_
                                refine v_if_eq hG 379 (by omega) dL_law_311 (by decide) (fun h311 => ?_) (fun h311 => ?_)
                                · exfalso; omega
                                · refine v_iload hG dL_law_314 6 rfl ?_
                                  refine v_bipush hG dL_law_316 (by decide) ?_
                                  refine v_irem hG (by omega) (by omega) dL_law_318 ?_
                                  refine v_iconst hG dL_law_319 ?_
                                  have L375 : ∀ (y3 : Zt), Rel y3 → V Γ y3 kc ks [(0, .ref b), (1, .ref (r 0)), (2, .ref (r 169)), (3, .ref (r 170)), (4, .ref (r 171)), (5, .int (iN 1)), (6, .int (iN x6))] 375 [] := by
                                    intro y3 hR3
                                    refine v_iconst hG dL_law_375 ?_
                                    refine v_goto hG 380 dL_law_376 (by decide) ?_
                                    refine v_istore hG [(0, _), (1, _), (2, _), (3, _), (4, _), (5, _), (6, _)] dL_law_380 (by decide) rfl ?_
                                    refine v_iinc hG [(0, _), (1, _), (2, _), (3, _), (4, _), (5, _), (6, _)] dL_law_382 6 rfl (by decide) rfl ?_
                                    refine v_goto hG 47 dL_law_385 (by decide) ?_
                                    exact ih47 _ _ ⟨by omega, by omega, hR3⟩ (by omega)
                                  refine v_icmp_ne hG 375 (by omega) (by omega) dL_law_320 (by decide) (fun h320 => ?_) (fun h320 => ?_)
                                  · refine v_sub hG [(0, _), (1, _), (2, _), (3, _), (4, _), (5, _), (6, _)] [0, 1, 2, 3, 4, 5, 6] rfl ?_
                                    exact L375 _ (by first | exact hR369 | exact hR2)
                                  · refine v_aload_n hG dL_law_323 1 rfl ?_
                                    refine v_aload_n hG dL_law_324 2 rfl ?_
                                    refine v_aload_n hG dL_law_325 3 rfl ?_
                                    refine v_aload hG dL_law_326 4 rfl ?_
                                    refine v_iload hG dL_law_328 8 rfl ?_
                                    refine v_iload hG dL_law_330 7 rfl ?_
                                    refine v_bipush hG dL_law_332 (by decide) ?_
                                    refine v_ishr0 hG dL_law_334 ?_
                                    refine v_eqi hG (y := iN (shr x 8)) (iN_of _).symm ?_
                                    refine v_aload hG dL_law_335 4 rfl ?_
                                    refine v_bipush hG dL_law_337 (by decide) ?_
                                    refine v_iald hG k_171 (by decide) (cl_108 _ _ _ _) (by decide) (by omega) dL_law_339 ?_
                                    rw [rho_14 y2, er2]
                                    refine v_callSi (n := 2) hG (c_L_low hr (by omega)) gL_law_L_low rfl (by decide +kernel) rfl (by decide) dL_law_340 rfl (Nat.le_of_ble_eq_true rfl) hkc ?_
                                    intro v340 z340 hp340
                                    obtain ⟨rfl, rfl, ha340, hb340⟩ := hp340
                                    refine v_iconst hG dL_law_343 ?_
                                    refine v_iload hG dL_law_344 7 rfl ?_
                                    refine v_bipush hG dL_law_346 (by decide) ?_
                                    refine v_ishr0 hG dL_law_348 ?_
                                    refine v_eqi hG (y := iN (shr x 6)) (iN_of _).symm ?_
                                    refine v_sipush hG dL_law_349 (by decide) ?_
                                    refine v_callSi (n := 2) hG (c_L_low hr (by omega)) gL_law_L_low rfl (by decide +kernel) rfl (by decide) dL_law_352 rfl (Nat.le_of_ble_eq_true rfl) hkc ?_
                                    intro v352 z352 hp352
                                    obtain ⟨rfl, rfl, ha352, hb352⟩ := hp352
                                    refine v_iadd hG dL_law_355 ?_
                                    refine v_callSi (n := 7) hG (c_L_isAhead hr hR2 (by omega) (by omega) (by omega)) gL_law_L_isAhead rfl (by decide +kernel) rfl (by decide) dL_law_356 rfl (Nat.le_of_ble_eq_true rfl) hkc ?_
                                    intro v356 z356 hp356
                                    obtain ⟨ha356, rfl⟩ := hp356
                                    have hR356 := Rel_Q hR2 (agQ.of24 ha356)
                                    have er356 : rho z356 14 = rho z94 14 := (congrFun (agQ.of24 ha356).rho 14).trans er2
                                    refine v_if_eq hG 379 (by omega) dL_law_359 (by decide) (fun h359 => ?_) (fun h359 => ?_)
                                    · exfalso; omega
                                    · refine v_aload_n hG dL_law_362 1 rfl ?_
                                      refine v_aload_n hG dL_law_363 2 rfl ?_
                                      refine v_aload_n hG dL_law_364 3 rfl ?_
                                      refine v_aload hG dL_law_365 4 rfl ?_
                                      refine v_iload hG dL_law_367 8 rfl ?_
                                      refine v_callSi (n := 5) hG (c_L_isBest hr hR356 (by omega)) gL_law_L_isBest rfl (by decide +kernel) rfl (by decide) dL_law_369 rfl (Nat.le_of_ble_eq_true rfl) hkc ?_
                                      intro v369 z369 hp369
                                      obtain ⟨ha369, rfl⟩ := hp369
                                      have hR369 := Rel_Q hR356 (agQ.of24 ha369)
                                      refine v_if_eq hG 379 (by omega) dL_law_372 (by decide) (fun h372 => ?_) (fun h372 => ?_)
                                      · exfalso; omega
                                      · refine v_sub hG [(0, _), (1, _), (2, _), (3, _), (4, _), (5, _), (6, _)] [0, 1, 2, 3, 4, 5, 6] rfl ?_
                                        exact L375 _ (by first | exact hR369 | exact hR2)
                              · refine v_iload hG dL_law_242 5 rfl ?_
                                refine v_if_eq hG 309 (by omega) dL_law_244 (by decide) (fun h244 => ?_) (fun h244 => ?_)
                                · exfalso; omega
                                · refine v_aload_n hG dL_law_247 1 rfl ?_
                                  refine v_iload hG dL_law_248 8 rfl ?_
                                  refine v_iconst hG dL_law_250 ?_
                                  refine v_iload hG dL_law_251 7 rfl ?_
                                  refine v_iload hG dL_law_253 9 rfl ?_
                                  refine v_ishr0 hG dL_law_255 ?_
                                  refine v_eqi hG (y := iN (shr x x9)) (iN_of _).symm ?_
                                  refine v_bipush hG dL_law_256 (by decide) ?_
                                  refine v_callSi (n := 2) hG (c_L_low hr (by omega)) gL_law_L_low rfl (by decide +kernel) rfl (by decide) dL_law_258 rfl (Nat.le_of_ble_eq_true rfl) hkc ?_
                                  intro v258 z258 hp258
                                  obtain ⟨rfl, rfl, ha258, hb258⟩ := hp258
                                  refine v_iadd hG dL_law_261 ?_
                                  refine v_callVi (n := 2) (ci := 4) hG (c_X4_dayKept hr k_0 hR2.1.1 (by omega) (by omega) (by have h9 := hR2.1.2.2.1.1; omega)) gL_law_X4_dayKept rfl (by decide +kernel) rfl (by decide) k_0 (by decide) (cl_1 _ _ _ _) rfl dL_law_262 rfl (Nat.le_of_ble_eq_true rfl) hkc ?_
                                  intro v262 z262 hp262
                                  obtain ⟨rfl, hb262, hc262, rfl⟩ := hp262
                                  have hkm := kM_20 (f := lo (shr x 4) (rho z94 14)) (y := 1 + lo (shr x x9) 20) (RB_MI hR2.1) (by omega) (by omega)
                                  have eK := (RB_dS9 hR2.1 (f := lo (shr x 4) (rho z94 14)) (by omega) (1 + lo (shr x x9) 20)).2
                                  rw [eK]
                                  obtain ⟨u, hu⟩ : ∃ u, u = kM (rho y2) (lo (shr x 4) (rho z94 14)) (1 + lo (shr x x9) 20) := ⟨_, rfl⟩
                                  rw [← hu] at hkm ⊢
                                  refine v_istore hG [(0, _), (1, _), (2, _), (3, _), (4, _), (5, _), (6, _), (7, _), (8, _), (9, _), (10, _)] dL_law_265 (by decide) rfl ?_
                                  refine v_iload hG dL_law_267 10 rfl ?_
                                  refine v_if_lt hG 296 (by omega) dL_law_269 (by decide) (fun h269 => ?_) (fun h269 => ?_)
                                  · refine v_iconst hG dL_law_296 ?_
                                    refine v_goto hG 301 dL_law_297 (by decide) ?_
                                    refine v_istore hG [(0, _), (1, _), (2, _), (3, _), (4, _), (5, _), (6, _), (7, _), (8, _), (9, _), (10, _)] dL_law_301 (by decide) rfl ?_
                                    refine v_iinc hG [(0, _), (1, _), (2, _), (3, _), (4, _), (5, _), (6, _), (7, _), (8, _), (9, _), (10, _)] dL_law_303 9 rfl (by decide) rfl ?_
                                    refine v_goto hG 235 dL_law_306 (by decide) ?_
                                    refine v_sub hG [(0, _), (1, _), (2, _), (3, _), (4, _), (5, _), (6, _), (7, _), (8, _), (9, _)] [0, 1, 2, 3, 4, 5, 6, 7, 8, 9] rfl ?_
                                    exact ih235 _ _ ⟨by omega, by omega, by first | exact hR279 | exact hR2, by first | exact er279 | exact er2⟩ (by omega)
                                  · refine v_aload_n hG dL_law_272 1 rfl ?_
                                    refine v_aload_n hG dL_law_273 2 rfl ?_
                                    refine v_aload_n hG dL_law_274 3 rfl ?_
                                    refine v_aload hG dL_law_275 4 rfl ?_
                                    refine v_iload hG dL_law_277 10 rfl ?_
                                    refine v_callSi (n := 5) hG (c_L_areDays hr hR2 (by omega)) gL_law_L_areDays rfl (by decide +kernel) rfl (by decide) dL_law_279 rfl (Nat.le_of_ble_eq_true rfl) hkc ?_
                                    intro v279 z279 hp279
                                    obtain ⟨ha279, rfl⟩ := hp279
                                    have hR279 := Rel_Q hR2 (agQ.of24 ha279)
                                    have eR279 := (agQ.of24 ha279).rho
                                    have er279 : rho z279 14 = rho z94 14 := (congrFun eR279 14).trans er2
                                    have hon : onS z279 1 (9 + (lo (shr x 4) (rho z94 14)).toNat) u := (RB_on9 hR279.1 (by omega) u).mpr (by rw [eR279]; exact hkm.2.2 (by omega))
                                    refine v_if_eq hG 300 (by omega) dL_law_282 (by decide) (fun h282 => ?_) (fun h282 => ?_)
                                    · exfalso; omega
                                    · refine v_aload_n hG dL_law_285 1 rfl ?_
                                      refine v_iload hG dL_law_286 8 rfl ?_
                                      refine v_iload hG dL_law_288 10 rfl ?_
                                      refine v_callVi (n := 2) (ci := 4) hG (c_X4_isKept hr k_0 hR279.1.1 (by omega) (by omega) (by have h9 := hR279.1.2.2.1.1; omega)) gL_law_X4_isKept rfl (by decide +kernel) rfl (by decide) k_0 (by decide) (cl_1 _ _ _ _) rfl dL_law_290 rfl (Nat.le_of_ble_eq_true rfl) hkc ?_
                                      intro v290 z290 hp290
                                      obtain ⟨rfl, hb290, hc290, rfl⟩ := hp290
                                      rw [ind_t hon]
                                      refine v_if_eq hG 300 (by omega) dL_law_293 (by decide) (fun h293 => ?_) (fun h293 => ?_)
                                      · exfalso; omega
                                      · refine v_iconst hG dL_law_296 ?_
                                        refine v_goto hG 301 dL_law_297 (by decide) ?_
                                        refine v_istore hG [(0, _), (1, _), (2, _), (3, _), (4, _), (5, _), (6, _), (7, _), (8, _), (9, _), (10, _)] dL_law_301 (by decide) rfl ?_
                                        refine v_iinc hG [(0, _), (1, _), (2, _), (3, _), (4, _), (5, _), (6, _), (7, _), (8, _), (9, _), (10, _)] dL_law_303 9 rfl (by decide) rfl ?_
                                        refine v_goto hG 235 dL_law_306 (by decide) ?_
                                        refine v_sub hG [(0, _), (1, _), (2, _), (3, _), (4, _), (5, _), (6, _), (7, _), (8, _), (9, _)] [0, 1, 2, 3, 4, 5, 6, 7, 8, 9] rfl ?_
                                        exact ih235 _ _ ⟨by omega, by omega, by first | exact hR279 | exact hR2, by first | exact er279 | exact er2⟩ (by omega)
                          exact L235 _ _ _ ⟨by omega, by omega, hR219, er219⟩ (Nat.le_refl _)
                refine v_if_ne hG 141 (by omega) dL_law_132 (by decide) (fun h132 => ?_) (fun h132 => ?_)
                · refine v_sipush hG dL_law_141 (by decide) ?_
                  exact L144 _ (by omega)
                · refine v_sipush hG dL_law_135 (by decide) ?_
                  refine v_goto hG 144 dL_law_138 (by decide) ?_
                  exact L144 _ (by omega)
          refine v_iload hG dL_law_72 6 rfl ?_
          refine v_iconst hG dL_law_74 ?_
          refine v_icmp_ge hG 82 (by omega) (by omega) dL_law_75 (by decide) (fun h75 => ?_) (fun h75 => ?_)
          · refine v_iload hG dL_law_82 7 rfl ?_
            refine v_bipush hG dL_law_84 (by decide) ?_
            refine v_ishr0 hG dL_law_86 ?_
            refine v_eqi hG (y := iN (shr x 18)) (iN_of _).symm ?_
            refine v_bipush hG dL_law_87 (by decide) ?_
            refine v_callSi (n := 2) hG (c_L_low hr (by omega)) gL_law_L_low rfl (by decide +kernel) rfl (by decide) dL_law_89 rfl (Nat.le_of_ble_eq_true rfl) hkc ?_
            intro v89 z89 hp89
            obtain ⟨rfl, rfl, ha89, hb89⟩ := hp89
            exact L92 _ ⟨by omega, by omega⟩
          · refine v_iconst hG dL_law_78 ?_
            refine v_goto hG 92 dL_law_79 (by decide) ?_
            exact L92 _ ⟨by omega, by omega⟩
  exact L47 _ _ _ ⟨by omega, by omega, hRl⟩ (Nat.le_refl _)
