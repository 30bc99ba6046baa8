set_option maxHeartbeats 4000000 in
set_option maxRecDepth 100000 in
theorem a_104 {l : Launch} {D : va_G} {cA : Nat → ClassId} {r : Nat → Nat} {Γ : Cx} {z : Zt} {c x t k : Int} (hr : Inj r) (hG : Cok l D cA r (rmz 7 164) Γ cL_acts RL wsL_acts 18) (hR : Rt r (Qi D cA r (fun v z1 => v = 1 ∧ Rel z1 ∧ 1 ≤ rho z1 14)) (some .boolean) Γ) (hRl : Rel z) (ht : t = 0 ∨ t = 1) (hk : 0 ≤ k ∧ (k < rho z 14 ∨ rho z 14 = 0)) : V Γ z 0 0 [(0, .ref (r 0)), (1, .ref (r 169)), (2, .ref (r 170)), (3, .ref (r 171)), (4, .int (iN c)), (5, .int (iN x)), (6, .int (iN t)), (7, .int (iN k))] 104 [] := by
  obtain ⟨hB, hP, hA, hbd⟩ := id hRl
  have hM := RB_MI hB
  obtain ⟨hG1, h14, hFe, h55, h56, h57⟩ := id hM
  obtain ⟨hS, hT, ⟨n1, n2, n3, n4, n5, n6⟩, hFf⟩ := id hB
  obtain ⟨c1, c2, c3, c4⟩ := id hbd
  refine v_aload_n hG dL_acts_104 3 rfl ?_
  refine v_bipush hG dL_acts_105 (by decide) ?_
  refine v_iald hG k_171 (by decide) (cl_108 _ _ _ _) (by decide) (by omega) dL_acts_107 ?_
  rw [rho_14 z]
  refine v_bipush hG dL_acts_108 (by decide) ?_
  refine v_icmp_ne hG 152 (by omega) (by omega) dL_acts_110 (by decide) (fun h110 => ?_) (fun h110 => ?_)
  · refine v_iconst hG dL_acts_152 ?_
    refine v_aload_n hG dL_acts_153 3 rfl ?_
    refine v_bipush hG dL_acts_154 (by decide) ?_
    refine v_iald hG k_171 (by decide) (cl_108 _ _ _ _) (by decide) (by omega) dL_acts_156 ?_
    rw [rho_14 z]
    refine v_imul hG dL_acts_157 ?_
    refine v_istore hG [(0, _), (1, _), (2, _), (3, _), (4, _), (5, _), (6, _), (7, _), (8, _)] dL_acts_158 (by decide) rfl ?_
    refine v_aload_n hG dL_acts_160 2 rfl ?_
    refine v_iload hG dL_acts_161 8 rfl ?_
    refine v_iload hG dL_acts_163 6 rfl ?_
    refine v_iast hG k_170 (by decide) (cl_140 _ _ _) (by decide) (by omega) dL_acts_165 ?_
    refine v_aload_n hG dL_acts_166 2 rfl ?_
    refine v_iload hG dL_acts_167 8 rfl ?_
    refine v_iconst hG dL_acts_169 ?_
    refine v_iadd hG dL_acts_170 ?_
    refine v_iconst hG dL_acts_171 ?_
    refine v_iload hG dL_acts_172 5 rfl ?_
    have L194 : ∀ (W : Int), (W = 12 ∨ W = 3) → V Γ (zup z 170 (4 * rho z 14).toNat t) 0 0 [(0, .ref (r 0)), (1, .ref (r 169)), (2, .ref (r 170)), (3, .ref (r 171)), (4, .int (iN c)), (5, .int (iN x)), (6, .int (iN t)), (7, .int (iN k)), (8, .int (iN (4 * rho z 14)))] 194 [.int (iN W), .int (iN (shr x 1)), .int (iN 1), .int (iN (4 * rho z 14 + 1)), .ref (r 170)] := by
      intro W hW
      refine v_callSi (n := 2) hG (c_L_low hr (by omega)) gL_acts_L_low rfl (by decide +kernel) rfl (by decide) dL_acts_194 rfl (Nat.le_of_ble_eq_true rfl) (by decide) ?_
      intro v194 z194 hp194
      obtain ⟨rfl, rfl, ha194, hb194⟩ := hp194
      refine v_iadd hG dL_acts_197 ?_
      refine v_iast hG k_170 (by decide) (cl_140 _ _ _) (by decide) (by omega) dL_acts_198 ?_
      refine v_aload_n hG dL_acts_199 2 rfl ?_
      refine v_iload hG dL_acts_200 8 rfl ?_
      refine v_iconst hG dL_acts_202 ?_
      refine v_iadd hG dL_acts_203 ?_
      refine v_iconst hG dL_acts_204 ?_
      refine v_iload hG dL_acts_205 5 rfl ?_
      have L228 : ∀ (U : Int), (U = 31 ∨ U = 8) → V Γ (zup (zup z 170 (4 * rho z 14).toNat t) 170 (4 * rho z 14 + 1).toNat (1 + lo (shr x 1) W)) 0 0 [(0, .ref (r 0)), (1, .ref (r 169)), (2, .ref (r 170)), (3, .ref (r 171)), (4, .int (iN c)), (5, .int (iN x)), (6, .int (iN t)), (7, .int (iN k)), (8, .int (iN (4 * rho z 14)))] 228 [.int (iN U), .int (iN (shr x 5)), .int (iN 1), .int (iN (4 * rho z 14 + 2)), .ref (r 170)] := by
        intro U hU
        have hlm := lo_bd (shr x 1) (n := W) (by omega)
        have hlq := lo_bd (shr x 5) (n := U) (by omega)
        obtain ⟨m, hmm⟩ : ∃ m, m = 1 + lo (shr x 1) W := ⟨_, rfl⟩
        obtain ⟨q, hqq⟩ : ∃ q, q = 1 + lo (shr x 5) U := ⟨_, rfl⟩
        have hm : 1 ≤ m ∧ m ≤ 12 := by omega
        have hq : 1 ≤ q ∧ q ≤ 31 := by omega
        rw [← hmm]
        refine v_callSi (n := 2) hG (c_L_low hr (by omega)) gL_acts_L_low rfl (by decide +kernel) rfl (by decide) dL_acts_228 rfl (Nat.le_of_ble_eq_true rfl) (by decide) ?_
        intro v228 z228 hp228
        obtain ⟨rfl, rfl, ha228, hb228⟩ := hp228
        refine v_iadd hG dL_acts_231 ?_
        rw [← hqq]
        refine v_iast hG k_170 (by decide) (cl_140 _ _ _) (by decide) (by omega) dL_acts_232 ?_
        refine v_aload_n hG dL_acts_233 2 rfl ?_
        refine v_iload hG dL_acts_234 8 rfl ?_
        refine v_iconst hG dL_acts_236 ?_
        refine v_iadd hG dL_acts_237 ?_
        refine v_iconst hG dL_acts_238 ?_
        refine v_iast hG k_170 (by decide) (cl_140 _ _ _) (by decide) (by omega) dL_acts_239 ?_
        refine v_aload_n hG dL_acts_240 3 rfl ?_
        refine v_bipush hG dL_acts_241 (by decide) ?_
        refine v_dup2 hG dL_acts_243 rfl rfl ?_
        refine v_iald hG k_171 (by decide) (cl_108 _ _ _ _) (by decide) (by omega) dL_acts_244 ?_
        rw [zup_o (show (171 : Nat) ≠ 170 by decide), zup_o (show (171 : Nat) ≠ 170 by decide), zup_o (show (171 : Nat) ≠ 170 by decide), zup_o (show (171 : Nat) ≠ 170 by decide), rho_14 z]
        refine v_iconst hG dL_acts_245 ?_
        refine v_iadd hG dL_acts_246 ?_
        refine v_iast hG k_171 (by decide) (cl_108 _ _ _) (by decide) (by omega) dL_acts_247 ?_
        refine v_wz hG (lfZ z t m q) rfl ?_
        have hag := lfZ_ag z t m q
        refine v_aload_n hG dL_acts_248 0 rfl ?_
        refine v_iload hG dL_acts_249 6 rfl ?_
        refine v_aload_n hG dL_acts_251 2 rfl ?_
        refine v_iload hG dL_acts_252 8 rfl ?_
        refine v_iconst hG dL_acts_254 ?_
        refine v_iadd hG dL_acts_255 ?_
        refine v_iald hG k_170 (by decide) (cl_140 _ _ _ _) (by decide) (by omega) dL_acts_256 ?_
        rw [lfZ_1 (by omega)]
        refine v_aload_n hG dL_acts_257 2 rfl ?_
        refine v_iload hG dL_acts_258 8 rfl ?_
        refine v_iconst hG dL_acts_260 ?_
        refine v_iadd hG dL_acts_261 ?_
        refine v_iald hG k_170 (by decide) (cl_140 _ _ _ _) (by decide) (by omega) dL_acts_262 ?_
        rw [lfZ_2 (by omega)]
        refine v_callVi (n := 3) (ci := 4) hG (c_X4_addFeast hr k_0 ((lfZ_ag z t m q).RB hB).1 ((lfZ_ag z t m q).PI hP) ((lfZ_ag z t m q).AI hA) (by omega) (by omega) (by omega) (by rw [(lfZ_ag z t m q) 1 (by decide)]; omega)) gL_acts_X4_addFeast rfl (by decide +kernel) rfl (by decide) k_0 (by decide) (cl_1 _ _ _ _) rfl dL_acts_263 rfl (Nat.le_of_ble_eq_true rfl) (by decide) ?_
        intro v263 z263 hp263
        obtain ⟨hz263, hb263, hc263, hd263, hv263⟩ := hp263
        rw [(lfZ_ag z t m q) 1 (by decide)] at hv263
        refine v_aload_n hG dL_acts_266 3 rfl ?_
        refine v_bipush hG dL_acts_267 (by decide) ?_
        refine v_iald hG k_171 (by decide) (cl_108 _ _ _ _) (by decide) (by omega) dL_acts_269 ?_
        rw [show z263 171 (7 : Int).toNat = rho z 14 + 1 by rw [← hz263]; exact (Rel_feast hRl ht hm hq (by omega)).2]
        refine v_iconst hG dL_acts_270 ?_
        refine v_isub hG dL_acts_271 ?_
        refine v_icmp_ne hG 279 (by omega) (by omega) dL_acts_272 (by decide) (fun h272 => ?_) (fun h272 => ?_)
        · exfalso; omega
        · refine v_iconst hG dL_acts_275 ?_
          refine v_goto hG 280 dL_acts_276 (by decide) ?_
          exact v_zret hG hR (by first | exact Or.inl rfl | exact Or.inr rfl | omega) dL_acts_280 ⟨rfl, by rw [← hz263]; exact (Rel_feast hRl ht hm hq (by omega)).1⟩
      refine v_iconst hG dL_acts_207 ?_
      refine v_ishr0 hG dL_acts_208 ?_
      refine v_eqi hG (y := iN (shr x 5)) (iN_of _).symm ?_
      refine v_iload hG dL_acts_209 5 rfl ?_
      refine v_bipush hG dL_acts_211 (by decide) ?_
      refine v_ishr0 hG dL_acts_213 ?_
      refine v_eqi hG (y := iN (shr x 10)) (iN_of _).symm ?_
      refine v_iconst hG dL_acts_214 ?_
      refine v_callSi (n := 2) hG (c_L_low hr (by omega)) gL_acts_L_low rfl (by decide +kernel) rfl (by decide) dL_acts_215 rfl (Nat.le_of_ble_eq_true rfl) (by decide) ?_
      intro v215 z215 hp215
      obtain ⟨rfl, rfl, ha215, hb215⟩ := hp215
      refine v_if_ne hG 226 (by omega) dL_acts_218 (by decide) (fun h218 => ?_) (fun h218 => ?_)
      · refine v_bipush hG dL_acts_226 (by decide) ?_
        exact L228 _ (by omega)
      · refine v_bipush hG dL_acts_221 (by decide) ?_
        refine v_goto hG 228 dL_acts_223 (by decide) ?_
        exact L228 _ (by omega)
    refine v_iconst hG dL_acts_174 ?_
    refine v_ishr0 hG dL_acts_175 ?_
    refine v_eqi hG (y := iN (shr x 1)) (iN_of _).symm ?_
    refine v_iload hG dL_acts_176 5 rfl ?_
    refine v_bipush hG dL_acts_178 (by decide) ?_
    refine v_ishr0 hG dL_acts_180 ?_
    refine v_eqi hG (y := iN (shr x 9)) (iN_of _).symm ?_
    refine v_iconst hG dL_acts_181 ?_
    refine v_callSi (n := 2) hG (c_L_low hr (by omega)) gL_acts_L_low rfl (by decide +kernel) rfl (by decide) dL_acts_182 rfl (Nat.le_of_ble_eq_true rfl) (by decide) ?_
    intro v182 z182 hp182
    obtain ⟨rfl, rfl, ha182, hb182⟩ := hp182
    refine v_if_ne hG 193 (by omega) dL_acts_185 (by decide) (fun h185 => ?_) (fun h185 => ?_)
    · refine v_iconst hG dL_acts_193 ?_
      exact L194 _ (by omega)
    · refine v_bipush hG dL_acts_188 (by decide) ?_
      refine v_goto hG 194 dL_acts_190 (by decide) ?_
      exact L194 _ (by omega)
  · refine v_aload_n hG dL_acts_113 0 rfl ?_
    refine v_iload hG dL_acts_114 7 rfl ?_
    refine v_iload hG dL_acts_116 5 rfl ?_
    refine v_iconst hG dL_acts_118 ?_
    refine v_ishr0 hG dL_acts_119 ?_
    refine v_eqi hG (y := iN (shr x 5)) (iN_of _).symm ?_
    refine v_bipush hG dL_acts_120 (by decide) ?_
    refine v_callSi (n := 2) hG (c_L_low hr (by omega)) gL_acts_L_low rfl (by decide +kernel) rfl (by decide) dL_acts_122 rfl (Nat.le_of_ble_eq_true rfl) (by decide) ?_
    intro v122 z122 hp122
    obtain ⟨rfl, rfl, ha122, hb122⟩ := hp122
    refine v_callVi (n := 2) (ci := 4) hG (c_X4_barWeekday hr k_0 hS hP hA (by omega) (by omega) (by omega)) gL_acts_X4_barWeekday rfl (by decide +kernel) rfl (by decide) k_0 (by decide) (cl_1 _ _ _ _) rfl dL_acts_125 rfl (Nat.le_of_ble_eq_true rfl) (by decide) ?_
    intro v125 z125 hp125
    obtain ⟨hz125, hb125, hc125, hv125⟩ := hp125
    have e125 : v125 = mF (rho z) k 3 := by
      rw [hv125]
      have h9 := RB_f hB (f := k) (by omega) (w := 3) (by decide)
      rw [show 1 + 8 + k.toNat = 9 + k.toNat by omega] at h9
      exact h9
    have hF := hFe k (by omega) (by omega)
    obtain ⟨-, -, -, -, -, hF5, hF6⟩ := id hF
    refine v_aload_n hG dL_acts_128 2 rfl ?_
    refine v_iload hG dL_acts_129 7 rfl ?_
    refine v_iload hG dL_acts_131 5 rfl ?_
    refine v_iconst hG dL_acts_133 ?_
    refine v_ishr0 hG dL_acts_134 ?_
    refine v_eqi hG (y := iN (shr x 5)) (iN_of _).symm ?_
    refine v_bipush hG dL_acts_135 (by decide) ?_
    refine v_callSi (n := 2) hG (c_L_low hr (by omega)) gL_acts_L_low rfl (by decide +kernel) rfl (by decide) dL_acts_137 rfl (Nat.le_of_ble_eq_true rfl) (by decide) ?_
    intro v137 z137 hp137
    obtain ⟨rfl, rfl, ha137, hb137⟩ := hp137
    refine v_callSi (n := 3) hG (c_L_bars hr (by omega)) gL_acts_L_bars rfl (by decide +kernel) rfl (by decide) dL_acts_140 rfl (Nat.le_of_ble_eq_true rfl) (by decide) ?_
    intro v140 z140 hp140
    obtain ⟨hz140, rfl⟩ := hp140
    have e140 : mF (rho z125) k 3 = mF (rho z) k 3 := by
      refine congrArg (fun ρ => mF ρ k 3) (rho_c ?_ ?_ ?_) <;> (rw [← hz125, zup_o (by omega), recZ_big hP (by decide)])
    rw [e140]
    refine v_icmp_ne hG 150 (by omega) (by omega) dL_acts_143 (by decide) (fun h143 => ?_) (fun h143 => ?_)
    · exfalso; omega
    · refine v_iconst hG dL_acts_146 ?_
      refine v_goto hG 151 dL_acts_147 (by decide) ?_
      exact v_zret hG hR (by first | exact Or.inl rfl | exact Or.inr rfl | omega) dL_acts_151 ⟨rfl, by rw [← hz140, ← hz125]; have h9 := Rel_bar (f := k) (b := lo (shr x 5) 7) hRl (by omega) (by omega); exact ⟨h9.1, by omega⟩⟩

set_option maxHeartbeats 4000000 in
set_option maxRecDepth 100000 in
theorem a_342 {l : Launch} {D : va_G} {cA : Nat → ClassId} {r : Nat → Nat} {Γ : Cx} {z : Zt} {c x t k : Int} (hr : Inj r) (hG : Cok l D cA r (rmz 7 164) Γ cL_acts RL wsL_acts 18) (hR : Rt r (Qi D cA r (fun v z1 => v = 1 ∧ Rel z1 ∧ 1 ≤ rho z1 14)) (some .boolean) Γ) (hRl : Rel z) (ht : t = 0 ∨ t = 1) (hk : 0 ≤ k ∧ (k < rho z 14 ∨ rho z 14 = 0)) (hn2 : 2 ≤ rho z 14) : V Γ z 0 0 [(0, .ref (r 0)), (1, .ref (r 169)), (2, .ref (r 170)), (3, .ref (r 171)), (4, .int (iN c)), (5, .int (iN x)), (6, .int (iN t)), (7, .int (iN k))] 342 [] := by
  obtain ⟨hB, hP, hA, hbd⟩ := id hRl
  have hM := RB_MI hB
  obtain ⟨hG1, h14, hFe, h55, h56, h57⟩ := id hM
  obtain ⟨hS, hT, ⟨n1, n2, n3, n4, n5, n6⟩, hFf⟩ := id hB
  obtain ⟨c1, c2, c3, c4⟩ := id hbd
  refine v_aload_n hG dL_acts_342 0 rfl ?_
  refine v_aload_n hG dL_acts_343 3 rfl ?_
  refine v_iconst hG dL_acts_344 ?_
  refine v_iald hG k_171 (by decide) (cl_108 _ _ _ _) (by decide) (by omega) dL_acts_345 ?_
  rw [rho_55 z]
  refine v_callVi (n := 1) (ci := 4) hG (c_X4_setShift hr k_0 hP hA (by omega) (by omega)) gL_acts_X4_setShift rfl (by decide +kernel) rfl (by decide) k_0 (by decide) (cl_1 _ _ _ _) rfl dL_acts_346 rfl (Nat.le_of_ble_eq_true rfl) (by decide) ?_
  intro v346 z346 hp346
  obtain ⟨hz346, hb346, hv346⟩ := hp346
  refine v_aload_n hG dL_acts_349 3 rfl ?_
  refine v_iconst hG dL_acts_350 ?_
  refine v_iald hG k_171 (by decide) (cl_108 _ _ _ _) (by decide) (by omega) dL_acts_351 ?_
  rw [show z346 171 (0 : Int).toNat = rho z 55 by rw [← hz346, zup_o (by decide), recZ_big hP (by decide)]; exact rho_55 z]
  refine v_icmp_ne hG 359 (by omega) (by omega) dL_acts_352 (by decide) (fun h352 => ?_) (fun h352 => ?_)
  · exfalso; omega
  · refine v_iconst hG dL_acts_355 ?_
    refine v_goto hG 360 dL_acts_356 (by decide) ?_
    exact v_zret hG hR (by first | exact Or.inl rfl | exact Or.inr rfl | omega) dL_acts_360 ⟨rfl, by rw [← hz346]; have h9 := Rel_same hRl; exact ⟨h9.1, by omega⟩⟩

set_option maxHeartbeats 4000000 in
set_option maxRecDepth 100000 in
theorem a_281 {l : Launch} {D : va_G} {cA : Nat → ClassId} {r : Nat → Nat} {Γ : Cx} {z : Zt} {c x t k : Int} (hr : Inj r) (hG : Cok l D cA r (rmz 7 164) Γ cL_acts RL wsL_acts 18) (hR : Rt r (Qi D cA r (fun v z1 => v = 1 ∧ Rel z1 ∧ 1 ≤ rho z1 14)) (some .boolean) Γ) (hRl : Rel z) (ht : t = 0 ∨ t = 1) (hk : 0 ≤ k ∧ (k < rho z 14 ∨ rho z 14 = 0)) (hn2 : 2 ≤ rho z 14) : V Γ z 0 0 [(0, .ref (r 0)), (1, .ref (r 169)), (2, .ref (r 170)), (3, .ref (r 171)), (4, .int (iN c)), (5, .int (iN x)), (6, .int (iN t)), (7, .int (iN k))] 281 [] := by
  obtain ⟨hB, hP, hA, hbd⟩ := id hRl
  have hM := RB_MI hB
  obtain ⟨hG1, h14, hFe, h55, h56, h57⟩ := id hM
  obtain ⟨hS, hT, ⟨n1, n2, n3, n4, n5, n6⟩, hFf⟩ := id hB
  obtain ⟨c1, c2, c3, c4⟩ := id hbd
  have hgn := hG1 t ht
  have hg0 := hgn.1
  have hg3 := hgn.2.1
  have hgl : 0 < mN (rho z) t → 0 ≤ mD (rho z) t (mN (rho z) t - 1).toNat ∧ mD (rho z) t (mN (rho z) t - 1).toNat ≤ 9999 := fun q => by
    have h9 := hgn.2.2.1 (mN (rho z) t - 1).toNat (by omega)
    omega
  have hTt := hT t ht
  rw [tS_1] at hTt
  obtain ⟨ht1, ht2, ht3⟩ := hTt
  have hto := tid_or t
  refine v_aload_n hG dL_acts_281 1 rfl ?_
  refine v_bipush hG dL_acts_282 (by decide) ?_
  refine v_iload hG dL_acts_284 6 rfl ?_
  refine v_imul hG dL_acts_286 ?_
  refine v_iald hG k_169 (by decide) (cl_114 _ _ _ _) (by decide) (by omega) dL_acts_287 ?_
  rw [rh_N z ht]
  refine v_istore hG [(0, _), (1, _), (2, _), (3, _), (4, _), (5, _), (6, _), (7, _), (9, _)] dL_acts_288 (by decide) rfl ?_
  have L315 : ∀ (A : Int), (0 ≤ A ∧ A ≤ 10000 ∧ (mN (rho z) t = 0 ∨ mD (rho z) t (mN (rho z) t - 1).toNat < A)) → V Γ z 0 0 [(0, .ref (r 0)), (1, .ref (r 169)), (2, .ref (r 170)), (3, .ref (r 171)), (4, .int (iN c)), (5, .int (iN x)), (6, .int (iN t)), (7, .int (iN k)), (9, .int (iN (mN (rho z) t)))] 315 [.int (iN A)] := by
    intro A hI
    obtain ⟨A0, A1, A2⟩ := hI
    refine v_iload hG dL_acts_315 5 rfl ?_
    refine v_iconst hG dL_acts_317 ?_
    refine v_ishr0 hG dL_acts_318 ?_
    refine v_eqi hG (y := iN (shr x 1)) (iN_of _).symm ?_
    refine v_sipush hG dL_acts_319 (by decide) ?_
    refine v_callSi (n := 2) hG (c_L_low hr (by omega)) gL_acts_L_low rfl (by decide +kernel) rfl (by decide) dL_acts_322 rfl (Nat.le_of_ble_eq_true rfl) (by decide) ?_
    intro v322 z322 hp322
    obtain ⟨rfl, rfl, ha322, hb322⟩ := hp322
    refine v_iadd hG dL_acts_325 ?_
    obtain ⟨a, haa⟩ : ∃ a, a = A + lo (shr x 1) 500 := ⟨_, rfl⟩
    rw [← haa]
    have ha9 : 0 ≤ a ∧ a ≤ 11000 ∧ (mN (rho z) t = 0 ∨ mD (rho z) t (mN (rho z) t - 1).toNat < a) := by omega
    refine v_istore hG [(0, _), (1, _), (2, _), (3, _), (4, _), (5, _), (6, _), (7, _), (9, _), (10, _)] dL_acts_326 (by decide) rfl ?_
    refine v_iload hG dL_acts_328 8 rfl ?_
    refine v_iconst hG dL_acts_330 ?_
    refine v_icmp_eq hG 342 (by omega) (by omega) dL_acts_331 (by decide) (fun h331 => ?_) (fun h331 => ?_)
    · refine v_sub hG [(0, _), (1, _), (2, _), (3, _), (4, _), (5, _), (6, _), (7, _)] [0, 1, 2, 3, 4, 5, 6, 7] rfl ?_
      exact a_342 hr hG hR hRl ht hk hn2
    · refine v_iload hG dL_acts_334 9 rfl ?_
      refine v_sipush hG dL_acts_336 (by decide) ?_
      refine v_icmp_le hG 361 (by omega) (by omega) dL_acts_339 (by decide) (fun h339 => ?_) (fun h339 => ?_)
      · refine v_aload_n hG dL_acts_361 1 rfl ?_
        refine v_bipush hG dL_acts_362 (by decide) ?_
        refine v_iload hG dL_acts_364 6 rfl ?_
        refine v_imul hG dL_acts_366 ?_
        refine v_iconst hG dL_acts_367 ?_
        refine v_iadd hG dL_acts_368 ?_
        refine v_iconst hG dL_acts_369 ?_
        refine v_iload hG dL_acts_370 8 rfl ?_
        refine v_imul hG dL_acts_372 ?_
        refine v_iadd hG dL_acts_373 ?_
        refine v_iload hG dL_acts_374 9 rfl ?_
        refine v_iast hG k_169 (by decide) (cl_114 _ _ _) (by decide) (by omega) dL_acts_376 ?_
        refine v_aload_n hG dL_acts_377 1 rfl ?_
        refine v_bipush hG dL_acts_378 (by decide) ?_
        refine v_iload hG dL_acts_380 6 rfl ?_
        refine v_imul hG dL_acts_382 ?_
        refine v_iconst hG dL_acts_383 ?_
        refine v_iadd hG dL_acts_384 ?_
        refine v_iconst hG dL_acts_385 ?_
        refine v_iload hG dL_acts_386 8 rfl ?_
        refine v_imul hG dL_acts_388 ?_
        refine v_iadd hG dL_acts_389 ?_
        refine v_iconst hG dL_acts_390 ?_
        refine v_iload hG dL_acts_391 5 rfl ?_
        refine v_iconst hG dL_acts_393 ?_
        refine v_ishr0 hG dL_acts_394 ?_
        refine v_eqi hG (y := iN (shr x 5)) (iN_of _).symm ?_
        refine v_bipush hG dL_acts_395 (by decide) ?_
        refine v_callSi (n := 2) hG (c_L_low hr (by omega)) gL_acts_L_low rfl (by decide +kernel) rfl (by decide) dL_acts_397 rfl (Nat.le_of_ble_eq_true rfl) (by decide) ?_
        intro v397 z397 hp397
        obtain ⟨rfl, rfl, ha397, hb397⟩ := hp397
        refine v_iadd hG dL_acts_400 ?_
        obtain ⟨q, hqq⟩ : ∃ q, q = 1 + lo (shr x 5) 40 := ⟨_, rfl⟩
        rw [← hqq]
        have hq9 : 1 ≤ q ∧ q ≤ 40 := by omega
        refine v_iast hG k_169 (by decide) (cl_114 _ _ _) (by decide) (by omega) dL_acts_401 ?_
        refine v_aload_n hG dL_acts_402 1 rfl ?_
        refine v_bipush hG dL_acts_403 (by decide) ?_
        refine v_iload hG dL_acts_405 6 rfl ?_
        refine v_imul hG dL_acts_407 ?_
        refine v_iload hG dL_acts_408 8 rfl ?_
        refine v_iconst hG dL_acts_410 ?_
        refine v_iadd hG dL_acts_411 ?_
        refine v_iast hG k_169 (by decide) (cl_114 _ _ _) (by decide) (by omega) dL_acts_412 ?_
        refine v_wz hG (lgZ z t a q) rfl ?_
        have hgo : (if mN (rho z) t = 0 then -1 else z (tid t + 1) (mN (rho z) t - 1).toNat) < a := by
          split
          · omega
          · rw [(ht3 (mN (rho z) t - 1).toNat (by omega)).1]
            omega
        refine v_aload_n hG dL_acts_413 0 rfl ?_
        refine v_iload hG dL_acts_414 6 rfl ?_
        refine v_iload hG dL_acts_416 9 rfl ?_
        refine v_aload_n hG dL_acts_418 1 rfl ?_
        refine v_bipush hG dL_acts_419 (by decide) ?_
        refine v_iload hG dL_acts_421 6 rfl ?_
        refine v_imul hG dL_acts_423 ?_
        refine v_iconst hG dL_acts_424 ?_
        refine v_iadd hG dL_acts_425 ?_
        refine v_iconst hG dL_acts_426 ?_
        refine v_iload hG dL_acts_427 8 rfl ?_
        refine v_imul hG dL_acts_429 ?_
        refine v_iadd hG dL_acts_430 ?_
        refine v_iald hG k_169 (by decide) (cl_114 _ _ _ _) (by decide) (by omega) dL_acts_431 ?_
        rw [lgZ_q ht (by omega)]
        refine v_callVi (n := 3) (ci := 4) hG (c_X4_addGap hr k_0 ((lgZ_ag z t a q).RB hB).1 ((lgZ_ag z t a q).PI hP) ((lgZ_ag z t a q).AI hA) (by omega) (by omega) (by omega) (by rw [(lgZ_ag z t a q) (tid t) (by omega), (lgZ_ag z t a q) (tid t + 1) (by omega), ht1]; exact ⟨by omega, ⟨by omega, hq9, hgo⟩, by omega⟩)) gL_acts_X4_addGap rfl (by decide +kernel) rfl (by decide) k_0 (by decide) (cl_1 _ _ _ _) rfl dL_acts_432 rfl (Nat.le_of_ble_eq_true rfl) (by decide) ?_
        intro v432 z432 hp432
        obtain ⟨hz432, hb432, hc432, hd432, hv432⟩ := hp432
        rw [(lgZ_ag z t a q) (tid t) (by omega), ht1] at hv432
        refine v_iload hG dL_acts_435 8 rfl ?_
        refine v_iconst hG dL_acts_437 ?_
        refine v_iadd hG dL_acts_438 ?_
        refine v_icmp_ne hG 446 (by omega) (by omega) dL_acts_439 (by decide) (fun h439 => ?_) (fun h439 => ?_)
        · exfalso; omega
        · refine v_iconst hG dL_acts_442 ?_
          refine v_goto hG 447 dL_acts_443 (by decide) ?_
          exact v_zret hG hR (by first | exact Or.inl rfl | exact Or.inr rfl | omega) dL_acts_447 ⟨rfl, by rw [← hz432]; have h9 := Rel_gap (a := a) (q := q) hRl ht (by omega) hq9 (by omega) ha9.2.2; exact ⟨h9.1, by omega⟩⟩
      · refine v_sub hG [(0, _), (1, _), (2, _), (3, _), (4, _), (5, _), (6, _), (7, _)] [0, 1, 2, 3, 4, 5, 6, 7] rfl ?_
        exact a_342 hr hG hR hRl ht hk hn2
  refine v_iload hG dL_acts_290 8 rfl ?_
  refine v_if_ne hG 299 (by omega) dL_acts_292 (by decide) (fun h292 => ?_) (fun h292 => ?_)
  · refine v_aload_n hG dL_acts_299 1 rfl ?_
    refine v_bipush hG dL_acts_300 (by decide) ?_
    refine v_iload hG dL_acts_302 6 rfl ?_
    refine v_imul hG dL_acts_304 ?_
    refine v_iconst hG dL_acts_305 ?_
    refine v_iload hG dL_acts_306 8 rfl ?_
    refine v_imul hG dL_acts_308 ?_
    refine v_iadd hG dL_acts_309 ?_
    refine v_iconst hG dL_acts_310 ?_
    refine v_isub hG dL_acts_311 ?_
    refine v_iald hG k_169 (by decide) (cl_114 _ _ _ _) (by decide) (by omega) dL_acts_312 ?_
    rw [rh_last z ht (by omega)]
    refine v_iconst hG dL_acts_313 ?_
    refine v_iadd hG dL_acts_314 ?_
    exact L315 _ ⟨by omega, by omega, by omega⟩
  · refine v_iconst hG dL_acts_295 ?_
    refine v_goto hG 315 dL_acts_296 (by decide) ?_
    exact L315 _ ⟨by omega, by omega, by omega⟩

set_option maxHeartbeats 4000000 in
set_option maxRecDepth 100000 in
theorem a_448 {l : Launch} {D : va_G} {cA : Nat → ClassId} {r : Nat → Nat} {Γ : Cx} {z : Zt} {c x t k : Int} (hr : Inj r) (hG : Cok l D cA r (rmz 7 164) Γ cL_acts RL wsL_acts 18) (hR : Rt r (Qi D cA r (fun v z1 => v = 1 ∧ Rel z1 ∧ 1 ≤ rho z1 14)) (some .boolean) Γ) (hRl : Rel z) (ht : t = 0 ∨ t = 1) (hk : 0 ≤ k ∧ (k < rho z 14 ∨ rho z 14 = 0)) (hn2 : 2 ≤ rho z 14) : V Γ z 0 0 [(0, .ref (r 0)), (1, .ref (r 169)), (2, .ref (r 170)), (3, .ref (r 171)), (4, .int (iN c)), (5, .int (iN x)), (6, .int (iN t)), (7, .int (iN k))] 448 [] := by
  obtain ⟨hB, hP, hA, hbd⟩ := id hRl
  have hM := RB_MI hB
  obtain ⟨hG1, h14, hFe, h55, h56, h57⟩ := id hM
  obtain ⟨hS, hT, ⟨n1, n2, n3, n4, n5, n6⟩, hFf⟩ := id hB
  obtain ⟨c1, c2, c3, c4⟩ := id hbd
  have f3 : z (9 + k.toNat) 3 = mF (rho z) k 3 := by
    have h9 := RB_f hB (f := k) (by omega) (w := 3) (by decide)
    rw [show 1 + 8 + k.toNat = 9 + k.toNat by omega] at h9
    exact h9
  have hF := hFe k (by omega) (by omega)
  obtain ⟨-, -, -, -, -, hF5, hF6⟩ := id hF
  refine v_iload hG dL_acts_448 5 rfl ?_
  refine v_iconst hG dL_acts_450 ?_
  refine v_ishr0 hG dL_acts_451 ?_
  refine v_eqi hG (y := iN (shr x 5)) (iN_of _).symm ?_
  refine v_bipush hG dL_acts_452 (by decide) ?_
  refine v_callSi (n := 2) hG (c_L_low hr (by omega)) gL_acts_L_low rfl (by decide +kernel) rfl (by decide) dL_acts_454 rfl (Nat.le_of_ble_eq_true rfl) (by decide) ?_
  intro v454 z454 hp454
  obtain ⟨rfl, rfl, ha454, hb454⟩ := hp454
  refine v_istore hG [(0, _), (1, _), (2, _), (3, _), (4, _), (5, _), (6, _), (7, _), (11, _)] dL_acts_457 (by decide) rfl ?_
  refine v_aload_n hG dL_acts_459 0 rfl ?_
  refine v_iload hG dL_acts_460 7 rfl ?_
  refine v_iload hG dL_acts_462 8 rfl ?_
  refine v_callVi (n := 2) (ci := 4) hG (c_X4_barWeekday hr k_0 hS hP hA (by omega) (by omega) (by omega)) gL_acts_X4_barWeekday rfl (by decide +kernel) rfl (by decide) k_0 (by decide) (cl_1 _ _ _ _) rfl dL_acts_464 rfl (Nat.le_of_ble_eq_true rfl) (by decide) ?_
  intro v464 z464 hp464
  obtain ⟨hz464, hb464, hc464, hv464⟩ := hp464
  refine v_aload_n hG dL_acts_467 2 rfl ?_
  refine v_iload hG dL_acts_468 7 rfl ?_
  refine v_iload hG dL_acts_470 8 rfl ?_
  refine v_callSi (n := 3) hG (c_L_bars hr (by omega)) gL_acts_L_bars rfl (by decide +kernel) rfl (by decide) dL_acts_472 rfl (Nat.le_of_ble_eq_true rfl) (by decide) ?_
  intro v472 z472 hp472
  obtain ⟨hz472, rfl⟩ := hp472
  have e472 : mF (rho z464) k 3 = mF (rho z) k 3 := by
    refine congrArg (fun ρ => mF ρ k 3) (rho_c ?_ ?_ ?_) <;> (rw [← hz464, zup_o (by omega), recZ_big hP (by decide)])
  rw [e472]
  refine v_icmp_ne hG 482 (by omega) (by omega) dL_acts_475 (by decide) (fun h475 => ?_) (fun h475 => ?_)
  · exfalso; omega
  · refine v_iconst hG dL_acts_478 ?_
    refine v_goto hG 483 dL_acts_479 (by decide) ?_
    exact v_zret hG hR (by first | exact Or.inl rfl | exact Or.inr rfl | omega) dL_acts_483 ⟨rfl, by rw [← hz472, ← hz464]; have h9 := Rel_bar (f := k) (b := lo (shr x 5) 7) hRl (by omega) (by omega); exact ⟨h9.1, by omega⟩⟩

set_option maxHeartbeats 4000000 in
set_option maxRecDepth 100000 in
theorem a_484 {l : Launch} {D : va_G} {cA : Nat → ClassId} {r : Nat → Nat} {Γ : Cx} {z : Zt} {c x t k : Int} (hr : Inj r) (hG : Cok l D cA r (rmz 7 164) Γ cL_acts RL wsL_acts 18) (hR : Rt r (Qi D cA r (fun v z1 => v = 1 ∧ Rel z1 ∧ 1 ≤ rho z1 14)) (some .boolean) Γ) (hRl : Rel z) (ht : t = 0 ∨ t = 1) (hk : 0 ≤ k ∧ (k < rho z 14 ∨ rho z 14 = 0)) (hn2 : 2 ≤ rho z 14) : V Γ z 0 0 [(0, .ref (r 0)), (1, .ref (r 169)), (2, .ref (r 170)), (3, .ref (r 171)), (4, .int (iN c)), (5, .int (iN x)), (6, .int (iN t)), (7, .int (iN k))] 484 [] := by
  obtain ⟨hB, hP, hA, hbd⟩ := id hRl
  have hM := RB_MI hB
  obtain ⟨hG1, h14, hFe, h55, h56, h57⟩ := id hM
  obtain ⟨hS, hT, ⟨n1, n2, n3, n4, n5, n6⟩, hFf⟩ := id hB
  obtain ⟨c1, c2, c3, c4⟩ := id hbd
  have f3 : z (9 + k.toNat) 3 = mF (rho z) k 3 := by
    have h9 := RB_f hB (f := k) (by omega) (w := 3) (by decide)
    rw [show 1 + 8 + k.toNat = 9 + k.toNat by omega] at h9
    exact h9
  have hF := hFe k (by omega) (by omega)
  obtain ⟨-, -, -, -, -, hF5, hF6⟩ := id hF
  refine v_aload_n hG dL_acts_484 2 rfl ?_
  refine v_iconst hG dL_acts_485 ?_
  refine v_iload hG dL_acts_486 7 rfl ?_
  refine v_imul hG dL_acts_488 ?_
  refine v_iconst hG dL_acts_489 ?_
  refine v_iadd hG dL_acts_490 ?_
  refine v_iald hG k_170 (by decide) (cl_140 _ _ _ _) (by decide) (by omega) dL_acts_491 ?_
  rw [rh_F z (by omega) (by omega)]
  refine v_if_ge hG 511 (by omega) dL_acts_492 (by decide) (fun h492 => ?_) (fun h492 => ?_)
  · refine v_aload_n hG dL_acts_511 0 rfl ?_
    refine v_iload hG dL_acts_512 7 rfl ?_
    refine v_callVi (n := 1) (ci := 4) hG (c_X4_allowAllWeekdays hr k_0 hS hP hA (by omega) (by omega)) gL_acts_X4_allowAllWeekdays rfl (by decide +kernel) rfl (by decide) k_0 (by decide) (cl_1 _ _ _ _) rfl dL_acts_514 rfl (Nat.le_of_ble_eq_true rfl) (by decide) ?_
    intro v514 z514 hp514
    obtain ⟨hz514, hb514, hc514, hv514⟩ := hp514
    refine v_aload_n hG dL_acts_517 2 rfl ?_
    refine v_iload hG dL_acts_518 7 rfl ?_
    refine v_iconst hG dL_acts_520 ?_
    refine v_callSi (n := 3) hG (c_L_bars hr (by omega)) gL_acts_L_bars rfl (by decide +kernel) rfl (by decide) dL_acts_521 rfl (Nat.le_of_ble_eq_true rfl) (by decide) ?_
    intro v521 z521 hp521
    obtain ⟨hz521, rfl⟩ := hp521
    have e521 : mF (rho z514) k 3 = mF (rho z) k 3 := by
      refine congrArg (fun ρ => mF ρ k 3) (rho_c ?_ ?_ ?_) <;> (rw [← hz514, zup_o (by omega), recZ_big hP (by decide)])
    rw [e521]
    refine v_icmp_ne hG 531 (by omega) (by omega) dL_acts_524 (by decide) (fun h524 => ?_) (fun h524 => ?_)
    · exfalso; omega
    · refine v_iconst hG dL_acts_527 ?_
      refine v_goto hG 532 dL_acts_528 (by decide) ?_
      exact v_zret hG hR (by first | exact Or.inl rfl | exact Or.inr rfl | omega) dL_acts_532 ⟨rfl, by rw [← hz521, ← hz514]; have h9 := Rel_bar (f := k) (b := -1) hRl (by omega) (by omega); exact ⟨h9.1, by omega⟩⟩
  · refine v_aload_n hG dL_acts_495 0 rfl ?_
    refine v_iload hG dL_acts_496 7 rfl ?_
    refine v_callVi (n := 1) (ci := 4) hG (c_X4_barredWeekday hr k_0 hS (by omega) (by omega)) gL_acts_X4_barredWeekday rfl (by decide +kernel) rfl (by decide) k_0 (by decide) (cl_1 _ _ _ _) rfl dL_acts_498 rfl (Nat.le_of_ble_eq_true rfl) (by decide) ?_
    intro v498 z498 hp498
    obtain ⟨rfl, hb498, rfl⟩ := hp498
    refine v_iconst hG dL_acts_501 ?_
    refine v_icmp_ne hG 509 (by omega) (by omega) dL_acts_502 (by decide) (fun h502 => ?_) (fun h502 => ?_)
    · exfalso; omega
    · refine v_iconst hG dL_acts_505 ?_
      refine v_goto hG 510 dL_acts_506 (by decide) ?_
      exact v_zret hG hR (by first | exact Or.inl rfl | exact Or.inr rfl | omega) dL_acts_510 ⟨rfl, hRl, by omega⟩

set_option maxHeartbeats 4000000 in
set_option maxRecDepth 100000 in
theorem a_533 {l : Launch} {D : va_G} {cA : Nat → ClassId} {r : Nat → Nat} {Γ : Cx} {z : Zt} {c x t k : Int} (hr : Inj r) (hG : Cok l D cA r (rmz 7 164) Γ cL_acts RL wsL_acts 18) (hR : Rt r (Qi D cA r (fun v z1 => v = 1 ∧ Rel z1 ∧ 1 ≤ rho z1 14)) (some .boolean) Γ) (hRl : Rel z) (ht : t = 0 ∨ t = 1) (hk : 0 ≤ k ∧ (k < rho z 14 ∨ rho z 14 = 0)) (hn2 : 2 ≤ rho z 14) : V Γ z 0 0 [(0, .ref (r 0)), (1, .ref (r 169)), (2, .ref (r 170)), (3, .ref (r 171)), (4, .int (iN c)), (5, .int (iN x)), (6, .int (iN t)), (7, .int (iN k))] 533 [] := by
  obtain ⟨hB, hP, hA, hbd⟩ := id hRl
  have hM := RB_MI hB
  obtain ⟨hG1, h14, hFe, h55, h56, h57⟩ := id hM
  obtain ⟨hS, hT, ⟨n1, n2, n3, n4, n5, n6⟩, hFf⟩ := id hB
  obtain ⟨c1, c2, c3, c4⟩ := id hbd
  refine v_aload_n hG dL_acts_533 3 rfl ?_
  refine v_iconst hG dL_acts_534 ?_
  refine v_iald hG k_171 (by decide) (cl_108 _ _ _ _) (by decide) (by omega) dL_acts_535 ?_
  rw [rho_55 z]
  refine v_istore hG [(0, _), (1, _), (2, _), (3, _), (4, _), (5, _), (6, _), (7, _), (12, _)] dL_acts_536 (by decide) rfl ?_
  refine v_aload_n hG dL_acts_538 3 rfl ?_
  refine v_iconst hG dL_acts_539 ?_
  refine v_iconst hG dL_acts_540 ?_
  refine v_iload hG dL_acts_541 5 rfl ?_
  refine v_bipush hG dL_acts_543 (by decide) ?_
  refine v_callSi (n := 2) hG (c_L_low hr (by omega)) gL_acts_L_low rfl (by decide +kernel) rfl (by decide) dL_acts_545 rfl (Nat.le_of_ble_eq_true rfl) (by decide) ?_
  intro v545 z545 hp545
  obtain ⟨rfl, rfl, ha545, hb545⟩ := hp545
  refine v_iadd hG dL_acts_548 ?_
  obtain ⟨q, hqq⟩ : ∃ q, q = 1 + lo x 9 := ⟨_, rfl⟩
  rw [← hqq]
  have hq9 : 1 ≤ q ∧ q ≤ 9 := by omega
  refine v_iast hG k_171 (by decide) (cl_108 _ _ _) (by decide) (by omega) dL_acts_549 ?_
  refine v_wz hG (zup z 171 0 q) rfl ?_
  refine v_aload_n hG dL_acts_550 0 rfl ?_
  refine v_aload_n hG dL_acts_551 3 rfl ?_
  refine v_iconst hG dL_acts_552 ?_
  refine v_iald hG k_171 (by decide) (cl_108 _ _ _ _) (by decide) (by omega) dL_acts_553 ?_
  rw [show zup z 171 0 q 171 (0 : Int).toNat = q from zup_s _ _ _ _]
  refine v_callVi (n := 1) (ci := 4) hG (c_X4_setShift hr k_0 (((agL.rf z).up (i := 171) (k := 0) (x := q) (by decide)).PI hP) (((agL.rf z).up (i := 171) (k := 0) (x := q) (by decide)).AI hA) (by omega) (by omega)) gL_acts_X4_setShift rfl (by decide +kernel) rfl (by decide) k_0 (by decide) (cl_1 _ _ _ _) rfl dL_acts_554 rfl (Nat.le_of_ble_eq_true rfl) (by decide) ?_
  intro v554 z554 hp554
  obtain ⟨hz554, hb554, hv554⟩ := hp554
  rw [zup_o (by decide)] at hv554
  refine v_iload hG dL_acts_557 8 rfl ?_
  refine v_icmp_ne hG 566 (by omega) (by omega) dL_acts_559 (by decide) (fun h559 => ?_) (fun h559 => ?_)
  · exfalso; omega
  · refine v_iconst hG dL_acts_562 ?_
    refine v_goto hG 567 dL_acts_563 (by decide) ?_
    exact v_zret hG hR (by first | exact Or.inl rfl | exact Or.inr rfl | omega) dL_acts_567 ⟨rfl, by rw [← hz554]; have h9 := Rel_shift hRl hq9; exact ⟨h9.1, by omega⟩⟩

set_option maxHeartbeats 4000000 in
set_option maxRecDepth 100000 in
theorem a_568 {l : Launch} {D : va_G} {cA : Nat → ClassId} {r : Nat → Nat} {Γ : Cx} {z : Zt} {c x t k : Int} (hr : Inj r) (hG : Cok l D cA r (rmz 7 164) Γ cL_acts RL wsL_acts 18) (hR : Rt r (Qi D cA r (fun v z1 => v = 1 ∧ Rel z1 ∧ 1 ≤ rho z1 14)) (some .boolean) Γ) (hRl : Rel z) (ht : t = 0 ∨ t = 1) (hk : 0 ≤ k ∧ (k < rho z 14 ∨ rho z 14 = 0)) (hn2 : 2 ≤ rho z 14) : V Γ z 0 0 [(0, .ref (r 0)), (1, .ref (r 169)), (2, .ref (r 170)), (3, .ref (r 171)), (4, .int (iN c)), (5, .int (iN x)), (6, .int (iN t)), (7, .int (iN k))] 568 [] := by
  obtain ⟨hB, hP, hA, hbd⟩ := id hRl
  have hM := RB_MI hB
  obtain ⟨hG1, h14, hFe, h55, h56, h57⟩ := id hM
  obtain ⟨hS, hT, ⟨n1, n2, n3, n4, n5, n6⟩, hFf⟩ := id hB
  obtain ⟨c1, c2, c3, c4⟩ := id hbd
  refine v_aload_n hG dL_acts_568 3 rfl ?_
  refine v_iconst hG dL_acts_569 ?_
  refine v_iald hG k_171 (by decide) (cl_108 _ _ _ _) (by decide) (by omega) dL_acts_570 ?_
  rw [rho_56 z]
  refine v_istore hG [(0, _), (1, _), (2, _), (3, _), (4, _), (5, _), (6, _), (7, _), (13, _)] dL_acts_571 (by decide) rfl ?_
  refine v_aload_n hG dL_acts_573 3 rfl ?_
  refine v_iconst hG dL_acts_574 ?_
  refine v_iload hG dL_acts_575 5 rfl ?_
  refine v_bipush hG dL_acts_577 (by decide) ?_
  refine v_callSi (n := 2) hG (c_L_low hr (by omega)) gL_acts_L_low rfl (by decide +kernel) rfl (by decide) dL_acts_579 rfl (Nat.le_of_ble_eq_true rfl) (by decide) ?_
  intro v579 z579 hp579
  obtain ⟨rfl, rfl, ha579, hb579⟩ := hp579
  refine v_iast hG k_171 (by decide) (cl_108 _ _ _) (by decide) (by omega) dL_acts_582 ?_
  obtain ⟨q, hqq⟩ : ∃ q, q = lo x 10 := ⟨_, rfl⟩
  rw [← hqq]
  have hq9 : 0 ≤ q ∧ q ≤ 9 := by omega
  refine v_wz hG (zup z 171 1 q) rfl ?_
  refine v_aload_n hG dL_acts_583 0 rfl ?_
  refine v_aload_n hG dL_acts_584 3 rfl ?_
  refine v_iconst hG dL_acts_585 ?_
  refine v_iald hG k_171 (by decide) (cl_108 _ _ _ _) (by decide) (by omega) dL_acts_586 ?_
  rw [show zup z 171 1 q 171 (1 : Int).toNat = q from zup_s _ _ _ _]
  refine v_callVi (n := 1) (ci := 4) hG (c_X4_setCopiesPerDay hr k_0 (((agL.rf z).up (i := 171) (k := 1) (x := q) (by decide)).PI hP) (((agL.rf z).up (i := 171) (k := 1) (x := q) (by decide)).AI hA) (by omega) (by omega)) gL_acts_X4_setCopiesPerDay rfl (by decide +kernel) rfl (by decide) k_0 (by decide) (cl_1 _ _ _ _) rfl dL_acts_587 rfl (Nat.le_of_ble_eq_true rfl) (by decide) ?_
  intro v587 z587 hp587
  obtain ⟨hz587, hb587, hv587⟩ := hp587
  rw [zup_o (by decide)] at hv587
  refine v_iload hG dL_acts_590 8 rfl ?_
  refine v_icmp_ne hG 599 (by omega) (by omega) dL_acts_592 (by decide) (fun h592 => ?_) (fun h592 => ?_)
  · exfalso; omega
  · refine v_iconst hG dL_acts_595 ?_
    refine v_goto hG 600 dL_acts_596 (by decide) ?_
    exact v_zret hG hR (by first | exact Or.inl rfl | exact Or.inr rfl | omega) dL_acts_600 ⟨rfl, by rw [← hz587]; have h9 := Rel_copies hRl hq9; exact ⟨h9.1, by omega⟩⟩
