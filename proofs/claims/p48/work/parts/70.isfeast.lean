set_option maxHeartbeats 4000000 in
set_option maxRecDepth 100000 in
theorem c_L_isFeast {l : Launch} {D : va_G} {cA : Nat → ClassId} {r : Nat → Nat} {z : Zt} {f y : Int} (hr : Inj r) (hRl : Rel z) (hf : 0 ≤ f ∧ f < rho z 14) (hy : 1 ≤ y ∧ y ≤ 60) : Ki l D cA r yL_isFeast wsL_isFeast 5 116 z [.ref (r 0), .ref (r 169), .ref (r 170), .ref (r 171), .int (iN f), .int (iN y)] (fun v z1 => z = z1 ∧ v = 1) := by
  obtain ⟨hB, hP, hA, hbd⟩ := id hRl
  have hM := RB_MI hB
  obtain ⟨hG1, h14, hFe, h55, h56, h57⟩ := id hM
  obtain ⟨hS, hT, ⟨n1, n2, n3, n4, n5, n6⟩, hFf⟩ := id hB
  obtain ⟨c1, c2, c3, c4⟩ := id hbd
  have hF := hFe f hf.1 hf.2
  obtain ⟨hF0, hF1, hF2, hF3, hF4, hF5, hF6⟩ := id hF
  obtain ⟨fr, hfr⟩ : ∃ fr, fr = (y - 1) * yl (1 - mF (rho z) f 0) := ⟨_, rfl⟩
  have hfb : 0 ≤ fr ∧ fr ≤ 21594 := by
    rw [hfr]
    unfold yl
    split <;> omega
  have hla := laM_bd hM
  have e9 := RB_dS9 hB hf y
  have hkb := kM_bd hG1 h55 hF (y := y) (by omega)
  refine Ki_of [(0, _), (1, _), (2, _), (3, _), (4, _), (5, _)] hr (by decide) rfl rfl (Nat.le_of_ble_eq_true rfl) rfl (fun Γ hG hR => ?_)
  refine v_iload hG dL_isFeast_0 5 rfl ?_
  refine v_iconst hG dL_isFeast_2 ?_
  refine v_isub hG dL_isFeast_3 ?_
  refine v_aload_n hG dL_isFeast_4 2 rfl ?_
  refine v_iconst hG dL_isFeast_5 ?_
  refine v_iload hG dL_isFeast_6 4 rfl ?_
  refine v_imul hG dL_isFeast_8 ?_
  refine v_iald hG k_170 (by decide) (cl_140 _ _ _ _) (by decide) (by omega) dL_isFeast_9 ?_
  rw [rh_F0 z (by omega)]
  have L22 : ∀ (W : Int), W = yl (1 - mF (rho z) f 0) → V Γ z 0 0 [(0, .ref (r 0)), (1, .ref (r 169)), (2, .ref (r 170)), (3, .ref (r 171)), (4, .int (iN f)), (5, .int (iN y))] 22 [.int (iN W), .int (iN (y - 1))] := by
    intro W hI
    subst hI
    refine v_imul hG dL_isFeast_22 ?_
    refine v_eqi hG (y := iN fr) (congrArg iN hfr.symm) ?_
    refine v_istore hG [(0, _), (1, _), (2, _), (3, _), (4, _), (5, _), (6, _)] dL_isFeast_23 (by decide) rfl ?_
    refine v_iconst hG dL_isFeast_25 ?_
    refine v_istore hG [(0, _), (1, _), (2, _), (3, _), (4, _), (5, _), (6, _), (7, _)] dL_isFeast_26 (by decide) rfl ?_
    have L46 : ∀ (lo : Int), (0 ≤ lo ∧ lo ≤ fr ∧ (lo = 0 ∨ lo = fr - 130)) → V Γ z 0 0 [(0, .ref (r 0)), (1, .ref (r 169)), (2, .ref (r 170)), (3, .ref (r 171)), (4, .int (iN f)), (5, .int (iN y)), (6, .int (iN fr)), (7, .int (iN (-1)))] 46 [.int (iN lo)] := by
      intro lo hI
      obtain ⟨l0, l1, l2⟩ := hI
      refine v_istore hG [(0, _), (1, _), (2, _), (3, _), (4, _), (5, _), (6, _), (7, _), (8, _)] dL_isFeast_46 (by decide) rfl ?_
      have L48 : ∀ (n : Nat), ∀ (x7 x8 : Int), (lo ≤ x8 ∧ x8 ≤ fr + 400 ∧ ((x7 = -1 ∧ ∀ u, lo ≤ u → u < x8 → ¬ (yM (rho z) f u = y ∧ duM (rho z) f u)) ∨ ((0 ≤ x7 ∧ x7 < x8) ∧ (yM (rho z) f x7 = y ∧ duM (rho z) f x7)))) → (fr + 400 - x8 + 1).toNat ≤ n → V Γ z 0 0 [(0, .ref (r 0)), (1, .ref (r 169)), (2, .ref (r 170)), (3, .ref (r 171)), (4, .int (iN f)), (5, .int (iN y)), (6, .int (iN fr)), (7, .int (iN x7)), (8, .int (iN x8))] 48 [] := by
        intro n
        induction n with
        | zero =>
          intro x7 x8 hI hm
          obtain ⟨k1, k2, k3⟩ := hI
          exact absurd hm (by omega)
        | succ n ih48 =>
          intro x7 x8 hI hm
          obtain ⟨k1, k2, k3⟩ := hI
          have k9 : -1 ≤ x7 ∧ x7 ≤ fr + 400 := by rcases k3 with ⟨a9, -⟩ | ⟨a9, -⟩ <;> omega
          refine v_iload hG dL_isFeast_48 8 rfl ?_
          refine v_iload hG dL_isFeast_50 6 rfl ?_
          refine v_sipush hG dL_isFeast_52 (by decide) ?_
          refine v_iadd hG dL_isFeast_55 ?_
          refine v_icmp_ge hG 112 (by omega) (by omega) dL_isFeast_56 (by decide) (fun h56 => ?_) (fun h56 => ?_)
          · have L145 : ∀ (x : Int), x = kM (rho z) f y → V Γ z 0 0 [(0, .ref (r 0)), (1, .ref (r 169)), (2, .ref (r 170)), (3, .ref (r 171)), (4, .int (iN f)), (5, .int (iN y)), (6, .int (iN fr)), (7, .int (iN x7))] 145 [.int (iN x)] := by
              intro x hI
              have hdm : x7 = dM (rho z) f y := dM_found hM hf hy.1 hfr (lo := lo) (hi := x8) (by omega) (by omega) (Or.imp id And.right k3)
              clear k3
              refine v_istore hG [(0, _), (1, _), (2, _), (3, _), (4, _), (5, _), (6, _), (7, _), (8, _)] dL_isFeast_145 (by decide) rfl ?_
              refine v_aload_n hG dL_isFeast_147 0 rfl ?_
              refine v_iload hG dL_isFeast_148 4 rfl ?_
              refine v_iload hG dL_isFeast_150 5 rfl ?_
              refine v_callVi (n := 2) (ci := 4) hG (c_X4_dayDue hr k_0 hS (by omega) (by omega) (by omega)) gL_isFeast_X4_dayDue rfl (by decide +kernel) rfl (by decide) k_0 (by decide) (cl_1 _ _ _ _) rfl dL_isFeast_152 rfl (Nat.le_of_ble_eq_true rfl) (by decide) ?_
              intro v152 z152 hp152
              obtain ⟨rfl, hb152, hc152, rfl⟩ := hp152
              rw [e9.1, ← hdm]
              refine v_iload hG dL_isFeast_155 7 rfl ?_
              refine v_icmp_ne hG 177 (by omega) (by omega) dL_isFeast_157 (by decide) (fun h157 => ?_) (fun h157 => ?_)
              · exact absurd rfl h157
              · refine v_aload_n hG dL_isFeast_160 0 rfl ?_
                refine v_iload hG dL_isFeast_161 4 rfl ?_
                refine v_iload hG dL_isFeast_163 5 rfl ?_
                refine v_callVi (n := 2) (ci := 4) hG (c_X4_dayKept hr k_0 hS (by omega) (by omega) (by omega)) gL_isFeast_X4_dayKept rfl (by decide +kernel) rfl (by decide) k_0 (by decide) (cl_1 _ _ _ _) rfl dL_isFeast_165 rfl (Nat.le_of_ble_eq_true rfl) (by decide) ?_
                intro v165 z165 hp165
                obtain ⟨rfl, hb165, hc165, rfl⟩ := hp165
                rw [e9.2]
                refine v_iload hG dL_isFeast_168 8 rfl ?_
                refine v_icmp_ne hG 177 (by omega) (by omega) dL_isFeast_170 (by decide) (fun h170 => ?_) (fun h170 => ?_)
                · exfalso; omega
                · refine v_iconst hG dL_isFeast_173 ?_
                  refine v_goto hG 178 dL_isFeast_174 (by decide) ?_
                  exact v_zret hG hR (by first | exact Or.inl rfl | exact Or.inr rfl | omega) dL_isFeast_178 ⟨rfl, rfl⟩
            have hdm : x7 = dM (rho z) f y := dM_found hM hf hy.1 hfr (lo := lo) (hi := x8) (by omega) (by omega) (Or.imp id And.right k3)
            clear k3
            refine v_iload hG dL_isFeast_112 7 rfl ?_
            refine v_if_lt hG 143 (by omega) dL_isFeast_114 (by decide) (fun h114 => ?_) (fun h114 => ?_)
            · refine v_iload hG dL_isFeast_143 7 rfl ?_
              refine v_sub hG [(0, _), (1, _), (2, _), (3, _), (4, _), (5, _), (6, _), (7, _)] [0, 1, 2, 3, 4, 5, 6, 7] rfl ?_
              exact L145 _ (by rw [keM, ← hdm]; first | (rw [if_pos (by omega)]; omega) | (rw [if_neg (by omega), if_pos (by omega)]) | (rw [if_neg (by omega), if_neg (by omega)]))
            · refine v_iload hG dL_isFeast_117 7 rfl ?_
              refine v_bipush hG dL_isFeast_119 (by decide) ?_
              refine v_irem hG (by omega) (by omega) dL_isFeast_121 ?_
              refine v_aload_n hG dL_isFeast_122 2 rfl ?_
              refine v_iconst hG dL_isFeast_123 ?_
              refine v_iload hG dL_isFeast_124 4 rfl ?_
              refine v_imul hG dL_isFeast_126 ?_
              refine v_iconst hG dL_isFeast_127 ?_
              refine v_iadd hG dL_isFeast_128 ?_
              refine v_iald hG k_170 (by decide) (cl_140 _ _ _ _) (by decide) (by omega) dL_isFeast_129 ?_
              rw [rh_F z (by omega) (by omega)]
              refine v_icmp_ne hG 143 (by omega) (by omega) dL_isFeast_130 (by decide) (fun h130 => ?_) (fun h130 => ?_)
              · refine v_iload hG dL_isFeast_143 7 rfl ?_
                refine v_sub hG [(0, _), (1, _), (2, _), (3, _), (4, _), (5, _), (6, _), (7, _)] [0, 1, 2, 3, 4, 5, 6, 7] rfl ?_
                exact L145 _ (by rw [keM, ← hdm]; first | (rw [if_pos (by omega)]; omega) | (rw [if_neg (by omega), if_pos (by omega)]) | (rw [if_neg (by omega), if_neg (by omega)]))
              · refine v_iload hG dL_isFeast_133 7 rfl ?_
                refine v_aload_n hG dL_isFeast_135 3 rfl ?_
                refine v_callSi (n := 1) hG (c_L_later hr hM) gL_isFeast_L_later rfl (by decide +kernel) rfl (by decide) dL_isFeast_136 rfl (Nat.le_of_ble_eq_true rfl) (by decide) ?_
                intro v136 z136 hp136
                obtain ⟨rfl, rfl⟩ := hp136
                refine v_iadd hG dL_isFeast_139 ?_
                refine v_goto hG 145 dL_isFeast_140 (by decide) ?_
                refine v_sub hG [(0, _), (1, _), (2, _), (3, _), (4, _), (5, _), (6, _), (7, _)] [0, 1, 2, 3, 4, 5, 6, 7] rfl ?_
                exact L145 _ (by rw [keM, ← hdm]; first | (rw [if_pos (by omega)]; omega) | (rw [if_neg (by omega), if_pos (by omega)]) | (rw [if_neg (by omega), if_neg (by omega)]))
          · refine v_iload hG dL_isFeast_59 7 rfl ?_
            refine v_if_ge hG 102 (by omega) dL_isFeast_61 (by decide) (fun h61 => ?_) (fun h61 => ?_)
            · refine v_iload hG dL_isFeast_102 7 rfl ?_
              refine v_istore hG [(0, _), (1, _), (2, _), (3, _), (4, _), (5, _), (6, _), (7, _), (8, _)] dL_isFeast_104 (by decide) rfl ?_
              refine v_iinc hG [(0, _), (1, _), (2, _), (3, _), (4, _), (5, _), (6, _), (7, _), (8, _)] dL_isFeast_106 8 rfl (by decide) rfl ?_
              refine v_goto hG 48 dL_isFeast_109 (by decide) ?_
              refine ih48 _ _ ?_ (by omega)
              refine ⟨by omega, by omega, ?_⟩
              first
                | exact Or.inr ⟨by omega, by rw [← ey]; exact h82, ind_y rfl h94⟩
                | (rcases k3 with ⟨a9, b9⟩ | ⟨a9, b9⟩
                   · first
                       | (exfalso; omega)
                       | exact Or.inl ⟨a9, fun u h1 h2 h3 => by
                           rcases Int.lt_or_eq_of_le (show u ≤ x8 by omega) with q9 | q9
                           · exact b9 u h1 q9 h3
                           · rw [q9] at h3
                             first
                               | exact h82 (ey.trans h3.1)
                               | exact ind_n rfl h94 h3.2⟩
                   · exact Or.inr ⟨by omega, b9⟩)
            · refine v_aload_n hG dL_isFeast_64 1 rfl ?_
              refine v_aload_n hG dL_isFeast_65 2 rfl ?_
              refine v_iconst hG dL_isFeast_66 ?_
              refine v_iload hG dL_isFeast_67 4 rfl ?_
              refine v_imul hG dL_isFeast_69 ?_
              refine v_iald hG k_170 (by decide) (cl_140 _ _ _ _) (by decide) (by omega) dL_isFeast_70 ?_
              rw [rh_F0 z (by omega)]
              refine v_iload hG dL_isFeast_71 8 rfl ?_
              refine v_callSi (n := 3) hG (c_L_date hr hF0 hG1 (by omega)) gL_isFeast_L_date rfl (by decide +kernel) rfl (by decide) dL_isFeast_73 rfl (Nat.le_of_ble_eq_true rfl) (by decide) ?_
              intro v73 z73 hp73
              obtain ⟨rfl, hx73⟩ := hp73
              obtain ⟨m73, q73, -, -, -, -, -, -, i7, -, -, -, i11, i12⟩ := dtV_is hx73 (MI_cal hG1 hF0 (by omega))
              have ey : v73 / 10000 = yM (rho z) f x8 := i7
              refine v_sipush hG dL_isFeast_76 (by decide) ?_
              refine v_idiv hG (by omega) (by omega) dL_isFeast_79 ?_
              refine v_iload hG dL_isFeast_80 5 rfl ?_
              refine v_icmp_ne hG 102 (by omega) (by omega) dL_isFeast_82 (by decide) (fun h82 => ?_) (fun h82 => ?_)
              · refine v_iload hG dL_isFeast_102 7 rfl ?_
                refine v_istore hG [(0, _), (1, _), (2, _), (3, _), (4, _), (5, _), (6, _), (7, _), (8, _)] dL_isFeast_104 (by decide) rfl ?_
                refine v_iinc hG [(0, _), (1, _), (2, _), (3, _), (4, _), (5, _), (6, _), (7, _), (8, _)] dL_isFeast_106 8 rfl (by decide) rfl ?_
                refine v_goto hG 48 dL_isFeast_109 (by decide) ?_
                refine ih48 _ _ ?_ (by omega)
                refine ⟨by omega, by omega, ?_⟩
                first
                  | exact Or.inr ⟨by omega, by rw [← ey]; exact h82, ind_y rfl h94⟩
                  | (rcases k3 with ⟨a9, b9⟩ | ⟨a9, b9⟩
                     · first
                         | (exfalso; omega)
                         | exact Or.inl ⟨a9, fun u h1 h2 h3 => by
                             rcases Int.lt_or_eq_of_le (show u ≤ x8 by omega) with q9 | q9
                             · exact b9 u h1 q9 h3
                             · rw [q9] at h3
                               first
                                 | exact h82 (ey.trans h3.1)
                                 | exact ind_n rfl h94 h3.2⟩
                     · exact Or.inr ⟨by omega, b9⟩)
              · refine v_aload_n hG dL_isFeast_85 1 rfl ?_
                refine v_aload_n hG dL_isFeast_86 2 rfl ?_
                refine v_iload hG dL_isFeast_87 4 rfl ?_
                refine v_iload hG dL_isFeast_89 8 rfl ?_
                refine v_callSi (n := 4) hG (c_L_due hr hM hf (by omega)) gL_isFeast_L_due rfl (by decide +kernel) rfl (by decide) dL_isFeast_91 rfl (Nat.le_of_ble_eq_true rfl) (by decide) ?_
                intro v91 z91 hp91
                obtain ⟨rfl, rfl⟩ := hp91
                refine v_if_eq hG 102 (by have h8 := ind_bd (duM (rho z) f x8); omega) dL_isFeast_94 (by decide) (fun h94 => ?_) (fun h94 => ?_)
                · refine v_iload hG dL_isFeast_102 7 rfl ?_
                  refine v_istore hG [(0, _), (1, _), (2, _), (3, _), (4, _), (5, _), (6, _), (7, _), (8, _)] dL_isFeast_104 (by decide) rfl ?_
                  refine v_iinc hG [(0, _), (1, _), (2, _), (3, _), (4, _), (5, _), (6, _), (7, _), (8, _)] dL_isFeast_106 8 rfl (by decide) rfl ?_
                  refine v_goto hG 48 dL_isFeast_109 (by decide) ?_
                  refine ih48 _ _ ?_ (by omega)
                  refine ⟨by omega, by omega, ?_⟩
                  first
                    | exact Or.inr ⟨by omega, by rw [← ey]; exact h82, ind_y rfl h94⟩
                    | (rcases k3 with ⟨a9, b9⟩ | ⟨a9, b9⟩
                       · first
                           | (exfalso; omega)
                           | exact Or.inl ⟨a9, fun u h1 h2 h3 => by
                               rcases Int.lt_or_eq_of_le (show u ≤ x8 by omega) with q9 | q9
                               · exact b9 u h1 q9 h3
                               · rw [q9] at h3
                                 first
                                   | exact h82 (ey.trans h3.1)
                                   | exact ind_n rfl h94 h3.2⟩
                       · exact Or.inr ⟨by omega, b9⟩)
                · refine v_iload hG dL_isFeast_97 8 rfl ?_
                  refine v_goto hG 104 dL_isFeast_99 (by decide) ?_
                  refine v_istore hG [(0, _), (1, _), (2, _), (3, _), (4, _), (5, _), (6, _), (7, _), (8, _)] dL_isFeast_104 (by decide) rfl ?_
                  refine v_iinc hG [(0, _), (1, _), (2, _), (3, _), (4, _), (5, _), (6, _), (7, _), (8, _)] dL_isFeast_106 8 rfl (by decide) rfl ?_
                  refine v_goto hG 48 dL_isFeast_109 (by decide) ?_
                  refine ih48 _ _ ?_ (by omega)
                  refine ⟨by omega, by omega, ?_⟩
                  first
                    | exact Or.inr ⟨by omega, by rw [← ey]; exact h82, ind_y rfl h94⟩
                    | (rcases k3 with ⟨a9, b9⟩ | ⟨a9, b9⟩
                       · first
                           | (exfalso; omega)
                           | exact Or.inl ⟨a9, fun u h1 h2 h3 => by
                               rcases Int.lt_or_eq_of_le (show u ≤ x8 by omega) with q9 | q9
                               · exact b9 u h1 q9 h3
                               · rw [q9] at h3
                                 first
                                   | exact h82 (ey.trans h3.1)
                                   | exact ind_n rfl h94 h3.2⟩
                       · exact Or.inr ⟨by omega, b9⟩)
      exact L48 _ _ _ ⟨by omega, by omega, Or.inl ⟨rfl, fun u h1 h2 => by omega⟩⟩ (Nat.le_refl _)
    refine v_iload hG dL_isFeast_28 6 rfl ?_
    refine v_sipush hG dL_isFeast_30 (by decide) ?_
    refine v_icmp_ge hG 40 (by omega) (by omega) dL_isFeast_33 (by decide) (fun h33 => ?_) (fun h33 => ?_)
    · refine v_iload hG dL_isFeast_40 6 rfl ?_
      refine v_sipush hG dL_isFeast_42 (by decide) ?_
      refine v_isub hG dL_isFeast_45 ?_
      exact L46 _ ⟨by omega, by omega, by omega⟩
    · refine v_iconst hG dL_isFeast_36 ?_
      refine v_goto hG 46 dL_isFeast_37 (by decide) ?_
      exact L46 _ ⟨by omega, by omega, by omega⟩
  refine v_if_ne hG 19 (by omega) dL_isFeast_10 (by decide) (fun h10 => ?_) (fun h10 => ?_)
  · refine v_sipush hG dL_isFeast_19 (by decide) ?_
    exact L22 _ (by unfold yl; first | (rw [if_pos (by omega)]) | (rw [if_neg (by omega)]))
  · refine v_sipush hG dL_isFeast_13 (by decide) ?_
    refine v_goto hG 22 dL_isFeast_16 (by decide) ?_
    exact L22 _ (by unfold yl; first | (rw [if_pos (by omega)]) | (rw [if_neg (by omega)]))

set_option maxHeartbeats 4000000 in
set_option maxRecDepth 100000 in
theorem c_L_areDays {l : Launch} {D : va_G} {cA : Nat → ClassId} {r : Nat → Nat} {z : Zt} {d : Int} (hr : Inj r) (hRl : Rel z) (hd : 0 ≤ d ∧ d ≤ 20000) : Ki l D cA r yL_areDays wsL_areDays 7 163 z [.ref (r 0), .ref (r 169), .ref (r 170), .ref (r 171), .int (iN d)] (fun v z1 => ag24 z z1 ∧ v = 1) := by
  obtain ⟨hB, hP, hA, hbd⟩ := id hRl
  have hM := RB_MI hB
  obtain ⟨hG1, h14, hFe, h55, h56, h57⟩ := id hM
  obtain ⟨hS, hT, ⟨n1, n2, n3, n4, n5, n6⟩, hFf⟩ := id hB
  obtain ⟨c1, c2, c3, c4⟩ := id hbd
  refine Ki_of [(0, _), (1, _), (2, _), (3, _), (4, _)] hr (by decide) rfl rfl (Nat.le_of_ble_eq_true rfl) rfl (fun Γ hG hR => ?_)
  refine v_aload_n hG dL_areDays_0 1 rfl ?_
  refine v_aload_n hG dL_areDays_1 2 rfl ?_
  refine v_aload_n hG dL_areDays_2 3 rfl ?_
  refine v_iload hG dL_areDays_3 4 rfl ?_
  refine v_callSi (n := 4) hG (c_L_feasts hr hM (by omega)) gL_areDays_L_feasts rfl (by decide +kernel) rfl (by decide) dL_areDays_5 rfl (Nat.le_of_ble_eq_true rfl) (by decide) ?_
  intro v5 z5 hp5
  obtain ⟨rfl, hx5⟩ := hp5
  have hs5 := isSet_bd hx5
  refine v_istore hG [(0, _), (1, _), (2, _), (3, _), (4, _), (5, _)] dL_areDays_8 (by decide) rfl ?_
  refine v_aload_n hG dL_areDays_10 0 rfl ?_
  refine v_iload hG dL_areDays_11 4 rfl ?_
  refine v_callVi (n := 1) (ci := 4) hG (c_X4_feastsOn hr k_0 hS (by omega) (by omega)) gL_areDays_X4_feastsOn rfl (by decide +kernel) rfl (by decide) k_0 (by decide) (cl_1 _ _ _ _) rfl dL_areDays_13 rfl (Nat.le_of_ble_eq_true rfl) (by decide) ?_
  intro v13 z13 hp13
  obtain ⟨ha13, hb13, hx13⟩ := hp13
  have e13 := set_eq hB hx13 hx5
  have hR13 := Rel_Q hRl (agQ.of24 ha13)
  have er13 := (agQ.of24 ha13).rho
  have hB13 := hR13.1
  refine v_iload hG dL_areDays_16 5 rfl ?_
  refine v_icmp_ne hG 42 (by omega) (by omega) dL_areDays_18 (by decide) (fun h18 => ?_) (fun h18 => ?_)
  · exact absurd e13 h18
  · refine v_aload_n hG dL_areDays_21 0 rfl ?_
    refine v_iload hG dL_areDays_22 4 rfl ?_
    refine v_callVi (n := 1) (ci := 4) hG (c_X4_isQuarrel hr k_0 hB13.1 (by omega) (by omega)) gL_areDays_X4_isQuarrel rfl (by decide +kernel) rfl (by decide) k_0 (by decide) (cl_1 _ _ _ _) rfl dL_areDays_24 rfl (Nat.le_of_ble_eq_true rfl) (by decide) ?_
    intro v24 z24 hp24
    obtain ⟨ha24, hb24, rfl⟩ := hp24
    have ha24b : ag24 z z24 := fun a h => (ha24 a h).trans (ha13 a h)
    have hR24 := Rel_Q hRl (agQ.of24 ha24b)
    have er24 := (agQ.of24 ha24b).rho
    have hB24 := hR24.1
    have hM24 := RB_MI hB24
    have hib := ind_bd (quM (rho z) d)
    refine v_eqi hG (y := iN (ind (quM (rho z) d))) (congrArg iN (ind_c (by rw [← er13]; exact RB_qu hB13 d))) ?_
    refine v_aload_n hG dL_areDays_27 1 rfl ?_
    refine v_aload_n hG dL_areDays_28 2 rfl ?_
    refine v_aload_n hG dL_areDays_29 3 rfl ?_
    refine v_iload hG dL_areDays_30 4 rfl ?_
    refine v_callSi (n := 4) hG (c_L_quarrel hr hM24 (by omega)) gL_areDays_L_quarrel rfl (by decide +kernel) rfl (by decide) dL_areDays_32 rfl (Nat.le_of_ble_eq_true rfl) (by decide) ?_
    intro v32 z32 hp32
    obtain ⟨rfl, rfl⟩ := hp32
    rw [er24]
    refine v_icmp_ne hG 42 (by omega) (by omega) dL_areDays_35 (by decide) (fun h35 => ?_) (fun h35 => ?_)
    · exact absurd rfl h35
    · refine v_iconst hG dL_areDays_38 ?_
      refine v_goto hG 43 dL_areDays_39 (by decide) ?_
      refine v_istore hG [(0, _), (1, _), (2, _), (3, _), (4, _), (5, _), (6, _)] dL_areDays_43 (by decide) rfl ?_
      refine v_iconst hG dL_areDays_45 ?_
      refine v_istore hG [(0, _), (1, _), (2, _), (3, _), (4, _), (5, _), (6, _), (7, _)] dL_areDays_46 (by decide) rfl ?_
      have L48 : ∀ (n : Nat), ∀ (x6 x7 : Int), (x6 = 1 ∧ 0 ≤ x7 ∧ x7 ≤ rho z 14) → (rho z 14 - x7 + 1).toNat ≤ n → V Γ z24 0 0 [(0, .ref (r 0)), (1, .ref (r 169)), (2, .ref (r 170)), (3, .ref (r 171)), (4, .int (iN d)), (5, .int (iN v5)), (6, .int (iN x6)), (7, .int (iN x7))] 48 [] := by
        intro n
        induction n with
        | zero =>
          intro x6 x7 hI hm
          obtain ⟨i0, i1, i2⟩ := hI
          exact absurd hm (by omega)
        | succ n ih48 =>
          intro x6 x7 hI hm
          obtain ⟨i0, i1, i2⟩ := hI
          refine v_iload hG dL_areDays_48 7 rfl ?_
          refine v_aload_n hG dL_areDays_50 3 rfl ?_
          refine v_bipush hG dL_areDays_51 (by decide) ?_
          refine v_iald hG k_171 (by decide) (cl_108 _ _ _ _) (by decide) (by omega) dL_areDays_53 ?_
          rw [rho_14 z24, er24]
          refine v_icmp_ge hG 102 (by omega) (by omega) dL_areDays_54 (by decide) (fun h54 => ?_) (fun h54 => ?_)
          · refine v_iload hG dL_areDays_102 6 rfl ?_
            exact v_zret hG hR (by first | exact Or.inl rfl | exact Or.inr rfl | omega) dL_areDays_104 ⟨ha24b, by omega⟩
          · refine v_iload hG dL_areDays_57 6 rfl ?_
            refine v_if_eq hG 93 (by omega) dL_areDays_59 (by decide) (fun h59 => ?_) (fun h59 => ?_)
            · exfalso; omega
            · have hn24 : z24 1 3 = rho z 14 := by rw [← er24]; exact hB24.2.2.1.1
              refine v_aload_n hG dL_areDays_62 0 rfl ?_
              refine v_iload hG dL_areDays_63 7 rfl ?_
              refine v_iload hG dL_areDays_65 4 rfl ?_
              refine v_callVi (n := 2) (ci := 4) hG (c_X4_isKept hr k_0 hB24.1 (by omega) (by omega) (by omega)) gL_areDays_X4_isKept rfl (by decide +kernel) rfl (by decide) k_0 (by decide) (cl_1 _ _ _ _) rfl dL_areDays_67 rfl (Nat.le_of_ble_eq_true rfl) (by decide) ?_
              intro v67 z67 hp67
              obtain ⟨rfl, hb67, hc67, rfl⟩ := hp67
              have hk67 : onS z24 1 (9 + x7.toNat) d ↔ onM (rho z) x7 d := by
                rw [← er24]
                exact RB_on9 hB24 (by rw [er24]; omega) d
              refine v_eqi hG (y := iN (ind (onM (rho z) x7 d))) (congrArg iN (ind_c hk67)) ?_
              have hib7 := ind_bd (onM (rho z) x7 d)
              refine v_iload hG dL_areDays_70 5 rfl ?_
              refine v_iload hG dL_areDays_72 7 rfl ?_
              refine v_ishr0 hG dL_areDays_74 ?_
              refine v_iconst hG dL_areDays_75 ?_
              refine v_iand0 hG dL_areDays_76 ?_
              refine v_eqi hG (y := iN (ind (onM (rho z) x7 d))) ((bit_of hx5 (by omega)).trans (congrArg iN (ind_c (by rw [show ((x7.toNat : Nat) : Int) = x7 by omega]; exact ⟨fun q => q.2, fun q => ⟨by omega, q⟩⟩)))) ?_
              refine v_iconst hG dL_areDays_77 ?_
              refine v_icmp_ne hG 85 (by omega) (by omega) dL_areDays_78 (by decide) (fun h78 => ?_) (fun h78 => ?_)
              · refine v_iconst hG dL_areDays_85 ?_
                refine v_icmp_ne hG 93 (by omega) (by omega) dL_areDays_86 (by decide) (fun h86 => ?_) (fun h86 => ?_)
                · exfalso; omega
                · refine v_iconst hG dL_areDays_89 ?_
                  refine v_goto hG 94 dL_areDays_90 (by decide) ?_
                  refine v_istore hG [(0, _), (1, _), (2, _), (3, _), (4, _), (5, _), (6, _), (7, _)] dL_areDays_94 (by decide) rfl ?_
                  refine v_iinc hG [(0, _), (1, _), (2, _), (3, _), (4, _), (5, _), (6, _), (7, _)] dL_areDays_96 7 rfl (by decide) rfl ?_
                  refine v_goto hG 48 dL_areDays_99 (by decide) ?_
                  exact ih48 _ _ ⟨by omega, by omega, by omega⟩ (by omega)
              · refine v_iconst hG dL_areDays_81 ?_
                refine v_goto hG 86 dL_areDays_82 (by decide) ?_
                refine v_icmp_ne hG 93 (by omega) (by omega) dL_areDays_86 (by decide) (fun h86 => ?_) (fun h86 => ?_)
                · exfalso; omega
                · refine v_iconst hG dL_areDays_89 ?_
                  refine v_goto hG 94 dL_areDays_90 (by decide) ?_
                  refine v_istore hG [(0, _), (1, _), (2, _), (3, _), (4, _), (5, _), (6, _), (7, _)] dL_areDays_94 (by decide) rfl ?_
                  refine v_iinc hG [(0, _), (1, _), (2, _), (3, _), (4, _), (5, _), (6, _), (7, _)] dL_areDays_96 7 rfl (by decide) rfl ?_
                  refine v_goto hG 48 dL_areDays_99 (by decide) ?_
                  exact ih48 _ _ ⟨by omega, by omega, by omega⟩ (by omega)
      exact L48 _ _ _ ⟨by omega, by omega, by omega⟩ (Nat.le_refl _)

