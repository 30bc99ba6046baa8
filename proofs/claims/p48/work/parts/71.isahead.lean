set_option maxHeartbeats 4000000 in
set_option maxRecDepth 100000 in
theorem c_L_isAhead {l : Launch} {D : va_G} {cA : Nat → ClassId} {r : Nat → Nat} {z : Zt} {f g q : Int} (hr : Inj r) (hRl : Rel z) (hf : 0 ≤ f ∧ f < rho z 14) (hg : 0 ≤ g ∧ g < rho z 14) (hq : 1 ≤ q ∧ q ≤ 400) : Ki l D cA r yL_isAhead wsL_isAhead 7 173 z [.ref (r 0), .ref (r 169), .ref (r 170), .ref (r 171), .int (iN f), .int (iN g), .int (iN q)] (fun v z1 => ag24 z z1 ∧ v = 1) := by
  obtain ⟨hB, hP, hA, hbd⟩ := id hRl
  have hM := RB_MI hB
  obtain ⟨hG1, h14, hFe, h55, h56, h57⟩ := id hM
  obtain ⟨hS, hT, ⟨n1, n2, n3, n4, n5, n6⟩, hFf⟩ := id hB
  obtain ⟨c1, c2, c3, c4⟩ := id hbd
  have hqb : 0 ≤ qwM (rho z) q.toNat ∧ qwM (rho z) q.toNat ≤ q.toNat := cntP_bd _ _
  refine Ki_of [(0, _), (1, _), (2, _), (3, _), (4, _), (5, _), (6, _)] hr (by decide) rfl rfl (Nat.le_of_ble_eq_true rfl) rfl (fun Γ hG hR => ?_)
  refine v_iconst hG dL_isAhead_0 ?_
  refine v_istore hG [(0, _), (1, _), (2, _), (3, _), (4, _), (5, _), (6, _), (7, _)] dL_isAhead_1 (by decide) rfl ?_
  refine v_aload_n hG dL_isAhead_3 3 rfl ?_
  refine v_iconst hG dL_isAhead_4 ?_
  refine v_iald hG k_171 (by decide) (cl_108 _ _ _ _) (by decide) (by omega) dL_isAhead_5 ?_
  rw [rho_57 z]
  refine v_sipush hG dL_isAhead_6 (by decide) ?_
  refine v_iadd hG dL_isAhead_9 ?_
  refine v_istore hG [(0, _), (1, _), (2, _), (3, _), (4, _), (5, _), (6, _), (7, _), (8, _)] dL_isAhead_10 (by decide) rfl ?_
  have L12 : ∀ (n : Nat), ∀ (x7 x8 : Int), (rho z 57 - 1 ≤ x8 ∧ x8 ≤ rho z 57 + 799 ∧ FDd (onM (rho z) f) (rho z 57 + 799) x8 x7) → (x8 - rho z 57 + 2).toNat ≤ n → V Γ z 0 0 [(0, .ref (r 0)), (1, .ref (r 169)), (2, .ref (r 170)), (3, .ref (r 171)), (4, .int (iN f)), (5, .int (iN g)), (6, .int (iN q)), (7, .int (iN x7)), (8, .int (iN x8))] 12 [] := by
    intro n
    induction n with
    | zero =>
      intro x7 x8 hI hm
      obtain ⟨i1, i2, i3v⟩ := hI
      exact absurd hm (by omega)
    | succ n ih12 =>
      intro x7 x8 hI hm
      obtain ⟨i1, i2, i3v⟩ := hI
      have k9 := FDd_bd i3v (by omega) i2
      refine v_iload hG dL_isAhead_12 8 rfl ?_
      refine v_aload_n hG dL_isAhead_14 3 rfl ?_
      refine v_iconst hG dL_isAhead_15 ?_
      refine v_iald hG k_171 (by decide) (cl_108 _ _ _ _) (by decide) (by omega) dL_isAhead_16 ?_
      rw [rho_57 z]
      refine v_icmp_lt hG 48 (by omega) (by omega) dL_isAhead_17 (by decide) (fun h17 => ?_) (fun h17 => ?_)
      · have hn7 : FD (onM (rho z) f) (rho z 57) (rho z 57 + 799) x7 := FDd_FD i3v (by omega)
        clear i3v
        refine v_iconst hG dL_isAhead_48 ?_
        refine v_istore hG [(0, _), (1, _), (2, _), (3, _), (4, _), (5, _), (6, _), (7, _), (8, _)] dL_isAhead_49 (by decide) rfl ?_
        refine v_sipush hG dL_isAhead_51 (by decide) ?_
        refine v_istore hG [(0, _), (1, _), (2, _), (3, _), (4, _), (5, _), (6, _), (7, _), (8, _), (9, _)] dL_isAhead_54 (by decide) rfl ?_
        have L56 : ∀ (n : Nat), ∀ (y8 y9 : Int), (-1 ≤ y9 ∧ y9 ≤ 2000 ∧ FDd (fun d => onM (rho z) f (rho z 57 + d) ∧ onM (rho z) g (rho z 57 + d)) 2000 y9 y8) → (y9 + 2).toNat ≤ n → V Γ z 0 0 [(0, .ref (r 0)), (1, .ref (r 169)), (2, .ref (r 170)), (3, .ref (r 171)), (4, .int (iN f)), (5, .int (iN g)), (6, .int (iN q)), (7, .int (iN x7)), (8, .int (iN y8)), (9, .int (iN y9))] 56 [] := by
          intro n
          induction n with
          | zero =>
            intro y8 y9 hI hm
            obtain ⟨j1, j2, j3⟩ := hI
            exact absurd hm (by omega)
          | succ n ih56 =>
            intro y8 y9 hI hm
            obtain ⟨j1, j2, j3⟩ := hI
            have k8 := FDd_bd j3 j1 j2
            refine v_iload hG dL_isAhead_56 9 rfl ?_
            have L117 : ∀ (_ : Unit), (f = g ∨ FD (fun d => onM (rho z) f (rho z 57 + d) ∧ onM (rho z) g (rho z 57 + d)) 0 2000 y8) → V Γ z 0 0 [(0, .ref (r 0)), (1, .ref (r 169)), (2, .ref (r 170)), (3, .ref (r 171)), (4, .int (iN f)), (5, .int (iN g)), (6, .int (iN q)), (7, .int (iN x7)), (8, .int (iN y8))] 117 [] := by
              intro _ hI117
              refine v_aload_n hG dL_isAhead_117 0 rfl ?_
              refine v_iload hG dL_isAhead_118 4 rfl ?_
              refine v_callVi (n := 1) (ci := 4) hG (c_X4_nextDay hr k_0 hS (by omega) (by omega)) gL_isAhead_X4_nextDay rfl (by decide +kernel) rfl (by decide) k_0 (by decide) (cl_1 _ _ _ _) rfl dL_isAhead_120 rfl (Nat.le_of_ble_eq_true rfl) (by decide) ?_
              intro v120 z120 hp120
              obtain ⟨rfl, hb120, hx120⟩ := hp120
              have e120 := next_eq hB hf h57.1 hx120 hn7
              refine v_iload hG dL_isAhead_123 7 rfl ?_
              refine v_icmp_ne hG 169 (by omega) (by omega) dL_isAhead_125 (by decide) (fun h125 => ?_) (fun h125 => ?_)
              · exact absurd e120 h125
              · refine v_iload hG dL_isAhead_128 4 rfl ?_
                refine v_iload hG dL_isAhead_130 5 rfl ?_
                refine v_icmp_eq hG 148 (by omega) (by omega) dL_isAhead_132 (by decide) (fun h132 => ?_) (fun h132 => ?_)
                · refine v_aload_n hG dL_isAhead_148 0 rfl ?_
                  refine v_iload hG dL_isAhead_149 6 rfl ?_
                  refine v_callVi (n := 1) (ci := 4) hG (c_X4_quarrelsWithin hr k_0 hS (by omega) (by omega)) gL_isAhead_X4_quarrelsWithin rfl (by decide +kernel) rfl (by decide) k_0 (by decide) (cl_1 _ _ _ _) rfl dL_isAhead_151 rfl (Nat.le_of_ble_eq_true rfl) (by decide) ?_
                  intro v151 z151 hp151
                  obtain ⟨ha151, hb151, rfl⟩ := hp151
                  have er151 := (agQ.of24 ha151).rho
                  have hM2 : MI (rho z151) := by
                    rw [er151]
                    exact hM
                  refine v_eqi hG (y := iN (qwM (rho z) q.toNat)) (congrArg iN (RB_qw hB q.toNat)) ?_
                  refine v_aload_n hG dL_isAhead_154 1 rfl ?_
                  refine v_aload_n hG dL_isAhead_155 2 rfl ?_
                  refine v_aload_n hG dL_isAhead_156 3 rfl ?_
                  refine v_iload hG dL_isAhead_157 6 rfl ?_
                  refine v_callSi (n := 4) hG (c_L_quarrels hr hM2 (by omega)) gL_isAhead_L_quarrels rfl (by decide +kernel) rfl (by decide) dL_isAhead_159 rfl (Nat.le_of_ble_eq_true rfl) (by decide) ?_
                  intro v159 z159 hp159
                  obtain ⟨rfl, rfl⟩ := hp159
                  rw [er151]
                  refine v_icmp_ne hG 169 (by omega) (by omega) dL_isAhead_162 (by decide) (fun h162 => ?_) (fun h162 => ?_)
                  · exact absurd rfl h162
                  · refine v_iconst hG dL_isAhead_165 ?_
                    refine v_goto hG 170 dL_isAhead_166 (by decide) ?_
                    exact v_zret hG hR (by first | exact Or.inl rfl | exact Or.inr rfl | omega) dL_isAhead_170 ⟨ha151, rfl⟩
                · refine v_aload_n hG dL_isAhead_135 0 rfl ?_
                  refine v_iload hG dL_isAhead_136 4 rfl ?_
                  refine v_iload hG dL_isAhead_138 5 rfl ?_
                  refine v_callVi (n := 2) (ci := 4) hG (c_X4_daysUntilMeeting hr k_0 hS (by omega) (by omega) (by omega)) gL_isAhead_X4_daysUntilMeeting rfl (by decide +kernel) rfl (by decide) k_0 (by decide) (cl_1 _ _ _ _) rfl dL_isAhead_140 rfl (Nat.le_of_ble_eq_true rfl) (by decide) ?_
                  intro v140 z140 hp140
                  obtain ⟨rfl, hb140, hc140, hd140, e140, hx140, hv140⟩ := hp140
                  have e140 : v140 = y8 := by
                    rcases hI117 with q9 | q9
                    · exact absurd q9 h132
                    · rw [hv140]
                      exact meet_eq hB hf hg h57.1 hx140 q9
                  refine v_iload hG dL_isAhead_143 8 rfl ?_
                  refine v_icmp_ne hG 169 (by omega) (by omega) dL_isAhead_145 (by decide) (fun h145 => ?_) (fun h145 => ?_)
                  · exact absurd e140 h145
                  · refine v_aload_n hG dL_isAhead_148 0 rfl ?_
                    refine v_iload hG dL_isAhead_149 6 rfl ?_
                    refine v_callVi (n := 1) (ci := 4) hG (c_X4_quarrelsWithin hr k_0 hS (by omega) (by omega)) gL_isAhead_X4_quarrelsWithin rfl (by decide +kernel) rfl (by decide) k_0 (by decide) (cl_1 _ _ _ _) rfl dL_isAhead_151 rfl (Nat.le_of_ble_eq_true rfl) (by decide) ?_
                    intro v151 z151 hp151
                    obtain ⟨ha151, hb151, rfl⟩ := hp151
                    have er151 := (agQ.of24 ha151).rho
                    have hM2 : MI (rho z151) := by
                      rw [er151]
                      exact hM
                    refine v_eqi hG (y := iN (qwM (rho z) q.toNat)) (congrArg iN (RB_qw hB q.toNat)) ?_
                    refine v_aload_n hG dL_isAhead_154 1 rfl ?_
                    refine v_aload_n hG dL_isAhead_155 2 rfl ?_
                    refine v_aload_n hG dL_isAhead_156 3 rfl ?_
                    refine v_iload hG dL_isAhead_157 6 rfl ?_
                    refine v_callSi (n := 4) hG (c_L_quarrels hr hM2 (by omega)) gL_isAhead_L_quarrels rfl (by decide +kernel) rfl (by decide) dL_isAhead_159 rfl (Nat.le_of_ble_eq_true rfl) (by decide) ?_
                    intro v159 z159 hp159
                    obtain ⟨rfl, rfl⟩ := hp159
                    rw [er151]
                    refine v_icmp_ne hG 169 (by omega) (by omega) dL_isAhead_162 (by decide) (fun h162 => ?_) (fun h162 => ?_)
                    · exact absurd rfl h162
                    · refine v_iconst hG dL_isAhead_165 ?_
                      refine v_goto hG 170 dL_isAhead_166 (by decide) ?_
                      exact v_zret hG hR (by first | exact Or.inl rfl | exact Or.inr rfl | omega) dL_isAhead_170 ⟨ha151, rfl⟩
            refine v_if_lt hG 117 (by omega) dL_isAhead_58 (by decide) (fun h58 => ?_) (fun h58 => ?_)
            · refine v_sub hG [(0, _), (1, _), (2, _), (3, _), (4, _), (5, _), (6, _), (7, _), (8, _)] [0, 1, 2, 3, 4, 5, 6, 7, 8] rfl ?_
              exact L117 () (by first | exact Or.inl (by omega) | exact Or.inr (FDd_FD j3 (by omega)))
            · refine v_iload hG dL_isAhead_61 4 rfl ?_
              refine v_iload hG dL_isAhead_63 5 rfl ?_
              refine v_icmp_eq hG 117 (by omega) (by omega) dL_isAhead_65 (by decide) (fun h65 => ?_) (fun h65 => ?_)
              · refine v_sub hG [(0, _), (1, _), (2, _), (3, _), (4, _), (5, _), (6, _), (7, _), (8, _)] [0, 1, 2, 3, 4, 5, 6, 7, 8] rfl ?_
                exact L117 () (by first | exact Or.inl (by omega) | exact Or.inr (FDd_FD j3 (by omega)))
              · refine v_aload_n hG dL_isAhead_68 1 rfl ?_
                refine v_aload_n hG dL_isAhead_69 2 rfl ?_
                refine v_aload_n hG dL_isAhead_70 3 rfl ?_
                refine v_iload hG dL_isAhead_71 4 rfl ?_
                refine v_aload_n hG dL_isAhead_73 3 rfl ?_
                refine v_iconst hG dL_isAhead_74 ?_
                refine v_iald hG k_171 (by decide) (cl_108 _ _ _ _) (by decide) (by omega) dL_isAhead_75 ?_
                rw [rho_57 z]
                refine v_iload hG dL_isAhead_76 9 rfl ?_
                refine v_iadd hG dL_isAhead_78 ?_
                refine v_callSi (n := 5) hG (c_L_kept hr hM hf (by omega)) gL_isAhead_L_kept rfl (by decide +kernel) rfl (by decide) dL_isAhead_79 rfl (Nat.le_of_ble_eq_true rfl) (by decide) ?_
                intro v79 z79 hp79
                obtain ⟨rfl, rfl⟩ := hp79
                refine v_if_eq hG 107 (by have h8 := ind_bd (onM (rho z) f (rho z 57 + y9)); omega) dL_isAhead_82 (by decide) (fun h82 => ?_) (fun h82 => ?_)
                · refine v_iload hG dL_isAhead_107 8 rfl ?_
                  refine v_istore hG [(0, _), (1, _), (2, _), (3, _), (4, _), (5, _), (6, _), (7, _), (8, _), (9, _)] dL_isAhead_109 (by decide) rfl ?_
                  refine v_iinc hG [(0, _), (1, _), (2, _), (3, _), (4, _), (5, _), (6, _), (7, _), (8, _), (9, _)] dL_isAhead_111 9 rfl (by decide) rfl ?_
                  refine v_goto hG 56 dL_isAhead_114 (by decide) ?_
                  refine ih56 _ _ ?_ (by omega)
                  first
                    | exact ⟨by omega, by omega, FDd_hit (by omega) ⟨ind_y rfl h82, ind_y rfl h99⟩⟩
                    | exact ⟨by omega, by omega, FDd_miss j3 (fun q9 => ind_n rfl h82 q9.1)⟩
                    | exact ⟨by omega, by omega, FDd_miss j3 (fun q9 => ind_n rfl h99 q9.2)⟩
                · refine v_aload_n hG dL_isAhead_85 1 rfl ?_
                  refine v_aload_n hG dL_isAhead_86 2 rfl ?_
                  refine v_aload_n hG dL_isAhead_87 3 rfl ?_
                  refine v_iload hG dL_isAhead_88 5 rfl ?_
                  refine v_aload_n hG dL_isAhead_90 3 rfl ?_
                  refine v_iconst hG dL_isAhead_91 ?_
                  refine v_iald hG k_171 (by decide) (cl_108 _ _ _ _) (by decide) (by omega) dL_isAhead_92 ?_
                  rw [rho_57 z]
                  refine v_iload hG dL_isAhead_93 9 rfl ?_
                  refine v_iadd hG dL_isAhead_95 ?_
                  refine v_callSi (n := 5) hG (c_L_kept hr hM hg (by omega)) gL_isAhead_L_kept rfl (by decide +kernel) rfl (by decide) dL_isAhead_96 rfl (Nat.le_of_ble_eq_true rfl) (by decide) ?_
                  intro v96 z96 hp96
                  obtain ⟨rfl, rfl⟩ := hp96
                  refine v_if_eq hG 107 (by have h8 := ind_bd (onM (rho z) g (rho z 57 + y9)); omega) dL_isAhead_99 (by decide) (fun h99 => ?_) (fun h99 => ?_)
                  · refine v_iload hG dL_isAhead_107 8 rfl ?_
                    refine v_istore hG [(0, _), (1, _), (2, _), (3, _), (4, _), (5, _), (6, _), (7, _), (8, _), (9, _)] dL_isAhead_109 (by decide) rfl ?_
                    refine v_iinc hG [(0, _), (1, _), (2, _), (3, _), (4, _), (5, _), (6, _), (7, _), (8, _), (9, _)] dL_isAhead_111 9 rfl (by decide) rfl ?_
                    refine v_goto hG 56 dL_isAhead_114 (by decide) ?_
                    refine ih56 _ _ ?_ (by omega)
                    first
                      | exact ⟨by omega, by omega, FDd_hit (by omega) ⟨ind_y rfl h82, ind_y rfl h99⟩⟩
                      | exact ⟨by omega, by omega, FDd_miss j3 (fun q9 => ind_n rfl h82 q9.1)⟩
                      | exact ⟨by omega, by omega, FDd_miss j3 (fun q9 => ind_n rfl h99 q9.2)⟩
                  · refine v_iload hG dL_isAhead_102 9 rfl ?_
                    refine v_goto hG 109 dL_isAhead_104 (by decide) ?_
                    refine v_istore hG [(0, _), (1, _), (2, _), (3, _), (4, _), (5, _), (6, _), (7, _), (8, _), (9, _)] dL_isAhead_109 (by decide) rfl ?_
                    refine v_iinc hG [(0, _), (1, _), (2, _), (3, _), (4, _), (5, _), (6, _), (7, _), (8, _), (9, _)] dL_isAhead_111 9 rfl (by decide) rfl ?_
                    refine v_goto hG 56 dL_isAhead_114 (by decide) ?_
                    refine ih56 _ _ ?_ (by omega)
                    first
                      | exact ⟨by omega, by omega, FDd_hit (by omega) ⟨ind_y rfl h82, ind_y rfl h99⟩⟩
                      | exact ⟨by omega, by omega, FDd_miss j3 (fun q9 => ind_n rfl h82 q9.1)⟩
                      | exact ⟨by omega, by omega, FDd_miss j3 (fun q9 => ind_n rfl h99 q9.2)⟩
        exact L56 _ _ _ ⟨by omega, by omega, FDd_0 _ _⟩ (Nat.le_refl _)
      · refine v_aload_n hG dL_isAhead_20 1 rfl ?_
        refine v_aload_n hG dL_isAhead_21 2 rfl ?_
        refine v_aload_n hG dL_isAhead_22 3 rfl ?_
        refine v_iload hG dL_isAhead_23 4 rfl ?_
        refine v_iload hG dL_isAhead_25 8 rfl ?_
        refine v_callSi (n := 5) hG (c_L_kept hr hM hf (by omega)) gL_isAhead_L_kept rfl (by decide +kernel) rfl (by decide) dL_isAhead_27 rfl (Nat.le_of_ble_eq_true rfl) (by decide) ?_
        intro v27 z27 hp27
        obtain ⟨rfl, rfl⟩ := hp27
        refine v_if_eq hG 38 (by have h8 := ind_bd (onM (rho z) f x8); omega) dL_isAhead_30 (by decide) (fun h30 => ?_) (fun h30 => ?_)
        · refine v_iload hG dL_isAhead_38 7 rfl ?_
          refine v_istore hG [(0, _), (1, _), (2, _), (3, _), (4, _), (5, _), (6, _), (7, _), (8, _)] dL_isAhead_40 (by decide) rfl ?_
          refine v_iinc hG [(0, _), (1, _), (2, _), (3, _), (4, _), (5, _), (6, _), (7, _), (8, _)] dL_isAhead_42 8 rfl (by decide) rfl ?_
          refine v_goto hG 12 dL_isAhead_45 (by decide) ?_
          refine ih12 _ _ ?_ (by omega)
          first
            | exact ⟨by omega, by omega, FDd_hit (by omega) (ind_y rfl h30)⟩
            | exact ⟨by omega, by omega, FDd_miss i3v (ind_n rfl h30)⟩
        · refine v_iload hG dL_isAhead_33 8 rfl ?_
          refine v_goto hG 40 dL_isAhead_35 (by decide) ?_
          refine v_istore hG [(0, _), (1, _), (2, _), (3, _), (4, _), (5, _), (6, _), (7, _), (8, _)] dL_isAhead_40 (by decide) rfl ?_
          refine v_iinc hG [(0, _), (1, _), (2, _), (3, _), (4, _), (5, _), (6, _), (7, _), (8, _)] dL_isAhead_42 8 rfl (by decide) rfl ?_
          refine v_goto hG 12 dL_isAhead_45 (by decide) ?_
          refine ih12 _ _ ?_ (by omega)
          first
            | exact ⟨by omega, by omega, FDd_hit (by omega) (ind_y rfl h30)⟩
            | exact ⟨by omega, by omega, FDd_miss i3v (ind_n rfl h30)⟩
  exact L12 _ _ _ ⟨by omega, by omega, FDd_0 _ _⟩ (Nat.le_refl _)

set_option maxHeartbeats 4000000 in
set_option maxRecDepth 100000 in
theorem c_L_isBest {l : Launch} {D : va_G} {cA : Nat → ClassId} {r : Nat → Nat} {z : Zt} {f : Int} (hr : Inj r) (hRl : Rel z) (hf : 0 ≤ f ∧ f < rho z 14) : Ki l D cA r yL_isBest wsL_isBest 7 173 z [.ref (r 0), .ref (r 169), .ref (r 170), .ref (r 171), .int (iN f)] (fun v z1 => ag24 z z1 ∧ v = 1) := by
  obtain ⟨hB, hP, hA, hbd⟩ := id hRl
  have hM := RB_MI hB
  obtain ⟨hG1, h14, hFe, h55, h56, h57⟩ := id hM
  obtain ⟨hS, hT, ⟨n1, n2, n3, n4, n5, n6⟩, hFf⟩ := id hB
  obtain ⟨c1, c2, c3, c4⟩ := id hbd
  have hF := hFe f hf.1 hf.2
  obtain ⟨hF0, hF1, hF2, hF3, hF4, hF5, hF6⟩ := id hF
  obtain ⟨Q, hQ⟩ : ∃ Q : Int → Int, Q = fun w => qwM (updR (rho z) (15 + 4 * f + 3).toNat w) 400 := ⟨_, rfl⟩
  have hQb : ∀ w, 0 ≤ Q w ∧ Q w ≤ 400 := fun w => by
    rw [hQ]
    exact cntP_bd _ 400
  refine Ki_of [(0, _), (1, _), (2, _), (3, _), (4, _)] hr (by decide) rfl rfl (Nat.le_of_ble_eq_true rfl) rfl (fun Γ hG hR => ?_)
  refine v_aload_n hG dL_isBest_0 2 rfl ?_
  refine v_iconst hG dL_isBest_1 ?_
  refine v_iload hG dL_isBest_2 4 rfl ?_
  refine v_imul hG dL_isBest_4 ?_
  refine v_iconst hG dL_isBest_5 ?_
  refine v_iadd hG dL_isBest_6 ?_
  refine v_iald hG k_170 (by decide) (cl_140 _ _ _ _) (by decide) (by omega) dL_isBest_7 ?_
  rw [rh_F z (by omega) (by omega)]
  refine v_istore hG [(0, _), (1, _), (2, _), (3, _), (4, _), (5, _)] dL_isBest_8 (by decide) rfl ?_
  refine v_iconst hG dL_isBest_10 ?_
  refine v_istore hG [(0, _), (1, _), (2, _), (3, _), (4, _), (5, _), (6, _)] dL_isBest_11 (by decide) rfl ?_
  refine v_iconst hG dL_isBest_13 ?_
  refine v_istore hG [(0, _), (1, _), (2, _), (3, _), (4, _), (5, _), (6, _), (7, _)] dL_isBest_14 (by decide) rfl ?_
  refine v_bipush hG dL_isBest_16 (by decide) ?_
  refine v_istore hG [(0, _), (1, _), (2, _), (3, _), (4, _), (5, _), (6, _), (7, _), (8, _)] dL_isBest_18 (by decide) rfl ?_
  refine v_wz hG (zup z 170 (4 * f + 3).toNat (mF (rho z) f 3)) (by rw [← rh_F z (k := f) (w := 3) (by omega) (by omega), zup_self]) ?_
  have L20 : ∀ (n : Nat), ∀ (x6 x7 x8 b : Int), (-1 ≤ x8 ∧ x8 ≤ 6 ∧ BD Q x8 x6 x7) → (x8 + 2).toNat ≤ n → V Γ (zup z 170 (4 * f + 3).toNat b) 0 0 [(0, .ref (r 0)), (1, .ref (r 169)), (2, .ref (r 170)), (3, .ref (r 171)), (4, .int (iN f)), (5, .int (iN (mF (rho z) f 3))), (6, .int (iN x6)), (7, .int (iN x7)), (8, .int (iN x8))] 20 [] := by
    intro n
    induction n with
    | zero =>
      intro x6 x7 x8 b hI hm
      obtain ⟨i1, i2, i3v⟩ := hI
      exact absurd hm (by omega)
    | succ n ih20 =>
      intro x6 x7 x8 b hI hm
      obtain ⟨i1, i2, i3v⟩ := hI
      have k9 := BD_rg hQb i3v i1
      refine v_iload hG dL_isBest_20 8 rfl ?_
      refine v_if_lt hG 89 (by omega) dL_isBest_22 (by decide) (fun h22 => ?_) (fun h22 => ?_)
      · refine v_aload_n hG dL_isBest_89 2 rfl ?_
        refine v_iconst hG dL_isBest_90 ?_
        refine v_iload hG dL_isBest_91 4 rfl ?_
        refine v_imul hG dL_isBest_93 ?_
        refine v_iconst hG dL_isBest_94 ?_
        refine v_iadd hG dL_isBest_95 ?_
        refine v_iload hG dL_isBest_96 5 rfl ?_
        refine v_iast hG k_170 (by decide) (cl_140 _ _ _) (by decide) (by omega) dL_isBest_98 ?_
        refine v_wz hG z (by rw [zup_zup, ← rh_F z (k := f) (w := 3) (by omega) (by omega), zup_self]) ?_
        refine v_aload_n hG dL_isBest_99 0 rfl ?_
        refine v_iload hG dL_isBest_100 4 rfl ?_
        refine v_callVi (n := 1) (ci := 4) hG (c_X4_bestBarredWeekday hr k_0 hS (by omega) (by omega)) gL_isBest_X4_bestBarredWeekday rfl (by decide +kernel) rfl (by decide) k_0 (by decide) (cl_1 _ _ _ _) rfl dL_isBest_102 rfl (Nat.le_of_ble_eq_true rfl) (by decide) ?_
        intro v102 z102 hp102
        obtain ⟨ha102, hb102, rfl⟩ := hp102
        have e102 : (bwN (fun k : Nat => qwS (zup z (9 + f.toNat) 3 (k : Int)) 400) 7).2 = x6 := by
          rw [show x8 = -1 by omega] at i3v
          rw [← best_eq hQb i3v, bwN_congr 7 (fun k hk => RB_qw (RB_bar hB hf (b := (k : Int)) (by omega)) 400), hQ]
        rw [e102]
        refine v_iload hG dL_isBest_105 6 rfl ?_
        refine v_icmp_ne hG 114 (by omega) (by omega) dL_isBest_107 (by decide) (fun h107 => ?_) (fun h107 => ?_)
        · exact absurd rfl h107
        · refine v_iconst hG dL_isBest_110 ?_
          refine v_goto hG 115 dL_isBest_111 (by decide) ?_
          exact v_zret hG hR (by first | exact Or.inl rfl | exact Or.inr rfl | omega) dL_isBest_115 ⟨ha102, rfl⟩
      · refine v_aload_n hG dL_isBest_25 2 rfl ?_
        refine v_iconst hG dL_isBest_26 ?_
        refine v_iload hG dL_isBest_27 4 rfl ?_
        refine v_imul hG dL_isBest_29 ?_
        refine v_iconst hG dL_isBest_30 ?_
        refine v_iadd hG dL_isBest_31 ?_
        refine v_iload hG dL_isBest_32 8 rfl ?_
        refine v_iast hG k_170 (by decide) (cl_140 _ _ _) (by decide) (by omega) dL_isBest_34 ?_
        rw [zup_zup]
        have hqx := hQb x8
        refine v_aload_n hG dL_isBest_35 1 rfl ?_
        refine v_aload_n hG dL_isBest_36 2 rfl ?_
        refine v_aload_n hG dL_isBest_37 3 rfl ?_
        refine v_sipush hG dL_isBest_38 (by decide) ?_
        refine v_callSi (n := 4) hG (c_L_quarrels hr (by rw [rho_upd (by omega)]; exact barR_MI hM hf (by omega)) (by omega)) gL_isBest_L_quarrels rfl (by decide +kernel) rfl (by decide) dL_isBest_41 rfl (Nat.le_of_ble_eq_true rfl) (by decide) ?_
        intro v41 z41 hp41
        obtain ⟨rfl, rfl⟩ := hp41
        refine v_eqi hG (y := iN (Q x8)) (congrArg iN (by rw [rho_upd (by omega), hQ]; rfl)) ?_
        refine v_istore hG [(0, _), (1, _), (2, _), (3, _), (4, _), (5, _), (6, _), (7, _), (8, _), (9, _)] dL_isBest_44 (by decide) rfl ?_
        refine v_iload hG dL_isBest_46 6 rfl ?_
        refine v_if_lt hG 58 (by omega) dL_isBest_48 (by decide) (fun h48 => ?_) (fun h48 => ?_)
        · refine v_iload hG dL_isBest_58 8 rfl ?_
          refine v_goto hG 65 dL_isBest_60 (by decide) ?_
          refine v_istore hG [(0, _), (1, _), (2, _), (3, _), (4, _), (5, _), (6, _), (7, _), (8, _), (9, _)] dL_isBest_65 (by decide) rfl ?_
          refine v_iload hG dL_isBest_67 6 rfl ?_
          refine v_iload hG dL_isBest_69 8 rfl ?_
          refine v_icmp_ne hG 79 (by omega) (by omega) dL_isBest_71 (by decide) (fun h71 => ?_) (fun h71 => ?_)
          · refine v_iload hG dL_isBest_79 7 rfl ?_
            refine v_istore hG [(0, _), (1, _), (2, _), (3, _), (4, _), (5, _), (6, _), (7, _), (8, _), (9, _)] dL_isBest_81 (by decide) rfl ?_
            refine v_iinc hG [(0, _), (1, _), (2, _), (3, _), (4, _), (5, _), (6, _), (7, _), (8, _), (9, _)] dL_isBest_83 8 rfl (by decide) rfl ?_
            refine v_goto hG 20 dL_isBest_86 (by decide) ?_
            refine v_sub hG [(0, _), (1, _), (2, _), (3, _), (4, _), (5, _), (6, _), (7, _), (8, _)] [0, 1, 2, 3, 4, 5, 6, 7, 8] rfl ?_
            refine ih20 _ _ _ _ ?_ (by omega)
            first
              | (exfalso; omega)
              | exact ⟨by omega, by omega, BD_hit i3v (by omega) (by omega)⟩
              | exact ⟨by omega, by omega, BD_miss i3v (by omega) (by omega)⟩
          · refine v_iload hG dL_isBest_74 9 rfl ?_
            refine v_goto hG 81 dL_isBest_76 (by decide) ?_
            refine v_istore hG [(0, _), (1, _), (2, _), (3, _), (4, _), (5, _), (6, _), (7, _), (8, _), (9, _)] dL_isBest_81 (by decide) rfl ?_
            refine v_iinc hG [(0, _), (1, _), (2, _), (3, _), (4, _), (5, _), (6, _), (7, _), (8, _), (9, _)] dL_isBest_83 8 rfl (by decide) rfl ?_
            refine v_goto hG 20 dL_isBest_86 (by decide) ?_
            refine v_sub hG [(0, _), (1, _), (2, _), (3, _), (4, _), (5, _), (6, _), (7, _), (8, _)] [0, 1, 2, 3, 4, 5, 6, 7, 8] rfl ?_
            refine ih20 _ _ _ _ ?_ (by omega)
            first
              | (exfalso; omega)
              | exact ⟨by omega, by omega, BD_hit i3v (by omega) (by omega)⟩
              | exact ⟨by omega, by omega, BD_miss i3v (by omega) (by omega)⟩
        · refine v_iload hG dL_isBest_51 9 rfl ?_
          refine v_iload hG dL_isBest_53 7 rfl ?_
          refine v_icmp_gt hG 63 (by omega) (by omega) dL_isBest_55 (by decide) (fun h55 => ?_) (fun h55 => ?_)
          · refine v_iload hG dL_isBest_63 6 rfl ?_
            refine v_istore hG [(0, _), (1, _), (2, _), (3, _), (4, _), (5, _), (6, _), (7, _), (8, _), (9, _)] dL_isBest_65 (by decide) rfl ?_
            refine v_iload hG dL_isBest_67 6 rfl ?_
            refine v_iload hG dL_isBest_69 8 rfl ?_
            refine v_icmp_ne hG 79 (by omega) (by omega) dL_isBest_71 (by decide) (fun h71 => ?_) (fun h71 => ?_)
            · refine v_iload hG dL_isBest_79 7 rfl ?_
              refine v_istore hG [(0, _), (1, _), (2, _), (3, _), (4, _), (5, _), (6, _), (7, _), (8, _), (9, _)] dL_isBest_81 (by decide) rfl ?_
              refine v_iinc hG [(0, _), (1, _), (2, _), (3, _), (4, _), (5, _), (6, _), (7, _), (8, _), (9, _)] dL_isBest_83 8 rfl (by decide) rfl ?_
              refine v_goto hG 20 dL_isBest_86 (by decide) ?_
              refine v_sub hG [(0, _), (1, _), (2, _), (3, _), (4, _), (5, _), (6, _), (7, _), (8, _)] [0, 1, 2, 3, 4, 5, 6, 7, 8] rfl ?_
              refine ih20 _ _ _ _ ?_ (by omega)
              first
                | (exfalso; omega)
                | exact ⟨by omega, by omega, BD_hit i3v (by omega) (by omega)⟩
                | exact ⟨by omega, by omega, BD_miss i3v (by omega) (by omega)⟩
            · refine v_iload hG dL_isBest_74 9 rfl ?_
              refine v_goto hG 81 dL_isBest_76 (by decide) ?_
              refine v_istore hG [(0, _), (1, _), (2, _), (3, _), (4, _), (5, _), (6, _), (7, _), (8, _), (9, _)] dL_isBest_81 (by decide) rfl ?_
              refine v_iinc hG [(0, _), (1, _), (2, _), (3, _), (4, _), (5, _), (6, _), (7, _), (8, _), (9, _)] dL_isBest_83 8 rfl (by decide) rfl ?_
              refine v_goto hG 20 dL_isBest_86 (by decide) ?_
              refine v_sub hG [(0, _), (1, _), (2, _), (3, _), (4, _), (5, _), (6, _), (7, _), (8, _)] [0, 1, 2, 3, 4, 5, 6, 7, 8] rfl ?_
              refine ih20 _ _ _ _ ?_ (by omega)
              first
                | (exfalso; omega)
                | exact ⟨by omega, by omega, BD_hit i3v (by omega) (by omega)⟩
                | exact ⟨by omega, by omega, BD_miss i3v (by omega) (by omega)⟩
          · refine v_iload hG dL_isBest_58 8 rfl ?_
            refine v_goto hG 65 dL_isBest_60 (by decide) ?_
            refine v_istore hG [(0, _), (1, _), (2, _), (3, _), (4, _), (5, _), (6, _), (7, _), (8, _), (9, _)] dL_isBest_65 (by decide) rfl ?_
            refine v_iload hG dL_isBest_67 6 rfl ?_
            refine v_iload hG dL_isBest_69 8 rfl ?_
            refine v_icmp_ne hG 79 (by omega) (by omega) dL_isBest_71 (by decide) (fun h71 => ?_) (fun h71 => ?_)
            · refine v_iload hG dL_isBest_79 7 rfl ?_
              refine v_istore hG [(0, _), (1, _), (2, _), (3, _), (4, _), (5, _), (6, _), (7, _), (8, _), (9, _)] dL_isBest_81 (by decide) rfl ?_
              refine v_iinc hG [(0, _), (1, _), (2, _), (3, _), (4, _), (5, _), (6, _), (7, _), (8, _), (9, _)] dL_isBest_83 8 rfl (by decide) rfl ?_
              refine v_goto hG 20 dL_isBest_86 (by decide) ?_
              refine v_sub hG [(0, _), (1, _), (2, _), (3, _), (4, _), (5, _), (6, _), (7, _), (8, _)] [0, 1, 2, 3, 4, 5, 6, 7, 8] rfl ?_
              refine ih20 _ _ _ _ ?_ (by omega)
              first
                | (exfalso; omega)
                | exact ⟨by omega, by omega, BD_hit i3v (by omega) (by omega)⟩
                | exact ⟨by omega, by omega, BD_miss i3v (by omega) (by omega)⟩
            · refine v_iload hG dL_isBest_74 9 rfl ?_
              refine v_goto hG 81 dL_isBest_76 (by decide) ?_
              refine v_istore hG [(0, _), (1, _), (2, _), (3, _), (4, _), (5, _), (6, _), (7, _), (8, _), (9, _)] dL_isBest_81 (by decide) rfl ?_
              refine v_iinc hG [(0, _), (1, _), (2, _), (3, _), (4, _), (5, _), (6, _), (7, _), (8, _), (9, _)] dL_isBest_83 8 rfl (by decide) rfl ?_
              refine v_goto hG 20 dL_isBest_86 (by decide) ?_
              refine v_sub hG [(0, _), (1, _), (2, _), (3, _), (4, _), (5, _), (6, _), (7, _), (8, _)] [0, 1, 2, 3, 4, 5, 6, 7, 8] rfl ?_
              refine ih20 _ _ _ _ ?_ (by omega)
              first
                | (exfalso; omega)
                | exact ⟨by omega, by omega, BD_hit i3v (by omega) (by omega)⟩
                | exact ⟨by omega, by omega, BD_miss i3v (by omega) (by omega)⟩
  exact L20 _ _ _ _ _ ⟨by omega, by omega, Or.inl ⟨rfl, rfl, rfl⟩⟩ (Nat.le_refl _)

