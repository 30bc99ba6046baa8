set_option maxHeartbeats 4000000 in
set_option maxRecDepth 100000 in
theorem c_X5_appendText {l : Launch} {D : va_G} {cA : Nat → ClassId} {r : Nat → Nat} {z : Zt} {w : Zt} {u : Nat} (hr : Inj r) (k9a : kd 169 = 6) (hw : w = zup z 169 5 0) (hX : TX (w 174) (w 169 7)) (hn : u < 2 ^ 64) : Ki l D cA r yX5_appendText wsX5_appendText 1 22 z [.ref (r 169), .long (lN u)] (fun v z1 => (∃ c : Nat, goodC u c ∧ w 169 7 + c ≤ 80 ∧ apG 174 169 7 w u c c = z1 ∧ v = w 169 7 + c) ∨ (zup w 169 5 1 = z1 ∧ ∀ c, ¬ goodC u c) ∨ (zup w 169 5 2 = z1 ∧ ∃ c : Nat, goodC u c ∧ 80 < w 169 7 + c)) := by
  have iW5 : ∀ w ∈ u_ws RX5 TX5 10, w ∈ wsX5_appendText := by decide +kernel
  have f23 : Cond.fieldLink RX5 23 (TX5 6).1 (TX5 6).2.1 (TX5 6).2.2.1 ∈ wsX5_appendText := by decide +kernel
  have f29 : Cond.fieldLink RX5 29 (TX5 5).1 (TX5 5).2.1 (TX5 5).2.2.1 ∈ wsX5_appendText := by decide +kernel
  have f117 : Cond.fieldLink RX5 117 (TX5 7).1 (TX5 7).2.1 (TX5 7).2.2.1 ∈ wsX5_appendText := by decide +kernel
  obtain ⟨hl0, hl8, hch⟩ := id hX
  refine Ki_of [(0, _), (1, _)] hr (by decide) rfl rfl (Nat.le_of_ble_eq_true rfl) rfl (fun Γ hG hR => ?_)
  refine v_aload_n hG dX5_appendText_0 0 rfl ?_
  refine v_iconst hG dX5_appendText_1 ?_
  refine v_putf (ci := 5) (k := 5) hG iW5 tyX5_ok nmX5 f29 rfl (by decide) rfl rfl k9a (by decide) (cl_6 _ _ _ _) (Nat.le_of_ble_eq_true rfl) rfl dX5_appendText_2 ?_
  rw [← hw]
  refine v_iconst hG dX5_appendText_5 ?_
  refine v_istore_n hG [(0, _), (1, _), (3, _)] dX5_appendText_6 (by decide) rfl ?_
  refine v_lload_n hG dX5_appendText_7 1 rfl ?_
  refine v_lstore hG [(0, _), (1, _), (3, _), (4, _)] dX5_appendText_8 (by decide) rfl rfl ?_
  refine v_iconst hG dX5_appendText_10 ?_
  refine v_istore hG [(0, _), (1, _), (3, _), (4, _), (6, _)] dX5_appendText_11 (by decide) rfl ?_
  have L13 : ∀ (n : Nat), ∀ (x3 x6 : Int), (0 ≤ x3 ∧ x3 ≤ 8 ∧ (∀ p : Nat, (p : Int) < x3 → bt8 u p ≠ 0) ∧ x6 = ind (∀ p : Nat, (p : Int) < x3 → 33 ≤ bt8 u p ∧ bt8 u p ≤ 126) ∧ (0 ≤ x6 ∧ x6 ≤ 1)) → (8 - x3 + 1).toNat ≤ n → V Γ w 0 0 [(0, .ref (r 169)), (1, .long (lN u)), (3, .int (iN x3)), (4, .long (lN (u / 2 ^ (8 * x3.toNat)))), (6, .int (iN x6))] 13 [] := by
    intro n
    induction n with
    | zero =>
      intro x3 x6 hI hm
      obtain ⟨i1, i2, i3v, i4, i5⟩ := hI
      exact absurd hm (by omega)
    | succ n ih13 =>
      intro x3 x6 hI hm
      obtain ⟨i1, i2, i3v, i4, i5⟩ := hI
      refine v_iload_n hG dX5_appendText_13 2 rfl ?_
      refine v_bipush hG dX5_appendText_14 (by decide) ?_
      have hbb := bt8_bd u x3.toNat
      have hdl : u / 2 ^ (8 * x3.toNat) < 2 ^ 64 := Nat.lt_of_le_of_lt (Nat.div_le_self _ _) hn
      refine v_icmp_ge hG 72 (by omega) (by omega) dX5_appendText_16 (by decide) (fun h16 => ?_) (fun h16 => ?_)
      · have hend : 8 ≤ x3 ∨ bt8 u x3.toNat = 0 := by
          first
            | exact Or.inl (by omega)
            | (refine Or.inr ?_
               have q8 := lN_inj (b := 0) (Nat.lt_trans (Nat.mod_lt _ (by decide)) (by decide)) (by decide) (lcr_0.mp ‹lcr (lN (u / 2 ^ (8 * x3.toNat) % 256)) _ = 0›)
               unfold bt8
               rw [q8]
               rfl)
        have hdl : u / 2 ^ (8 * x3.toNat) < 2 ^ 64 := Nat.lt_of_le_of_lt (Nat.div_le_self _ _) hn
        refine v_iload_n hG dX5_appendText_72 2 rfl ?_
        refine v_if_eq hG 88 (by omega) dX5_appendText_73 (by decide) (fun h73 => ?_) (fun h73 => ?_)
        · have hno : ∀ c, ¬ goodC u c := fun c hc => by
            have hc2 := hc.2.2.1
            have hc1 := hc.1
            have hc8 := hc.2.1
            rcases Nat.lt_trichotomy c x3.toNat with q | q | q
            · have := i3v c (by omega)
              exact this (bt8_0 hc.2.2.2 (Nat.le_refl c)).2
            · subst q
              first
                | omega
                | exact ‹¬ lcr (lN (u / 2 ^ (8 * x3.toNat))) _ = 0› (lcr_0.mpr (by rw [hc.2.2.2] <;> rfl))
                | exact absurd (i4.trans (ind_t (fun p hp => hc2 p (by omega)))) (by omega)
            · have := hc2 x3.toNat q
              rcases hend with q2 | q2
              · omega
              · omega
          refine v_aload_n hG dX5_appendText_88 0 rfl ?_
          refine v_iconst hG dX5_appendText_89 ?_
          refine v_callVi (n := 1) (ci := 5) hG (c_X5_fails hr k9a) gX5_appendText_X5_fails rfl (by decide +kernel) rfl (by decide) k9a (by decide) (cl_6 _ _ _ _) rfl dX5_appendText_90 rfl (Nat.le_of_ble_eq_true rfl) (by decide) ?_
          intro v90 z90 hp90
          obtain ⟨rfl, rfl⟩ := hp90
          exact v_iret hG hR dX5_appendText_93 (Or.inr (Or.inl ⟨rfl, hno⟩))
        · refine v_lload hG dX5_appendText_76 3 rfl ?_
          refine v_lconst hG dX5_appendText_78 ?_
          refine v_lcmp hG dX5_appendText_79 ?_
          refine v_if_ne hG 88 (lcr_rg _ _) dX5_appendText_80 (by decide) (fun h80 => ?_) (fun h80 => ?_)
          · have hno : ∀ c, ¬ goodC u c := fun c hc => by
              have hc2 := hc.2.2.1
              have hc1 := hc.1
              have hc8 := hc.2.1
              rcases Nat.lt_trichotomy c x3.toNat with q | q | q
              · have := i3v c (by omega)
                exact this (bt8_0 hc.2.2.2 (Nat.le_refl c)).2
              · subst q
                first
                  | omega
                  | exact ‹¬ lcr (lN (u / 2 ^ (8 * x3.toNat))) _ = 0› (lcr_0.mpr (by rw [hc.2.2.2] <;> rfl))
                  | exact absurd (i4.trans (ind_t (fun p hp => hc2 p (by omega)))) (by omega)
              · have := hc2 x3.toNat q
                rcases hend with q2 | q2
                · omega
                · omega
            refine v_aload_n hG dX5_appendText_88 0 rfl ?_
            refine v_iconst hG dX5_appendText_89 ?_
            refine v_callVi (n := 1) (ci := 5) hG (c_X5_fails hr k9a) gX5_appendText_X5_fails rfl (by decide +kernel) rfl (by decide) k9a (by decide) (cl_6 _ _ _ _) rfl dX5_appendText_90 rfl (Nat.le_of_ble_eq_true rfl) (by decide) ?_
            intro v90 z90 hp90
            obtain ⟨rfl, rfl⟩ := hp90
            exact v_iret hG hR dX5_appendText_93 (Or.inr (Or.inl ⟨rfl, hno⟩))
          · refine v_iload hG dX5_appendText_83 4 rfl ?_
            refine v_if_ne hG 94 (by omega) dX5_appendText_85 (by decide) (fun h85 => ?_) (fun h85 => ?_)
            · have hz : u / 2 ^ (8 * x3.toNat) = 0 := lN_inj (b := 0) hdl (by decide) (lcr_0.mp h80)
              have hall : (∀ p : Nat, (p : Int) < x3 → 33 ≤ bt8 u p ∧ bt8 u p ≤ 126) := Classical.byContradiction (fun q => h85 (by rw [i4]; exact ind_f q))
              have hgd : goodC u x3.toNat := ⟨by omega, by omega, fun p hp => hall p (by omega), hz⟩
              refine v_aload_n hG dX5_appendText_94 0 rfl ?_
              refine v_getf (ci := 5) (k := 7) hG iW5 f117 rfl (by decide) k9a (by decide) (cl_6 _ _ _ _) rfl dX5_appendText_95 ?_
              refine v_iload_n hG dX5_appendText_98 2 rfl ?_
              refine v_iadd hG dX5_appendText_99 ?_
              refine v_bipush hG dX5_appendText_100 (by decide) ?_
              refine v_icmp_le hG 111 (by omega) (by omega) dX5_appendText_102 (by decide) (fun h102 => ?_) (fun h102 => ?_)
              · refine v_iload_n hG dX5_appendText_111 2 rfl ?_
                refine v_iconst hG dX5_appendText_112 ?_
                refine v_isub hG dX5_appendText_113 ?_
                refine v_istore hG [(0, _), (1, _), (3, _), (4, _), (6, _), (7, _)] dX5_appendText_114 (by decide) rfl ?_
                refine v_re hG (apG 174 169 7 w u x3.toNat (x3 - 1 - (x3 - 1)).toNat) (fun i j _ _ => by rw [show (x3 - 1 - (x3 - 1)).toNat = 0 by omega, apG_0]) ?_
                have L116 : ∀ (n : Nat), ∀ (x7 : Int), (-1 ≤ x7 ∧ x7 < x3 ∧ w 169 7 + x3 ≤ 80) → (x7 + 2).toNat ≤ n → V Γ (apG 174 169 7 w u x3.toNat (x3 - 1 - x7).toNat) 0 0 [(0, .ref (r 169)), (1, .long (lN u)), (3, .int (iN x3)), (4, .long (lN (u / 2 ^ (8 * x3.toNat)))), (6, .int (iN x6)), (7, .int (iN x7))] 116 [] := by
                  intro n
                  induction n with
                  | zero =>
                    intro x7 hI hm
                    obtain ⟨j1, j2, j3⟩ := hI
                    exact absurd hm (by omega)
                  | succ n ih116 =>
                    intro x7 hI hm
                    obtain ⟨j1, j2, j3⟩ := hI
                    refine v_iload hG dX5_appendText_116 5 rfl ?_
                    refine v_if_lt hG 158 (by omega) dX5_appendText_118 (by decide) (fun h118 => ?_) (fun h118 => ?_)
                    · refine v_aload_n hG dX5_appendText_158 0 rfl ?_
                      refine v_getf (ci := 5) (k := 7) hG iW5 f117 rfl (by decide) k9a (by decide) (cl_6 _ _ _ _) rfl dX5_appendText_159 ?_
                      exact v_iret hG hR dX5_appendText_162 (Or.inl ⟨x3.toNat, hgd, by omega, by rw [show (x3 - 1 - x7).toNat = x3.toNat by omega], by rw [apG_L]; omega⟩)
                    · refine v_aload_n hG dX5_appendText_121 0 rfl ?_
                      refine v_getf (ci := 5) (k := 6) hG iW5 f23 rfl (by decide) k9a (by decide) (cl_6 _ _ _ _) rfl dX5_appendText_122 ?_
                      refine v_aload_n hG dX5_appendText_125 0 rfl ?_
                      refine v_getf (ci := 5) (k := 7) hG iW5 f117 rfl (by decide) k9a (by decide) (cl_6 _ _ _ _) rfl dX5_appendText_126 ?_
                      refine v_lload_n hG dX5_appendText_129 1 rfl ?_
                      refine v_bipush hG dX5_appendText_130 (by decide) ?_
                      refine v_iload hG dX5_appendText_132 5 rfl ?_
                      refine v_imul hG dX5_appendText_134 ?_
                      refine v_lushrN hG hn (by omega) dX5_appendText_135 ?_
                      refine v_ldc2 (v := lN 255) hG (by decide +kernel) dX5_appendText_136 ?_
                      refine v_land255 hG (Nat.lt_of_le_of_lt (Nat.div_le_self _ _) hn) dX5_appendText_139 ?_
                      refine v_l2iN hG dX5_appendText_140 ?_
                      refine v_eqi hG (y := iN (bt8 u x7.toNat)) (by unfold bt8; rw [show (8 * x7).toNat = 8 * x7.toNat by omega]) ?_
                      refine v_iast hG k_174 (by decide) (cl_180 _ _ _) (by decide) (by rw [apG_L]; omega) dX5_appendText_141 ?_
                      refine v_aload_n hG dX5_appendText_142 0 rfl ?_
                      refine v_dup hG dX5_appendText_143 rfl ?_
                      refine v_getf (ci := 5) (k := 7) hG iW5 f117 rfl (by decide) k9a (by decide) (cl_6 _ _ _ _) rfl dX5_appendText_144 ?_
                      refine v_iconst hG dX5_appendText_147 ?_
                      refine v_iadd hG dX5_appendText_148 ?_
                      refine v_putf (ci := 5) (k := 7) hG iW5 tyX5_ok nmX5 f117 rfl (by decide) rfl rfl k9a (by decide) (cl_6 _ _ _ _) (Nat.le_of_ble_eq_true rfl) rfl dX5_appendText_149 ?_
                      have hs9 := apG_s (A := 174) (L := 169) (k := 7) (z := w) (n := u) (c := x3.toNat) (m := (x3 - 1 - x7).toNat) (by decide) hl0 (by omega)
                      rw [show x3.toNat - 1 - (x3 - 1 - x7).toNat = x7.toNat by omega, show (x3 - 1 - x7).toNat + 1 = (x3 - 1 - (x7 + -1)).toNat by omega] at hs9
                      refine v_re hG (apG 174 169 7 w u x3.toNat (x3 - 1 - (x7 + -1)).toNat) (fun i j _ _ => by rw [← hs9, zup_o (show (169 : Nat) ≠ 174 by decide)]) ?_
                      refine v_iinc hG [(0, _), (1, _), (3, _), (4, _), (6, _), (7, _)] dX5_appendText_152 5 rfl (by decide) rfl ?_
                      refine v_goto hG 116 dX5_appendText_155 (by decide) ?_
                      exact ih116 (x7 + -1) ⟨by omega, by omega, by omega⟩ (by omega)
                exact L116 _ (x3 - 1) ⟨by omega, by omega, by omega⟩ (Nat.le_refl _)
              · refine v_aload_n hG dX5_appendText_105 0 rfl ?_
                refine v_iconst hG dX5_appendText_106 ?_
                refine v_callVi (n := 1) (ci := 5) hG (c_X5_fails hr k9a) gX5_appendText_X5_fails rfl (by decide +kernel) rfl (by decide) k9a (by decide) (cl_6 _ _ _ _) rfl dX5_appendText_107 rfl (Nat.le_of_ble_eq_true rfl) (by decide) ?_
                intro v107 z107 hp107
                obtain ⟨rfl, rfl⟩ := hp107
                exact v_iret hG hR dX5_appendText_110 (Or.inr (Or.inr ⟨rfl, x3.toNat, hgd, by omega⟩))
            · have hno : ∀ c, ¬ goodC u c := fun c hc => by
                have hc2 := hc.2.2.1
                have hc1 := hc.1
                have hc8 := hc.2.1
                rcases Nat.lt_trichotomy c x3.toNat with q | q | q
                · have := i3v c (by omega)
                  exact this (bt8_0 hc.2.2.2 (Nat.le_refl c)).2
                · subst q
                  first
                    | omega
                    | exact ‹¬ lcr (lN (u / 2 ^ (8 * x3.toNat))) _ = 0› (lcr_0.mpr (by rw [hc.2.2.2] <;> rfl))
                    | exact absurd (i4.trans (ind_t (fun p hp => hc2 p (by omega)))) (by omega)
                · have := hc2 x3.toNat q
                  rcases hend with q2 | q2
                  · omega
                  · omega
              refine v_aload_n hG dX5_appendText_88 0 rfl ?_
              refine v_iconst hG dX5_appendText_89 ?_
              refine v_callVi (n := 1) (ci := 5) hG (c_X5_fails hr k9a) gX5_appendText_X5_fails rfl (by decide +kernel) rfl (by decide) k9a (by decide) (cl_6 _ _ _ _) rfl dX5_appendText_90 rfl (Nat.le_of_ble_eq_true rfl) (by decide) ?_
              intro v90 z90 hp90
              obtain ⟨rfl, rfl⟩ := hp90
              exact v_iret hG hR dX5_appendText_93 (Or.inr (Or.inl ⟨rfl, hno⟩))
      · refine v_lload hG dX5_appendText_19 3 rfl ?_
        refine v_ldc2 (v := lN 255) hG (by decide +kernel) dX5_appendText_21 ?_
        refine v_land255 hG hdl dX5_appendText_24 ?_
        refine v_lconst hG dX5_appendText_25 ?_
        refine v_lcmp hG dX5_appendText_26 ?_
        refine v_if_eq hG 72 (lcr_rg _ _) dX5_appendText_27 (by decide) (fun h27 => ?_) (fun h27 => ?_)
        · have hend : 8 ≤ x3 ∨ bt8 u x3.toNat = 0 := by
            first
              | exact Or.inl (by omega)
              | (refine Or.inr ?_
                 have q8 := lN_inj (b := 0) (Nat.lt_trans (Nat.mod_lt _ (by decide)) (by decide)) (by decide) (lcr_0.mp ‹lcr (lN (u / 2 ^ (8 * x3.toNat) % 256)) _ = 0›)
                 unfold bt8
                 rw [q8]
                 rfl)
          have hdl : u / 2 ^ (8 * x3.toNat) < 2 ^ 64 := Nat.lt_of_le_of_lt (Nat.div_le_self _ _) hn
          refine v_iload_n hG dX5_appendText_72 2 rfl ?_
          refine v_if_eq hG 88 (by omega) dX5_appendText_73 (by decide) (fun h73 => ?_) (fun h73 => ?_)
          · have hno : ∀ c, ¬ goodC u c := fun c hc => by
              have hc2 := hc.2.2.1
              have hc1 := hc.1
              have hc8 := hc.2.1
              rcases Nat.lt_trichotomy c x3.toNat with q | q | q
              · have := i3v c (by omega)
                exact this (bt8_0 hc.2.2.2 (Nat.le_refl c)).2
              · subst q
                first
                  | omega
                  | exact ‹¬ lcr (lN (u / 2 ^ (8 * x3.toNat))) _ = 0› (lcr_0.mpr (by rw [hc.2.2.2] <;> rfl))
                  | exact absurd (i4.trans (ind_t (fun p hp => hc2 p (by omega)))) (by omega)
              · have := hc2 x3.toNat q
                rcases hend with q2 | q2
                · omega
                · omega
            refine v_aload_n hG dX5_appendText_88 0 rfl ?_
            refine v_iconst hG dX5_appendText_89 ?_
            refine v_callVi (n := 1) (ci := 5) hG (c_X5_fails hr k9a) gX5_appendText_X5_fails rfl (by decide +kernel) rfl (by decide) k9a (by decide) (cl_6 _ _ _ _) rfl dX5_appendText_90 rfl (Nat.le_of_ble_eq_true rfl) (by decide) ?_
            intro v90 z90 hp90
            obtain ⟨rfl, rfl⟩ := hp90
            exact v_iret hG hR dX5_appendText_93 (Or.inr (Or.inl ⟨rfl, hno⟩))
          · refine v_lload hG dX5_appendText_76 3 rfl ?_
            refine v_lconst hG dX5_appendText_78 ?_
            refine v_lcmp hG dX5_appendText_79 ?_
            refine v_if_ne hG 88 (lcr_rg _ _) dX5_appendText_80 (by decide) (fun h80 => ?_) (fun h80 => ?_)
            · have hno : ∀ c, ¬ goodC u c := fun c hc => by
                have hc2 := hc.2.2.1
                have hc1 := hc.1
                have hc8 := hc.2.1
                rcases Nat.lt_trichotomy c x3.toNat with q | q | q
                · have := i3v c (by omega)
                  exact this (bt8_0 hc.2.2.2 (Nat.le_refl c)).2
                · subst q
                  first
                    | omega
                    | exact ‹¬ lcr (lN (u / 2 ^ (8 * x3.toNat))) _ = 0› (lcr_0.mpr (by rw [hc.2.2.2] <;> rfl))
                    | exact absurd (i4.trans (ind_t (fun p hp => hc2 p (by omega)))) (by omega)
                · have := hc2 x3.toNat q
                  rcases hend with q2 | q2
                  · omega
                  · omega
              refine v_aload_n hG dX5_appendText_88 0 rfl ?_
              refine v_iconst hG dX5_appendText_89 ?_
              refine v_callVi (n := 1) (ci := 5) hG (c_X5_fails hr k9a) gX5_appendText_X5_fails rfl (by decide +kernel) rfl (by decide) k9a (by decide) (cl_6 _ _ _ _) rfl dX5_appendText_90 rfl (Nat.le_of_ble_eq_true rfl) (by decide) ?_
              intro v90 z90 hp90
              obtain ⟨rfl, rfl⟩ := hp90
              exact v_iret hG hR dX5_appendText_93 (Or.inr (Or.inl ⟨rfl, hno⟩))
            · refine v_iload hG dX5_appendText_83 4 rfl ?_
              refine v_if_ne hG 94 (by omega) dX5_appendText_85 (by decide) (fun h85 => ?_) (fun h85 => ?_)
              · have hz : u / 2 ^ (8 * x3.toNat) = 0 := lN_inj (b := 0) hdl (by decide) (lcr_0.mp h80)
                have hall : (∀ p : Nat, (p : Int) < x3 → 33 ≤ bt8 u p ∧ bt8 u p ≤ 126) := Classical.byContradiction (fun q => h85 (by rw [i4]; exact ind_f q))
                have hgd : goodC u x3.toNat := ⟨by omega, by omega, fun p hp => hall p (by omega), hz⟩
                refine v_aload_n hG dX5_appendText_94 0 rfl ?_
                refine v_getf (ci := 5) (k := 7) hG iW5 f117 rfl (by decide) k9a (by decide) (cl_6 _ _ _ _) rfl dX5_appendText_95 ?_
                refine v_iload_n hG dX5_appendText_98 2 rfl ?_
                refine v_iadd hG dX5_appendText_99 ?_
                refine v_bipush hG dX5_appendText_100 (by decide) ?_
                refine v_icmp_le hG 111 (by omega) (by omega) dX5_appendText_102 (by decide) (fun h102 => ?_) (fun h102 => ?_)
                · refine v_iload_n hG dX5_appendText_111 2 rfl ?_
                  refine v_iconst hG dX5_appendText_112 ?_
                  refine v_isub hG dX5_appendText_113 ?_
                  refine v_istore hG [(0, _), (1, _), (3, _), (4, _), (6, _), (7, _)] dX5_appendText_114 (by decide) rfl ?_
                  refine v_re hG (apG 174 169 7 w u x3.toNat (x3 - 1 - (x3 - 1)).toNat) (fun i j _ _ => by rw [show (x3 - 1 - (x3 - 1)).toNat = 0 by omega, apG_0]) ?_
                  have L116 : ∀ (n : Nat), ∀ (x7 : Int), (-1 ≤ x7 ∧ x7 < x3 ∧ w 169 7 + x3 ≤ 80) → (x7 + 2).toNat ≤ n → V Γ (apG 174 169 7 w u x3.toNat (x3 - 1 - x7).toNat) 0 0 [(0, .ref (r 169)), (1, .long (lN u)), (3, .int (iN x3)), (4, .long (lN (u / 2 ^ (8 * x3.toNat)))), (6, .int (iN x6)), (7, .int (iN x7))] 116 [] := by
                    intro n
                    induction n with
                    | zero =>
                      intro x7 hI hm
                      obtain ⟨j1, j2, j3⟩ := hI
                      exact absurd hm (by omega)
                    | succ n ih116 =>
                      intro x7 hI hm
                      obtain ⟨j1, j2, j3⟩ := hI
                      refine v_iload hG dX5_appendText_116 5 rfl ?_
                      refine v_if_lt hG 158 (by omega) dX5_appendText_118 (by decide) (fun h118 => ?_) (fun h118 => ?_)
                      · refine v_aload_n hG dX5_appendText_158 0 rfl ?_
                        refine v_getf (ci := 5) (k := 7) hG iW5 f117 rfl (by decide) k9a (by decide) (cl_6 _ _ _ _) rfl dX5_appendText_159 ?_
                        exact v_iret hG hR dX5_appendText_162 (Or.inl ⟨x3.toNat, hgd, by omega, by rw [show (x3 - 1 - x7).toNat = x3.toNat by omega], by rw [apG_L]; omega⟩)
                      · refine v_aload_n hG dX5_appendText_121 0 rfl ?_
                        refine v_getf (ci := 5) (k := 6) hG iW5 f23 rfl (by decide) k9a (by decide) (cl_6 _ _ _ _) rfl dX5_appendText_122 ?_
                        refine v_aload_n hG dX5_appendText_125 0 rfl ?_
                        refine v_getf (ci := 5) (k := 7) hG iW5 f117 rfl (by decide) k9a (by decide) (cl_6 _ _ _ _) rfl dX5_appendText_126 ?_
                        refine v_lload_n hG dX5_appendText_129 1 rfl ?_
                        refine v_bipush hG dX5_appendText_130 (by decide) ?_
                        refine v_iload hG dX5_appendText_132 5 rfl ?_
                        refine v_imul hG dX5_appendText_134 ?_
                        refine v_lushrN hG hn (by omega) dX5_appendText_135 ?_
                        refine v_ldc2 (v := lN 255) hG (by decide +kernel) dX5_appendText_136 ?_
                        refine v_land255 hG (Nat.lt_of_le_of_lt (Nat.div_le_self _ _) hn) dX5_appendText_139 ?_
                        refine v_l2iN hG dX5_appendText_140 ?_
                        refine v_eqi hG (y := iN (bt8 u x7.toNat)) (by unfold bt8; rw [show (8 * x7).toNat = 8 * x7.toNat by omega]) ?_
                        refine v_iast hG k_174 (by decide) (cl_180 _ _ _) (by decide) (by rw [apG_L]; omega) dX5_appendText_141 ?_
                        refine v_aload_n hG dX5_appendText_142 0 rfl ?_
                        refine v_dup hG dX5_appendText_143 rfl ?_
                        refine v_getf (ci := 5) (k := 7) hG iW5 f117 rfl (by decide) k9a (by decide) (cl_6 _ _ _ _) rfl dX5_appendText_144 ?_
                        refine v_iconst hG dX5_appendText_147 ?_
                        refine v_iadd hG dX5_appendText_148 ?_
                        refine v_putf (ci := 5) (k := 7) hG iW5 tyX5_ok nmX5 f117 rfl (by decide) rfl rfl k9a (by decide) (cl_6 _ _ _ _) (Nat.le_of_ble_eq_true rfl) rfl dX5_appendText_149 ?_
                        have hs9 := apG_s (A := 174) (L := 169) (k := 7) (z := w) (n := u) (c := x3.toNat) (m := (x3 - 1 - x7).toNat) (by decide) hl0 (by omega)
                        rw [show x3.toNat - 1 - (x3 - 1 - x7).toNat = x7.toNat by omega, show (x3 - 1 - x7).toNat + 1 = (x3 - 1 - (x7 + -1)).toNat by omega] at hs9
                        refine v_re hG (apG 174 169 7 w u x3.toNat (x3 - 1 - (x7 + -1)).toNat) (fun i j _ _ => by rw [← hs9, zup_o (show (169 : Nat) ≠ 174 by decide)]) ?_
                        refine v_iinc hG [(0, _), (1, _), (3, _), (4, _), (6, _), (7, _)] dX5_appendText_152 5 rfl (by decide) rfl ?_
                        refine v_goto hG 116 dX5_appendText_155 (by decide) ?_
                        exact ih116 (x7 + -1) ⟨by omega, by omega, by omega⟩ (by omega)
                  exact L116 _ (x3 - 1) ⟨by omega, by omega, by omega⟩ (Nat.le_refl _)
                · refine v_aload_n hG dX5_appendText_105 0 rfl ?_
                  refine v_iconst hG dX5_appendText_106 ?_
                  refine v_callVi (n := 1) (ci := 5) hG (c_X5_fails hr k9a) gX5_appendText_X5_fails rfl (by decide +kernel) rfl (by decide) k9a (by decide) (cl_6 _ _ _ _) rfl dX5_appendText_107 rfl (Nat.le_of_ble_eq_true rfl) (by decide) ?_
                  intro v107 z107 hp107
                  obtain ⟨rfl, rfl⟩ := hp107
                  exact v_iret hG hR dX5_appendText_110 (Or.inr (Or.inr ⟨rfl, x3.toNat, hgd, by omega⟩))
              · have hno : ∀ c, ¬ goodC u c := fun c hc => by
                  have hc2 := hc.2.2.1
                  have hc1 := hc.1
                  have hc8 := hc.2.1
                  rcases Nat.lt_trichotomy c x3.toNat with q | q | q
                  · have := i3v c (by omega)
                    exact this (bt8_0 hc.2.2.2 (Nat.le_refl c)).2
                  · subst q
                    first
                      | omega
                      | exact ‹¬ lcr (lN (u / 2 ^ (8 * x3.toNat))) _ = 0› (lcr_0.mpr (by rw [hc.2.2.2] <;> rfl))
                      | exact absurd (i4.trans (ind_t (fun p hp => hc2 p (by omega)))) (by omega)
                  · have := hc2 x3.toNat q
                    rcases hend with q2 | q2
                    · omega
                    · omega
                refine v_aload_n hG dX5_appendText_88 0 rfl ?_
                refine v_iconst hG dX5_appendText_89 ?_
                refine v_callVi (n := 1) (ci := 5) hG (c_X5_fails hr k9a) gX5_appendText_X5_fails rfl (by decide +kernel) rfl (by decide) k9a (by decide) (cl_6 _ _ _ _) rfl dX5_appendText_90 rfl (Nat.le_of_ble_eq_true rfl) (by decide) ?_
                intro v90 z90 hp90
                obtain ⟨rfl, rfl⟩ := hp90
                exact v_iret hG hR dX5_appendText_93 (Or.inr (Or.inl ⟨rfl, hno⟩))
        · have L57 : ∀ (y : Int), y = ind (∀ p : Nat, (p : Int) < x3 + 1 → 33 ≤ bt8 u p ∧ bt8 u p ≤ 126) → V Γ w 0 0 [(0, .ref (r 169)), (1, .long (lN u)), (3, .int (iN x3)), (4, .long (lN (u / 2 ^ (8 * x3.toNat)))), (6, .int (iN x6))] 57 [.int (iN y)] := by
            intro y hI57
            refine v_istore hG [(0, _), (1, _), (3, _), (4, _), (6, _)] dX5_appendText_57 (by decide) rfl ?_
            refine v_lload hG dX5_appendText_59 3 rfl ?_
            refine v_bipush hG dX5_appendText_61 (by decide) ?_
            refine v_lushrN hG hdl (by decide) dX5_appendText_63 ?_
            rw [show u / 2 ^ (8 * x3.toNat) / 2 ^ (8 : Int).toNat = u / 2 ^ (8 * (x3 + 1).toNat) by rw [Nat.div_div_eq_div_mul, show (8 : Int).toNat = 8 from rfl, ← Nat.pow_add, show 8 * x3.toNat + 8 = 8 * (x3 + 1).toNat by omega]]
            refine v_lstore hG [(0, _), (1, _), (3, _), (4, _), (6, _)] dX5_appendText_64 (by decide) rfl rfl ?_
            refine v_iinc hG [(0, _), (1, _), (3, _), (4, _), (6, _)] dX5_appendText_66 2 rfl (by decide) rfl ?_
            refine v_goto hG 13 dX5_appendText_69 (by decide) ?_
            refine ih13 (x3 + 1) y ?_ (by omega)
            have hne : bt8 u x3.toNat ≠ 0 := fun q => h27 (lcr_0.mpr (by
              have q8 : u / 2 ^ (8 * x3.toNat) % 256 = 0 := by
                unfold bt8 at q
                omega
              rw [q8]
              rfl))
            refine ⟨by omega, by omega, fun p hp => ?_, hI57, by have := ind_bd (∀ p : Nat, (p : Int) < x3 + 1 → 33 ≤ bt8 u p ∧ bt8 u p ≤ 126); omega⟩
            by_cases q9 : (p : Int) < x3
            · exact i3v p q9
            · have e9 : p = x3.toNat := by omega
              rw [e9]
              exact hne
          refine v_iload hG dX5_appendText_30 4 rfl ?_
          refine v_if_eq hG 56 (by omega) dX5_appendText_32 (by decide) (fun h32 => ?_) (fun h32 => ?_)
          · refine v_iconst hG dX5_appendText_56 ?_
            refine L57 _ ?_
            first
              | exact (ind_t (fun p hp => by
                  by_cases q9 : (p : Int) < x3
                  · exact (Classical.byContradiction (fun q => h32 (by rw [i4]; exact ind_f q)) : (∀ p : Nat, (p : Int) < x3 → 33 ≤ bt8 u p ∧ bt8 u p ≤ 126)) p q9
                  · have e9 : p = x3.toNat := by omega
                    rw [e9]
                    omega)).symm
              | exact (ind_f (fun q => by
                  have q8 := q x3.toNat (by omega)
                  omega)).symm
              | exact (ind_f (fun q => by
                  have q8 : ind (∀ p : Nat, (p : Int) < x3 → 33 ≤ bt8 u p ∧ bt8 u p ≤ 126) = 1 := ind_t (fun p hp => q p (by omega))
                  omega)).symm
          · refine v_lload hG dX5_appendText_35 3 rfl ?_
            refine v_ldc2 (v := lN 255) hG (by decide +kernel) dX5_appendText_37 ?_
            refine v_land255 hG hdl dX5_appendText_40 ?_
            refine v_l2iN hG dX5_appendText_41 ?_
            refine v_eqi hG (y := iN (bt8 u x3.toNat)) rfl ?_
            refine v_bipush hG dX5_appendText_42 (by decide) ?_
            refine v_bipush hG dX5_appendText_44 (by decide) ?_
            refine v_callSi (n := 3) hG (c_X5_in hr (by omega) (by omega) (by omega)) gX5_appendText_X5_in rfl (by decide +kernel) rfl (by decide) dX5_appendText_46 rfl (Nat.le_of_ble_eq_true rfl) (by decide) ?_
            intro v46 z46 hp46
            obtain ⟨rfl, hv46⟩ := hp46
            have hb46 := ind_v hv46
            refine v_if_eq hG 56 (by omega) dX5_appendText_49 (by decide) (fun h49 => ?_) (fun h49 => ?_)
            · refine v_iconst hG dX5_appendText_56 ?_
              refine L57 _ ?_
              first
                | exact (ind_t (fun p hp => by
                    by_cases q9 : (p : Int) < x3
                    · exact (Classical.byContradiction (fun q => h32 (by rw [i4]; exact ind_f q)) : (∀ p : Nat, (p : Int) < x3 → 33 ≤ bt8 u p ∧ bt8 u p ≤ 126)) p q9
                    · have e9 : p = x3.toNat := by omega
                      rw [e9]
                      omega)).symm
                | exact (ind_f (fun q => by
                    have q8 := q x3.toNat (by omega)
                    omega)).symm
                | exact (ind_f (fun q => by
                    have q8 : ind (∀ p : Nat, (p : Int) < x3 → 33 ≤ bt8 u p ∧ bt8 u p ≤ 126) = 1 := ind_t (fun p hp => q p (by omega))
                    omega)).symm
            · refine v_iconst hG dX5_appendText_52 ?_
              refine v_goto hG 57 dX5_appendText_53 (by decide) ?_
              refine L57 _ ?_
              first
                | exact (ind_t (fun p hp => by
                    by_cases q9 : (p : Int) < x3
                    · exact (Classical.byContradiction (fun q => h32 (by rw [i4]; exact ind_f q)) : (∀ p : Nat, (p : Int) < x3 → 33 ≤ bt8 u p ∧ bt8 u p ≤ 126)) p q9
                    · have e9 : p = x3.toNat := by omega
                      rw [e9]
                      omega)).symm
                | exact (ind_f (fun q => by
                    have q8 := q x3.toNat (by omega)
                    omega)).symm
                | exact (ind_f (fun q => by
                    have q8 : ind (∀ p : Nat, (p : Int) < x3 → 33 ≤ bt8 u p ∧ bt8 u p ≤ 126) = 1 := ind_t (fun p hp => q p (by omega))
                    omega)).symm
  have h99 := L13 _ 0 1 ⟨by omega, by omega, fun p hp => by omega, (ind_t (fun p hp => by omega)).symm, by omega⟩ (Nat.le_refl _)
  rw [show u / 2 ^ (8 * (0 : Int).toNat) = u by rw [show 8 * (0 : Int).toNat = 0 from rfl, Nat.pow_zero, Nat.div_one]] at h99
  exact h99

