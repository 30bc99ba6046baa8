set_option maxHeartbeats 4000000 in
set_option maxRecDepth 100000 in
theorem c_X5_addGap {l : Launch} {D : va_G} {cA : Nat → ClassId} {r : Nat → Nat} {z : Zt} {w : Zt} {t a q : Int} (hr : Inj r) (k9a : kd 169 = 6) (hw : w = zup z 169 5 0) (hM : MI (w 170)) (hst : 0 ≤ w 169 2 ∧ w 169 2 ≤ 6) (hr_t : -2147483648 ≤ t ∧ t < 2147483648) (hr_a : -2147483648 ≤ a ∧ a < 2147483648) (hr_q : -2147483648 ≤ q ∧ q < 2147483648) : Ki l D cA r yX5_addGap wsX5_addGap 2 42 z [.ref (r 169), .int (iN t), .int (iN a), .int (iN q)] (fun v z1 => (zup (zup (zup (recM w) 170 (0 + 7 * t + 1 + 2 * mN (w 170) t).toNat a) 170 (0 + 7 * t + 2 + 2 * mN (w 170) t).toNat q) 170 (0 + 7 * t).toNat (mN (w 170) t + 1) = z1 ∧ (0 ≤ t ∧ t ≤ 1) ∧ ((0 ≤ a ∧ a ≤ 9999) ∧ (1 ≤ q ∧ q ≤ 40) ∧ (mN (w 170) t = 0 ∨ mD (w 170) t (mN (w 170) t - 1).toNat < a)) ∧ mN (w 170) t < 3 ∧ v = mN (w 170) t + 1) ∨ (zup w 169 5 1 = z1 ∧ ¬ (0 ≤ t ∧ t ≤ 1)) ∨ (zup w 169 5 2 = z1 ∧ (0 ≤ t ∧ t ≤ 1) ∧ ¬ ((0 ≤ a ∧ a ≤ 9999) ∧ (1 ≤ q ∧ q ≤ 40) ∧ (mN (w 170) t = 0 ∨ mD (w 170) t (mN (w 170) t - 1).toNat < a))) ∨ (zup w 169 5 3 = z1 ∧ (0 ≤ t ∧ t ≤ 1) ∧ ((0 ≤ a ∧ a ≤ 9999) ∧ (1 ≤ q ∧ q ≤ 40) ∧ (mN (w 170) t = 0 ∨ mD (w 170) t (mN (w 170) t - 1).toNat < a)) ∧ mN (w 170) t = 3)) := by
  have iW5 : ∀ w ∈ u_ws RX5 TX5 10, w ∈ wsX5_addGap := by decide +kernel
  have f7 : Cond.fieldLink RX5 7 (TX5 0).1 (TX5 0).2.1 (TX5 0).2.2.1 ∈ wsX5_addGap := by decide +kernel
  have f29 : Cond.fieldLink RX5 29 (TX5 5).1 (TX5 5).2.1 (TX5 5).2.2.1 ∈ wsX5_addGap := by decide +kernel
  obtain ⟨hG1, h14, hFe, h55, h56, h57⟩ := id hM
  have hGt : (0 ≤ t ∧ t ≤ 1) → 0 ≤ mN (w 170) t ∧ mN (w 170) t ≤ 3 := fun q9 => ⟨(hG1 t (by omega)).1, (hG1 t (by omega)).2.1⟩
  have eLG : 0 < mN (w 170) t → w 170 (7 * t + 1 + 2 * (mN (w 170) t - 1) + 0).toNat = mD (w 170) t (mN (w 170) t - 1).toNat := fun q9 => by
    unfold mD
    exact congrArg (w 170) (by omega)
  have hLG : (0 ≤ t ∧ t ≤ 1) → 0 < mN (w 170) t → 0 ≤ mD (w 170) t (mN (w 170) t - 1).toNat ∧ mD (w 170) t (mN (w 170) t - 1).toNat ≤ 9999 := fun q9 q8 => by
    have h8 := (hG1 t (by omega)).2.2.1 (mN (w 170) t - 1).toNat (by omega)
    omega
  refine Ki_of [(0, _), (1, _), (2, _), (3, _)] hr (by decide) rfl rfl (Nat.le_of_ble_eq_true rfl) rfl (fun Γ hG hR => ?_)
  refine v_aload_n hG dX5_addGap_0 0 rfl ?_
  refine v_iconst hG dX5_addGap_1 ?_
  refine v_putf (ci := 5) (k := 5) hG iW5 tyX5_ok nmX5 f29 rfl (by decide) rfl rfl k9a (by decide) (cl_6 _ _ _ _) (Nat.le_of_ble_eq_true rfl) rfl dX5_addGap_2 ?_
  rw [← hw]
  refine v_iload_n hG dX5_addGap_5 1 rfl ?_
  refine v_callSi (n := 1) hG (c_X5_isTown hr (by omega)) gX5_addGap_X5_isTown rfl (by decide +kernel) rfl (by decide) dX5_addGap_6 rfl (Nat.le_of_ble_eq_true rfl) (by decide) ?_
  intro v6 z6 hp6
  obtain ⟨rfl, hv6⟩ := hp6
  have hb6 := ind_v hv6
  refine v_if_ne hG 18 (by omega) dX5_addGap_9 (by decide) (fun h9 => ?_) (fun h9 => ?_)
  · refine v_aload_n hG dX5_addGap_18 0 rfl ?_
    refine v_iload_n hG dX5_addGap_19 1 rfl ?_
    refine v_callVi (n := 1) (ci := 5) hG (c_X5_gaps hr k9a (by omega)) gX5_addGap_X5_gaps rfl (by decide +kernel) rfl (by decide) k9a (by decide) (cl_6 _ _ _ _) rfl dX5_addGap_20 rfl (Nat.le_of_ble_eq_true rfl) (by decide) ?_
    intro v20 z20 hp20
    obtain ⟨rfl, rfl⟩ := hp20
    have hgt := hGt (by omega)
    refine v_istore hG [(0, _), (1, _), (2, _), (3, _), (4, _)] dX5_addGap_23 (by decide) rfl ?_
    refine v_iload_n hG dX5_addGap_25 2 rfl ?_
    refine v_iconst hG dX5_addGap_26 ?_
    refine v_sipush hG dX5_addGap_27 (by decide) ?_
    refine v_callSi (n := 3) hG (c_X5_in hr (by omega) (by omega) (by omega)) gX5_addGap_X5_in rfl (by decide +kernel) rfl (by decide) dX5_addGap_30 rfl (Nat.le_of_ble_eq_true rfl) (by decide) ?_
    intro v30 z30 hp30
    obtain ⟨rfl, hv30⟩ := hp30
    have hb30 := ind_v hv30
    refine v_if_eq hG 65 (by omega) dX5_addGap_33 (by decide) (fun h33 => ?_) (fun h33 => ?_)
    · refine v_aload_n hG dX5_addGap_65 0 rfl ?_
      refine v_iconst hG dX5_addGap_66 ?_
      refine v_callVi (n := 1) (ci := 5) hG (c_X5_fails hr k9a) gX5_addGap_X5_fails rfl (by decide +kernel) rfl (by decide) k9a (by decide) (cl_6 _ _ _ _) rfl dX5_addGap_67 rfl (Nat.le_of_ble_eq_true rfl) (by decide) ?_
      intro v67 z67 hp67
      obtain ⟨rfl, rfl⟩ := hp67
      exact v_iret hG hR dX5_addGap_70 (by first | exact Or.inl (⟨rfl, by omega, by omega, by omega, rfl⟩) | exact Or.inr (Or.inl (⟨rfl, by omega⟩)) | exact Or.inr (Or.inr (Or.inl (⟨rfl, by omega⟩))) | exact Or.inr (Or.inr (Or.inr (⟨rfl, by omega⟩))))
    · refine v_iload_n hG dX5_addGap_36 3 rfl ?_
      refine v_iconst hG dX5_addGap_37 ?_
      refine v_bipush hG dX5_addGap_38 (by decide) ?_
      refine v_callSi (n := 3) hG (c_X5_in hr (by omega) (by omega) (by omega)) gX5_addGap_X5_in rfl (by decide +kernel) rfl (by decide) dX5_addGap_40 rfl (Nat.le_of_ble_eq_true rfl) (by decide) ?_
      intro v40 z40 hp40
      obtain ⟨rfl, hv40⟩ := hp40
      have hb40 := ind_v hv40
      refine v_if_eq hG 65 (by omega) dX5_addGap_43 (by decide) (fun h43 => ?_) (fun h43 => ?_)
      · refine v_aload_n hG dX5_addGap_65 0 rfl ?_
        refine v_iconst hG dX5_addGap_66 ?_
        refine v_callVi (n := 1) (ci := 5) hG (c_X5_fails hr k9a) gX5_addGap_X5_fails rfl (by decide +kernel) rfl (by decide) k9a (by decide) (cl_6 _ _ _ _) rfl dX5_addGap_67 rfl (Nat.le_of_ble_eq_true rfl) (by decide) ?_
        intro v67 z67 hp67
        obtain ⟨rfl, rfl⟩ := hp67
        exact v_iret hG hR dX5_addGap_70 (by first | exact Or.inl (⟨rfl, by omega, by omega, by omega, rfl⟩) | exact Or.inr (Or.inl (⟨rfl, by omega⟩)) | exact Or.inr (Or.inr (Or.inl (⟨rfl, by omega⟩))) | exact Or.inr (Or.inr (Or.inr (⟨rfl, by omega⟩))))
      · refine v_iload hG dX5_addGap_46 4 rfl ?_
        refine v_if_le hG 71 (by omega) dX5_addGap_48 (by decide) (fun h48 => ?_) (fun h48 => ?_)
        · refine v_iload hG dX5_addGap_71 4 rfl ?_
          refine v_iconst hG dX5_addGap_73 ?_
          refine v_icmp_ne hG 83 (by omega) (by omega) dX5_addGap_74 (by decide) (fun h74 => ?_) (fun h74 => ?_)
          · refine v_aload_n hG dX5_addGap_83 0 rfl ?_
            refine v_callVv (n := 0) (ci := 5) hG (c_X5_record hr k9a (by omega)) gX5_addGap_X5_record rfl (by decide +kernel) rfl (by decide) k9a (by decide) (cl_6 _ _ _ _) rfl dX5_addGap_84 rfl (Nat.le_of_ble_eq_true rfl) (by decide) ?_
            intro z84 hp84
            obtain rfl := hp84
            refine v_aload_n hG dX5_addGap_87 0 rfl ?_
            refine v_getf (ci := 5) (k := 0) hG iW5 f7 rfl (by decide) k9a (by decide) (cl_6 _ _ _ _) rfl dX5_addGap_88 ?_
            refine v_iconst hG dX5_addGap_91 ?_
            refine v_bipush hG dX5_addGap_92 (by decide) ?_
            refine v_iload_n hG dX5_addGap_94 1 rfl ?_
            refine v_imul hG dX5_addGap_95 ?_
            refine v_iadd hG dX5_addGap_96 ?_
            refine v_iconst hG dX5_addGap_97 ?_
            refine v_iadd hG dX5_addGap_98 ?_
            refine v_iconst hG dX5_addGap_99 ?_
            refine v_iload hG dX5_addGap_100 4 rfl ?_
            refine v_imul hG dX5_addGap_102 ?_
            refine v_iadd hG dX5_addGap_103 ?_
            refine v_iload_n hG dX5_addGap_104 2 rfl ?_
            refine v_iast hG k_170 (by decide) (cl_162 _ _ _) (by decide) (by omega) dX5_addGap_105 ?_
            refine v_aload_n hG dX5_addGap_106 0 rfl ?_
            refine v_getf (ci := 5) (k := 0) hG iW5 f7 rfl (by decide) k9a (by decide) (cl_6 _ _ _ _) rfl dX5_addGap_107 ?_
            refine v_iconst hG dX5_addGap_110 ?_
            refine v_bipush hG dX5_addGap_111 (by decide) ?_
            refine v_iload_n hG dX5_addGap_113 1 rfl ?_
            refine v_imul hG dX5_addGap_114 ?_
            refine v_iadd hG dX5_addGap_115 ?_
            refine v_iconst hG dX5_addGap_116 ?_
            refine v_iadd hG dX5_addGap_117 ?_
            refine v_iconst hG dX5_addGap_118 ?_
            refine v_iload hG dX5_addGap_119 4 rfl ?_
            refine v_imul hG dX5_addGap_121 ?_
            refine v_iadd hG dX5_addGap_122 ?_
            refine v_iload_n hG dX5_addGap_123 3 rfl ?_
            refine v_iast hG k_170 (by decide) (cl_162 _ _ _) (by decide) (by omega) dX5_addGap_124 ?_
            refine v_aload_n hG dX5_addGap_125 0 rfl ?_
            refine v_getf (ci := 5) (k := 0) hG iW5 f7 rfl (by decide) k9a (by decide) (cl_6 _ _ _ _) rfl dX5_addGap_126 ?_
            refine v_iconst hG dX5_addGap_129 ?_
            refine v_bipush hG dX5_addGap_130 (by decide) ?_
            refine v_iload_n hG dX5_addGap_132 1 rfl ?_
            refine v_imul hG dX5_addGap_133 ?_
            refine v_iadd hG dX5_addGap_134 ?_
            refine v_iload hG dX5_addGap_135 4 rfl ?_
            refine v_iconst hG dX5_addGap_137 ?_
            refine v_iadd hG dX5_addGap_138 ?_
            refine v_iast hG k_170 (by decide) (cl_162 _ _ _) (by decide) (by omega) dX5_addGap_139 ?_
            refine v_iload hG dX5_addGap_140 4 rfl ?_
            refine v_iconst hG dX5_addGap_142 ?_
            refine v_iadd hG dX5_addGap_143 ?_
            exact v_iret hG hR dX5_addGap_144 (by first | exact Or.inl (⟨rfl, by omega, by omega, by omega, rfl⟩) | exact Or.inr (Or.inl (⟨rfl, by omega⟩)) | exact Or.inr (Or.inr (Or.inl (⟨rfl, by omega⟩))) | exact Or.inr (Or.inr (Or.inr (⟨rfl, by omega⟩))))
          · refine v_aload_n hG dX5_addGap_77 0 rfl ?_
            refine v_iconst hG dX5_addGap_78 ?_
            refine v_callVi (n := 1) (ci := 5) hG (c_X5_fails hr k9a) gX5_addGap_X5_fails rfl (by decide +kernel) rfl (by decide) k9a (by decide) (cl_6 _ _ _ _) rfl dX5_addGap_79 rfl (Nat.le_of_ble_eq_true rfl) (by decide) ?_
            intro v79 z79 hp79
            obtain ⟨rfl, rfl⟩ := hp79
            exact v_iret hG hR dX5_addGap_82 (by first | exact Or.inl (⟨rfl, by omega, by omega, by omega, rfl⟩) | exact Or.inr (Or.inl (⟨rfl, by omega⟩)) | exact Or.inr (Or.inr (Or.inl (⟨rfl, by omega⟩))) | exact Or.inr (Or.inr (Or.inr (⟨rfl, by omega⟩))))
        · refine v_iload_n hG dX5_addGap_51 2 rfl ?_
          refine v_aload_n hG dX5_addGap_52 0 rfl ?_
          refine v_iload_n hG dX5_addGap_53 1 rfl ?_
          refine v_iload hG dX5_addGap_54 4 rfl ?_
          refine v_iconst hG dX5_addGap_56 ?_
          refine v_isub hG dX5_addGap_57 ?_
          refine v_iconst hG dX5_addGap_58 ?_
          refine v_callVi (n := 3) (ci := 5) hG (c_X5_gap hr k9a (by omega) (by omega) (by omega)) gX5_addGap_X5_gap rfl (by decide +kernel) rfl (by decide) k9a (by decide) (cl_6 _ _ _ _) rfl dX5_addGap_59 rfl (Nat.le_of_ble_eq_true rfl) (by decide) ?_
          intro v59 z59 hp59
          obtain ⟨rfl, rfl⟩ := hp59
          have hLq := hLG (by omega) (by omega)
          rw [eLG (by omega)]
          refine v_icmp_gt hG 71 (by omega) (by omega) dX5_addGap_62 (by decide) (fun h62 => ?_) (fun h62 => ?_)
          · refine v_iload hG dX5_addGap_71 4 rfl ?_
            refine v_iconst hG dX5_addGap_73 ?_
            refine v_icmp_ne hG 83 (by omega) (by omega) dX5_addGap_74 (by decide) (fun h74 => ?_) (fun h74 => ?_)
            · refine v_aload_n hG dX5_addGap_83 0 rfl ?_
              refine v_callVv (n := 0) (ci := 5) hG (c_X5_record hr k9a (by omega)) gX5_addGap_X5_record rfl (by decide +kernel) rfl (by decide) k9a (by decide) (cl_6 _ _ _ _) rfl dX5_addGap_84 rfl (Nat.le_of_ble_eq_true rfl) (by decide) ?_
              intro z84 hp84
              obtain rfl := hp84
              refine v_aload_n hG dX5_addGap_87 0 rfl ?_
              refine v_getf (ci := 5) (k := 0) hG iW5 f7 rfl (by decide) k9a (by decide) (cl_6 _ _ _ _) rfl dX5_addGap_88 ?_
              refine v_iconst hG dX5_addGap_91 ?_
              refine v_bipush hG dX5_addGap_92 (by decide) ?_
              refine v_iload_n hG dX5_addGap_94 1 rfl ?_
              refine v_imul hG dX5_addGap_95 ?_
              refine v_iadd hG dX5_addGap_96 ?_
              refine v_iconst hG dX5_addGap_97 ?_
              refine v_iadd hG dX5_addGap_98 ?_
              refine v_iconst hG dX5_addGap_99 ?_
              refine v_iload hG dX5_addGap_100 4 rfl ?_
              refine v_imul hG dX5_addGap_102 ?_
              refine v_iadd hG dX5_addGap_103 ?_
              refine v_iload_n hG dX5_addGap_104 2 rfl ?_
              refine v_iast hG k_170 (by decide) (cl_162 _ _ _) (by decide) (by omega) dX5_addGap_105 ?_
              refine v_aload_n hG dX5_addGap_106 0 rfl ?_
              refine v_getf (ci := 5) (k := 0) hG iW5 f7 rfl (by decide) k9a (by decide) (cl_6 _ _ _ _) rfl dX5_addGap_107 ?_
              refine v_iconst hG dX5_addGap_110 ?_
              refine v_bipush hG dX5_addGap_111 (by decide) ?_
              refine v_iload_n hG dX5_addGap_113 1 rfl ?_
              refine v_imul hG dX5_addGap_114 ?_
              refine v_iadd hG dX5_addGap_115 ?_
              refine v_iconst hG dX5_addGap_116 ?_
              refine v_iadd hG dX5_addGap_117 ?_
              refine v_iconst hG dX5_addGap_118 ?_
              refine v_iload hG dX5_addGap_119 4 rfl ?_
              refine v_imul hG dX5_addGap_121 ?_
              refine v_iadd hG dX5_addGap_122 ?_
              refine v_iload_n hG dX5_addGap_123 3 rfl ?_
              refine v_iast hG k_170 (by decide) (cl_162 _ _ _) (by decide) (by omega) dX5_addGap_124 ?_
              refine v_aload_n hG dX5_addGap_125 0 rfl ?_
              refine v_getf (ci := 5) (k := 0) hG iW5 f7 rfl (by decide) k9a (by decide) (cl_6 _ _ _ _) rfl dX5_addGap_126 ?_
              refine v_iconst hG dX5_addGap_129 ?_
              refine v_bipush hG dX5_addGap_130 (by decide) ?_
              refine v_iload_n hG dX5_addGap_132 1 rfl ?_
              refine v_imul hG dX5_addGap_133 ?_
              refine v_iadd hG dX5_addGap_134 ?_
              refine v_iload hG dX5_addGap_135 4 rfl ?_
              refine v_iconst hG dX5_addGap_137 ?_
              refine v_iadd hG dX5_addGap_138 ?_
              refine v_iast hG k_170 (by decide) (cl_162 _ _ _) (by decide) (by omega) dX5_addGap_139 ?_
              refine v_iload hG dX5_addGap_140 4 rfl ?_
              refine v_iconst hG dX5_addGap_142 ?_
              refine v_iadd hG dX5_addGap_143 ?_
              exact v_iret hG hR dX5_addGap_144 (by first | exact Or.inl (⟨rfl, by omega, by omega, by omega, rfl⟩) | exact Or.inr (Or.inl (⟨rfl, by omega⟩)) | exact Or.inr (Or.inr (Or.inl (⟨rfl, by omega⟩))) | exact Or.inr (Or.inr (Or.inr (⟨rfl, by omega⟩))))
            · refine v_aload_n hG dX5_addGap_77 0 rfl ?_
              refine v_iconst hG dX5_addGap_78 ?_
              refine v_callVi (n := 1) (ci := 5) hG (c_X5_fails hr k9a) gX5_addGap_X5_fails rfl (by decide +kernel) rfl (by decide) k9a (by decide) (cl_6 _ _ _ _) rfl dX5_addGap_79 rfl (Nat.le_of_ble_eq_true rfl) (by decide) ?_
              intro v79 z79 hp79
              obtain ⟨rfl, rfl⟩ := hp79
              exact v_iret hG hR dX5_addGap_82 (by first | exact Or.inl (⟨rfl, by omega, by omega, by omega, rfl⟩) | exact Or.inr (Or.inl (⟨rfl, by omega⟩)) | exact Or.inr (Or.inr (Or.inl (⟨rfl, by omega⟩))) | exact Or.inr (Or.inr (Or.inr (⟨rfl, by omega⟩))))
          · refine v_aload_n hG dX5_addGap_65 0 rfl ?_
            refine v_iconst hG dX5_addGap_66 ?_
            refine v_callVi (n := 1) (ci := 5) hG (c_X5_fails hr k9a) gX5_addGap_X5_fails rfl (by decide +kernel) rfl (by decide) k9a (by decide) (cl_6 _ _ _ _) rfl dX5_addGap_67 rfl (Nat.le_of_ble_eq_true rfl) (by decide) ?_
            intro v67 z67 hp67
            obtain ⟨rfl, rfl⟩ := hp67
            exact v_iret hG hR dX5_addGap_70 (by first | exact Or.inl (⟨rfl, by omega, by omega, by omega, rfl⟩) | exact Or.inr (Or.inl (⟨rfl, by omega⟩)) | exact Or.inr (Or.inr (Or.inl (⟨rfl, by omega⟩))) | exact Or.inr (Or.inr (Or.inr (⟨rfl, by omega⟩))))
  · refine v_aload_n hG dX5_addGap_12 0 rfl ?_
    refine v_iconst hG dX5_addGap_13 ?_
    refine v_callVi (n := 1) (ci := 5) hG (c_X5_fails hr k9a) gX5_addGap_X5_fails rfl (by decide +kernel) rfl (by decide) k9a (by decide) (cl_6 _ _ _ _) rfl dX5_addGap_14 rfl (Nat.le_of_ble_eq_true rfl) (by decide) ?_
    intro v14 z14 hp14
    obtain ⟨rfl, rfl⟩ := hp14
    exact v_iret hG hR dX5_addGap_17 (by first | exact Or.inl (⟨rfl, by omega, by omega, by omega, rfl⟩) | exact Or.inr (Or.inl (⟨rfl, by omega⟩)) | exact Or.inr (Or.inr (Or.inl (⟨rfl, by omega⟩))) | exact Or.inr (Or.inr (Or.inr (⟨rfl, by omega⟩))))

set_option maxHeartbeats 4000000 in
set_option maxRecDepth 100000 in
theorem c_X5_addFeast {l : Launch} {D : va_G} {cA : Nat → ClassId} {r : Nat → Nat} {z : Zt} {w : Zt} {t m q : Int} (hr : Inj r) (k9a : kd 169 = 6) (hw : w = zup z 169 5 0) (hM : MI (w 170)) (hst : 0 ≤ w 169 2 ∧ w 169 2 ≤ 6) (hr_t : -2147483648 ≤ t ∧ t < 2147483648) (hr_m : -2147483648 ≤ m ∧ m < 2147483648) (hr_q : -2147483648 ≤ q ∧ q < 2147483648) : Ki l D cA r yX5_addFeast wsX5_addFeast 2 42 z [.ref (r 169), .int (iN t), .int (iN m), .int (iN q)] (fun v z1 => (zup (zup (zup (zup (zup (recM w) 170 (15 + 4 * w 170 14).toNat t) 170 (15 + 4 * w 170 14 + 1).toNat m) 170 (15 + 4 * w 170 14 + 2).toNat q) 170 (15 + 4 * w 170 14 + 3).toNat (-1)) 170 14 (w 170 14 + 1) = z1 ∧ (0 ≤ t ∧ t ≤ 1) ∧ ((1 ≤ m ∧ m ≤ 12) ∧ (1 ≤ q ∧ q ≤ 31)) ∧ w 170 14 < 10 ∧ v = w 170 14) ∨ (zup w 169 5 1 = z1 ∧ ¬ (0 ≤ t ∧ t ≤ 1)) ∨ (zup w 169 5 2 = z1 ∧ (0 ≤ t ∧ t ≤ 1) ∧ ¬ ((1 ≤ m ∧ m ≤ 12) ∧ (1 ≤ q ∧ q ≤ 31))) ∨ (zup w 169 5 3 = z1 ∧ (0 ≤ t ∧ t ≤ 1) ∧ ((1 ≤ m ∧ m ≤ 12) ∧ (1 ≤ q ∧ q ≤ 31)) ∧ w 170 14 = 10)) := by
  have iW5 : ∀ w ∈ u_ws RX5 TX5 10, w ∈ wsX5_addFeast := by decide +kernel
  have f7 : Cond.fieldLink RX5 7 (TX5 0).1 (TX5 0).2.1 (TX5 0).2.2.1 ∈ wsX5_addFeast := by decide +kernel
  have f29 : Cond.fieldLink RX5 29 (TX5 5).1 (TX5 5).2.1 (TX5 5).2.2.1 ∈ wsX5_addFeast := by decide +kernel
  obtain ⟨hG1, h14, hFe, h55, h56, h57⟩ := id hM
  have e170 : recM w 170 = w 170 := recM_o (by decide) (by decide)
  refine Ki_of [(0, _), (1, _), (2, _), (3, _)] hr (by decide) rfl rfl (Nat.le_of_ble_eq_true rfl) rfl (fun Γ hG hR => ?_)
  refine v_aload_n hG dX5_addFeast_0 0 rfl ?_
  refine v_iconst hG dX5_addFeast_1 ?_
  refine v_putf (ci := 5) (k := 5) hG iW5 tyX5_ok nmX5 f29 rfl (by decide) rfl rfl k9a (by decide) (cl_6 _ _ _ _) (Nat.le_of_ble_eq_true rfl) rfl dX5_addFeast_2 ?_
  rw [← hw]
  refine v_iload_n hG dX5_addFeast_5 1 rfl ?_
  refine v_callSi (n := 1) hG (c_X5_isTown hr (by omega)) gX5_addFeast_X5_isTown rfl (by decide +kernel) rfl (by decide) dX5_addFeast_6 rfl (Nat.le_of_ble_eq_true rfl) (by decide) ?_
  intro v6 z6 hp6
  obtain ⟨rfl, hv6⟩ := hp6
  have hb6 := ind_v hv6
  refine v_if_ne hG 18 (by omega) dX5_addFeast_9 (by decide) (fun h9 => ?_) (fun h9 => ?_)
  · refine v_iload_n hG dX5_addFeast_18 2 rfl ?_
    refine v_iconst hG dX5_addFeast_19 ?_
    refine v_bipush hG dX5_addFeast_20 (by decide) ?_
    refine v_callSi (n := 3) hG (c_X5_in hr (by omega) (by omega) (by omega)) gX5_addFeast_X5_in rfl (by decide +kernel) rfl (by decide) dX5_addFeast_22 rfl (Nat.le_of_ble_eq_true rfl) (by decide) ?_
    intro v22 z22 hp22
    obtain ⟨rfl, hv22⟩ := hp22
    have hb22 := ind_v hv22
    refine v_if_eq hG 38 (by omega) dX5_addFeast_25 (by decide) (fun h25 => ?_) (fun h25 => ?_)
    · refine v_aload_n hG dX5_addFeast_38 0 rfl ?_
      refine v_iconst hG dX5_addFeast_39 ?_
      refine v_callVi (n := 1) (ci := 5) hG (c_X5_fails hr k9a) gX5_addFeast_X5_fails rfl (by decide +kernel) rfl (by decide) k9a (by decide) (cl_6 _ _ _ _) rfl dX5_addFeast_40 rfl (Nat.le_of_ble_eq_true rfl) (by decide) ?_
      intro v40 z40 hp40
      obtain ⟨rfl, rfl⟩ := hp40
      exact v_iret hG hR dX5_addFeast_43 (by first | exact Or.inl (⟨rfl, by omega, by omega, by omega, by omega⟩) | exact Or.inr (Or.inl (⟨rfl, by omega⟩)) | exact Or.inr (Or.inr (Or.inl (⟨rfl, by omega⟩))) | exact Or.inr (Or.inr (Or.inr (⟨rfl, by omega⟩))))
    · refine v_iload_n hG dX5_addFeast_28 3 rfl ?_
      refine v_iconst hG dX5_addFeast_29 ?_
      refine v_bipush hG dX5_addFeast_30 (by decide) ?_
      refine v_callSi (n := 3) hG (c_X5_in hr (by omega) (by omega) (by omega)) gX5_addFeast_X5_in rfl (by decide +kernel) rfl (by decide) dX5_addFeast_32 rfl (Nat.le_of_ble_eq_true rfl) (by decide) ?_
      intro v32 z32 hp32
      obtain ⟨rfl, hv32⟩ := hp32
      have hb32 := ind_v hv32
      refine v_if_ne hG 44 (by omega) dX5_addFeast_35 (by decide) (fun h35 => ?_) (fun h35 => ?_)
      · refine v_aload_n hG dX5_addFeast_44 0 rfl ?_
        refine v_getf (ci := 5) (k := 0) hG iW5 f7 rfl (by decide) k9a (by decide) (cl_6 _ _ _ _) rfl dX5_addFeast_45 ?_
        refine v_bipush hG dX5_addFeast_48 (by decide) ?_
        refine v_iald hG k_170 (by decide) (cl_162 _ _ _ _) (by decide) (by omega) dX5_addFeast_50 ?_
        rw [show w 170 (14 : Int).toNat = w 170 14 from rfl]
        refine v_bipush hG dX5_addFeast_51 (by decide) ?_
        refine v_icmp_ne hG 62 (by omega) (by omega) dX5_addFeast_53 (by decide) (fun h53 => ?_) (fun h53 => ?_)
        · refine v_aload_n hG dX5_addFeast_62 0 rfl ?_
          refine v_callVv (n := 0) (ci := 5) hG (c_X5_record hr k9a (by omega)) gX5_addFeast_X5_record rfl (by decide +kernel) rfl (by decide) k9a (by decide) (cl_6 _ _ _ _) rfl dX5_addFeast_63 rfl (Nat.le_of_ble_eq_true rfl) (by decide) ?_
          intro z63 hp63
          obtain rfl := hp63
          refine v_bipush hG dX5_addFeast_66 (by decide) ?_
          refine v_iconst hG dX5_addFeast_68 ?_
          refine v_aload_n hG dX5_addFeast_69 0 rfl ?_
          refine v_getf (ci := 5) (k := 0) hG iW5 f7 rfl (by decide) k9a (by decide) (cl_6 _ _ _ _) rfl dX5_addFeast_70 ?_
          refine v_bipush hG dX5_addFeast_73 (by decide) ?_
          refine v_iald hG k_170 (by decide) (cl_162 _ _ _ _) (by decide) (by omega) dX5_addFeast_75 ?_
          rw [e170, show w 170 (14 : Int).toNat = w 170 14 from rfl]
          refine v_imul hG dX5_addFeast_76 ?_
          refine v_iadd hG dX5_addFeast_77 ?_
          refine v_istore hG [(0, _), (1, _), (2, _), (3, _), (4, _)] dX5_addFeast_78 (by decide) rfl ?_
          refine v_aload_n hG dX5_addFeast_80 0 rfl ?_
          refine v_getf (ci := 5) (k := 0) hG iW5 f7 rfl (by decide) k9a (by decide) (cl_6 _ _ _ _) rfl dX5_addFeast_81 ?_
          refine v_iload hG dX5_addFeast_84 4 rfl ?_
          refine v_iload_n hG dX5_addFeast_86 1 rfl ?_
          refine v_iast hG k_170 (by decide) (cl_162 _ _ _) (by decide) (by omega) dX5_addFeast_87 ?_
          refine v_aload_n hG dX5_addFeast_88 0 rfl ?_
          refine v_getf (ci := 5) (k := 0) hG iW5 f7 rfl (by decide) k9a (by decide) (cl_6 _ _ _ _) rfl dX5_addFeast_89 ?_
          refine v_iload hG dX5_addFeast_92 4 rfl ?_
          refine v_iconst hG dX5_addFeast_94 ?_
          refine v_iadd hG dX5_addFeast_95 ?_
          refine v_iload_n hG dX5_addFeast_96 2 rfl ?_
          refine v_iast hG k_170 (by decide) (cl_162 _ _ _) (by decide) (by omega) dX5_addFeast_97 ?_
          refine v_aload_n hG dX5_addFeast_98 0 rfl ?_
          refine v_getf (ci := 5) (k := 0) hG iW5 f7 rfl (by decide) k9a (by decide) (cl_6 _ _ _ _) rfl dX5_addFeast_99 ?_
          refine v_iload hG dX5_addFeast_102 4 rfl ?_
          refine v_iconst hG dX5_addFeast_104 ?_
          refine v_iadd hG dX5_addFeast_105 ?_
          refine v_iload_n hG dX5_addFeast_106 3 rfl ?_
          refine v_iast hG k_170 (by decide) (cl_162 _ _ _) (by decide) (by omega) dX5_addFeast_107 ?_
          refine v_aload_n hG dX5_addFeast_108 0 rfl ?_
          refine v_getf (ci := 5) (k := 0) hG iW5 f7 rfl (by decide) k9a (by decide) (cl_6 _ _ _ _) rfl dX5_addFeast_109 ?_
          refine v_iload hG dX5_addFeast_112 4 rfl ?_
          refine v_iconst hG dX5_addFeast_114 ?_
          refine v_iadd hG dX5_addFeast_115 ?_
          refine v_iconst hG dX5_addFeast_116 ?_
          refine v_iast hG k_170 (by decide) (cl_162 _ _ _) (by decide) (by omega) dX5_addFeast_117 ?_
          refine v_aload_n hG dX5_addFeast_118 0 rfl ?_
          refine v_getf (ci := 5) (k := 0) hG iW5 f7 rfl (by decide) k9a (by decide) (cl_6 _ _ _ _) rfl dX5_addFeast_119 ?_
          refine v_bipush hG dX5_addFeast_122 (by decide) ?_
          refine v_dup2 hG dX5_addFeast_124 rfl rfl ?_
          refine v_iald hG k_170 (by decide) (cl_162 _ _ _ _) (by decide) (by omega) dX5_addFeast_125 ?_
          refine v_eqi hG (y := iN (w 170 14)) (congrArg iN (by rw [show (14 : Int).toNat = 14 from rfl, zup_r, if_neg (by omega), zup_r, if_neg (by omega), zup_r, if_neg (by omega), zup_r, if_neg (by omega), e170])) ?_
          refine v_iconst hG dX5_addFeast_126 ?_
          refine v_iadd hG dX5_addFeast_127 ?_
          refine v_iast hG k_170 (by decide) (cl_162 _ _ _) (by decide) (by omega) dX5_addFeast_128 ?_
          refine v_aload_n hG dX5_addFeast_129 0 rfl ?_
          refine v_getf (ci := 5) (k := 0) hG iW5 f7 rfl (by decide) k9a (by decide) (cl_6 _ _ _ _) rfl dX5_addFeast_130 ?_
          refine v_bipush hG dX5_addFeast_133 (by decide) ?_
          refine v_iald hG k_170 (by decide) (cl_162 _ _ _ _) (by decide) (by omega) dX5_addFeast_135 ?_
          rw [zup_s]
          refine v_iconst hG dX5_addFeast_136 ?_
          refine v_isub hG dX5_addFeast_137 ?_
          exact v_iret hG hR dX5_addFeast_138 (by first | exact Or.inl (⟨rfl, by omega, by omega, by omega, by omega⟩) | exact Or.inr (Or.inl (⟨rfl, by omega⟩)) | exact Or.inr (Or.inr (Or.inl (⟨rfl, by omega⟩))) | exact Or.inr (Or.inr (Or.inr (⟨rfl, by omega⟩))))
        · refine v_aload_n hG dX5_addFeast_56 0 rfl ?_
          refine v_iconst hG dX5_addFeast_57 ?_
          refine v_callVi (n := 1) (ci := 5) hG (c_X5_fails hr k9a) gX5_addFeast_X5_fails rfl (by decide +kernel) rfl (by decide) k9a (by decide) (cl_6 _ _ _ _) rfl dX5_addFeast_58 rfl (Nat.le_of_ble_eq_true rfl) (by decide) ?_
          intro v58 z58 hp58
          obtain ⟨rfl, rfl⟩ := hp58
          exact v_iret hG hR dX5_addFeast_61 (by first | exact Or.inl (⟨rfl, by omega, by omega, by omega, by omega⟩) | exact Or.inr (Or.inl (⟨rfl, by omega⟩)) | exact Or.inr (Or.inr (Or.inl (⟨rfl, by omega⟩))) | exact Or.inr (Or.inr (Or.inr (⟨rfl, by omega⟩))))
      · refine v_aload_n hG dX5_addFeast_38 0 rfl ?_
        refine v_iconst hG dX5_addFeast_39 ?_
        refine v_callVi (n := 1) (ci := 5) hG (c_X5_fails hr k9a) gX5_addFeast_X5_fails rfl (by decide +kernel) rfl (by decide) k9a (by decide) (cl_6 _ _ _ _) rfl dX5_addFeast_40 rfl (Nat.le_of_ble_eq_true rfl) (by decide) ?_
        intro v40 z40 hp40
        obtain ⟨rfl, rfl⟩ := hp40
        exact v_iret hG hR dX5_addFeast_43 (by first | exact Or.inl (⟨rfl, by omega, by omega, by omega, by omega⟩) | exact Or.inr (Or.inl (⟨rfl, by omega⟩)) | exact Or.inr (Or.inr (Or.inl (⟨rfl, by omega⟩))) | exact Or.inr (Or.inr (Or.inr (⟨rfl, by omega⟩))))
  · refine v_aload_n hG dX5_addFeast_12 0 rfl ?_
    refine v_iconst hG dX5_addFeast_13 ?_
    refine v_callVi (n := 1) (ci := 5) hG (c_X5_fails hr k9a) gX5_addFeast_X5_fails rfl (by decide +kernel) rfl (by decide) k9a (by decide) (cl_6 _ _ _ _) rfl dX5_addFeast_14 rfl (Nat.le_of_ble_eq_true rfl) (by decide) ?_
    intro v14 z14 hp14
    obtain ⟨rfl, rfl⟩ := hp14
    exact v_iret hG hR dX5_addFeast_17 (by first | exact Or.inl (⟨rfl, by omega, by omega, by omega, by omega⟩) | exact Or.inr (Or.inl (⟨rfl, by omega⟩)) | exact Or.inr (Or.inr (Or.inl (⟨rfl, by omega⟩))) | exact Or.inr (Or.inr (Or.inr (⟨rfl, by omega⟩))))

set_option maxHeartbeats 4000000 in
set_option maxRecDepth 100000 in
theorem c_X5_barWeekday {l : Launch} {D : va_G} {cA : Nat → ClassId} {r : Nat → Nat} {z : Zt} {w : Zt} {f q : Int} (hr : Inj r) (k9a : kd 169 = 6) (hw : w = zup z 169 5 0) (hM : MI (w 170)) (hst : 0 ≤ w 169 2 ∧ w 169 2 ≤ 6) (hr_f : -2147483648 ≤ f ∧ f < 2147483648) (hr_q : -2147483648 ≤ q ∧ q < 2147483648) : Ki l D cA r yX5_barWeekday wsX5_barWeekday 2 43 z [.ref (r 169), .int (iN f), .int (iN q)] (fun v z1 => (zup (recM w) 170 (15 + 4 * f + 3).toNat q = z1 ∧ (0 ≤ f ∧ f < w 170 14) ∧ (0 ≤ q ∧ q ≤ 6) ∧ v = mF (w 170) f 3) ∨ (zup w 169 5 1 = z1 ∧ ¬ (0 ≤ f ∧ f < w 170 14)) ∨ (zup w 169 5 2 = z1 ∧ (0 ≤ f ∧ f < w 170 14) ∧ ¬ (0 ≤ q ∧ q ≤ 6))) := by
  have iW5 : ∀ w ∈ u_ws RX5 TX5 10, w ∈ wsX5_barWeekday := by decide +kernel
  have f7 : Cond.fieldLink RX5 7 (TX5 0).1 (TX5 0).2.1 (TX5 0).2.2.1 ∈ wsX5_barWeekday := by decide +kernel
  have f29 : Cond.fieldLink RX5 29 (TX5 5).1 (TX5 5).2.1 (TX5 5).2.2.1 ∈ wsX5_barWeekday := by decide +kernel
  obtain ⟨hG1, h14, hFe, h55, h56, h57⟩ := id hM
  have e170 : recM w 170 = w 170 := recM_o (by decide) (by decide)
  have hF3 : (0 ≤ f ∧ f < w 170 14) → -1 ≤ mF (w 170) f 3 ∧ mF (w 170) f 3 ≤ 6 := fun q9 => (hFe f q9.1 q9.2).2.2.2.2.2
  refine Ki_of [(0, _), (1, _), (2, _)] hr (by decide) rfl rfl (Nat.le_of_ble_eq_true rfl) rfl (fun Γ hG hR => ?_)
  refine v_aload_n hG dX5_barWeekday_0 0 rfl ?_
  refine v_iconst hG dX5_barWeekday_1 ?_
  refine v_putf (ci := 5) (k := 5) hG iW5 tyX5_ok nmX5 f29 rfl (by decide) rfl rfl k9a (by decide) (cl_6 _ _ _ _) (Nat.le_of_ble_eq_true rfl) rfl dX5_barWeekday_2 ?_
  rw [← hw]
  refine v_aload_n hG dX5_barWeekday_5 0 rfl ?_
  refine v_iload_n hG dX5_barWeekday_6 1 rfl ?_
  refine v_callVi (n := 1) (ci := 5) hG (c_X5_isFeast hr k9a (by omega) (by omega)) gX5_barWeekday_X5_isFeast rfl (by decide +kernel) rfl (by decide) k9a (by decide) (cl_6 _ _ _ _) rfl dX5_barWeekday_7 rfl (Nat.le_of_ble_eq_true rfl) (by decide) ?_
  intro v7 z7 hp7
  obtain ⟨rfl, hv7⟩ := hp7
  have hb7 := ind_v hv7
  refine v_if_ne hG 19 (by omega) dX5_barWeekday_10 (by decide) (fun h10 => ?_) (fun h10 => ?_)
  · refine v_iload_n hG dX5_barWeekday_19 2 rfl ?_
    refine v_iconst hG dX5_barWeekday_20 ?_
    refine v_bipush hG dX5_barWeekday_21 (by decide) ?_
    refine v_callSi (n := 3) hG (c_X5_in hr (by omega) (by omega) (by omega)) gX5_barWeekday_X5_in rfl (by decide +kernel) rfl (by decide) dX5_barWeekday_23 rfl (Nat.le_of_ble_eq_true rfl) (by decide) ?_
    intro v23 z23 hp23
    obtain ⟨rfl, hv23⟩ := hp23
    have hb23 := ind_v hv23
    refine v_if_ne hG 35 (by omega) dX5_barWeekday_26 (by decide) (fun h26 => ?_) (fun h26 => ?_)
    · refine v_aload_n hG dX5_barWeekday_35 0 rfl ?_
      refine v_callVv (n := 0) (ci := 5) hG (c_X5_record hr k9a (by omega)) gX5_barWeekday_X5_record rfl (by decide +kernel) rfl (by decide) k9a (by decide) (cl_6 _ _ _ _) rfl dX5_barWeekday_36 rfl (Nat.le_of_ble_eq_true rfl) (by decide) ?_
      intro z36 hp36
      obtain rfl := hp36
      refine v_aload_n hG dX5_barWeekday_39 0 rfl ?_
      refine v_iload_n hG dX5_barWeekday_40 1 rfl ?_
      refine v_iconst hG dX5_barWeekday_41 ?_
      refine v_callVi (n := 2) (ci := 5) hG (c_X5_feast hr k9a (by omega) (by omega)) gX5_barWeekday_X5_feast rfl (by decide +kernel) rfl (by decide) k9a (by decide) (cl_6 _ _ _ _) rfl dX5_barWeekday_42 rfl (Nat.le_of_ble_eq_true rfl) (by decide) ?_
      intro v42 z42 hp42
      obtain ⟨rfl, rfl⟩ := hp42
      refine v_istore_n hG [(0, _), (1, _), (2, _), (3, _)] dX5_barWeekday_45 (by decide) rfl ?_
      refine v_aload_n hG dX5_barWeekday_46 0 rfl ?_
      refine v_getf (ci := 5) (k := 0) hG iW5 f7 rfl (by decide) k9a (by decide) (cl_6 _ _ _ _) rfl dX5_barWeekday_47 ?_
      refine v_bipush hG dX5_barWeekday_50 (by decide) ?_
      refine v_iconst hG dX5_barWeekday_52 ?_
      refine v_iload_n hG dX5_barWeekday_53 1 rfl ?_
      refine v_imul hG dX5_barWeekday_54 ?_
      refine v_iadd hG dX5_barWeekday_55 ?_
      refine v_iconst hG dX5_barWeekday_56 ?_
      refine v_iadd hG dX5_barWeekday_57 ?_
      refine v_iload_n hG dX5_barWeekday_58 2 rfl ?_
      refine v_iast hG k_170 (by decide) (cl_162 _ _ _) (by decide) (by omega) dX5_barWeekday_59 ?_
      refine v_iload_n hG dX5_barWeekday_60 3 rfl ?_
      exact v_iret hG hR dX5_barWeekday_61 (by first | exact Or.inl (⟨rfl, by omega, by omega, by rw [← e170]⟩) | exact Or.inr (Or.inl (⟨rfl, by omega⟩)) | exact Or.inr (Or.inr (⟨rfl, by omega⟩)))
    · refine v_aload_n hG dX5_barWeekday_29 0 rfl ?_
      refine v_iconst hG dX5_barWeekday_30 ?_
      refine v_callVi (n := 1) (ci := 5) hG (c_X5_fails hr k9a) gX5_barWeekday_X5_fails rfl (by decide +kernel) rfl (by decide) k9a (by decide) (cl_6 _ _ _ _) rfl dX5_barWeekday_31 rfl (Nat.le_of_ble_eq_true rfl) (by decide) ?_
      intro v31 z31 hp31
      obtain ⟨rfl, rfl⟩ := hp31
      exact v_iret hG hR dX5_barWeekday_34 (by first | exact Or.inl (⟨rfl, by omega, by omega, by rw [← e170]⟩) | exact Or.inr (Or.inl (⟨rfl, by omega⟩)) | exact Or.inr (Or.inr (⟨rfl, by omega⟩)))
  · refine v_aload_n hG dX5_barWeekday_13 0 rfl ?_
    refine v_iconst hG dX5_barWeekday_14 ?_
    refine v_callVi (n := 1) (ci := 5) hG (c_X5_fails hr k9a) gX5_barWeekday_X5_fails rfl (by decide +kernel) rfl (by decide) k9a (by decide) (cl_6 _ _ _ _) rfl dX5_barWeekday_15 rfl (Nat.le_of_ble_eq_true rfl) (by decide) ?_
    intro v15 z15 hp15
    obtain ⟨rfl, rfl⟩ := hp15
    exact v_iret hG hR dX5_barWeekday_18 (by first | exact Or.inl (⟨rfl, by omega, by omega, by rw [← e170]⟩) | exact Or.inr (Or.inl (⟨rfl, by omega⟩)) | exact Or.inr (Or.inr (⟨rfl, by omega⟩)))

set_option maxHeartbeats 4000000 in
set_option maxRecDepth 100000 in
theorem c_X5_allowAllWeekdays {l : Launch} {D : va_G} {cA : Nat → ClassId} {r : Nat → Nat} {z : Zt} {w : Zt} {f : Int} (hr : Inj r) (k9a : kd 169 = 6) (hw : w = zup z 169 5 0) (hM : MI (w 170)) (hst : 0 ≤ w 169 2 ∧ w 169 2 ≤ 6) (hr_f : -2147483648 ≤ f ∧ f < 2147483648) : Ki l D cA r yX5_allowAllWeekdays wsX5_allowAllWeekdays 2 43 z [.ref (r 169), .int (iN f)] (fun v z1 => (zup (recM w) 170 (15 + 4 * f + 3).toNat (-1) = z1 ∧ (0 ≤ f ∧ f < w 170 14) ∧ mF (w 170) f 3 ≠ -1 ∧ v = mF (w 170) f 3) ∨ (zup w 169 5 1 = z1 ∧ ¬ (0 ≤ f ∧ f < w 170 14)) ∨ (zup w 169 5 2 = z1 ∧ (0 ≤ f ∧ f < w 170 14) ∧ mF (w 170) f 3 = -1)) := by
  have iW5 : ∀ w ∈ u_ws RX5 TX5 10, w ∈ wsX5_allowAllWeekdays := by decide +kernel
  have f7 : Cond.fieldLink RX5 7 (TX5 0).1 (TX5 0).2.1 (TX5 0).2.2.1 ∈ wsX5_allowAllWeekdays := by decide +kernel
  have f29 : Cond.fieldLink RX5 29 (TX5 5).1 (TX5 5).2.1 (TX5 5).2.2.1 ∈ wsX5_allowAllWeekdays := by decide +kernel
  obtain ⟨hG1, h14, hFe, h55, h56, h57⟩ := id hM
  have e170 : recM w 170 = w 170 := recM_o (by decide) (by decide)
  have hF3 : (0 ≤ f ∧ f < w 170 14) → -1 ≤ mF (w 170) f 3 ∧ mF (w 170) f 3 ≤ 6 := fun q9 => (hFe f q9.1 q9.2).2.2.2.2.2
  refine Ki_of [(0, _), (1, _)] hr (by decide) rfl rfl (Nat.le_of_ble_eq_true rfl) rfl (fun Γ hG hR => ?_)
  refine v_aload_n hG dX5_allowAllWeekdays_0 0 rfl ?_
  refine v_iconst hG dX5_allowAllWeekdays_1 ?_
  refine v_putf (ci := 5) (k := 5) hG iW5 tyX5_ok nmX5 f29 rfl (by decide) rfl rfl k9a (by decide) (cl_6 _ _ _ _) (Nat.le_of_ble_eq_true rfl) rfl dX5_allowAllWeekdays_2 ?_
  rw [← hw]
  refine v_aload_n hG dX5_allowAllWeekdays_5 0 rfl ?_
  refine v_iload_n hG dX5_allowAllWeekdays_6 1 rfl ?_
  refine v_callVi (n := 1) (ci := 5) hG (c_X5_isFeast hr k9a (by omega) (by omega)) gX5_allowAllWeekdays_X5_isFeast rfl (by decide +kernel) rfl (by decide) k9a (by decide) (cl_6 _ _ _ _) rfl dX5_allowAllWeekdays_7 rfl (Nat.le_of_ble_eq_true rfl) (by decide) ?_
  intro v7 z7 hp7
  obtain ⟨rfl, hv7⟩ := hp7
  have hb7 := ind_v hv7
  refine v_if_ne hG 19 (by omega) dX5_allowAllWeekdays_10 (by decide) (fun h10 => ?_) (fun h10 => ?_)
  · refine v_aload_n hG dX5_allowAllWeekdays_19 0 rfl ?_
    refine v_iload_n hG dX5_allowAllWeekdays_20 1 rfl ?_
    refine v_iconst hG dX5_allowAllWeekdays_21 ?_
    refine v_callVi (n := 2) (ci := 5) hG (c_X5_feast hr k9a (by omega) (by omega)) gX5_allowAllWeekdays_X5_feast rfl (by decide +kernel) rfl (by decide) k9a (by decide) (cl_6 _ _ _ _) rfl dX5_allowAllWeekdays_22 rfl (Nat.le_of_ble_eq_true rfl) (by decide) ?_
    intro v22 z22 hp22
    obtain ⟨rfl, rfl⟩ := hp22
    have hF4 := hF3 (by omega)
    refine v_iconst hG dX5_allowAllWeekdays_25 ?_
    refine v_icmp_ne hG 35 (by omega) (by omega) dX5_allowAllWeekdays_26 (by decide) (fun h26 => ?_) (fun h26 => ?_)
    · refine v_aload_n hG dX5_allowAllWeekdays_35 0 rfl ?_
      refine v_callVv (n := 0) (ci := 5) hG (c_X5_record hr k9a (by omega)) gX5_allowAllWeekdays_X5_record rfl (by decide +kernel) rfl (by decide) k9a (by decide) (cl_6 _ _ _ _) rfl dX5_allowAllWeekdays_36 rfl (Nat.le_of_ble_eq_true rfl) (by decide) ?_
      intro z36 hp36
      obtain rfl := hp36
      refine v_aload_n hG dX5_allowAllWeekdays_39 0 rfl ?_
      refine v_iload_n hG dX5_allowAllWeekdays_40 1 rfl ?_
      refine v_iconst hG dX5_allowAllWeekdays_41 ?_
      refine v_callVi (n := 2) (ci := 5) hG (c_X5_feast hr k9a (by omega) (by omega)) gX5_allowAllWeekdays_X5_feast rfl (by decide +kernel) rfl (by decide) k9a (by decide) (cl_6 _ _ _ _) rfl dX5_allowAllWeekdays_42 rfl (Nat.le_of_ble_eq_true rfl) (by decide) ?_
      intro v42 z42 hp42
      obtain ⟨rfl, rfl⟩ := hp42
      refine v_istore_n hG [(0, _), (1, _), (2, _)] dX5_allowAllWeekdays_45 (by decide) rfl ?_
      refine v_aload_n hG dX5_allowAllWeekdays_46 0 rfl ?_
      refine v_getf (ci := 5) (k := 0) hG iW5 f7 rfl (by decide) k9a (by decide) (cl_6 _ _ _ _) rfl dX5_allowAllWeekdays_47 ?_
      refine v_bipush hG dX5_allowAllWeekdays_50 (by decide) ?_
      refine v_iconst hG dX5_allowAllWeekdays_52 ?_
      refine v_iload_n hG dX5_allowAllWeekdays_53 1 rfl ?_
      refine v_imul hG dX5_allowAllWeekdays_54 ?_
      refine v_iadd hG dX5_allowAllWeekdays_55 ?_
      refine v_iconst hG dX5_allowAllWeekdays_56 ?_
      refine v_iadd hG dX5_allowAllWeekdays_57 ?_
      refine v_iconst hG dX5_allowAllWeekdays_58 ?_
      refine v_iast hG k_170 (by decide) (cl_162 _ _ _) (by decide) (by omega) dX5_allowAllWeekdays_59 ?_
      refine v_iload_n hG dX5_allowAllWeekdays_60 2 rfl ?_
      exact v_iret hG hR dX5_allowAllWeekdays_61 (by first | exact Or.inl (⟨rfl, by omega, by omega, by rw [← e170]⟩) | exact Or.inr (Or.inl (⟨rfl, by omega⟩)) | exact Or.inr (Or.inr (⟨rfl, by omega⟩)))
    · refine v_aload_n hG dX5_allowAllWeekdays_29 0 rfl ?_
      refine v_iconst hG dX5_allowAllWeekdays_30 ?_
      refine v_callVi (n := 1) (ci := 5) hG (c_X5_fails hr k9a) gX5_allowAllWeekdays_X5_fails rfl (by decide +kernel) rfl (by decide) k9a (by decide) (cl_6 _ _ _ _) rfl dX5_allowAllWeekdays_31 rfl (Nat.le_of_ble_eq_true rfl) (by decide) ?_
      intro v31 z31 hp31
      obtain ⟨rfl, rfl⟩ := hp31
      exact v_iret hG hR dX5_allowAllWeekdays_34 (by first | exact Or.inl (⟨rfl, by omega, by omega, by rw [← e170]⟩) | exact Or.inr (Or.inl (⟨rfl, by omega⟩)) | exact Or.inr (Or.inr (⟨rfl, by omega⟩)))
  · refine v_aload_n hG dX5_allowAllWeekdays_13 0 rfl ?_
    refine v_iconst hG dX5_allowAllWeekdays_14 ?_
    refine v_callVi (n := 1) (ci := 5) hG (c_X5_fails hr k9a) gX5_allowAllWeekdays_X5_fails rfl (by decide +kernel) rfl (by decide) k9a (by decide) (cl_6 _ _ _ _) rfl dX5_allowAllWeekdays_15 rfl (Nat.le_of_ble_eq_true rfl) (by decide) ?_
    intro v15 z15 hp15
    obtain ⟨rfl, rfl⟩ := hp15
    exact v_iret hG hR dX5_allowAllWeekdays_18 (by first | exact Or.inl (⟨rfl, by omega, by omega, by rw [← e170]⟩) | exact Or.inr (Or.inl (⟨rfl, by omega⟩)) | exact Or.inr (Or.inr (⟨rfl, by omega⟩)))

set_option maxHeartbeats 4000000 in
set_option maxRecDepth 100000 in
theorem c_X5_setShift {l : Launch} {D : va_G} {cA : Nat → ClassId} {r : Nat → Nat} {z : Zt} {w : Zt} {q : Int} (hr : Inj r) (k9a : kd 169 = 6) (hw : w = zup z 169 5 0) (hM : MI (w 170)) (hst : 0 ≤ w 169 2 ∧ w 169 2 ≤ 6) (hr_q : -2147483648 ≤ q ∧ q < 2147483648) : Ki l D cA r yX5_setShift wsX5_setShift 1 22 z [.ref (r 169), .int (iN q)] (fun v z1 => (zup (recM w) 170 55 q = z1 ∧ (1 ≤ q ∧ q ≤ 9) ∧ v = w 170 55) ∨ (zup w 169 5 1 = z1 ∧ ¬ (1 ≤ q ∧ q ≤ 9))) := by
  have iW5 : ∀ w ∈ u_ws RX5 TX5 10, w ∈ wsX5_setShift := by decide +kernel
  have f7 : Cond.fieldLink RX5 7 (TX5 0).1 (TX5 0).2.1 (TX5 0).2.2.1 ∈ wsX5_setShift := by decide +kernel
  have f29 : Cond.fieldLink RX5 29 (TX5 5).1 (TX5 5).2.1 (TX5 5).2.2.1 ∈ wsX5_setShift := by decide +kernel
  obtain ⟨hG1, h14, hFe, h55, h56, h57⟩ := id hM
  have e170 : recM w 170 = w 170 := recM_o (by decide) (by decide)
  refine Ki_of [(0, _), (1, _)] hr (by decide) rfl rfl (Nat.le_of_ble_eq_true rfl) rfl (fun Γ hG hR => ?_)
  refine v_aload_n hG dX5_setShift_0 0 rfl ?_
  refine v_iconst hG dX5_setShift_1 ?_
  refine v_putf (ci := 5) (k := 5) hG iW5 tyX5_ok nmX5 f29 rfl (by decide) rfl rfl k9a (by decide) (cl_6 _ _ _ _) (Nat.le_of_ble_eq_true rfl) rfl dX5_setShift_2 ?_
  rw [← hw]
  refine v_iload_n hG dX5_setShift_5 1 rfl ?_
  refine v_iconst hG dX5_setShift_6 ?_
  refine v_bipush hG dX5_setShift_7 (by decide) ?_
  refine v_callSi (n := 3) hG (c_X5_in hr (by omega) (by omega) (by omega)) gX5_setShift_X5_in rfl (by decide +kernel) rfl (by decide) dX5_setShift_9 rfl (Nat.le_of_ble_eq_true rfl) (by decide) ?_
  intro v9 z9 hp9
  obtain ⟨rfl, hv9⟩ := hp9
  have hb9 := ind_v hv9
  refine v_if_ne hG 21 (by omega) dX5_setShift_12 (by decide) (fun h12 => ?_) (fun h12 => ?_)
  · refine v_aload_n hG dX5_setShift_21 0 rfl ?_
    refine v_callVv (n := 0) (ci := 5) hG (c_X5_record hr k9a (by omega)) gX5_setShift_X5_record rfl (by decide +kernel) rfl (by decide) k9a (by decide) (cl_6 _ _ _ _) rfl dX5_setShift_22 rfl (Nat.le_of_ble_eq_true rfl) (by decide) ?_
    intro z22 hp22
    obtain rfl := hp22
    refine v_aload_n hG dX5_setShift_25 0 rfl ?_
    refine v_getf (ci := 5) (k := 0) hG iW5 f7 rfl (by decide) k9a (by decide) (cl_6 _ _ _ _) rfl dX5_setShift_26 ?_
    refine v_bipush hG dX5_setShift_29 (by decide) ?_
    refine v_iald hG k_170 (by decide) (cl_162 _ _ _ _) (by decide) (by omega) dX5_setShift_31 ?_
    refine v_istore_n hG [(0, _), (1, _), (2, _)] dX5_setShift_32 (by decide) rfl ?_
    refine v_aload_n hG dX5_setShift_33 0 rfl ?_
    refine v_getf (ci := 5) (k := 0) hG iW5 f7 rfl (by decide) k9a (by decide) (cl_6 _ _ _ _) rfl dX5_setShift_34 ?_
    refine v_bipush hG dX5_setShift_37 (by decide) ?_
    refine v_iload_n hG dX5_setShift_39 1 rfl ?_
    refine v_iast hG k_170 (by decide) (cl_162 _ _ _) (by decide) (by omega) dX5_setShift_40 ?_
    refine v_iload_n hG dX5_setShift_41 2 rfl ?_
    exact v_iret hG hR dX5_setShift_42 (by first | exact Or.inl (⟨rfl, by omega, congrFun e170 55⟩) | exact Or.inr (⟨rfl, by omega⟩))
  · refine v_aload_n hG dX5_setShift_15 0 rfl ?_
    refine v_iconst hG dX5_setShift_16 ?_
    refine v_callVi (n := 1) (ci := 5) hG (c_X5_fails hr k9a) gX5_setShift_X5_fails rfl (by decide +kernel) rfl (by decide) k9a (by decide) (cl_6 _ _ _ _) rfl dX5_setShift_17 rfl (Nat.le_of_ble_eq_true rfl) (by decide) ?_
    intro v17 z17 hp17
    obtain ⟨rfl, rfl⟩ := hp17
    exact v_iret hG hR dX5_setShift_20 (by first | exact Or.inl (⟨rfl, by omega, congrFun e170 55⟩) | exact Or.inr (⟨rfl, by omega⟩))

set_option maxHeartbeats 4000000 in
set_option maxRecDepth 100000 in
theorem c_X5_setCopiesPerDay {l : Launch} {D : va_G} {cA : Nat → ClassId} {r : Nat → Nat} {z : Zt} {w : Zt} {q : Int} (hr : Inj r) (k9a : kd 169 = 6) (hw : w = zup z 169 5 0) (hM : MI (w 170)) (hst : 0 ≤ w 169 2 ∧ w 169 2 ≤ 6) (hr_q : -2147483648 ≤ q ∧ q < 2147483648) : Ki l D cA r yX5_setCopiesPerDay wsX5_setCopiesPerDay 1 22 z [.ref (r 169), .int (iN q)] (fun v z1 => (zup (recM w) 170 56 q = z1 ∧ (0 ≤ q ∧ q ≤ 9) ∧ v = w 170 56) ∨ (zup w 169 5 1 = z1 ∧ ¬ (0 ≤ q ∧ q ≤ 9))) := by
  have iW5 : ∀ w ∈ u_ws RX5 TX5 10, w ∈ wsX5_setCopiesPerDay := by decide +kernel
  have f7 : Cond.fieldLink RX5 7 (TX5 0).1 (TX5 0).2.1 (TX5 0).2.2.1 ∈ wsX5_setCopiesPerDay := by decide +kernel
  have f29 : Cond.fieldLink RX5 29 (TX5 5).1 (TX5 5).2.1 (TX5 5).2.2.1 ∈ wsX5_setCopiesPerDay := by decide +kernel
  obtain ⟨hG1, h14, hFe, h55, h56, h57⟩ := id hM
  have e170 : recM w 170 = w 170 := recM_o (by decide) (by decide)
  refine Ki_of [(0, _), (1, _)] hr (by decide) rfl rfl (Nat.le_of_ble_eq_true rfl) rfl (fun Γ hG hR => ?_)
  refine v_aload_n hG dX5_setCopiesPerDay_0 0 rfl ?_
  refine v_iconst hG dX5_setCopiesPerDay_1 ?_
  refine v_putf (ci := 5) (k := 5) hG iW5 tyX5_ok nmX5 f29 rfl (by decide) rfl rfl k9a (by decide) (cl_6 _ _ _ _) (Nat.le_of_ble_eq_true rfl) rfl dX5_setCopiesPerDay_2 ?_
  rw [← hw]
  refine v_iload_n hG dX5_setCopiesPerDay_5 1 rfl ?_
  refine v_iconst hG dX5_setCopiesPerDay_6 ?_
  refine v_bipush hG dX5_setCopiesPerDay_7 (by decide) ?_
  refine v_callSi (n := 3) hG (c_X5_in hr (by omega) (by omega) (by omega)) gX5_setCopiesPerDay_X5_in rfl (by decide +kernel) rfl (by decide) dX5_setCopiesPerDay_9 rfl (Nat.le_of_ble_eq_true rfl) (by decide) ?_
  intro v9 z9 hp9
  obtain ⟨rfl, hv9⟩ := hp9
  have hb9 := ind_v hv9
  refine v_if_ne hG 21 (by omega) dX5_setCopiesPerDay_12 (by decide) (fun h12 => ?_) (fun h12 => ?_)
  · refine v_aload_n hG dX5_setCopiesPerDay_21 0 rfl ?_
    refine v_callVv (n := 0) (ci := 5) hG (c_X5_record hr k9a (by omega)) gX5_setCopiesPerDay_X5_record rfl (by decide +kernel) rfl (by decide) k9a (by decide) (cl_6 _ _ _ _) rfl dX5_setCopiesPerDay_22 rfl (Nat.le_of_ble_eq_true rfl) (by decide) ?_
    intro z22 hp22
    obtain rfl := hp22
    refine v_aload_n hG dX5_setCopiesPerDay_25 0 rfl ?_
    refine v_getf (ci := 5) (k := 0) hG iW5 f7 rfl (by decide) k9a (by decide) (cl_6 _ _ _ _) rfl dX5_setCopiesPerDay_26 ?_
    refine v_bipush hG dX5_setCopiesPerDay_29 (by decide) ?_
    refine v_iald hG k_170 (by decide) (cl_162 _ _ _ _) (by decide) (by omega) dX5_setCopiesPerDay_31 ?_
    refine v_istore_n hG [(0, _), (1, _), (2, _)] dX5_setCopiesPerDay_32 (by decide) rfl ?_
    refine v_aload_n hG dX5_setCopiesPerDay_33 0 rfl ?_
    refine v_getf (ci := 5) (k := 0) hG iW5 f7 rfl (by decide) k9a (by decide) (cl_6 _ _ _ _) rfl dX5_setCopiesPerDay_34 ?_
    refine v_bipush hG dX5_setCopiesPerDay_37 (by decide) ?_
    refine v_iload_n hG dX5_setCopiesPerDay_39 1 rfl ?_
    refine v_iast hG k_170 (by decide) (cl_162 _ _ _) (by decide) (by omega) dX5_setCopiesPerDay_40 ?_
    refine v_iload_n hG dX5_setCopiesPerDay_41 2 rfl ?_
    exact v_iret hG hR dX5_setCopiesPerDay_42 (by first | exact Or.inl (⟨rfl, by omega, congrFun e170 56⟩) | exact Or.inr (⟨rfl, by omega⟩))
  · refine v_aload_n hG dX5_setCopiesPerDay_15 0 rfl ?_
    refine v_iconst hG dX5_setCopiesPerDay_16 ?_
    refine v_callVi (n := 1) (ci := 5) hG (c_X5_fails hr k9a) gX5_setCopiesPerDay_X5_fails rfl (by decide +kernel) rfl (by decide) k9a (by decide) (cl_6 _ _ _ _) rfl dX5_setCopiesPerDay_17 rfl (Nat.le_of_ble_eq_true rfl) (by decide) ?_
    intro v17 z17 hp17
    obtain ⟨rfl, rfl⟩ := hp17
    exact v_iret hG hR dX5_setCopiesPerDay_20 (by first | exact Or.inl (⟨rfl, by omega, congrFun e170 56⟩) | exact Or.inr (⟨rfl, by omega⟩))

set_option maxHeartbeats 4000000 in
set_option maxRecDepth 100000 in
theorem c_X5_undo {l : Launch} {D : va_G} {cA : Nat → ClassId} {r : Nat → Nat} {z : Zt} {w : Zt}  (hr : Inj r) (k9a : kd 169 = 6) (hw : w = zup z 169 5 0) (hst : 0 ≤ w 169 2 ∧ w 169 2 ≤ 6) : Ki l D cA r yX5_undo wsX5_undo 1 21 z [.ref (r 169)] (fun v z1 => (zset (zup w 169 2 (w 169 2 - 1)) 170 (fcp (w 170) (w 171) 0 (62 * (w 169 2 - 1).toNat) 62) = z1 ∧ 0 < w 169 2 ∧ v = w 169 2 - 1) ∨ (zup w 169 5 1 = z1 ∧ w 169 2 = 0)) := by
  have iW5 : ∀ w ∈ u_ws RX5 TX5 10, w ∈ wsX5_undo := by decide +kernel
  have f7 : Cond.fieldLink RX5 7 (TX5 0).1 (TX5 0).2.1 (TX5 0).2.2.1 ∈ wsX5_undo := by decide +kernel
  have f13 : Cond.fieldLink RX5 13 (TX5 1).1 (TX5 1).2.1 (TX5 1).2.2.1 ∈ wsX5_undo := by decide +kernel
  have f29 : Cond.fieldLink RX5 29 (TX5 5).1 (TX5 5).2.1 (TX5 5).2.2.1 ∈ wsX5_undo := by decide +kernel
  have f37 : Cond.fieldLink RX5 37 (TX5 2).1 (TX5 2).2.1 (TX5 2).2.2.1 ∈ wsX5_undo := by decide +kernel
  refine Ki_of [(0, _)] hr (by decide) rfl rfl (Nat.le_of_ble_eq_true rfl) rfl (fun Γ hG hR => ?_)
  refine v_aload_n hG dX5_undo_0 0 rfl ?_
  refine v_iconst hG dX5_undo_1 ?_
  refine v_putf (ci := 5) (k := 5) hG iW5 tyX5_ok nmX5 f29 rfl (by decide) rfl rfl k9a (by decide) (cl_6 _ _ _ _) (Nat.le_of_ble_eq_true rfl) rfl dX5_undo_2 ?_
  rw [← hw]
  refine v_aload_n hG dX5_undo_5 0 rfl ?_
  refine v_getf (ci := 5) (k := 2) hG iW5 f37 rfl (by decide) k9a (by decide) (cl_6 _ _ _ _) rfl dX5_undo_6 ?_
  refine v_if_ne hG 18 (by omega) dX5_undo_9 (by decide) (fun h9 => ?_) (fun h9 => ?_)
  · refine v_aload_n hG dX5_undo_18 0 rfl ?_
    refine v_dup hG dX5_undo_19 rfl ?_
    refine v_getf (ci := 5) (k := 2) hG iW5 f37 rfl (by decide) k9a (by decide) (cl_6 _ _ _ _) rfl dX5_undo_20 ?_
    refine v_iconst hG dX5_undo_23 ?_
    refine v_isub hG dX5_undo_24 ?_
    refine v_putf (ci := 5) (k := 2) hG iW5 tyX5_ok nmX5 f37 rfl (by decide) rfl rfl k9a (by decide) (cl_6 _ _ _ _) (Nat.le_of_ble_eq_true rfl) rfl dX5_undo_25 ?_
    refine v_iconst hG dX5_undo_28 ?_
    refine v_istore_n hG [(0, _), (1, _)] dX5_undo_29 (by decide) rfl ?_
    have L30 : ∀ (n : Nat), ∀ (x1 : Int) (z1 : Zt), (0 ≤ x1 ∧ x1 ≤ 62 ∧ z1 = zset (zup w 169 2 (w 169 2 - 1)) 170 (fcp (w 170) (w 171) 0 (62 * (w 169 2 - 1).toNat) x1.toNat)) → (62 - x1 + 1).toNat ≤ n → V Γ z1 0 0 [(0, .ref (r 169)), (1, .int (iN x1))] 30 [] := by
      intro n
      induction n with
      | zero =>
        intro x1 z1 hI hm
        obtain ⟨i1, i2, i3v⟩ := hI
        exact absurd hm (by omega)
      | succ n ih30 =>
        intro x1 z1 hI hm
        obtain ⟨i1, i2, i3v⟩ := hI
        have e2 : z1 169 2 = w 169 2 - 1 := by rw [i3v]; rfl
        have e171 : z1 171 = w 171 := by rw [i3v]; rfl
        refine v_iload_n hG dX5_undo_30 1 rfl ?_
        refine v_bipush hG dX5_undo_31 (by decide) ?_
        refine v_icmp_ge hG 62 (by omega) (by omega) dX5_undo_33 (by decide) (fun h33 => ?_) (fun h33 => ?_)
        · refine v_aload_n hG dX5_undo_62 0 rfl ?_
          refine v_getf (ci := 5) (k := 2) hG iW5 f37 rfl (by decide) k9a (by decide) (cl_6 _ _ _ _) rfl dX5_undo_63 ?_
          rw [e2]
          exact v_iret hG hR dX5_undo_66 (by first | exact Or.inl ⟨by rw [i3v, show x1.toNat = 62 by omega], by omega, rfl⟩ | exact Or.inr ⟨rfl, by omega⟩)
        · refine v_aload_n hG dX5_undo_36 0 rfl ?_
          refine v_getf (ci := 5) (k := 0) hG iW5 f7 rfl (by decide) k9a (by decide) (cl_6 _ _ _ _) rfl dX5_undo_37 ?_
          refine v_iload_n hG dX5_undo_40 1 rfl ?_
          refine v_aload_n hG dX5_undo_41 0 rfl ?_
          refine v_getf (ci := 5) (k := 1) hG iW5 f13 rfl (by decide) k9a (by decide) (cl_6 _ _ _ _) rfl dX5_undo_42 ?_
          refine v_bipush hG dX5_undo_45 (by decide) ?_
          refine v_aload_n hG dX5_undo_47 0 rfl ?_
          refine v_getf (ci := 5) (k := 2) hG iW5 f37 rfl (by decide) k9a (by decide) (cl_6 _ _ _ _) rfl dX5_undo_48 ?_
          refine v_imul hG dX5_undo_51 ?_
          refine v_iload_n hG dX5_undo_52 1 rfl ?_
          refine v_iadd hG dX5_undo_53 ?_
          refine v_iald hG k_171 (by decide) (cl_472 _ _ _ _) (by decide) (by omega) dX5_undo_54 ?_
          refine v_iast hG k_170 (by decide) (cl_162 _ _ _) (by decide) (by omega) dX5_undo_55 ?_
          refine v_iinc hG [(0, _), (1, _)] dX5_undo_56 1 rfl (by decide) rfl ?_
          refine v_goto hG 30 dX5_undo_59 (by decide) ?_
          refine ih30 _ _ ?_ (by omega)
          refine ⟨by omega, by omega, ?_⟩
          rw [e2, e171, i3v, zup_zset, show (62 * (w 169 2 - 1) + x1).toNat = 62 * (w 169 2 - 1).toNat + x1.toNat by omega, show (x1 + 1).toNat = x1.toNat + 1 by omega]
          congr 1
          have h9 := fcp_s (w 170) (w 171) 0 (62 * (w 169 2 - 1).toNat) x1.toNat
          rw [Nat.zero_add] at h9
          exact h9
    exact L30 _ _ _ ⟨by omega, by omega, by rw [show (0 : Int).toNat = 0 from rfl, fcp_0]; exact (zset_same _ 170).symm⟩ (Nat.le_refl _)
  · refine v_aload_n hG dX5_undo_12 0 rfl ?_
    refine v_iconst hG dX5_undo_13 ?_
    refine v_callVi (n := 1) (ci := 5) hG (c_X5_fails hr k9a) gX5_undo_X5_fails rfl (by decide +kernel) rfl (by decide) k9a (by decide) (cl_6 _ _ _ _) rfl dX5_undo_14 rfl (Nat.le_of_ble_eq_true rfl) (by decide) ?_
    intro v14 z14 hp14
    obtain ⟨rfl, rfl⟩ := hp14
    exact v_iret hG hR dX5_undo_17 (by first | exact Or.inl ⟨by rw [i3v, show x1.toNat = 62 by omega], by omega, rfl⟩ | exact Or.inr ⟨rfl, by omega⟩)

set_option maxHeartbeats 4000000 in
set_option maxRecDepth 100000 in
theorem c_X5_saveState {l : Launch} {D : va_G} {cA : Nat → ClassId} {r : Nat → Nat} {z : Zt} {w : Zt} {i : Int} (hr : Inj r) (k9a : kd 169 = 6) (hw : w = zup z 169 5 0) (hr_i : -2147483648 ≤ i ∧ i < 2147483648) : Ki l D cA r yX5_saveState wsX5_saveState 1 22 z [.ref (r 169), .int (iN i)] (fun v z1 => (zup (zset w 172 (fcp (w 172) (w 170) (62 * i.toNat) 0 62)) 173 i.toNat 1 = z1 ∧ (0 ≤ i ∧ i < 2) ∧ v = w 170 57) ∨ (zup w 169 5 1 = z1 ∧ ¬ (0 ≤ i ∧ i < 2))) := by
  have iW5 : ∀ w ∈ u_ws RX5 TX5 10, w ∈ wsX5_saveState := by decide +kernel
  have f7 : Cond.fieldLink RX5 7 (TX5 0).1 (TX5 0).2.1 (TX5 0).2.2.1 ∈ wsX5_saveState := by decide +kernel
  have f16 : Cond.fieldLink RX5 16 (TX5 3).1 (TX5 3).2.1 (TX5 3).2.2.1 ∈ wsX5_saveState := by decide +kernel
  have f19 : Cond.fieldLink RX5 19 (TX5 4).1 (TX5 4).2.1 (TX5 4).2.2.1 ∈ wsX5_saveState := by decide +kernel
  have f29 : Cond.fieldLink RX5 29 (TX5 5).1 (TX5 5).2.1 (TX5 5).2.2.1 ∈ wsX5_saveState := by decide +kernel
  refine Ki_of [(0, _), (1, _)] hr (by decide) rfl rfl (Nat.le_of_ble_eq_true rfl) rfl (fun Γ hG hR => ?_)
  refine v_aload_n hG dX5_saveState_0 0 rfl ?_
  refine v_iconst hG dX5_saveState_1 ?_
  refine v_putf (ci := 5) (k := 5) hG iW5 tyX5_ok nmX5 f29 rfl (by decide) rfl rfl k9a (by decide) (cl_6 _ _ _ _) (Nat.le_of_ble_eq_true rfl) rfl dX5_saveState_2 ?_
  rw [← hw]
  refine v_iload_n hG dX5_saveState_5 1 rfl ?_
  refine v_iconst hG dX5_saveState_6 ?_
  refine v_iconst hG dX5_saveState_7 ?_
  refine v_callSi (n := 3) hG (c_X5_in hr (by omega) (by omega) (by omega)) gX5_saveState_X5_in rfl (by decide +kernel) rfl (by decide) dX5_saveState_8 rfl (Nat.le_of_ble_eq_true rfl) (by decide) ?_
  intro v8 z8 hp8
  obtain ⟨rfl, hv8⟩ := hp8
  have hb8 := ind_v hv8
  refine v_if_ne hG 20 (by omega) dX5_saveState_11 (by decide) (fun h11 => ?_) (fun h11 => ?_)
  · refine v_iconst hG dX5_saveState_20 ?_
    refine v_istore_n hG [(0, _), (1, _), (2, _)] dX5_saveState_21 (by decide) rfl ?_
    have L22 : ∀ (n : Nat), ∀ (x2 : Int) (z1 : Zt), (0 ≤ x2 ∧ x2 ≤ 62 ∧ z1 = zset w 172 (fcp (w 172) (w 170) (62 * i.toNat) 0 x2.toNat)) → (62 - x2 + 1).toNat ≤ n → V Γ z1 0 0 [(0, .ref (r 169)), (1, .int (iN i)), (2, .int (iN x2))] 22 [] := by
      intro n
      induction n with
      | zero =>
        intro x2 z1 hI hm
        obtain ⟨i1, i2, i3v⟩ := hI
        exact absurd hm (by omega)
      | succ n ih22 =>
        intro x2 z1 hI hm
        obtain ⟨i1, i2, i3v⟩ := hI
        have e170 : z1 170 = w 170 := by rw [i3v]; rfl
        refine v_iload_n hG dX5_saveState_22 2 rfl ?_
        refine v_bipush hG dX5_saveState_23 (by decide) ?_
        refine v_icmp_ge hG 51 (by omega) (by omega) dX5_saveState_25 (by decide) (fun h25 => ?_) (fun h25 => ?_)
        · refine v_aload_n hG dX5_saveState_51 0 rfl ?_
          refine v_getf (ci := 5) (k := 4) hG iW5 f19 rfl (by decide) k9a (by decide) (cl_6 _ _ _ _) rfl dX5_saveState_52 ?_
          refine v_iload_n hG dX5_saveState_55 1 rfl ?_
          refine v_iconst hG dX5_saveState_56 ?_
          refine v_zast hG k_173 (by omega) dX5_saveState_57 ?_
          refine v_aload_n hG dX5_saveState_58 0 rfl ?_
          refine v_getf (ci := 5) (k := 0) hG iW5 f7 rfl (by decide) k9a (by decide) (cl_6 _ _ _ _) rfl dX5_saveState_59 ?_
          refine v_bipush hG dX5_saveState_62 (by decide) ?_
          refine v_iald hG k_170 (by decide) (cl_162 _ _ _ _) (by decide) (by omega) dX5_saveState_64 ?_
          exact v_iret hG hR dX5_saveState_65 (by first | exact Or.inl ⟨by rw [i3v, show x2.toNat = 62 by omega], by omega, congrFun e170 57⟩ | exact Or.inr ⟨rfl, by omega⟩)
        · refine v_aload_n hG dX5_saveState_28 0 rfl ?_
          refine v_getf (ci := 5) (k := 3) hG iW5 f16 rfl (by decide) k9a (by decide) (cl_6 _ _ _ _) rfl dX5_saveState_29 ?_
          refine v_bipush hG dX5_saveState_32 (by decide) ?_
          refine v_iload_n hG dX5_saveState_34 1 rfl ?_
          refine v_imul hG dX5_saveState_35 ?_
          refine v_iload_n hG dX5_saveState_36 2 rfl ?_
          refine v_iadd hG dX5_saveState_37 ?_
          refine v_aload_n hG dX5_saveState_38 0 rfl ?_
          refine v_getf (ci := 5) (k := 0) hG iW5 f7 rfl (by decide) k9a (by decide) (cl_6 _ _ _ _) rfl dX5_saveState_39 ?_
          refine v_iload_n hG dX5_saveState_42 2 rfl ?_
          refine v_iald hG k_170 (by decide) (cl_162 _ _ _ _) (by decide) (by omega) dX5_saveState_43 ?_
          refine v_iast hG k_172 (by decide) (cl_224 _ _ _) (by decide) (by omega) dX5_saveState_44 ?_
          refine v_iinc hG [(0, _), (1, _), (2, _)] dX5_saveState_45 2 rfl (by decide) rfl ?_
          refine v_goto hG 22 dX5_saveState_48 (by decide) ?_
          refine ih22 _ _ ?_ (by omega)
          refine ⟨by omega, by omega, ?_⟩
          rw [e170, i3v, zup_zset, show (62 * i + x2).toNat = 62 * i.toNat + x2.toNat by omega, show (x2 + 1).toNat = x2.toNat + 1 by omega]
          congr 1
          have h9 := fcp_s (w 172) (w 170) (62 * i.toNat) 0 x2.toNat
          rw [Nat.zero_add] at h9
          exact h9
    exact L22 _ _ _ ⟨by omega, by omega, by rw [show (0 : Int).toNat = 0 from rfl, fcp_0]; exact (zset_same _ 172).symm⟩ (Nat.le_refl _)
  · refine v_aload_n hG dX5_saveState_14 0 rfl ?_
    refine v_iconst hG dX5_saveState_15 ?_
    refine v_callVi (n := 1) (ci := 5) hG (c_X5_fails hr k9a) gX5_saveState_X5_fails rfl (by decide +kernel) rfl (by decide) k9a (by decide) (cl_6 _ _ _ _) rfl dX5_saveState_16 rfl (Nat.le_of_ble_eq_true rfl) (by decide) ?_
    intro v16 z16 hp16
    obtain ⟨rfl, rfl⟩ := hp16
    exact v_iret hG hR dX5_saveState_19 (by first | exact Or.inl ⟨by rw [i3v, show x2.toNat = 62 by omega], by omega, congrFun e170 57⟩ | exact Or.inr ⟨rfl, by omega⟩)

set_option maxHeartbeats 4000000 in
set_option maxRecDepth 100000 in
theorem c_X5_loadState {l : Launch} {D : va_G} {cA : Nat → ClassId} {r : Nat → Nat} {z : Zt} {w : Zt} {i : Int} (hr : Inj r) (k9a : kd 169 = 6) (hw : w = zup z 169 5 0) (hst : 0 ≤ w 169 2 ∧ w 169 2 ≤ 6) (hB : ∀ i : Nat, i < 2 → 0 ≤ w 173 i ∧ w 173 i ≤ 1) (hr_i : -2147483648 ≤ i ∧ i < 2147483648) : Ki l D cA r yX5_loadState wsX5_loadState 1 22 z [.ref (r 169), .int (iN i)] (fun v z1 => (zset (recM w) 170 (fcp (w 170) (w 172) 0 (62 * i.toNat) 62) = z1 ∧ (0 ≤ i ∧ i < 2) ∧ w 173 i.toNat ≠ 0 ∧ v = w 172 (62 * i.toNat + 57)) ∨ (zup w 169 5 1 = z1 ∧ ¬ (0 ≤ i ∧ i < 2)) ∨ (zup w 169 5 2 = z1 ∧ (0 ≤ i ∧ i < 2) ∧ w 173 i.toNat = 0)) := by
  have iW5 : ∀ w ∈ u_ws RX5 TX5 10, w ∈ wsX5_loadState := by decide +kernel
  have f7 : Cond.fieldLink RX5 7 (TX5 0).1 (TX5 0).2.1 (TX5 0).2.2.1 ∈ wsX5_loadState := by decide +kernel
  have f16 : Cond.fieldLink RX5 16 (TX5 3).1 (TX5 3).2.1 (TX5 3).2.2.1 ∈ wsX5_loadState := by decide +kernel
  have f19 : Cond.fieldLink RX5 19 (TX5 4).1 (TX5 4).2.1 (TX5 4).2.2.1 ∈ wsX5_loadState := by decide +kernel
  have f29 : Cond.fieldLink RX5 29 (TX5 5).1 (TX5 5).2.1 (TX5 5).2.2.1 ∈ wsX5_loadState := by decide +kernel
  have e170 : recM w 170 = w 170 := recM_o (by decide) (by decide)
  have e172 : recM w 172 = w 172 := recM_o (by decide) (by decide)
  refine Ki_of [(0, _), (1, _)] hr (by decide) rfl rfl (Nat.le_of_ble_eq_true rfl) rfl (fun Γ hG hR => ?_)
  refine v_aload_n hG dX5_loadState_0 0 rfl ?_
  refine v_iconst hG dX5_loadState_1 ?_
  refine v_putf (ci := 5) (k := 5) hG iW5 tyX5_ok nmX5 f29 rfl (by decide) rfl rfl k9a (by decide) (cl_6 _ _ _ _) (Nat.le_of_ble_eq_true rfl) rfl dX5_loadState_2 ?_
  rw [← hw]
  refine v_iload_n hG dX5_loadState_5 1 rfl ?_
  refine v_iconst hG dX5_loadState_6 ?_
  refine v_iconst hG dX5_loadState_7 ?_
  refine v_callSi (n := 3) hG (c_X5_in hr (by omega) (by omega) (by omega)) gX5_loadState_X5_in rfl (by decide +kernel) rfl (by decide) dX5_loadState_8 rfl (Nat.le_of_ble_eq_true rfl) (by decide) ?_
  intro v8 z8 hp8
  obtain ⟨rfl, hv8⟩ := hp8
  have hb8 := ind_v hv8
  refine v_if_ne hG 20 (by omega) dX5_loadState_11 (by decide) (fun h11 => ?_) (fun h11 => ?_)
  · have hbb := hB i.toNat (by omega)
    refine v_aload_n hG dX5_loadState_20 0 rfl ?_
    refine v_getf (ci := 5) (k := 4) hG iW5 f19 rfl (by decide) k9a (by decide) (cl_6 _ _ _ _) rfl dX5_loadState_21 ?_
    refine v_iload_n hG dX5_loadState_24 1 rfl ?_
    refine v_zald hG k_173 (by omega) dX5_loadState_25 ?_
    refine v_if_ne hG 35 (by omega) dX5_loadState_26 (by decide) (fun h26 => ?_) (fun h26 => ?_)
    · refine v_aload_n hG dX5_loadState_35 0 rfl ?_
      refine v_callVv (n := 0) (ci := 5) hG (c_X5_record hr k9a (by omega)) gX5_loadState_X5_record rfl (by decide +kernel) rfl (by decide) k9a (by decide) (cl_6 _ _ _ _) rfl dX5_loadState_36 rfl (Nat.le_of_ble_eq_true rfl) (by decide) ?_
      intro z36 hp36
      obtain rfl := hp36
      refine v_iconst hG dX5_loadState_39 ?_
      refine v_istore_n hG [(0, _), (1, _), (2, _)] dX5_loadState_40 (by decide) rfl ?_
      have L41 : ∀ (n : Nat), ∀ (x2 : Int) (z1 : Zt), (0 ≤ x2 ∧ x2 ≤ 62 ∧ z1 = zset (recM w) 170 (fcp (w 170) (w 172) 0 (62 * i.toNat) x2.toNat)) → (62 - x2 + 1).toNat ≤ n → V Γ z1 0 0 [(0, .ref (r 169)), (1, .int (iN i)), (2, .int (iN x2))] 41 [] := by
        intro n
        induction n with
        | zero =>
          intro x2 z1 hI hm
          obtain ⟨i1, i2, i3v⟩ := hI
          exact absurd hm (by omega)
        | succ n ih41 =>
          intro x2 z1 hI hm
          obtain ⟨i1, i2, i3v⟩ := hI
          have e9 : z1 172 = w 172 := by
            rw [i3v]
            exact e172
          refine v_iload_n hG dX5_loadState_41 2 rfl ?_
          refine v_bipush hG dX5_loadState_42 (by decide) ?_
          refine v_icmp_ge hG 70 (by omega) (by omega) dX5_loadState_44 (by decide) (fun h44 => ?_) (fun h44 => ?_)
          · refine v_aload_n hG dX5_loadState_70 0 rfl ?_
            refine v_getf (ci := 5) (k := 0) hG iW5 f7 rfl (by decide) k9a (by decide) (cl_6 _ _ _ _) rfl dX5_loadState_71 ?_
            refine v_bipush hG dX5_loadState_74 (by decide) ?_
            refine v_iald hG k_170 (by decide) (cl_162 _ _ _ _) (by decide) (by omega) dX5_loadState_76 ?_
            exact v_iret hG hR dX5_loadState_77 (by first | exact Or.inl ⟨by rw [i3v, show x2.toNat = 62 by omega], by omega, by omega, by rw [i3v, zset_at, show x2.toNat = 62 by omega]; unfold fcp; rw [if_pos (by decide)]; exact congrArg (w 172) (by omega)⟩ | exact Or.inr (Or.inl ⟨rfl, by omega⟩) | exact Or.inr (Or.inr ⟨rfl, by omega⟩))
          · refine v_aload_n hG dX5_loadState_47 0 rfl ?_
            refine v_getf (ci := 5) (k := 0) hG iW5 f7 rfl (by decide) k9a (by decide) (cl_6 _ _ _ _) rfl dX5_loadState_48 ?_
            refine v_iload_n hG dX5_loadState_51 2 rfl ?_
            refine v_aload_n hG dX5_loadState_52 0 rfl ?_
            refine v_getf (ci := 5) (k := 3) hG iW5 f16 rfl (by decide) k9a (by decide) (cl_6 _ _ _ _) rfl dX5_loadState_53 ?_
            refine v_bipush hG dX5_loadState_56 (by decide) ?_
            refine v_iload_n hG dX5_loadState_58 1 rfl ?_
            refine v_imul hG dX5_loadState_59 ?_
            refine v_iload_n hG dX5_loadState_60 2 rfl ?_
            refine v_iadd hG dX5_loadState_61 ?_
            refine v_iald hG k_172 (by decide) (cl_224 _ _ _ _) (by decide) (by omega) dX5_loadState_62 ?_
            refine v_iast hG k_170 (by decide) (cl_162 _ _ _) (by decide) (by omega) dX5_loadState_63 ?_
            refine v_iinc hG [(0, _), (1, _), (2, _)] dX5_loadState_64 2 rfl (by decide) rfl ?_
            refine v_goto hG 41 dX5_loadState_67 (by decide) ?_
            refine ih41 _ _ ?_ (by omega)
            refine ⟨by omega, by omega, ?_⟩
            rw [e9, i3v, zup_zset, show (62 * i + x2).toNat = 62 * i.toNat + x2.toNat by omega, show (x2 + 1).toNat = x2.toNat + 1 by omega]
            congr 1
            have h9 := fcp_s (w 170) (w 172) 0 (62 * i.toNat) x2.toNat
            rw [Nat.zero_add] at h9
            exact h9
      exact L41 _ _ _ ⟨by omega, by omega, by rw [show (0 : Int).toNat = 0 from rfl, fcp_0, ← e170]; exact (zset_same _ 170).symm⟩ (Nat.le_refl _)
    · refine v_aload_n hG dX5_loadState_29 0 rfl ?_
      refine v_iconst hG dX5_loadState_30 ?_
      refine v_callVi (n := 1) (ci := 5) hG (c_X5_fails hr k9a) gX5_loadState_X5_fails rfl (by decide +kernel) rfl (by decide) k9a (by decide) (cl_6 _ _ _ _) rfl dX5_loadState_31 rfl (Nat.le_of_ble_eq_true rfl) (by decide) ?_
      intro v31 z31 hp31
      obtain ⟨rfl, rfl⟩ := hp31
      exact v_iret hG hR dX5_loadState_34 (by first | exact Or.inl ⟨by rw [i3v, show x2.toNat = 62 by omega], by omega, by omega, by rw [i3v, zset_at, show x2.toNat = 62 by omega]; unfold fcp; rw [if_pos (by decide)]; exact congrArg (w 172) (by omega)⟩ | exact Or.inr (Or.inl ⟨rfl, by omega⟩) | exact Or.inr (Or.inr ⟨rfl, by omega⟩))
  · refine v_aload_n hG dX5_loadState_14 0 rfl ?_
    refine v_iconst hG dX5_loadState_15 ?_
    refine v_callVi (n := 1) (ci := 5) hG (c_X5_fails hr k9a) gX5_loadState_X5_fails rfl (by decide +kernel) rfl (by decide) k9a (by decide) (cl_6 _ _ _ _) rfl dX5_loadState_16 rfl (Nat.le_of_ble_eq_true rfl) (by decide) ?_
    intro v16 z16 hp16
    obtain ⟨rfl, rfl⟩ := hp16
    exact v_iret hG hR dX5_loadState_19 (by first | exact Or.inl ⟨by rw [i3v, show x2.toNat = 62 by omega], by omega, by omega, by rw [i3v, zset_at, show x2.toNat = 62 by omega]; unfold fcp; rw [if_pos (by decide)]; exact congrArg (w 172) (by omega)⟩ | exact Or.inr (Or.inl ⟨rfl, by omega⟩) | exact Or.inr (Or.inr ⟨rfl, by omega⟩))

