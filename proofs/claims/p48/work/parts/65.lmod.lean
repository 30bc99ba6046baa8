set_option maxHeartbeats 4000000 in
set_option maxRecDepth 100000 in
theorem c_L_low {l : Launch} {D : va_G} {cA : Nat → ClassId} {r : Nat → Nat} {z : Zt} {x n : Int} (hr : Inj r) (hn : 0 < n ∧ n < 2147483648) : Ki l D cA r yL_low wsL_low 0 0 z [.int (iN x), .int (iN n)] (fun v z1 => z = z1 ∧ v = lo x n ∧ 0 ≤ lo x n ∧ lo x n < n) := by
  have hlb := lw_bd x
  have hlo := lo_bd x hn.1
  refine Ki_of [(0, _), (1, _)] hr (by decide) rfl rfl (Nat.le_of_ble_eq_true rfl) rfl (fun Γ hG hR => ?_)
  refine v_iload_n hG dL_low_0 0 rfl ?_
  refine v_ldc (v := 2147483647) hG (by decide +kernel) dL_low_1 ?_
  refine v_iand0 hG dL_low_3 ?_
  refine v_eqi hG (iN_of _).symm ?_
  refine v_eqi hG (y := iN (lw x)) rfl ?_
  refine v_iload_n hG dL_low_4 1 rfl ?_
  refine v_irem hG (by omega) (by omega) dL_low_5 ?_
  exact v_iret hG hR dL_low_6 ⟨rfl, rfl, hlo.1, hlo.2⟩

set_option maxHeartbeats 4000000 in
set_option maxRecDepth 100000 in
theorem c_L_length {l : Launch} {D : va_G} {cA : Nat → ClassId} {r : Nat → Nat} {z : Zt} {t m : Int} (hr : Inj r) (ht : t = 0 ∨ t = 1) (hm : 0 ≤ m ∧ m ≤ 100) : Ki l D cA r yL_length wsL_length 0 0 z [.int (iN t), .int (iN m)] (fun v z1 => z = z1 ∧ v = mlen (1 - t) m) := by
  refine Ki_of [(0, _), (1, _)] hr (by decide) rfl rfl (Nat.le_of_ble_eq_true rfl) rfl (fun Γ hG hR => ?_)
  refine v_iload_n hG dL_length_0 0 rfl ?_
  refine v_iconst hG dL_length_1 ?_
  refine v_icmp_ne hG 10 (by omega) (by omega) dL_length_2 (by decide) (fun h2 => ?_) (fun h2 => ?_)
  · refine v_bipush hG dL_length_10 (by decide) ?_
    refine v_iload_n hG dL_length_12 1 rfl ?_
    refine v_iconst hG dL_length_13 ?_
    refine v_irem hG (by omega) (by omega) dL_length_14 ?_
    refine v_isub hG dL_length_15 ?_
    exact v_iret hG hR dL_length_16 ⟨rfl, by unfold mlen; first | (rw [if_pos (by omega)]) | (rw [if_neg (by omega)]; split <;> omega)⟩
  · refine v_bipush hG dL_length_5 (by decide) ?_
    refine v_goto hG 16 dL_length_7 (by decide) ?_
    exact v_iret hG hR dL_length_16 ⟨rfl, by unfold mlen; first | (rw [if_pos (by omega)]) | (rw [if_neg (by omega)]; split <;> omega)⟩

set_option maxHeartbeats 4000000 in
set_option maxRecDepth 100000 in
theorem c_L_date {l : Launch} {D : va_G} {cA : Nat → ClassId} {r : Nat → Nat} {z : Zt} {t d : Int} (hr : Inj r) (ht : t = 0 ∨ t = 1) (hg : MG (rho z)) (hd : 0 ≤ d ∧ d ≤ 1000000) : Ki l D cA r yL_date wsL_date 1 21 z [.ref (r 169), .int (iN t), .int (iN d)] (fun v z1 => z = z1 ∧ dtV (1 - t) (calM (rho z) t d) v) := by
  obtain ⟨hn0, hn3, hk, hsr⟩ := id (hg t ht)
  have hcb := calM_bd hg ht d
  have hyl := yl_bd (1 - t)
  obtain ⟨C, hC⟩ : ∃ C, C = calM (rho z) t d := ⟨_, rfl⟩
  rw [← hC] at hcb
  refine Ki_of [(0, _), (1, _), (2, _)] hr (by decide) rfl rfl (Nat.le_of_ble_eq_true rfl) rfl (fun Γ hG hR => ?_)
  refine v_iload_n hG dL_date_0 2 rfl ?_
  refine v_istore_n hG [(0, _), (1, _), (2, _), (3, _)] dL_date_1 (by decide) rfl ?_
  refine v_iconst hG dL_date_2 ?_
  refine v_istore hG [(0, _), (1, _), (2, _), (3, _), (4, _)] dL_date_3 (by decide) rfl ?_
  have L5 : ∀ (n : Nat), ∀ (x3 x4 : Int), (0 ≤ x4 ∧ x4 ≤ mN (rho z) t ∧ x3 = calN (mD (rho z) t) (mL (rho z) t) d x4.toNat) → (mN (rho z) t - x4 + 1).toNat ≤ n → V Γ z 0 0 [(0, .ref (r 169)), (1, .int (iN t)), (2, .int (iN d)), (3, .int (iN x3)), (4, .int (iN x4))] 5 [] := by
    intro n
    induction n with
    | zero =>
      intro x3 x4 hI hm
      obtain ⟨i1, i2, i3v⟩ := hI
      exact absurd hm (by omega)
    | succ n ih5 =>
      intro x3 x4 hI hm
      obtain ⟨i1, i2, i3v⟩ := hI
      refine v_iload hG dL_date_5 4 rfl ?_
      refine v_aload_n hG dL_date_7 0 rfl ?_
      refine v_bipush hG dL_date_8 (by decide) ?_
      refine v_iload_n hG dL_date_10 1 rfl ?_
      refine v_imul hG dL_date_11 ?_
      refine v_iald hG k_169 (by decide) (cl_114 _ _ _ _) (by decide) (by omega) dL_date_12 ?_
      rw [rh_N z ht]
      refine v_icmp_ge hG 59 (by omega) (by omega) dL_date_13 (by decide) (fun h13 => ?_) (fun h13 => ?_)
      · have L72 : ∀ (W : Int), W = yl (1 - t) → V Γ z 0 0 [(0, .ref (r 169)), (1, .int (iN t)), (2, .int (iN d)), (3, .int (iN x3))] 72 [.int (iN W)] := by
          intro W hI
          subst hI
          have ec : x3 = C := by rw [hC, i3v, calM, show x4 = mN (rho z) t by omega]
          refine v_istore hG [(0, _), (1, _), (2, _), (3, _), (4, _)] dL_date_72 (by decide) rfl ?_
          refine v_iconst hG dL_date_74 ?_
          refine v_istore hG [(0, _), (1, _), (2, _), (3, _), (4, _), (5, _)] dL_date_75 (by decide) rfl ?_
          have L77 : ∀ (n : Nat), ∀ (y3 y5 : Int), (1 ≤ y5 ∧ 0 ≤ y3 ∧ C = y3 + (y5 - 1) * yl (1 - t) ∧ y3 ≤ C) → (y3 + 1).toNat ≤ n → V Γ z 0 0 [(0, .ref (r 169)), (1, .int (iN t)), (2, .int (iN d)), (3, .int (iN y3)), (4, .int (iN (yl (1 - t)))), (5, .int (iN y5))] 77 [] := by
            intro n
            induction n with
            | zero =>
              intro y3 y5 hI hm
              obtain ⟨j1, j2, j3, j4⟩ := hI
              exact absurd hm (by omega)
            | succ n ih77 =>
              intro y3 y5 hI hm
              obtain ⟨j1, j2, j3, j4⟩ := hI
              refine v_iload_n hG dL_date_77 3 rfl ?_
              refine v_iload hG dL_date_78 4 rfl ?_
              refine v_icmp_lt hG 94 (by omega) (by omega) dL_date_80 (by decide) (fun h80 => ?_) (fun h80 => ?_)
              · have hu := (Int.ediv_emod_unique (a := C) (b := yl (1 - t)) (r := y3) (q := y5 - 1) (by omega)).mpr ⟨by rw [Int.mul_comm]; omega, by omega, by omega⟩
                refine v_iconst hG dL_date_94 ?_
                refine v_istore hG [(0, _), (1, _), (2, _), (3, _), (4, _), (5, _), (6, _)] dL_date_95 (by decide) rfl ?_
                have L97 : ∀ (n : Nat), ∀ (w3 w6 : Int), (1 ≤ w6 ∧ w6 ≤ 12 ∧ 0 ≤ w3 ∧ w3 = C % yl (1 - t) - mbef (1 - t) w6) → (13 - w6).toNat ≤ n → V Γ z 0 0 [(0, .ref (r 169)), (1, .int (iN t)), (2, .int (iN d)), (3, .int (iN w3)), (4, .int (iN (yl (1 - t)))), (5, .int (iN y5)), (6, .int (iN w6))] 97 [] := by
                  intro n
                  induction n with
                  | zero =>
                    intro w3 w6 hI hm
                    obtain ⟨g1, g2, g3, g4⟩ := hI
                    exact absurd hm (by omega)
                  | succ n ih97 =>
                    intro w3 w6 hI hm
                    obtain ⟨g1, g2, g3, g4⟩ := hI
                    have hms := mbef_s (a := 1 - t) (m := w6) g1
                    have h12 : w6 = 12 → mbef (1 - t) (w6 + 1) = yl (1 - t) := fun q => by rw [q]; exact mbef_13 (1 - t)
                    have hlb := mlen_bd (1 - t) w6
                    have hmb := mbef_bd (a := 1 - t) g1
                    refine v_iload_n hG dL_date_97 3 rfl ?_
                    refine v_iload_n hG dL_date_98 1 rfl ?_
                    refine v_iload hG dL_date_99 6 rfl ?_
                    refine v_callSi (n := 2) hG (c_L_length hr ht (by omega)) gL_date_L_length rfl (by decide +kernel) rfl (by decide) dL_date_101 rfl (Nat.le_of_ble_eq_true rfl) (by decide) ?_
                    intro v101 z101 hp101
                    obtain ⟨rfl, rfl⟩ := hp101
                    refine v_icmp_lt hG 122 (by omega) (by omega) dL_date_104 (by decide) (fun h104 => ?_) (fun h104 => ?_)
                    · refine v_sipush hG dL_date_122 (by decide) ?_
                      refine v_iload hG dL_date_125 5 rfl ?_
                      refine v_imul hG dL_date_127 ?_
                      refine v_bipush hG dL_date_128 (by decide) ?_
                      refine v_iload hG dL_date_130 6 rfl ?_
                      refine v_imul hG dL_date_132 ?_
                      refine v_iadd hG dL_date_133 ?_
                      refine v_iload_n hG dL_date_134 3 rfl ?_
                      refine v_iadd hG dL_date_135 ?_
                      refine v_iconst hG dL_date_136 ?_
                      refine v_iadd hG dL_date_137 ?_
                      exact v_iret hG hR dL_date_138 ⟨rfl, by rw [← hC]; exact ⟨w6, ⟨g1, g2, by omega, by omega⟩, by rw [hu.1]; omega⟩⟩
                    · refine v_iload_n hG dL_date_107 3 rfl ?_
                      refine v_iload_n hG dL_date_108 1 rfl ?_
                      refine v_iload hG dL_date_109 6 rfl ?_
                      refine v_callSi (n := 2) hG (c_L_length hr ht (by omega)) gL_date_L_length rfl (by decide +kernel) rfl (by decide) dL_date_111 rfl (Nat.le_of_ble_eq_true rfl) (by decide) ?_
                      intro v111 z111 hp111
                      obtain ⟨rfl, rfl⟩ := hp111
                      refine v_isub hG dL_date_114 ?_
                      refine v_istore_n hG [(0, _), (1, _), (2, _), (3, _), (4, _), (5, _), (6, _)] dL_date_115 (by decide) rfl ?_
                      refine v_iinc hG [(0, _), (1, _), (2, _), (3, _), (4, _), (5, _), (6, _)] dL_date_116 6 rfl (by decide) rfl ?_
                      refine v_goto hG 97 dL_date_119 (by decide) ?_
                      exact ih97 _ _ ⟨by omega, by omega, by omega, by omega⟩ (by omega)
                exact L97 _ _ _ ⟨by omega, by omega, by omega, by rw [hu.2, mbef_1]; omega⟩ (Nat.le_refl _)
              · refine v_iload_n hG dL_date_83 3 rfl ?_
                refine v_iload hG dL_date_84 4 rfl ?_
                refine v_isub hG dL_date_86 ?_
                refine v_istore_n hG [(0, _), (1, _), (2, _), (3, _), (4, _), (5, _)] dL_date_87 (by decide) rfl ?_
                refine v_iinc hG [(0, _), (1, _), (2, _), (3, _), (4, _), (5, _)] dL_date_88 5 rfl (by decide) rfl ?_
                refine v_goto hG 77 dL_date_91 (by decide) ?_
                refine ih77 _ _ ?_ (by omega)
                have e9 : (y5 + 1 - 1) * yl (1 - t) = (y5 - 1) * yl (1 - t) + yl (1 - t) := by rw [show y5 + 1 - 1 = (y5 - 1) + 1 by omega, Int.add_mul, Int.one_mul]
                exact ⟨by omega, by omega, by omega, by omega⟩
          exact L77 _ _ _ ⟨by omega, by omega, by omega, by omega⟩ (Nat.le_refl _)
        refine v_iload_n hG dL_date_59 1 rfl ?_
        refine v_if_ne hG 69 (by omega) dL_date_60 (by decide) (fun h60 => ?_) (fun h60 => ?_)
        · refine v_sipush hG dL_date_69 (by decide) ?_
          refine v_sub hG [(0, _), (1, _), (2, _), (3, _)] [0, 1, 2, 3] rfl ?_
          exact L72 _ (by unfold yl; first | (rw [if_pos (by omega)]) | (rw [if_neg (by omega)]))
        · refine v_sipush hG dL_date_63 (by decide) ?_
          refine v_goto hG 72 dL_date_66 (by decide) ?_
          refine v_sub hG [(0, _), (1, _), (2, _), (3, _)] [0, 1, 2, 3] rfl ?_
          exact L72 _ (by unfold yl; first | (rw [if_pos (by omega)]) | (rw [if_neg (by omega)]))
      · have hb := hk x4.toNat (by omega)
        refine v_iload_n hG dL_date_16 3 rfl ?_
        refine v_aload_n hG dL_date_17 0 rfl ?_
        refine v_bipush hG dL_date_18 (by decide) ?_
        refine v_iload_n hG dL_date_20 1 rfl ?_
        refine v_imul hG dL_date_21 ?_
        refine v_iconst hG dL_date_22 ?_
        refine v_iadd hG dL_date_23 ?_
        refine v_iconst hG dL_date_24 ?_
        refine v_iload hG dL_date_25 4 rfl ?_
        refine v_imul hG dL_date_27 ?_
        refine v_iadd hG dL_date_28 ?_
        refine v_iald hG k_169 (by decide) (cl_114 _ _ _ _) (by decide) (by omega) dL_date_29 ?_
        rw [rh_D z ht (by omega)]
        refine v_iload_n hG dL_date_30 2 rfl ?_
        refine v_icmp_ge hG 50 (by omega) (by omega) dL_date_31 (by decide) (fun h31 => ?_) (fun h31 => ?_)
        · refine v_iconst hG dL_date_50 ?_
          refine v_iadd hG dL_date_51 ?_
          refine v_istore_n hG [(0, _), (1, _), (2, _), (3, _), (4, _)] dL_date_52 (by decide) rfl ?_
          refine v_iinc hG [(0, _), (1, _), (2, _), (3, _), (4, _)] dL_date_53 4 rfl (by decide) rfl ?_
          refine v_goto hG 5 dL_date_56 (by decide) ?_
          exact ih5 _ _ (by refine ⟨by omega, by omega, ?_⟩; rw [show (x4 + 1).toNat = x4.toNat + 1 by omega]; simp only [calN]; split <;> omega) (by omega)
        · refine v_aload_n hG dL_date_34 0 rfl ?_
          refine v_bipush hG dL_date_35 (by decide) ?_
          refine v_iload_n hG dL_date_37 1 rfl ?_
          refine v_imul hG dL_date_38 ?_
          refine v_iconst hG dL_date_39 ?_
          refine v_iadd hG dL_date_40 ?_
          refine v_iconst hG dL_date_41 ?_
          refine v_iload hG dL_date_42 4 rfl ?_
          refine v_imul hG dL_date_44 ?_
          refine v_iadd hG dL_date_45 ?_
          refine v_iald hG k_169 (by decide) (cl_114 _ _ _ _) (by decide) (by omega) dL_date_46 ?_
          rw [rh_L z ht (by omega)]
          refine v_goto hG 51 dL_date_47 (by decide) ?_
          refine v_iadd hG dL_date_51 ?_
          refine v_istore_n hG [(0, _), (1, _), (2, _), (3, _), (4, _)] dL_date_52 (by decide) rfl ?_
          refine v_iinc hG [(0, _), (1, _), (2, _), (3, _), (4, _)] dL_date_53 4 rfl (by decide) rfl ?_
          refine v_goto hG 5 dL_date_56 (by decide) ?_
          exact ih5 _ _ (by refine ⟨by omega, by omega, ?_⟩; rw [show (x4 + 1).toNat = x4.toNat + 1 by omega]; simp only [calN]; split <;> omega) (by omega)
  exact L5 _ _ _ ⟨by omega, by omega, rfl⟩ (Nat.le_refl _)

set_option maxHeartbeats 4000000 in
set_option maxRecDepth 100000 in
theorem c_L_due {l : Launch} {D : va_G} {cA : Nat → ClassId} {r : Nat → Nat} {z : Zt} {f d : Int} (hr : Inj r) (hM : MI (rho z)) (hf : 0 ≤ f ∧ f < rho z 14) (hd : -100000 ≤ d ∧ d ≤ 100000) : Ki l D cA r yL_due wsL_due 2 47 z [.ref (r 169), .ref (r 170), .int (iN f), .int (iN d)] (fun v z1 => z = z1 ∧ v = ind (duM (rho z) f d)) := by
  obtain ⟨hG1, h14, hFe, h55, h56, h57⟩ := id hM
  have hF := hFe f hf.1 hf.2
  obtain ⟨hF0, hF1, hF2, hF3, hF4, hF5, hF6⟩ := id hF
  refine Ki_of [(0, _), (1, _), (2, _), (3, _)] hr (by decide) rfl rfl (Nat.le_of_ble_eq_true rfl) rfl (fun Γ hG hR => ?_)
  refine v_aload_n hG dL_due_0 1 rfl ?_
  refine v_iconst hG dL_due_1 ?_
  refine v_iload_n hG dL_due_2 2 rfl ?_
  refine v_imul hG dL_due_3 ?_
  refine v_iald hG k_170 (by decide) (cl_140 _ _ _ _) (by decide) (by omega) dL_due_4 ?_
  rw [rh_F0 z (by omega)]
  refine v_istore hG [(0, _), (1, _), (2, _), (3, _), (4, _)] dL_due_5 (by decide) rfl ?_
  refine v_bipush hG dL_due_7 (by decide) ?_
  refine v_aload_n hG dL_due_9 1 rfl ?_
  refine v_iconst hG dL_due_10 ?_
  refine v_iload_n hG dL_due_11 2 rfl ?_
  refine v_imul hG dL_due_12 ?_
  refine v_iconst hG dL_due_13 ?_
  refine v_iadd hG dL_due_14 ?_
  refine v_iald hG k_170 (by decide) (cl_140 _ _ _ _) (by decide) (by omega) dL_due_15 ?_
  rw [rh_F z (by omega) (by omega)]
  refine v_imul hG dL_due_16 ?_
  refine v_aload_n hG dL_due_17 1 rfl ?_
  refine v_iconst hG dL_due_18 ?_
  refine v_iload_n hG dL_due_19 2 rfl ?_
  refine v_imul hG dL_due_20 ?_
  refine v_iconst hG dL_due_21 ?_
  refine v_iadd hG dL_due_22 ?_
  refine v_iald hG k_170 (by decide) (cl_140 _ _ _ _) (by decide) (by omega) dL_due_23 ?_
  rw [rh_F z (by omega) (by omega)]
  refine v_iadd hG dL_due_24 ?_
  refine v_istore hG [(0, _), (1, _), (2, _), (3, _), (4, _), (5, _)] dL_due_25 (by decide) rfl ?_
  refine v_iload_n hG dL_due_27 3 rfl ?_
  refine v_if_ge hG 33 (by omega) dL_due_28 (by decide) (fun h28 => ?_) (fun h28 => ?_)
  · refine v_aload_n hG dL_due_33 0 rfl ?_
    refine v_iload hG dL_due_34 4 rfl ?_
    refine v_iload_n hG dL_due_36 3 rfl ?_
    refine v_callSi (n := 3) hG (c_L_date hr hF0 hG1 (by omega)) gL_due_L_date rfl (by decide +kernel) rfl (by decide) dL_due_37 rfl (Nat.le_of_ble_eq_true rfl) (by decide) ?_
    intro v37 z37 hp37
    obtain ⟨rfl, hx37⟩ := hp37
    have hb37 := dtV_bd hx37 (MI_cal hG1 hF0 (d := d) (by omega))
    refine v_istore hG [(0, _), (1, _), (2, _), (3, _), (4, _), (5, _), (6, _)] dL_due_40 (by decide) rfl ?_
    refine v_iload_n hG dL_due_42 3 rfl ?_
    refine v_if_ne hG 63 (by omega) dL_due_43 (by decide) (fun h43 => ?_) (fun h43 => ?_)
    · refine v_aload_n hG dL_due_63 0 rfl ?_
      refine v_iload hG dL_due_64 4 rfl ?_
      refine v_iload_n hG dL_due_66 3 rfl ?_
      refine v_iconst hG dL_due_67 ?_
      refine v_isub hG dL_due_68 ?_
      refine v_callSi (n := 3) hG (c_L_date hr hF0 hG1 (by omega)) gL_due_L_date rfl (by decide +kernel) rfl (by decide) dL_due_69 rfl (Nat.le_of_ble_eq_true rfl) (by decide) ?_
      intro v69 z69 hp69
      obtain ⟨rfl, hx69⟩ := hp69
      have hb69 := dtV_bd hx69 (MI_cal hG1 hF0 (d := d - 1) (by omega))
      refine v_istore hG [(0, _), (1, _), (2, _), (3, _), (4, _), (5, _), (6, _), (7, _)] dL_due_72 (by decide) rfl ?_
      refine v_iload hG dL_due_74 6 rfl ?_
      refine v_sipush hG dL_due_76 (by decide) ?_
      refine v_irem hG (by omega) (by omega) dL_due_79 ?_
      refine v_iload hG dL_due_80 5 rfl ?_
      refine v_icmp_lt hG 115 (by omega) (by omega) dL_due_82 (by decide) (fun h82 => ?_) (fun h82 => ?_)
      · refine v_iconst hG dL_due_115 ?_
        exact v_zret hG hR (by first | exact Or.inl rfl | exact Or.inr rfl | omega) dL_due_116 ⟨rfl, by have hdu := duM_dt hM hf (by omega) hx37 (fun _ => hx69); first | exact (ind_t (hdu.mpr (by omega))).symm | exact (ind_f (fun q => absurd (hdu.mp q) (by omega))).symm⟩
      · refine v_iload hG dL_due_85 7 rfl ?_
        refine v_sipush hG dL_due_87 (by decide) ?_
        refine v_idiv hG (by omega) (by omega) dL_due_90 ?_
        refine v_iload hG dL_due_91 6 rfl ?_
        refine v_sipush hG dL_due_93 (by decide) ?_
        refine v_idiv hG (by omega) (by omega) dL_due_96 ?_
        refine v_icmp_lt hG 111 (by omega) (by omega) dL_due_97 (by decide) (fun h97 => ?_) (fun h97 => ?_)
        · refine v_iconst hG dL_due_111 ?_
          refine v_goto hG 116 dL_due_112 (by decide) ?_
          exact v_zret hG hR (by first | exact Or.inl rfl | exact Or.inr rfl | omega) dL_due_116 ⟨rfl, by have hdu := duM_dt hM hf (by omega) hx37 (fun _ => hx69); first | exact (ind_t (hdu.mpr (by omega))).symm | exact (ind_f (fun q => absurd (hdu.mp q) (by omega))).symm⟩
        · refine v_iload hG dL_due_100 7 rfl ?_
          refine v_sipush hG dL_due_102 (by decide) ?_
          refine v_irem hG (by omega) (by omega) dL_due_105 ?_
          refine v_iload hG dL_due_106 5 rfl ?_
          refine v_icmp_ge hG 115 (by omega) (by omega) dL_due_108 (by decide) (fun h108 => ?_) (fun h108 => ?_)
          · refine v_iconst hG dL_due_115 ?_
            exact v_zret hG hR (by first | exact Or.inl rfl | exact Or.inr rfl | omega) dL_due_116 ⟨rfl, by have hdu := duM_dt hM hf (by omega) hx37 (fun _ => hx69); first | exact (ind_t (hdu.mpr (by omega))).symm | exact (ind_f (fun q => absurd (hdu.mp q) (by omega))).symm⟩
          · refine v_iconst hG dL_due_111 ?_
            refine v_goto hG 116 dL_due_112 (by decide) ?_
            exact v_zret hG hR (by first | exact Or.inl rfl | exact Or.inr rfl | omega) dL_due_116 ⟨rfl, by have hdu := duM_dt hM hf (by omega) hx37 (fun _ => hx69); first | exact (ind_t (hdu.mpr (by omega))).symm | exact (ind_f (fun q => absurd (hdu.mp q) (by omega))).symm⟩
    · refine v_iload hG dL_due_46 6 rfl ?_
      refine v_sipush hG dL_due_48 (by decide) ?_
      refine v_irem hG (by omega) (by omega) dL_due_51 ?_
      refine v_iload hG dL_due_52 5 rfl ?_
      refine v_icmp_lt hG 61 (by omega) (by omega) dL_due_54 (by decide) (fun h54 => ?_) (fun h54 => ?_)
      · refine v_iconst hG dL_due_61 ?_
        exact v_zret hG hR (by first | exact Or.inl rfl | exact Or.inr rfl | omega) dL_due_62 ⟨rfl, by have hdu := duM_dt (w := 0) hM hf (by omega) hx37 (fun q => absurd h43 q); first | exact (ind_t (hdu.mpr ⟨by omega, Or.inl h43⟩)).symm | exact (ind_f (fun q => absurd (hdu.mp q).1 (by omega))).symm⟩
      · refine v_iconst hG dL_due_57 ?_
        refine v_goto hG 62 dL_due_58 (by decide) ?_
        exact v_zret hG hR (by first | exact Or.inl rfl | exact Or.inr rfl | omega) dL_due_62 ⟨rfl, by have hdu := duM_dt (w := 0) hM hf (by omega) hx37 (fun q => absurd h43 q); first | exact (ind_t (hdu.mpr ⟨by omega, Or.inl h43⟩)).symm | exact (ind_f (fun q => absurd (hdu.mp q).1 (by omega))).symm⟩
  · refine v_iconst hG dL_due_31 ?_
    exact v_zret hG hR (by first | exact Or.inl rfl | exact Or.inr rfl | omega) dL_due_32 ⟨rfl, (ind_f (fun q => by have := q.1; omega)).symm⟩

set_option maxHeartbeats 4000000 in
set_option maxRecDepth 100000 in
theorem c_L_later {l : Launch} {D : va_G} {cA : Nat → ClassId} {r : Nat → Nat} {z : Zt}  (hr : Inj r) (hM : MI (rho z)) : Ki l D cA r yL_later wsL_later 0 0 z [.ref (r 171)] (fun v z1 => z = z1 ∧ v = laM (rho z)) := by
  obtain ⟨hG1, h14, hFe, h55, h56, h57⟩ := id hM
  refine Ki_of [(0, _)] hr (by decide) rfl rfl (Nat.le_of_ble_eq_true rfl) rfl (fun Γ hG hR => ?_)
  refine v_aload_n hG dL_later_0 0 rfl ?_
  refine v_iconst hG dL_later_1 ?_
  refine v_iald hG k_171 (by decide) (cl_108 _ _ _ _) (by decide) (by omega) dL_later_2 ?_
  rw [rho_55 z]
  refine v_bipush hG dL_later_3 (by decide) ?_
  refine v_icmp_ne hG 12 (by omega) (by omega) dL_later_5 (by decide) (fun h5 => ?_) (fun h5 => ?_)
  · refine v_aload_n hG dL_later_12 0 rfl ?_
    refine v_iconst hG dL_later_13 ?_
    refine v_iald hG k_171 (by decide) (cl_108 _ _ _ _) (by decide) (by omega) dL_later_14 ?_
    rw [rho_55 z]
    exact v_iret hG hR dL_later_15 ⟨rfl, by unfold laM; first | (rw [if_pos (by omega)]) | (rw [if_neg (by omega)])⟩
  · refine v_iconst hG dL_later_8 ?_
    refine v_goto hG 15 dL_later_9 (by decide) ?_
    exact v_iret hG hR dL_later_15 ⟨rfl, by unfold laM; first | (rw [if_pos (by omega)]) | (rw [if_neg (by omega)])⟩

set_option maxHeartbeats 4000000 in
set_option maxRecDepth 100000 in
theorem c_L_kept {l : Launch} {D : va_G} {cA : Nat → ClassId} {r : Nat → Nat} {z : Zt} {f d : Int} (hr : Inj r) (hM : MI (rho z)) (hf : 0 ≤ f ∧ f < rho z 14) (hd : 0 ≤ d ∧ d ≤ 30000) : Ki l D cA r yL_kept wsL_kept 3 74 z [.ref (r 169), .ref (r 170), .ref (r 171), .int (iN f), .int (iN d)] (fun v z1 => z = z1 ∧ v = ind (onM (rho z) f d)) := by
  obtain ⟨hG1, h14, hFe, h55, h56, h57⟩ := id hM
  have hF := hFe f hf.1 hf.2
  obtain ⟨hF0, hF1, hF2, hF3, hF4, hF5, hF6⟩ := id hF
  have hla := laM_bd hM
  refine Ki_of [(0, _), (1, _), (2, _), (3, _), (4, _)] hr (by decide) rfl rfl (Nat.le_of_ble_eq_true rfl) rfl (fun Γ hG hR => ?_)
  refine v_iload hG dL_kept_0 4 rfl ?_
  refine v_aload_n hG dL_kept_2 2 rfl ?_
  refine v_callSi (n := 1) hG (c_L_later hr hM) gL_kept_L_later rfl (by decide +kernel) rfl (by decide) dL_kept_3 rfl (Nat.le_of_ble_eq_true rfl) (by decide) ?_
  intro v3 z3 hp3
  obtain ⟨rfl, rfl⟩ := hp3
  refine v_isub hG dL_kept_6 ?_
  refine v_istore hG [(0, _), (1, _), (2, _), (3, _), (4, _), (5, _)] dL_kept_7 (by decide) rfl ?_
  refine v_aload_n hG dL_kept_9 0 rfl ?_
  refine v_aload_n hG dL_kept_10 1 rfl ?_
  refine v_iload_n hG dL_kept_11 3 rfl ?_
  refine v_iload hG dL_kept_12 4 rfl ?_
  refine v_callSi (n := 4) hG (c_L_due hr hM hf (by omega)) gL_kept_L_due rfl (by decide +kernel) rfl (by decide) dL_kept_14 rfl (Nat.le_of_ble_eq_true rfl) (by decide) ?_
  intro v14 z14 hp14
  obtain ⟨rfl, rfl⟩ := hp14
  refine v_if_eq hG 35 (by have h8 := ind_bd (duM (rho z) f d); omega) dL_kept_17 (by decide) (fun h17 => ?_) (fun h17 => ?_)
  · refine v_iload hG dL_kept_35 5 rfl ?_
    refine v_if_lt hG 70 (by omega) dL_kept_37 (by decide) (fun h37 => ?_) (fun h37 => ?_)
    · refine v_iconst hG dL_kept_70 ?_
      exact v_zret hG hR (by first | exact Or.inl rfl | exact Or.inr rfl | omega) dL_kept_71 ⟨rfl, by have hk9 := kept_on hM hf (show 0 ≤ d by omega); first
    | exact (ind_t (hk9.mpr (Or.inl ⟨ind_y rfl h17, h32⟩))).symm
    | exact (ind_t (hk9.mpr (Or.inr ⟨by omega, h52, ind_y rfl h63⟩))).symm
    | exact (ind_f (fun q9 => by rcases hk9.mp q9 with ⟨a9, b9⟩ | ⟨a9, b9, c9⟩ <;> first | exact ind_n rfl h17 a9 | exact b9 h32 | exact h52 b9 | exact ind_n rfl h63 c9 | omega)).symm⟩
    · refine v_iload hG dL_kept_40 5 rfl ?_
      refine v_bipush hG dL_kept_42 (by decide) ?_
      refine v_irem hG (by omega) (by omega) dL_kept_44 ?_
      refine v_aload_n hG dL_kept_45 1 rfl ?_
      refine v_iconst hG dL_kept_46 ?_
      refine v_iload_n hG dL_kept_47 3 rfl ?_
      refine v_imul hG dL_kept_48 ?_
      refine v_iconst hG dL_kept_49 ?_
      refine v_iadd hG dL_kept_50 ?_
      refine v_iald hG k_170 (by decide) (cl_140 _ _ _ _) (by decide) (by omega) dL_kept_51 ?_
      rw [rh_F z (by omega) (by omega)]
      refine v_icmp_ne hG 70 (by omega) (by omega) dL_kept_52 (by decide) (fun h52 => ?_) (fun h52 => ?_)
      · refine v_iconst hG dL_kept_70 ?_
        exact v_zret hG hR (by first | exact Or.inl rfl | exact Or.inr rfl | omega) dL_kept_71 ⟨rfl, by have hk9 := kept_on hM hf (show 0 ≤ d by omega); first
    | exact (ind_t (hk9.mpr (Or.inl ⟨ind_y rfl h17, h32⟩))).symm
    | exact (ind_t (hk9.mpr (Or.inr ⟨by omega, h52, ind_y rfl h63⟩))).symm
    | exact (ind_f (fun q9 => by rcases hk9.mp q9 with ⟨a9, b9⟩ | ⟨a9, b9, c9⟩ <;> first | exact ind_n rfl h17 a9 | exact b9 h32 | exact h52 b9 | exact ind_n rfl h63 c9 | omega)).symm⟩
      · refine v_aload_n hG dL_kept_55 0 rfl ?_
        refine v_aload_n hG dL_kept_56 1 rfl ?_
        refine v_iload_n hG dL_kept_57 3 rfl ?_
        refine v_iload hG dL_kept_58 5 rfl ?_
        refine v_callSi (n := 4) hG (c_L_due hr hM hf (by omega)) gL_kept_L_due rfl (by decide +kernel) rfl (by decide) dL_kept_60 rfl (Nat.le_of_ble_eq_true rfl) (by decide) ?_
        intro v60 z60 hp60
        obtain ⟨rfl, rfl⟩ := hp60
        refine v_if_eq hG 70 (by have h8 := ind_bd (duM (rho z) f (d - laM (rho z))); omega) dL_kept_63 (by decide) (fun h63 => ?_) (fun h63 => ?_)
        · refine v_iconst hG dL_kept_70 ?_
          exact v_zret hG hR (by first | exact Or.inl rfl | exact Or.inr rfl | omega) dL_kept_71 ⟨rfl, by have hk9 := kept_on hM hf (show 0 ≤ d by omega); first
    | exact (ind_t (hk9.mpr (Or.inl ⟨ind_y rfl h17, h32⟩))).symm
    | exact (ind_t (hk9.mpr (Or.inr ⟨by omega, h52, ind_y rfl h63⟩))).symm
    | exact (ind_f (fun q9 => by rcases hk9.mp q9 with ⟨a9, b9⟩ | ⟨a9, b9, c9⟩ <;> first | exact ind_n rfl h17 a9 | exact b9 h32 | exact h52 b9 | exact ind_n rfl h63 c9 | omega)).symm⟩
        · refine v_iconst hG dL_kept_66 ?_
          refine v_goto hG 71 dL_kept_67 (by decide) ?_
          exact v_zret hG hR (by first | exact Or.inl rfl | exact Or.inr rfl | omega) dL_kept_71 ⟨rfl, by have hk9 := kept_on hM hf (show 0 ≤ d by omega); first
    | exact (ind_t (hk9.mpr (Or.inl ⟨ind_y rfl h17, h32⟩))).symm
    | exact (ind_t (hk9.mpr (Or.inr ⟨by omega, h52, ind_y rfl h63⟩))).symm
    | exact (ind_f (fun q9 => by rcases hk9.mp q9 with ⟨a9, b9⟩ | ⟨a9, b9, c9⟩ <;> first | exact ind_n rfl h17 a9 | exact b9 h32 | exact h52 b9 | exact ind_n rfl h63 c9 | omega)).symm⟩
  · refine v_iload hG dL_kept_20 4 rfl ?_
    refine v_bipush hG dL_kept_22 (by decide) ?_
    refine v_irem hG (by omega) (by omega) dL_kept_24 ?_
    refine v_aload_n hG dL_kept_25 1 rfl ?_
    refine v_iconst hG dL_kept_26 ?_
    refine v_iload_n hG dL_kept_27 3 rfl ?_
    refine v_imul hG dL_kept_28 ?_
    refine v_iconst hG dL_kept_29 ?_
    refine v_iadd hG dL_kept_30 ?_
    refine v_iald hG k_170 (by decide) (cl_140 _ _ _ _) (by decide) (by omega) dL_kept_31 ?_
    rw [rh_F z (by omega) (by omega)]
    refine v_icmp_ne hG 66 (by omega) (by omega) dL_kept_32 (by decide) (fun h32 => ?_) (fun h32 => ?_)
    · refine v_iconst hG dL_kept_66 ?_
      refine v_goto hG 71 dL_kept_67 (by decide) ?_
      exact v_zret hG hR (by first | exact Or.inl rfl | exact Or.inr rfl | omega) dL_kept_71 ⟨rfl, by have hk9 := kept_on hM hf (show 0 ≤ d by omega); first
    | exact (ind_t (hk9.mpr (Or.inl ⟨ind_y rfl h17, h32⟩))).symm
    | exact (ind_t (hk9.mpr (Or.inr ⟨by omega, h52, ind_y rfl h63⟩))).symm
    | exact (ind_f (fun q9 => by rcases hk9.mp q9 with ⟨a9, b9⟩ | ⟨a9, b9, c9⟩ <;> first | exact ind_n rfl h17 a9 | exact b9 h32 | exact h52 b9 | exact ind_n rfl h63 c9 | omega)).symm⟩
    · refine v_iload hG dL_kept_35 5 rfl ?_
      refine v_if_lt hG 70 (by omega) dL_kept_37 (by decide) (fun h37 => ?_) (fun h37 => ?_)
      · refine v_iconst hG dL_kept_70 ?_
        exact v_zret hG hR (by first | exact Or.inl rfl | exact Or.inr rfl | omega) dL_kept_71 ⟨rfl, by have hk9 := kept_on hM hf (show 0 ≤ d by omega); first
    | exact (ind_t (hk9.mpr (Or.inl ⟨ind_y rfl h17, h32⟩))).symm
    | exact (ind_t (hk9.mpr (Or.inr ⟨by omega, h52, ind_y rfl h63⟩))).symm
    | exact (ind_f (fun q9 => by rcases hk9.mp q9 with ⟨a9, b9⟩ | ⟨a9, b9, c9⟩ <;> first | exact ind_n rfl h17 a9 | exact b9 h32 | exact h52 b9 | exact ind_n rfl h63 c9 | omega)).symm⟩
      · refine v_iload hG dL_kept_40 5 rfl ?_
        refine v_bipush hG dL_kept_42 (by decide) ?_
        refine v_irem hG (by omega) (by omega) dL_kept_44 ?_
        refine v_aload_n hG dL_kept_45 1 rfl ?_
        refine v_iconst hG dL_kept_46 ?_
        refine v_iload_n hG dL_kept_47 3 rfl ?_
        refine v_imul hG dL_kept_48 ?_
        refine v_iconst hG dL_kept_49 ?_
        refine v_iadd hG dL_kept_50 ?_
        refine v_iald hG k_170 (by decide) (cl_140 _ _ _ _) (by decide) (by omega) dL_kept_51 ?_
        rw [rh_F z (by omega) (by omega)]
        refine v_icmp_ne hG 70 (by omega) (by omega) dL_kept_52 (by decide) (fun h52 => ?_) (fun h52 => ?_)
        · refine v_iconst hG dL_kept_70 ?_
          exact v_zret hG hR (by first | exact Or.inl rfl | exact Or.inr rfl | omega) dL_kept_71 ⟨rfl, by have hk9 := kept_on hM hf (show 0 ≤ d by omega); first
    | exact (ind_t (hk9.mpr (Or.inl ⟨ind_y rfl h17, h32⟩))).symm
    | exact (ind_t (hk9.mpr (Or.inr ⟨by omega, h52, ind_y rfl h63⟩))).symm
    | exact (ind_f (fun q9 => by rcases hk9.mp q9 with ⟨a9, b9⟩ | ⟨a9, b9, c9⟩ <;> first | exact ind_n rfl h17 a9 | exact b9 h32 | exact h52 b9 | exact ind_n rfl h63 c9 | omega)).symm⟩
        · refine v_aload_n hG dL_kept_55 0 rfl ?_
          refine v_aload_n hG dL_kept_56 1 rfl ?_
          refine v_iload_n hG dL_kept_57 3 rfl ?_
          refine v_iload hG dL_kept_58 5 rfl ?_
          refine v_callSi (n := 4) hG (c_L_due hr hM hf (by omega)) gL_kept_L_due rfl (by decide +kernel) rfl (by decide) dL_kept_60 rfl (Nat.le_of_ble_eq_true rfl) (by decide) ?_
          intro v60 z60 hp60
          obtain ⟨rfl, rfl⟩ := hp60
          refine v_if_eq hG 70 (by have h8 := ind_bd (duM (rho z) f (d - laM (rho z))); omega) dL_kept_63 (by decide) (fun h63 => ?_) (fun h63 => ?_)
          · refine v_iconst hG dL_kept_70 ?_
            exact v_zret hG hR (by first | exact Or.inl rfl | exact Or.inr rfl | omega) dL_kept_71 ⟨rfl, by have hk9 := kept_on hM hf (show 0 ≤ d by omega); first
    | exact (ind_t (hk9.mpr (Or.inl ⟨ind_y rfl h17, h32⟩))).symm
    | exact (ind_t (hk9.mpr (Or.inr ⟨by omega, h52, ind_y rfl h63⟩))).symm
    | exact (ind_f (fun q9 => by rcases hk9.mp q9 with ⟨a9, b9⟩ | ⟨a9, b9, c9⟩ <;> first | exact ind_n rfl h17 a9 | exact b9 h32 | exact h52 b9 | exact ind_n rfl h63 c9 | omega)).symm⟩
          · refine v_iconst hG dL_kept_66 ?_
            refine v_goto hG 71 dL_kept_67 (by decide) ?_
            exact v_zret hG hR (by first | exact Or.inl rfl | exact Or.inr rfl | omega) dL_kept_71 ⟨rfl, by have hk9 := kept_on hM hf (show 0 ≤ d by omega); first
    | exact (ind_t (hk9.mpr (Or.inl ⟨ind_y rfl h17, h32⟩))).symm
    | exact (ind_t (hk9.mpr (Or.inr ⟨by omega, h52, ind_y rfl h63⟩))).symm
    | exact (ind_f (fun q9 => by rcases hk9.mp q9 with ⟨a9, b9⟩ | ⟨a9, b9, c9⟩ <;> first | exact ind_n rfl h17 a9 | exact b9 h32 | exact h52 b9 | exact ind_n rfl h63 c9 | omega)).symm⟩

set_option maxHeartbeats 4000000 in
set_option maxRecDepth 100000 in
theorem c_L_feasts {l : Launch} {D : va_G} {cA : Nat → ClassId} {r : Nat → Nat} {z : Zt} {d : Int} (hr : Inj r) (hM : MI (rho z)) (hd : 0 ≤ d ∧ d ≤ 30000) : Ki l D cA r yL_feasts wsL_feasts 4 99 z [.ref (r 169), .ref (r 170), .ref (r 171), .int (iN d)] (fun v z1 => z = z1 ∧ isSet (fun j => (j : Int) < rho z 14 ∧ onM (rho z) j d) v) := by
  obtain ⟨hG1, h14, hFe, h55, h56, h57⟩ := id hM
  refine Ki_of [(0, _), (1, _), (2, _), (3, _)] hr (by decide) rfl rfl (Nat.le_of_ble_eq_true rfl) rfl (fun Γ hG hR => ?_)
  refine v_iconst hG dL_feasts_0 ?_
  refine v_istore hG [(0, _), (1, _), (2, _), (3, _), (4, _)] dL_feasts_1 (by decide) rfl ?_
  refine v_iconst hG dL_feasts_3 ?_
  refine v_istore hG [(0, _), (1, _), (2, _), (3, _), (4, _), (5, _)] dL_feasts_4 (by decide) rfl ?_
  have L6 : ∀ (n : Nat), ∀ (x4 x5 : Int), (0 ≤ x5 ∧ x5 ≤ rho z 14 ∧ isSet (fun j => (j : Int) < x5 ∧ onM (rho z) j d) x4) → (rho z 14 - x5 + 1).toNat ≤ n → V Γ z 0 0 [(0, .ref (r 169)), (1, .ref (r 170)), (2, .ref (r 171)), (3, .int (iN d)), (4, .int (iN x4)), (5, .int (iN x5))] 6 [] := by
    intro n
    induction n with
    | zero =>
      intro x4 x5 hI hm
      obtain ⟨i1, i2, i3v⟩ := hI
      exact absurd hm (by omega)
    | succ n ih6 =>
      intro x4 x5 hI hm
      obtain ⟨i1, i2, i3v⟩ := hI
      have e3 : ((x5.toNat : Nat) : Int) = x5 := by omega
      refine v_iload hG dL_feasts_6 5 rfl ?_
      refine v_aload_n hG dL_feasts_8 2 rfl ?_
      refine v_bipush hG dL_feasts_9 (by decide) ?_
      refine v_iald hG k_171 (by decide) (cl_108 _ _ _ _) (by decide) (by omega) dL_feasts_11 ?_
      rw [rho_14 z]
      refine v_icmp_ge hG 46 (by omega) (by omega) dL_feasts_12 (by decide) (fun h12 => ?_) (fun h12 => ?_)
      · refine v_iload hG dL_feasts_46 4 rfl ?_
        exact v_iret hG hR dL_feasts_48 ⟨rfl, isSet_congr i3v (fun j => by rw [show x5 = rho z 14 by omega])⟩
      · obtain ⟨x9, e9, hs9⟩ := set_or i3v (k := x5) (by omega)
        refine v_iload hG dL_feasts_15 4 rfl ?_
        refine v_aload_n hG dL_feasts_17 0 rfl ?_
        refine v_aload_n hG dL_feasts_18 1 rfl ?_
        refine v_aload_n hG dL_feasts_19 2 rfl ?_
        refine v_iload hG dL_feasts_20 5 rfl ?_
        refine v_iload_n hG dL_feasts_22 3 rfl ?_
        refine v_callSi (n := 5) hG (c_L_kept hr hM (by omega) (by omega)) gL_feasts_L_kept rfl (by decide +kernel) rfl (by decide) dL_feasts_23 rfl (Nat.le_of_ble_eq_true rfl) (by decide) ?_
        intro v23 z23 hp23
        obtain ⟨rfl, rfl⟩ := hp23
        refine v_if_eq hG 36 (by have h8 := ind_bd (onM (rho z) x5 d); omega) dL_feasts_26 (by decide) (fun h26 => ?_) (fun h26 => ?_)
        · refine v_iconst hG dL_feasts_36 ?_
          refine v_ior0 hG dL_feasts_37 ?_
          first
            | refine v_eqi hG e9 ?_
            | refine v_eqi hG (or_0 i3v) ?_
          refine v_istore hG [(0, _), (1, _), (2, _), (3, _), (4, _), (5, _)] dL_feasts_38 (by decide) rfl ?_
          refine v_iinc hG [(0, _), (1, _), (2, _), (3, _), (4, _), (5, _)] dL_feasts_40 5 rfl (by decide) rfl ?_
          refine v_goto hG 6 dL_feasts_43 (by decide) ?_
          refine ih6 _ _ ?_ (by omega)
          refine ⟨by omega, by omega, ?_⟩
          first
            | exact isSet_yes i1 hs9 (by rw [e3]; exact Classical.byContradiction (fun q9 => h26 (ind_f q9)))
            | exact isSet_no i1 i3v (by rw [e3]; exact ind_0.mp h26)
        · refine v_iconst hG dL_feasts_29 ?_
          refine v_iload hG dL_feasts_30 5 rfl ?_
          refine v_ishl0 hG dL_feasts_32 ?_
          refine v_goto hG 37 dL_feasts_33 (by decide) ?_
          refine v_ior0 hG dL_feasts_37 ?_
          first
            | refine v_eqi hG e9 ?_
            | refine v_eqi hG (or_0 i3v) ?_
          refine v_istore hG [(0, _), (1, _), (2, _), (3, _), (4, _), (5, _)] dL_feasts_38 (by decide) rfl ?_
          refine v_iinc hG [(0, _), (1, _), (2, _), (3, _), (4, _), (5, _)] dL_feasts_40 5 rfl (by decide) rfl ?_
          refine v_goto hG 6 dL_feasts_43 (by decide) ?_
          refine ih6 _ _ ?_ (by omega)
          refine ⟨by omega, by omega, ?_⟩
          first
            | exact isSet_yes i1 hs9 (by rw [e3]; exact Classical.byContradiction (fun q9 => h26 (ind_f q9)))
            | exact isSet_no i1 i3v (by rw [e3]; exact ind_0.mp h26)
  exact L6 _ _ _ ⟨by omega, by omega, isSet_0 (fun j hj => by omega)⟩ (Nat.le_refl _)

set_option maxHeartbeats 4000000 in
set_option maxRecDepth 100000 in
theorem c_L_of {l : Launch} {D : va_G} {cA : Nat → ClassId} {r : Nat → Nat} {z : Zt} {v t : Int} {P : Nat → Prop} (hr : Inj r) (hM : MI (rho z)) (hv : isSet P v) (hP : ∀ j, P j → (j : Int) < rho z 14) (ht : 0 ≤ t ∧ t ≤ 1) : Ki l D cA r yL_of wsL_of 0 0 z [.ref (r 170), .int (iN v), .int (iN t)] (fun x z1 => z = z1 ∧ x = cntP (fun j => P j ∧ mF (rho z) j 0 = t) 10) := by
  obtain ⟨hG1, h14, hFe, h55, h56, h57⟩ := id hM
  refine Ki_of [(0, _), (1, _), (2, _)] hr (by decide) rfl rfl (Nat.le_of_ble_eq_true rfl) rfl (fun Γ hG hR => ?_)
  refine v_iconst hG dL_of_0 ?_
  refine v_istore_n hG [(0, _), (1, _), (2, _), (3, _)] dL_of_1 (by decide) rfl ?_
  refine v_iconst hG dL_of_2 ?_
  refine v_istore hG [(0, _), (1, _), (2, _), (3, _), (4, _)] dL_of_3 (by decide) rfl ?_
  have L5 : ∀ (n : Nat), ∀ (x3 x4 : Int), (0 ≤ x4 ∧ x4 ≤ 10 ∧ x3 = cntP (fun j => P j ∧ mF (rho z) j 0 = t) x4.toNat) → (10 - x4 + 1).toNat ≤ n → V Γ z 0 0 [(0, .ref (r 170)), (1, .int (iN v)), (2, .int (iN t)), (3, .int (iN x3)), (4, .int (iN x4))] 5 [] := by
    intro n
    induction n with
    | zero =>
      intro x3 x4 hI hm
      obtain ⟨i1, i2, i3v⟩ := hI
      exact absurd hm (by omega)
    | succ n ih5 =>
      intro x3 x4 hI hm
      obtain ⟨i1, i2, i3v⟩ := hI
      have e3 : ((x4.toNat : Nat) : Int) = x4 := by omega
      refine v_iload hG dL_of_5 4 rfl ?_
      refine v_bipush hG dL_of_7 (by decide) ?_
      refine v_icmp_ge hG 46 (by omega) (by omega) dL_of_9 (by decide) (fun h9 => ?_) (fun h9 => ?_)
      · refine v_iload_n hG dL_of_46 3 rfl ?_
        exact v_iret hG hR dL_of_47 ⟨rfl, by rw [i3v, show x4 = 10 by omega]; rfl⟩
      · refine v_iload_n hG dL_of_12 3 rfl ?_
        refine v_iload_n hG dL_of_13 1 rfl ?_
        refine v_iload hG dL_of_14 4 rfl ?_
        refine v_ishr0 hG dL_of_16 ?_
        refine v_iconst hG dL_of_17 ?_
        refine v_iand0 hG dL_of_18 ?_
        refine v_eqi hG (bit_of hv (by omega)) ?_
        refine v_iconst hG dL_of_19 ?_
        refine v_icmp_ne hG 37 (by have h8 := ind_bd (P x4.toNat); omega) (by omega) dL_of_20 (by decide) (fun h20 => ?_) (fun h20 => ?_)
        · refine v_iconst hG dL_of_37 ?_
          refine v_iadd hG dL_of_38 ?_
          refine v_istore_n hG [(0, _), (1, _), (2, _), (3, _), (4, _)] dL_of_39 (by decide) rfl ?_
          refine v_iinc hG [(0, _), (1, _), (2, _), (3, _), (4, _)] dL_of_40 4 rfl (by decide) rfl ?_
          refine v_goto hG 5 dL_of_43 (by decide) ?_
          refine ih5 _ _ ?_ (by omega)
          refine ⟨by omega, by omega, ?_⟩
          rw [i3v]
          first
            | exact (cntP_y (Q := fun j => P j ∧ mF (rho z) j 0 = t) i1 ⟨hp9, by rw [e3]; exact h30⟩).symm
            | (rw [Int.add_zero]; exact (cntP_n (Q := fun j => P j ∧ mF (rho z) j 0 = t) i1 (fun q9 => by have q8 := q9.2; rw [e3] at q8; exact h30 q8)).symm)
            | (rw [Int.add_zero]; exact (cntP_n (Q := fun j => P j ∧ mF (rho z) j 0 = t) i1 (fun q9 => h20 (ind_t q9.1))).symm)
        · have hp9 : P x4.toNat := Classical.byContradiction (fun q9 => by rw [ind_f q9] at h20; omega)
          have hj9 := hP _ hp9
          have hF := hFe x4 (by omega) (by omega)
          have hF0 := hF.1
          refine v_aload_n hG dL_of_23 0 rfl ?_
          refine v_iconst hG dL_of_24 ?_
          refine v_iload hG dL_of_25 4 rfl ?_
          refine v_imul hG dL_of_27 ?_
          refine v_iald hG k_170 (by decide) (cl_140 _ _ _ _) (by decide) (by omega) dL_of_28 ?_
          rw [rh_F0 z (by omega)]
          refine v_iload_n hG dL_of_29 2 rfl ?_
          refine v_icmp_ne hG 37 (by omega) (by omega) dL_of_30 (by decide) (fun h30 => ?_) (fun h30 => ?_)
          · refine v_iconst hG dL_of_37 ?_
            refine v_iadd hG dL_of_38 ?_
            refine v_istore_n hG [(0, _), (1, _), (2, _), (3, _), (4, _)] dL_of_39 (by decide) rfl ?_
            refine v_iinc hG [(0, _), (1, _), (2, _), (3, _), (4, _)] dL_of_40 4 rfl (by decide) rfl ?_
            refine v_goto hG 5 dL_of_43 (by decide) ?_
            refine ih5 _ _ ?_ (by omega)
            refine ⟨by omega, by omega, ?_⟩
            rw [i3v]
            first
              | exact (cntP_y (Q := fun j => P j ∧ mF (rho z) j 0 = t) i1 ⟨hp9, by rw [e3]; exact h30⟩).symm
              | (rw [Int.add_zero]; exact (cntP_n (Q := fun j => P j ∧ mF (rho z) j 0 = t) i1 (fun q9 => by have q8 := q9.2; rw [e3] at q8; exact h30 q8)).symm)
              | (rw [Int.add_zero]; exact (cntP_n (Q := fun j => P j ∧ mF (rho z) j 0 = t) i1 (fun q9 => h20 (ind_t q9.1))).symm)
          · refine v_iconst hG dL_of_33 ?_
            refine v_goto hG 38 dL_of_34 (by decide) ?_
            refine v_iadd hG dL_of_38 ?_
            refine v_istore_n hG [(0, _), (1, _), (2, _), (3, _), (4, _)] dL_of_39 (by decide) rfl ?_
            refine v_iinc hG [(0, _), (1, _), (2, _), (3, _), (4, _)] dL_of_40 4 rfl (by decide) rfl ?_
            refine v_goto hG 5 dL_of_43 (by decide) ?_
            refine ih5 _ _ ?_ (by omega)
            refine ⟨by omega, by omega, ?_⟩
            rw [i3v]
            first
              | exact (cntP_y (Q := fun j => P j ∧ mF (rho z) j 0 = t) i1 ⟨hp9, by rw [e3]; exact h30⟩).symm
              | (rw [Int.add_zero]; exact (cntP_n (Q := fun j => P j ∧ mF (rho z) j 0 = t) i1 (fun q9 => by have q8 := q9.2; rw [e3] at q8; exact h30 q8)).symm)
              | (rw [Int.add_zero]; exact (cntP_n (Q := fun j => P j ∧ mF (rho z) j 0 = t) i1 (fun q9 => h20 (ind_t q9.1))).symm)
  exact L5 _ _ _ ⟨by omega, by omega, rfl⟩ (Nat.le_refl _)

set_option maxHeartbeats 4000000 in
set_option maxRecDepth 100000 in
theorem c_L_quarrel {l : Launch} {D : va_G} {cA : Nat → ClassId} {r : Nat → Nat} {z : Zt} {d : Int} (hr : Inj r) (hM : MI (rho z)) (hd : 0 ≤ d ∧ d ≤ 30000) : Ki l D cA r yL_quarrel wsL_quarrel 5 124 z [.ref (r 169), .ref (r 170), .ref (r 171), .int (iN d)] (fun v z1 => z = z1 ∧ v = ind (quM (rho z) d)) := by
  obtain ⟨hG1, h14, hFe, h55, h56, h57⟩ := id hM
  have hc0 := cntP_bd (fun j : Nat => ((j : Int) < rho z 14 ∧ onM (rho z) j d) ∧ mF (rho z) j 0 = 0) 10
  have hc1 := cntP_bd (fun j : Nat => ((j : Int) < rho z 14 ∧ onM (rho z) j d) ∧ mF (rho z) j 0 = 1) 10
  have hp0 := cntP_pos_iff (P := fun j : Nat => ((j : Int) < rho z 14 ∧ onM (rho z) j d) ∧ mF (rho z) j 0 = 0) (n := 10)
  have hp1 := cntP_pos_iff (P := fun j : Nat => ((j : Int) < rho z 14 ∧ onM (rho z) j d) ∧ mF (rho z) j 0 = 1) (n := 10)
  refine Ki_of [(0, _), (1, _), (2, _), (3, _)] hr (by decide) rfl rfl (Nat.le_of_ble_eq_true rfl) rfl (fun Γ hG hR => ?_)
  refine v_aload_n hG dL_quarrel_0 0 rfl ?_
  refine v_aload_n hG dL_quarrel_1 1 rfl ?_
  refine v_aload_n hG dL_quarrel_2 2 rfl ?_
  refine v_iload_n hG dL_quarrel_3 3 rfl ?_
  refine v_callSi (n := 4) hG (c_L_feasts hr hM (by omega)) gL_quarrel_L_feasts rfl (by decide +kernel) rfl (by decide) dL_quarrel_4 rfl (Nat.le_of_ble_eq_true rfl) (by decide) ?_
  intro v4 z4 hp4
  obtain ⟨rfl, hx4⟩ := hp4
  refine v_istore hG [(0, _), (1, _), (2, _), (3, _), (4, _)] dL_quarrel_7 (by decide) rfl ?_
  refine v_aload_n hG dL_quarrel_9 1 rfl ?_
  refine v_iload hG dL_quarrel_10 4 rfl ?_
  refine v_iconst hG dL_quarrel_12 ?_
  refine v_callSi (n := 3) hG (c_L_of hr hM hx4 (fun j hj => hj.1) (by omega)) gL_quarrel_L_of rfl (by decide +kernel) rfl (by decide) dL_quarrel_13 rfl (Nat.le_of_ble_eq_true rfl) (by decide) ?_
  intro v13 z13 hp13
  obtain ⟨rfl, rfl⟩ := hp13
  refine v_eqi hG (y := iN (cntP (fun j : Nat => ((j : Int) < rho z 14 ∧ onM (rho z) j d) ∧ mF (rho z) j 0 = 0) 10)) rfl ?_
  refine v_if_le hG 33 (by clear hp0 hp1; omega) dL_quarrel_16 (by decide) (fun h16 => ?_) (fun h16 => ?_)
  · refine v_iconst hG dL_quarrel_33 ?_
    exact v_zret hG hR (by first | exact Or.inl rfl | exact Or.inr rfl | omega) dL_quarrel_34 ⟨rfl, by first | exact (ind_t ⟨by obtain ⟨j, -, hj⟩ := hp0.mp (by clear hp0 hp1; omega); exact ⟨j, hj⟩, by obtain ⟨j, -, hj⟩ := hp1.mp (by clear hp0 hp1; omega); exact ⟨j, hj⟩⟩).symm | exact (ind_f (fun q9 => by obtain ⟨⟨j, hj⟩, -⟩ := q9; have h8 := hp0.mpr ⟨j, by have := hj.1.1; clear hp0 hp1; omega, hj⟩; clear hp0 hp1; omega)).symm | exact (ind_f (fun q9 => by obtain ⟨-, j, hj⟩ := q9; have h8 := hp1.mpr ⟨j, by have := hj.1.1; clear hp0 hp1; omega, hj⟩; clear hp0 hp1; omega)).symm⟩
  · refine v_aload_n hG dL_quarrel_19 1 rfl ?_
    refine v_iload hG dL_quarrel_20 4 rfl ?_
    refine v_iconst hG dL_quarrel_22 ?_
    refine v_callSi (n := 3) hG (c_L_of hr hM hx4 (fun j hj => hj.1) (by omega)) gL_quarrel_L_of rfl (by decide +kernel) rfl (by decide) dL_quarrel_23 rfl (Nat.le_of_ble_eq_true rfl) (by decide) ?_
    intro v23 z23 hp23
    obtain ⟨rfl, rfl⟩ := hp23
    refine v_eqi hG (y := iN (cntP (fun j : Nat => ((j : Int) < rho z 14 ∧ onM (rho z) j d) ∧ mF (rho z) j 0 = 1) 10)) rfl ?_
    refine v_if_le hG 33 (by clear hp0 hp1; omega) dL_quarrel_26 (by decide) (fun h26 => ?_) (fun h26 => ?_)
    · refine v_iconst hG dL_quarrel_33 ?_
      exact v_zret hG hR (by first | exact Or.inl rfl | exact Or.inr rfl | omega) dL_quarrel_34 ⟨rfl, by first | exact (ind_t ⟨by obtain ⟨j, -, hj⟩ := hp0.mp (by clear hp0 hp1; omega); exact ⟨j, hj⟩, by obtain ⟨j, -, hj⟩ := hp1.mp (by clear hp0 hp1; omega); exact ⟨j, hj⟩⟩).symm | exact (ind_f (fun q9 => by obtain ⟨⟨j, hj⟩, -⟩ := q9; have h8 := hp0.mpr ⟨j, by have := hj.1.1; clear hp0 hp1; omega, hj⟩; clear hp0 hp1; omega)).symm | exact (ind_f (fun q9 => by obtain ⟨-, j, hj⟩ := q9; have h8 := hp1.mpr ⟨j, by have := hj.1.1; clear hp0 hp1; omega, hj⟩; clear hp0 hp1; omega)).symm⟩
    · refine v_iconst hG dL_quarrel_29 ?_
      refine v_goto hG 34 dL_quarrel_30 (by decide) ?_
      exact v_zret hG hR (by first | exact Or.inl rfl | exact Or.inr rfl | omega) dL_quarrel_34 ⟨rfl, by first | exact (ind_t ⟨by obtain ⟨j, -, hj⟩ := hp0.mp (by clear hp0 hp1; omega); exact ⟨j, hj⟩, by obtain ⟨j, -, hj⟩ := hp1.mp (by clear hp0 hp1; omega); exact ⟨j, hj⟩⟩).symm | exact (ind_f (fun q9 => by obtain ⟨⟨j, hj⟩, -⟩ := q9; have h8 := hp0.mpr ⟨j, by have := hj.1.1; clear hp0 hp1; omega, hj⟩; clear hp0 hp1; omega)).symm | exact (ind_f (fun q9 => by obtain ⟨-, j, hj⟩ := q9; have h8 := hp1.mpr ⟨j, by have := hj.1.1; clear hp0 hp1; omega, hj⟩; clear hp0 hp1; omega)).symm⟩

set_option maxHeartbeats 4000000 in
set_option maxRecDepth 100000 in
theorem c_L_quarrels {l : Launch} {D : va_G} {cA : Nat → ClassId} {r : Nat → Nat} {z : Zt} {q : Int} (hr : Inj r) (hM : MI (rho z)) (hq : 0 ≤ q ∧ q ≤ 400) : Ki l D cA r yL_quarrels wsL_quarrels 6 148 z [.ref (r 169), .ref (r 170), .ref (r 171), .int (iN q)] (fun v z1 => z = z1 ∧ v = qwM (rho z) q.toNat) := by
  obtain ⟨hG1, h14, hFe, h55, h56, h57⟩ := id hM
  refine Ki_of [(0, _), (1, _), (2, _), (3, _)] hr (by decide) rfl rfl (Nat.le_of_ble_eq_true rfl) rfl (fun Γ hG hR => ?_)
  refine v_iconst hG dL_quarrels_0 ?_
  refine v_istore hG [(0, _), (1, _), (2, _), (3, _), (4, _)] dL_quarrels_1 (by decide) rfl ?_
  refine v_aload_n hG dL_quarrels_3 2 rfl ?_
  refine v_iconst hG dL_quarrels_4 ?_
  refine v_iald hG k_171 (by decide) (cl_108 _ _ _ _) (by decide) (by omega) dL_quarrels_5 ?_
  rw [rho_57 z]
  refine v_istore hG [(0, _), (1, _), (2, _), (3, _), (4, _), (5, _)] dL_quarrels_6 (by decide) rfl ?_
  have L8 : ∀ (n : Nat), ∀ (x4 x5 : Int), (rho z 57 ≤ x5 ∧ x5 ≤ rho z 57 + q ∧ x4 = cntP (fun i => quM (rho z) (rho z 57 + i)) (x5 - rho z 57).toNat) → (rho z 57 + q - x5 + 1).toNat ≤ n → V Γ z 0 0 [(0, .ref (r 169)), (1, .ref (r 170)), (2, .ref (r 171)), (3, .int (iN q)), (4, .int (iN x4)), (5, .int (iN x5))] 8 [] := by
    intro n
    induction n with
    | zero =>
      intro x4 x5 hI hm
      obtain ⟨i1, i2, i3v⟩ := hI
      exact absurd hm (by omega)
    | succ n ih8 =>
      intro x4 x5 hI hm
      obtain ⟨i1, i2, i3v⟩ := hI
      have e3 : rho z 57 + (((x5 - rho z 57).toNat : Nat) : Int) = x5 := by omega
      refine v_iload hG dL_quarrels_8 5 rfl ?_
      refine v_aload_n hG dL_quarrels_10 2 rfl ?_
      refine v_iconst hG dL_quarrels_11 ?_
      refine v_iald hG k_171 (by decide) (cl_108 _ _ _ _) (by decide) (by omega) dL_quarrels_12 ?_
      rw [rho_57 z]
      refine v_iload_n hG dL_quarrels_13 3 rfl ?_
      refine v_iadd hG dL_quarrels_14 ?_
      refine v_icmp_ge hG 45 (by omega) (by omega) dL_quarrels_15 (by decide) (fun h15 => ?_) (fun h15 => ?_)
      · refine v_iload hG dL_quarrels_45 4 rfl ?_
        exact v_iret hG hR dL_quarrels_47 ⟨rfl, by rw [i3v, show x5 - rho z 57 = q by omega]; rfl⟩
      · refine v_iload hG dL_quarrels_18 4 rfl ?_
        refine v_aload_n hG dL_quarrels_20 0 rfl ?_
        refine v_aload_n hG dL_quarrels_21 1 rfl ?_
        refine v_aload_n hG dL_quarrels_22 2 rfl ?_
        refine v_iload hG dL_quarrels_23 5 rfl ?_
        refine v_callSi (n := 4) hG (c_L_quarrel hr hM (by omega)) gL_quarrels_L_quarrel rfl (by decide +kernel) rfl (by decide) dL_quarrels_25 rfl (Nat.le_of_ble_eq_true rfl) (by decide) ?_
        intro v25 z25 hp25
        obtain ⟨rfl, rfl⟩ := hp25
        refine v_if_eq hG 35 (by have h8 := ind_bd (quM (rho z) x5); omega) dL_quarrels_28 (by decide) (fun h28 => ?_) (fun h28 => ?_)
        · refine v_iconst hG dL_quarrels_35 ?_
          refine v_iadd hG dL_quarrels_36 ?_
          refine v_istore hG [(0, _), (1, _), (2, _), (3, _), (4, _), (5, _)] dL_quarrels_37 (by decide) rfl ?_
          refine v_iinc hG [(0, _), (1, _), (2, _), (3, _), (4, _), (5, _)] dL_quarrels_39 5 rfl (by decide) rfl ?_
          refine v_goto hG 8 dL_quarrels_42 (by decide) ?_
          refine ih8 _ _ ?_ (by omega)
          refine ⟨by omega, by omega, ?_⟩
          rw [i3v, show x5 + 1 - rho z 57 = (x5 - rho z 57) + 1 by omega]
          first
            | exact (cntP_y (Q := fun i => quM (rho z) (rho z 57 + i)) (by omega) (by rw [e3]; exact Classical.byContradiction (fun q9 => h28 (ind_f q9)))).symm
            | (rw [Int.add_zero]; exact (cntP_n (Q := fun i => quM (rho z) (rho z 57 + i)) (by omega) (by rw [e3]; exact ind_0.mp h28)).symm)
        · refine v_iconst hG dL_quarrels_31 ?_
          refine v_goto hG 36 dL_quarrels_32 (by decide) ?_
          refine v_iadd hG dL_quarrels_36 ?_
          refine v_istore hG [(0, _), (1, _), (2, _), (3, _), (4, _), (5, _)] dL_quarrels_37 (by decide) rfl ?_
          refine v_iinc hG [(0, _), (1, _), (2, _), (3, _), (4, _), (5, _)] dL_quarrels_39 5 rfl (by decide) rfl ?_
          refine v_goto hG 8 dL_quarrels_42 (by decide) ?_
          refine ih8 _ _ ?_ (by omega)
          refine ⟨by omega, by omega, ?_⟩
          rw [i3v, show x5 + 1 - rho z 57 = (x5 - rho z 57) + 1 by omega]
          first
            | exact (cntP_y (Q := fun i => quM (rho z) (rho z 57 + i)) (by omega) (by rw [e3]; exact Classical.byContradiction (fun q9 => h28 (ind_f q9)))).symm
            | (rw [Int.add_zero]; exact (cntP_n (Q := fun i => quM (rho z) (rho z 57 + i)) (by omega) (by rw [e3]; exact ind_0.mp h28)).symm)
  exact L8 _ _ _ ⟨by omega, by omega, by rw [show (rho z 57 - rho z 57).toNat = 0 by omega]; rfl⟩ (Nat.le_refl _)

set_option maxHeartbeats 4000000 in
set_option maxRecDepth 100000 in
theorem c_L_bars {l : Launch} {D : va_G} {cA : Nat → ClassId} {r : Nat → Nat} {z : Zt} {f w : Int} (hr : Inj r) (hf : 0 ≤ f ∧ f < 10) : Ki l D cA r yL_bars wsL_bars 0 0 z [.ref (r 170), .int (iN f), .int (iN w)] (fun v z1 => zup z 170 (4 * f + 3).toNat w = z1 ∧ v = mF (rho z) f 3) := by
  refine Ki_of [(0, _), (1, _), (2, _)] hr (by decide) rfl rfl (Nat.le_of_ble_eq_true rfl) rfl (fun Γ hG hR => ?_)
  refine v_aload_n hG dL_bars_0 0 rfl ?_
  refine v_iconst hG dL_bars_1 ?_
  refine v_iload_n hG dL_bars_2 1 rfl ?_
  refine v_imul hG dL_bars_3 ?_
  refine v_iconst hG dL_bars_4 ?_
  refine v_iadd hG dL_bars_5 ?_
  refine v_iald hG k_170 (by decide) (cl_140 _ _ _ _) (by decide) (by omega) dL_bars_6 ?_
  rw [rh_F z (by omega) (by omega)]
  refine v_istore_n hG [(0, _), (1, _), (2, _), (3, _)] dL_bars_7 (by decide) rfl ?_
  refine v_aload_n hG dL_bars_8 0 rfl ?_
  refine v_iconst hG dL_bars_9 ?_
  refine v_iload_n hG dL_bars_10 1 rfl ?_
  refine v_imul hG dL_bars_11 ?_
  refine v_iconst hG dL_bars_12 ?_
  refine v_iadd hG dL_bars_13 ?_
  refine v_iload_n hG dL_bars_14 2 rfl ?_
  refine v_iast hG k_170 (by decide) (cl_140 _ _ _) (by decide) (by omega) dL_bars_15 ?_
  refine v_iload_n hG dL_bars_16 3 rfl ?_
  exact v_iret hG hR dL_bars_17 ⟨rfl, rfl⟩

