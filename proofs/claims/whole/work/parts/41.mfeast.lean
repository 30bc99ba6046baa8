theorem or_0 {P : Nat → Prop} {v : Int} (h : isSet P v) : iN v ||| iN 0 = iN v := by
  obtain ⟨n, rfl, -, -⟩ := h
  rw [iN_nI, show iN 0 = nI 0 from iN_nI 0, fa_or, Nat.or_zero]
set_option maxHeartbeats 4000000 in
set_option maxRecDepth 100000 in
theorem c_X5_due {l : Launch} {D : va_G} {cA : Nat → ClassId} {r : Nat → Nat} {z : Zt} {f y : Int} (hr : Inj r) (h9 : kd 169 = 6) (hM : MI (z 170)) (hf : 0 ≤ f ∧ f < z 170 14) (hy : 1 ≤ y ∧ y ≤ 1000) : Ki l D cA r yX5_due wsX5_due 3 64 z [.ref (r 169), .int (iN f), .int (iN y)] (fun v z1 => z = z1 ∧ v = dM (z 170) f y) := by
  obtain ⟨hG1, h14, hFe, h55, h56, h57⟩ := id hM
  have hF := hFe f hf.1 hf.2
  obtain ⟨hF0, hF1, hF2, hF3, hF4, hF5, hF6⟩ := id hF
  have hml := mlen_bd (1 - mF (z 170) f 0) (mF (z 170) f 1)
  have hyl := yl_bd (1 - mF (z 170) f 0)
  have hmb := mbef_bd (a := 1 - mF (z 170) f 0) hF1
  have hnd := nd_bd (a := 1 - mF (z 170) f 0) (m := mF (z 170) f 1) hF3
  have hdb := dofN_bd (a := 1 - mF (z 170) f 0) (y := y) (m := mF (z 170) f 1) (dd := mF (z 170) f 2) ⟨hF1, hF2⟩ hF3
  have hd1 : y * yl (1 - mF (z 170) f 0) ≤ 366000 := by
    unfold yl
    split <;> omega
  have hd0 : 0 ≤ (y - 1) * yl (1 - mF (z 170) f 0) := Int.mul_nonneg (by omega) (by omega)
  have hd3 : (y - 1) * yl (1 - mF (z 170) f 0) ≤ 366000 := by
    unfold yl
    split <;> omega
  have hfb := fdM_bd hG1 hF0 (d := dof (1 - mF (z 170) f 0) y (mF (z 170) f 1) (nd (1 - mF (z 170) f 0) (mF (z 170) f 1) (mF (z 170) f 2))) (by omega)
  have hcb := calM_bd hG1 hF0 (fdM (z 170) (mF (z 170) f 0) (dof (1 - mF (z 170) f 0) y (mF (z 170) f 1) (nd (1 - mF (z 170) f 0) (mF (z 170) f 1) (mF (z 170) f 2))))
  have hlt := due_lt (a := 1 - mF (z 170) f 0) (y := y) (hG1 _ hF0) (m := mF (z 170) f 1) (dd := mF (z 170) f 2) ⟨hF1, hF2⟩ hF3
  refine Ki_of [(0, _), (1, _), (2, _)] hr (by decide) rfl rfl (Nat.le_of_ble_eq_true rfl) rfl (fun Γ hG hR => ?_)
  refine v_aload_n hG dX5_due_0 0 rfl ?_
  refine v_iload_n hG dX5_due_1 1 rfl ?_
  refine v_iconst hG dX5_due_2 ?_
  refine v_callVi (n := 2) (ci := 5) hG (c_X5_feast hr h9 (by omega) (by omega)) gX5_due_X5_feast rfl (by decide +kernel) rfl (by decide) h9 (by decide) (cl_6 _ _ _ _) rfl dX5_due_3 rfl (Nat.le_of_ble_eq_true rfl) (by decide) ?_
  intro v3 z3 hp3
  obtain ⟨rfl, rfl⟩ := hp3
  refine v_istore_n hG [(0, _), (1, _), (2, _), (3, _)] dX5_due_6 (by decide) rfl ?_
  refine v_aload_n hG dX5_due_7 0 rfl ?_
  refine v_iload_n hG dX5_due_8 1 rfl ?_
  refine v_iconst hG dX5_due_9 ?_
  refine v_callVi (n := 2) (ci := 5) hG (c_X5_feast hr h9 (by omega) (by omega)) gX5_due_X5_feast rfl (by decide +kernel) rfl (by decide) h9 (by decide) (cl_6 _ _ _ _) rfl dX5_due_10 rfl (Nat.le_of_ble_eq_true rfl) (by decide) ?_
  intro v10 z10 hp10
  obtain ⟨rfl, rfl⟩ := hp10
  refine v_istore hG [(0, _), (1, _), (2, _), (3, _), (4, _)] dX5_due_13 (by decide) rfl ?_
  refine v_aload_n hG dX5_due_15 0 rfl ?_
  refine v_iload_n hG dX5_due_16 1 rfl ?_
  refine v_iconst hG dX5_due_17 ?_
  refine v_callVi (n := 2) (ci := 5) hG (c_X5_feast hr h9 (by omega) (by omega)) gX5_due_X5_feast rfl (by decide +kernel) rfl (by decide) h9 (by decide) (cl_6 _ _ _ _) rfl dX5_due_18 rfl (Nat.le_of_ble_eq_true rfl) (by decide) ?_
  intro v18 z18 hp18
  obtain ⟨rfl, rfl⟩ := hp18
  refine v_iconst hG dX5_due_21 ?_
  refine v_isub hG dX5_due_22 ?_
  refine v_istore hG [(0, _), (1, _), (2, _), (3, _), (4, _), (5, _)] dX5_due_23 (by decide) rfl ?_
  refine v_iload_n hG dX5_due_25 3 rfl ?_
  refine v_iload hG dX5_due_26 4 rfl ?_
  refine v_callSi (n := 2) hG (c_X5_lengthOf hr hF0 (by omega)) gX5_due_X5_lengthOf rfl (by decide +kernel) rfl (by decide) dX5_due_28 rfl (Nat.le_of_ble_eq_true rfl) (by decide) ?_
  intro v28 z28 hp28
  obtain ⟨rfl, rfl⟩ := hp28
  refine v_istore hG [(0, _), (1, _), (2, _), (3, _), (4, _), (5, _), (6, _)] dX5_due_31 (by decide) rfl ?_
  refine v_iload_n hG dX5_due_33 2 rfl ?_
  refine v_iconst hG dX5_due_34 ?_
  refine v_isub hG dX5_due_35 ?_
  refine v_iload_n hG dX5_due_36 3 rfl ?_
  refine v_callSi (n := 1) hG (c_X5_yearLength hr hF0) gX5_due_X5_yearLength rfl (by decide +kernel) rfl (by decide) dX5_due_37 rfl (Nat.le_of_ble_eq_true rfl) (by decide) ?_
  intro v37 z37 hp37
  obtain ⟨rfl, rfl⟩ := hp37
  refine v_imul hG dX5_due_40 ?_
  refine v_istore hG [(0, _), (1, _), (2, _), (3, _), (4, _), (5, _), (6, _), (7, _)] dX5_due_41 (by decide) rfl ?_
  refine v_iload hG dX5_due_43 7 rfl ?_
  refine v_iload_n hG dX5_due_45 3 rfl ?_
  refine v_iload hG dX5_due_46 4 rfl ?_
  refine v_callSi (n := 2) hG (c_X5_daysAhead hr hF0 (by omega)) gX5_due_X5_daysAhead rfl (by decide +kernel) rfl (by decide) dX5_due_48 rfl (Nat.le_of_ble_eq_true rfl) (by decide) ?_
  intro v48 z48 hp48
  obtain ⟨rfl, rfl⟩ := hp48
  refine v_iadd hG dX5_due_51 ?_
  refine v_iload hG dX5_due_52 5 rfl ?_
  refine v_iload hG dX5_due_54 6 rfl ?_
  have L66 : ∀ (x : Int), x = nd (1 - mF (z 170) f 0) (mF (z 170) f 1) (mF (z 170) f 2) - 1 → V Γ z 0 0 [(0, .ref (r 169)), (1, .int (iN f)), (2, .int (iN y)), (3, .int (iN (mF (z 170) f 0))), (7, .int (iN ((y - 1) * yl (1 - mF (z 170) f 0))))] 66 [.int (iN x), .int (iN ((y - 1) * yl (1 - mF (z 170) f 0) + mbef (1 - mF (z 170) f 0) (mF (z 170) f 1)))] := by
    intro x hI
    subst hI
    refine v_iadd hG dX5_due_66 ?_
    refine v_eqi hG (y := iN (dof (1 - mF (z 170) f 0) y (mF (z 170) f 1) (nd (1 - mF (z 170) f 0) (mF (z 170) f 1) (mF (z 170) f 2)))) (congrArg iN (by unfold dof; omega)) ?_
    refine v_istore hG [(0, _), (1, _), (2, _), (3, _), (7, _), (8, _)] dX5_due_67 (by decide) rfl ?_
    refine v_aload_n hG dX5_due_69 0 rfl ?_
    refine v_iload_n hG dX5_due_70 3 rfl ?_
    refine v_iload hG dX5_due_71 5 rfl ?_
    refine v_callVi (n := 2) (ci := 5) hG (c_X5_firstDay hr h9 hF0 hG1 (by omega)) gX5_due_X5_firstDay rfl (by decide +kernel) rfl (by decide) h9 (by decide) (cl_6 _ _ _ _) rfl dX5_due_73 rfl (Nat.le_of_ble_eq_true rfl) (by decide) ?_
    intro v73 z73 hp73
    obtain ⟨rfl, rfl⟩ := hp73
    refine v_istore hG [(0, _), (1, _), (2, _), (3, _), (7, _), (8, _), (9, _)] dX5_due_76 (by decide) rfl ?_
    refine v_aload_n hG dX5_due_78 0 rfl ?_
    refine v_iload_n hG dX5_due_79 3 rfl ?_
    refine v_iload hG dX5_due_80 6 rfl ?_
    refine v_callVi (n := 2) (ci := 5) hG (c_X5_calendar hr h9 hF0 hG1 (by omega)) gX5_due_X5_calendar rfl (by decide +kernel) rfl (by decide) h9 (by decide) (cl_6 _ _ _ _) rfl dX5_due_82 rfl (Nat.le_of_ble_eq_true rfl) (by decide) ?_
    intro v82 z82 hp82
    obtain ⟨rfl, rfl⟩ := hp82
    refine v_iload hG dX5_due_85 4 rfl ?_
    refine v_iload_n hG dX5_due_87 3 rfl ?_
    refine v_callSi (n := 1) hG (c_X5_yearLength hr hF0) gX5_due_X5_yearLength rfl (by decide +kernel) rfl (by decide) dX5_due_88 rfl (Nat.le_of_ble_eq_true rfl) (by decide) ?_
    intro v88 z88 hp88
    obtain ⟨rfl, rfl⟩ := hp88
    refine v_iadd hG dX5_due_91 ?_
    refine v_icmp_ge hG 100 (by omega) (by omega) dX5_due_92 (by decide) (fun h92 => ?_) (fun h92 => ?_)
    · refine v_iconst hG dX5_due_100 ?_
      exact v_iret hG hR dX5_due_101 ⟨rfl, by unfold dM dueG; first | exact (if_pos (hlt.mp h92)).symm | exact (if_neg (fun q9 => by have := hlt.mpr q9; exact absurd this (Int.not_lt.mpr h92))).symm⟩
    · refine v_iload hG dX5_due_95 6 rfl ?_
      refine v_goto hG 101 dX5_due_97 (by decide) ?_
      exact v_iret hG hR dX5_due_101 ⟨rfl, by unfold dM dueG; first | exact (if_pos (hlt.mp h92)).symm | exact (if_neg (fun q9 => by have := hlt.mpr q9; exact absurd this (Int.not_lt.mpr h92))).symm⟩
  refine v_icmp_ge hG 64 (by omega) (by omega) dX5_due_56 (by decide) (fun h56 => ?_) (fun h56 => ?_)
  · refine v_iload hG dX5_due_64 6 rfl ?_
    refine v_sub hG [(0, _), (1, _), (2, _), (3, _), (7, _)] [0, 1, 2, 3, 7] rfl ?_
    exact L66 _ (by unfold nd; first | (rw [if_pos (by omega)]) | (rw [if_neg (by omega)]; omega))
  · refine v_iload hG dX5_due_59 5 rfl ?_
    refine v_goto hG 66 dX5_due_61 (by decide) ?_
    refine v_sub hG [(0, _), (1, _), (2, _), (3, _), (7, _)] [0, 1, 2, 3, 7] rfl ?_
    exact L66 _ (by unfold nd; first | (rw [if_pos (by omega)]) | (rw [if_neg (by omega)]; omega))

set_option maxHeartbeats 4000000 in
set_option maxRecDepth 100000 in
theorem c_X5_kept {l : Launch} {D : va_G} {cA : Nat → ClassId} {r : Nat → Nat} {z : Zt} {f y : Int} (hr : Inj r) (h9 : kd 169 = 6) (hM : MI (z 170)) (hf : 0 ≤ f ∧ f < z 170 14) (hy : 1 ≤ y ∧ y ≤ 1000) : Ki l D cA r yX5_kept wsX5_kept 4 93 z [.ref (r 169), .int (iN f), .int (iN y)] (fun v z1 => z = z1 ∧ v = kM (z 170) f y) := by
  have iW5 : ∀ w ∈ u_ws RX5 TX5 10, w ∈ wsX5_kept := by decide +kernel
  have f7 : Cond.fieldLink RX5 7 (TX5 0).1 (TX5 0).2.1 (TX5 0).2.2.1 ∈ wsX5_kept := by decide +kernel
  obtain ⟨hG1, h14, hFe, h55, h56, h57⟩ := id hM
  have hF := hFe f hf.1 hf.2
  obtain ⟨hF0, hF1, hF2, hF3, hF4, hF5, hF6⟩ := id hF
  have hdb := dM_bd hG1 hF hy
  have e55 : z 170 (55 : Int).toNat = z 170 55 := rfl
  refine Ki_of [(0, _), (1, _), (2, _)] hr (by decide) rfl rfl (Nat.le_of_ble_eq_true rfl) rfl (fun Γ hG hR => ?_)
  refine v_aload_n hG dX5_kept_0 0 rfl ?_
  refine v_iload_n hG dX5_kept_1 1 rfl ?_
  refine v_iload_n hG dX5_kept_2 2 rfl ?_
  refine v_callVi (n := 2) (ci := 5) hG (c_X5_due hr h9 hM hf hy) gX5_kept_X5_due rfl (by decide +kernel) rfl (by decide) h9 (by decide) (cl_6 _ _ _ _) rfl dX5_kept_3 rfl (Nat.le_of_ble_eq_true rfl) (by decide) ?_
  intro v3 z3 hp3
  obtain ⟨rfl, rfl⟩ := hp3
  refine v_istore_n hG [(0, _), (1, _), (2, _), (3, _)] dX5_kept_6 (by decide) rfl ?_
  refine v_aload_n hG dX5_kept_7 0 rfl ?_
  refine v_getf (ci := 5) (k := 0) hG iW5 f7 rfl (by decide) h9 (by decide) (cl_6 _ _ _ _) rfl dX5_kept_8 ?_
  refine v_bipush hG dX5_kept_11 (by decide) ?_
  refine v_iald hG k_170 (by decide) (cl_162 _ _ _ _) (by decide) (by omega) dX5_kept_13 ?_
  rw [e55]
  refine v_bipush hG dX5_kept_14 (by decide) ?_
  have L30 : ∀ (x : Int), x = (if z 170 55 = 7 then 1 else z 170 55) → V Γ z 0 0 [(0, .ref (r 169)), (1, .int (iN f)), (2, .int (iN y)), (3, .int (iN (dM (z 170) f y)))] 30 [.int (iN x)] := by
    intro x hI
    refine v_istore hG [(0, _), (1, _), (2, _), (3, _), (4, _)] dX5_kept_30 (by decide) rfl ?_
    refine v_iload_n hG dX5_kept_32 3 rfl ?_
    refine v_iconst hG dX5_kept_33 ?_
    refine v_icmp_eq hG 57 (by omega) (by omega) dX5_kept_34 (by decide) (fun h34 => ?_) (fun h34 => ?_)
    · refine v_iload_n hG dX5_kept_57 3 rfl ?_
      exact v_iret hG hR dX5_kept_58 ⟨rfl, by show _ = keG (z 170 55) (mF (z 170) f 3) (dM (z 170) f y); unfold keG; first | (rw [if_pos (by omega)]) | (rw [if_neg (by omega), if_neg (by omega)]) | (rw [if_neg (by omega), if_pos (by omega), hI])⟩
    · refine v_iload_n hG dX5_kept_37 3 rfl ?_
      refine v_bipush hG dX5_kept_38 (by decide) ?_
      refine v_irem hG (by omega) (by omega) dX5_kept_40 ?_
      refine v_aload_n hG dX5_kept_41 0 rfl ?_
      refine v_iload_n hG dX5_kept_42 1 rfl ?_
      refine v_iconst hG dX5_kept_43 ?_
      refine v_callVi (n := 2) (ci := 5) hG (c_X5_feast hr h9 (by omega) (by omega)) gX5_kept_X5_feast rfl (by decide +kernel) rfl (by decide) h9 (by decide) (cl_6 _ _ _ _) rfl dX5_kept_44 rfl (Nat.le_of_ble_eq_true rfl) (by decide) ?_
      intro v44 z44 hp44
      obtain ⟨rfl, rfl⟩ := hp44
      refine v_icmp_ne hG 57 (by omega) (by omega) dX5_kept_47 (by decide) (fun h47 => ?_) (fun h47 => ?_)
      · refine v_iload_n hG dX5_kept_57 3 rfl ?_
        exact v_iret hG hR dX5_kept_58 ⟨rfl, by show _ = keG (z 170 55) (mF (z 170) f 3) (dM (z 170) f y); unfold keG; first | (rw [if_pos (by omega)]) | (rw [if_neg (by omega), if_neg (by omega)]) | (rw [if_neg (by omega), if_pos (by omega), hI])⟩
      · refine v_iload_n hG dX5_kept_50 3 rfl ?_
        refine v_iload hG dX5_kept_51 4 rfl ?_
        refine v_iadd hG dX5_kept_53 ?_
        refine v_goto hG 58 dX5_kept_54 (by decide) ?_
        exact v_iret hG hR dX5_kept_58 ⟨rfl, by show _ = keG (z 170 55) (mF (z 170) f 3) (dM (z 170) f y); unfold keG; first | (rw [if_pos (by omega)]) | (rw [if_neg (by omega), if_neg (by omega)]) | (rw [if_neg (by omega), if_pos (by omega), hI])⟩
  refine v_icmp_ne hG 23 (by omega) (by omega) dX5_kept_16 (by decide) (fun h16 => ?_) (fun h16 => ?_)
  · refine v_aload_n hG dX5_kept_23 0 rfl ?_
    refine v_getf (ci := 5) (k := 0) hG iW5 f7 rfl (by decide) h9 (by decide) (cl_6 _ _ _ _) rfl dX5_kept_24 ?_
    refine v_bipush hG dX5_kept_27 (by decide) ?_
    refine v_iald hG k_170 (by decide) (cl_162 _ _ _ _) (by decide) (by omega) dX5_kept_29 ?_
    rw [e55]
    exact L30 _ (by first | (rw [if_pos (by omega)]) | (rw [if_neg (by omega)]))
  · refine v_iconst hG dX5_kept_19 ?_
    refine v_goto hG 30 dX5_kept_20 (by decide) ?_
    exact L30 _ (by first | (rw [if_pos (by omega)]) | (rw [if_neg (by omega)]))

set_option maxHeartbeats 4000000 in
set_option maxRecDepth 100000 in
theorem c_X5_isOn {l : Launch} {D : va_G} {cA : Nat → ClassId} {r : Nat → Nat} {z : Zt} {f d : Int} (hr : Inj r) (h9 : kd 169 = 6) (hM : MI (z 170)) (hf : 0 ≤ f ∧ f < z 170 14) (hd : 0 ≤ d ∧ d ≤ 100000) : Ki l D cA r yX5_isOn wsX5_isOn 5 117 z [.ref (r 169), .int (iN f), .int (iN d)] (fun v z1 => z = z1 ∧ v = ind (onM (z 170) f d)) := by
  obtain ⟨hG1, h14, hFe, h55, h56, h57⟩ := id hM
  have hF := hFe f hf.1 hf.2
  obtain ⟨hF0, hF1, hF2, hF3, hF4, hF5, hF6⟩ := id hF
  have hyb := yM_bd hG1 hF hd
  have hk1 := kM_bd hG1 h55 hF (y := yM (z 170) f d) (by omega)
  have hk2 : 1 < yM (z 170) f d → -1 ≤ kM (z 170) f (yM (z 170) f d - 1) ∧ kM (z 170) f (yM (z 170) f d - 1) ≤ 400009 := fun q => kM_bd hG1 h55 hF (by omega)
  refine Ki_of [(0, _), (1, _), (2, _)] hr (by decide) rfl rfl (Nat.le_of_ble_eq_true rfl) rfl (fun Γ hG hR => ?_)
  refine v_aload_n hG dX5_isOn_0 0 rfl ?_
  refine v_aload_n hG dX5_isOn_1 0 rfl ?_
  refine v_iload_n hG dX5_isOn_2 1 rfl ?_
  refine v_iconst hG dX5_isOn_3 ?_
  refine v_callVi (n := 2) (ci := 5) hG (c_X5_feast hr h9 (by omega) (by omega)) gX5_isOn_X5_feast rfl (by decide +kernel) rfl (by decide) h9 (by decide) (cl_6 _ _ _ _) rfl dX5_isOn_4 rfl (Nat.le_of_ble_eq_true rfl) (by decide) ?_
  intro v4 z4 hp4
  obtain ⟨rfl, rfl⟩ := hp4
  refine v_iload_n hG dX5_isOn_7 2 rfl ?_
  refine v_callVi (n := 2) (ci := 5) hG (c_X5_yearAt hr h9 hF0 hG1 (by omega)) gX5_isOn_X5_yearAt rfl (by decide +kernel) rfl (by decide) h9 (by decide) (cl_6 _ _ _ _) rfl dX5_isOn_8 rfl (Nat.le_of_ble_eq_true rfl) (by decide) ?_
  intro v8 z8 hp8
  obtain ⟨rfl, rfl⟩ := hp8
  refine v_eqi hG (y := iN (yM (z 170) f d)) rfl ?_
  refine v_istore_n hG [(0, _), (1, _), (2, _), (3, _)] dX5_isOn_11 (by decide) rfl ?_
  refine v_aload_n hG dX5_isOn_12 0 rfl ?_
  refine v_iload_n hG dX5_isOn_13 1 rfl ?_
  refine v_iload_n hG dX5_isOn_14 3 rfl ?_
  refine v_callVi (n := 2) (ci := 5) hG (c_X5_kept hr h9 hM hf (by omega)) gX5_isOn_X5_kept rfl (by decide +kernel) rfl (by decide) h9 (by decide) (cl_6 _ _ _ _) rfl dX5_isOn_15 rfl (Nat.le_of_ble_eq_true rfl) (by decide) ?_
  intro v15 z15 hp15
  obtain ⟨rfl, rfl⟩ := hp15
  refine v_iload_n hG dX5_isOn_18 2 rfl ?_
  refine v_icmp_eq hG 39 (by omega) (by omega) dX5_isOn_19 (by decide) (fun h19 => ?_) (fun h19 => ?_)
  · refine v_iconst hG dX5_isOn_39 ?_
    refine v_goto hG 44 dX5_isOn_40 (by decide) ?_
    exact v_zret hG hR (by omega) dX5_isOn_44 ⟨rfl, by first | exact (ind_t (Or.inl h19)).symm | exact (ind_t (Or.inr ⟨h24, h36⟩)).symm | (rw [ind_f]; rintro (q9 | ⟨q8, q9⟩) <;> omega)⟩
  · refine v_iload_n hG dX5_isOn_22 3 rfl ?_
    refine v_iconst hG dX5_isOn_23 ?_
    refine v_icmp_le hG 43 (by omega) (by omega) dX5_isOn_24 (by decide) (fun h24 => ?_) (fun h24 => ?_)
    · refine v_iconst hG dX5_isOn_43 ?_
      exact v_zret hG hR (by omega) dX5_isOn_44 ⟨rfl, by first | exact (ind_t (Or.inl h19)).symm | exact (ind_t (Or.inr ⟨h24, h36⟩)).symm | (rw [ind_f]; rintro (q9 | ⟨q8, q9⟩) <;> omega)⟩
    · have hk2 := hk2 (by omega)
      refine v_aload_n hG dX5_isOn_27 0 rfl ?_
      refine v_iload_n hG dX5_isOn_28 1 rfl ?_
      refine v_iload_n hG dX5_isOn_29 3 rfl ?_
      refine v_iconst hG dX5_isOn_30 ?_
      refine v_isub hG dX5_isOn_31 ?_
      refine v_callVi (n := 2) (ci := 5) hG (c_X5_kept hr h9 hM hf (by omega)) gX5_isOn_X5_kept rfl (by decide +kernel) rfl (by decide) h9 (by decide) (cl_6 _ _ _ _) rfl dX5_isOn_32 rfl (Nat.le_of_ble_eq_true rfl) (by decide) ?_
      intro v32 z32 hp32
      obtain ⟨rfl, rfl⟩ := hp32
      refine v_iload_n hG dX5_isOn_35 2 rfl ?_
      refine v_icmp_ne hG 43 (by omega) (by omega) dX5_isOn_36 (by decide) (fun h36 => ?_) (fun h36 => ?_)
      · refine v_iconst hG dX5_isOn_43 ?_
        exact v_zret hG hR (by omega) dX5_isOn_44 ⟨rfl, by first | exact (ind_t (Or.inl h19)).symm | exact (ind_t (Or.inr ⟨h24, h36⟩)).symm | (rw [ind_f]; rintro (q9 | ⟨q8, q9⟩) <;> omega)⟩
      · refine v_iconst hG dX5_isOn_39 ?_
        refine v_goto hG 44 dX5_isOn_40 (by decide) ?_
        exact v_zret hG hR (by omega) dX5_isOn_44 ⟨rfl, by first | exact (ind_t (Or.inl h19)).symm | exact (ind_t (Or.inr ⟨h24, h36⟩)).symm | (rw [ind_f]; rintro (q9 | ⟨q8, q9⟩) <;> omega)⟩

set_option maxHeartbeats 4000000 in
set_option maxRecDepth 100000 in
theorem c_X5_setOn {l : Launch} {D : va_G} {cA : Nat → ClassId} {r : Nat → Nat} {z : Zt} {d : Int} (hr : Inj r) (h9 : kd 169 = 6) (hM : MI (z 170)) (hd : 0 ≤ d ∧ d ≤ 100000) : Ki l D cA r yX5_setOn wsX5_setOn 6 140 z [.ref (r 169), .int (iN d)] (fun v z1 => z = z1 ∧ isSet (fun j => (j : Int) < z 170 14 ∧ onM (z 170) j d) v) := by
  have iW5 : ∀ w ∈ u_ws RX5 TX5 10, w ∈ wsX5_setOn := by decide +kernel
  have f7 : Cond.fieldLink RX5 7 (TX5 0).1 (TX5 0).2.1 (TX5 0).2.2.1 ∈ wsX5_setOn := by decide +kernel
  obtain ⟨hG1, h14, hFe, h55, h56, h57⟩ := id hM
  refine Ki_of [(0, _), (1, _)] hr (by decide) rfl rfl (Nat.le_of_ble_eq_true rfl) rfl (fun Γ hG hR => ?_)
  refine v_iconst hG dX5_setOn_0 ?_
  refine v_istore_n hG [(0, _), (1, _), (2, _)] dX5_setOn_1 (by decide) rfl ?_
  refine v_iconst hG dX5_setOn_2 ?_
  refine v_istore_n hG [(0, _), (1, _), (2, _), (3, _)] dX5_setOn_3 (by decide) rfl ?_
  have L4 : ∀ (n : Nat), ∀ (x2 x3 : Int), (0 ≤ x3 ∧ x3 ≤ z 170 14 ∧ isSet (fun j => (j : Int) < x3 ∧ onM (z 170) j d) x2) → (z 170 14 - x3 + 1).toNat ≤ n → V Γ z 0 0 [(0, .ref (r 169)), (1, .int (iN d)), (2, .int (iN x2)), (3, .int (iN x3))] 4 [] := by
    intro n
    induction n with
    | zero =>
      intro x2 x3 hI hm
      obtain ⟨i1, i2, i3v⟩ := hI
      exact absurd hm (by omega)
    | succ n ih4 =>
      intro x2 x3 hI hm
      obtain ⟨i1, i2, i3v⟩ := hI
      have e3 : ((x3.toNat : Nat) : Int) = x3 := by omega
      refine v_iload_n hG dX5_setOn_4 3 rfl ?_
      refine v_aload_n hG dX5_setOn_5 0 rfl ?_
      refine v_getf (ci := 5) (k := 0) hG iW5 f7 rfl (by decide) h9 (by decide) (cl_6 _ _ _ _) rfl dX5_setOn_6 ?_
      refine v_bipush hG dX5_setOn_9 (by decide) ?_
      refine v_iald hG k_170 (by decide) (cl_162 _ _ _ _) (by decide) (by omega) dX5_setOn_11 ?_
      rw [show z 170 (14 : Int).toNat = z 170 14 from rfl]
      refine v_icmp_ge hG 40 (by omega) (by omega) dX5_setOn_12 (by decide) (fun h12 => ?_) (fun h12 => ?_)
      · refine v_iload_n hG dX5_setOn_40 2 rfl ?_
        exact v_iret hG hR dX5_setOn_41 ⟨rfl, isSet_congr i3v (fun j => by rw [show x3 = z 170 14 by omega])⟩
      · obtain ⟨x9, e9, hs9⟩ := set_or i3v (k := x3) (by omega)
        refine v_iload_n hG dX5_setOn_15 2 rfl ?_
        refine v_aload_n hG dX5_setOn_16 0 rfl ?_
        refine v_iload_n hG dX5_setOn_17 3 rfl ?_
        refine v_iload_n hG dX5_setOn_18 1 rfl ?_
        refine v_callVi (n := 2) (ci := 5) hG (c_X5_isOn hr h9 hM (by omega) hd) gX5_setOn_X5_isOn rfl (by decide +kernel) rfl (by decide) h9 (by decide) (cl_6 _ _ _ _) rfl dX5_setOn_19 rfl (Nat.le_of_ble_eq_true rfl) (by decide) ?_
        intro v19 z19 hp19
        obtain ⟨rfl, rfl⟩ := hp19
        refine v_if_eq hG 31 (by have h8 := ind_bd (onM (z 170) x3 d); omega) dX5_setOn_22 (by decide) (fun h22 => ?_) (fun h22 => ?_)
        · refine v_iconst hG dX5_setOn_31 ?_
          refine v_ior0 hG dX5_setOn_32 ?_
          first
            | refine v_eqi hG e9 ?_
            | refine v_eqi hG (or_0 i3v) ?_
          refine v_istore_n hG [(0, _), (1, _), (2, _), (3, _)] dX5_setOn_33 (by decide) rfl ?_
          refine v_iinc hG [(0, _), (1, _), (2, _), (3, _)] dX5_setOn_34 3 rfl (by decide) rfl ?_
          refine v_goto hG 4 dX5_setOn_37 (by decide) ?_
          refine ih4 _ _ ?_ (by omega)
          refine ⟨by omega, by omega, ?_⟩
          first
            | exact isSet_yes i1 hs9 (by rw [e3]; exact Classical.byContradiction (fun q9 => h22 (ind_f q9)))
            | exact isSet_no i1 i3v (by rw [e3]; exact ind_0.mp h22)
        · refine v_iconst hG dX5_setOn_25 ?_
          refine v_iload_n hG dX5_setOn_26 3 rfl ?_
          refine v_ishl0 hG dX5_setOn_27 ?_
          refine v_goto hG 32 dX5_setOn_28 (by decide) ?_
          refine v_ior0 hG dX5_setOn_32 ?_
          first
            | refine v_eqi hG e9 ?_
            | refine v_eqi hG (or_0 i3v) ?_
          refine v_istore_n hG [(0, _), (1, _), (2, _), (3, _)] dX5_setOn_33 (by decide) rfl ?_
          refine v_iinc hG [(0, _), (1, _), (2, _), (3, _)] dX5_setOn_34 3 rfl (by decide) rfl ?_
          refine v_goto hG 4 dX5_setOn_37 (by decide) ?_
          refine ih4 _ _ ?_ (by omega)
          refine ⟨by omega, by omega, ?_⟩
          first
            | exact isSet_yes i1 hs9 (by rw [e3]; exact Classical.byContradiction (fun q9 => h22 (ind_f q9)))
            | exact isSet_no i1 i3v (by rw [e3]; exact ind_0.mp h22)
  exact L4 _ _ _ ⟨by omega, by omega, isSet_0 (fun j hj => by omega)⟩ (Nat.le_refl _)

set_option maxHeartbeats 4000000 in
set_option maxRecDepth 100000 in
theorem c_X5_ofTown {l : Launch} {D : va_G} {cA : Nat → ClassId} {r : Nat → Nat} {z : Zt} {v t : Int} {P : Nat → Prop} (hr : Inj r) (h9 : kd 169 = 6) (hM : MI (z 170)) (hv : isSet P v) (ht : 0 ≤ t ∧ t ≤ 1) : Ki l D cA r yX5_ofTown wsX5_ofTown 1 22 z [.ref (r 169), .int (iN v), .int (iN t)] (fun x z1 => z = z1 ∧ x = cntP (fun j => P j ∧ mF (z 170) j 0 = t) (z 170 14).toNat) := by
  have iW5 : ∀ w ∈ u_ws RX5 TX5 10, w ∈ wsX5_ofTown := by decide +kernel
  have f7 : Cond.fieldLink RX5 7 (TX5 0).1 (TX5 0).2.1 (TX5 0).2.2.1 ∈ wsX5_ofTown := by decide +kernel
  obtain ⟨hG1, h14, hFe, h55, h56, h57⟩ := id hM
  refine Ki_of [(0, _), (1, _), (2, _)] hr (by decide) rfl rfl (Nat.le_of_ble_eq_true rfl) rfl (fun Γ hG hR => ?_)
  refine v_iconst hG dX5_ofTown_0 ?_
  refine v_istore_n hG [(0, _), (1, _), (2, _), (3, _)] dX5_ofTown_1 (by decide) rfl ?_
  refine v_iconst hG dX5_ofTown_2 ?_
  refine v_istore hG [(0, _), (1, _), (2, _), (3, _), (4, _)] dX5_ofTown_3 (by decide) rfl ?_
  have L5 : ∀ (n : Nat), ∀ (x3 x4 : Int), (0 ≤ x4 ∧ x4 ≤ z 170 14 ∧ x3 = cntP (fun j => P j ∧ mF (z 170) j 0 = t) x4.toNat) → (z 170 14 - x4 + 1).toNat ≤ n → V Γ z 0 0 [(0, .ref (r 169)), (1, .int (iN v)), (2, .int (iN t)), (3, .int (iN x3)), (4, .int (iN x4))] 5 [] := by
    intro n
    induction n with
    | zero =>
      intro x3 x4 hI hm
      obtain ⟨i1, i2, i3v⟩ := hI
      exact absurd hm (by omega)
    | succ n ih5 =>
      intro x3 x4 hI hm
      obtain ⟨i1, i2, i3v⟩ := hI
      have e3 : ((x4.toNat : Nat) : Int) = x4 := by omega
      refine v_iload hG dX5_ofTown_5 4 rfl ?_
      refine v_aload_n hG dX5_ofTown_7 0 rfl ?_
      refine v_getf (ci := 5) (k := 0) hG iW5 f7 rfl (by decide) h9 (by decide) (cl_6 _ _ _ _) rfl dX5_ofTown_8 ?_
      refine v_bipush hG dX5_ofTown_11 (by decide) ?_
      refine v_iald hG k_170 (by decide) (cl_162 _ _ _ _) (by decide) (by omega) dX5_ofTown_13 ?_
      rw [show z 170 (14 : Int).toNat = z 170 14 from rfl]
      refine v_icmp_ge hG 52 (by omega) (by omega) dX5_ofTown_14 (by decide) (fun h14 => ?_) (fun h14 => ?_)
      · refine v_iload_n hG dX5_ofTown_52 3 rfl ?_
        exact v_iret hG hR dX5_ofTown_53 ⟨rfl, by rw [i3v, show x4 = z 170 14 by omega]⟩
      · refine v_iload_n hG dX5_ofTown_17 3 rfl ?_
        refine v_iload_n hG dX5_ofTown_18 1 rfl ?_
        refine v_iload hG dX5_ofTown_19 4 rfl ?_
        refine v_ishr0 hG dX5_ofTown_21 ?_
        refine v_iconst hG dX5_ofTown_22 ?_
        refine v_iand0 hG dX5_ofTown_23 ?_
        refine v_eqi hG (bit_of hv (by omega)) ?_
        refine v_iconst hG dX5_ofTown_24 ?_
        refine v_icmp_ne hG 43 (by have h8 := ind_bd (P x4.toNat); omega) (by omega) dX5_ofTown_25 (by decide) (fun h25 => ?_) (fun h25 => ?_)
        · refine v_iconst hG dX5_ofTown_43 ?_
          refine v_iadd hG dX5_ofTown_44 ?_
          refine v_istore_n hG [(0, _), (1, _), (2, _), (3, _), (4, _)] dX5_ofTown_45 (by decide) rfl ?_
          refine v_iinc hG [(0, _), (1, _), (2, _), (3, _), (4, _)] dX5_ofTown_46 4 rfl (by decide) rfl ?_
          refine v_goto hG 5 dX5_ofTown_49 (by decide) ?_
          refine ih5 _ _ ?_ (by omega)
          refine ⟨by omega, by omega, ?_⟩
          rw [i3v]
          first
            | exact (cntP_y (Q := fun j => P j ∧ mF (z 170) j 0 = t) i1 ⟨Classical.byContradiction (fun q9 => by rw [ind_f q9] at h25; omega), by rw [e3]; exact h36⟩).symm
            | (rw [Int.add_zero]; exact (cntP_n (Q := fun j => P j ∧ mF (z 170) j 0 = t) i1 (fun q9 => by have q8 := q9.2; rw [e3] at q8; exact h36 q8)).symm)
            | (rw [Int.add_zero]; exact (cntP_n (Q := fun j => P j ∧ mF (z 170) j 0 = t) i1 (fun q9 => h25 (ind_t q9.1))).symm)
        · have hF := hFe x4 (by omega) (by omega)
          have hF0 := hF.1
          refine v_aload_n hG dX5_ofTown_28 0 rfl ?_
          refine v_iload hG dX5_ofTown_29 4 rfl ?_
          refine v_iconst hG dX5_ofTown_31 ?_
          refine v_callVi (n := 2) (ci := 5) hG (c_X5_feast hr h9 (by omega) (by omega)) gX5_ofTown_X5_feast rfl (by decide +kernel) rfl (by decide) h9 (by decide) (cl_6 _ _ _ _) rfl dX5_ofTown_32 rfl (Nat.le_of_ble_eq_true rfl) (by decide) ?_
          intro v32 z32 hp32
          obtain ⟨rfl, rfl⟩ := hp32
          refine v_iload_n hG dX5_ofTown_35 2 rfl ?_
          refine v_icmp_ne hG 43 (by omega) (by omega) dX5_ofTown_36 (by decide) (fun h36 => ?_) (fun h36 => ?_)
          · refine v_iconst hG dX5_ofTown_43 ?_
            refine v_iadd hG dX5_ofTown_44 ?_
            refine v_istore_n hG [(0, _), (1, _), (2, _), (3, _), (4, _)] dX5_ofTown_45 (by decide) rfl ?_
            refine v_iinc hG [(0, _), (1, _), (2, _), (3, _), (4, _)] dX5_ofTown_46 4 rfl (by decide) rfl ?_
            refine v_goto hG 5 dX5_ofTown_49 (by decide) ?_
            refine ih5 _ _ ?_ (by omega)
            refine ⟨by omega, by omega, ?_⟩
            rw [i3v]
            first
              | exact (cntP_y (Q := fun j => P j ∧ mF (z 170) j 0 = t) i1 ⟨Classical.byContradiction (fun q9 => by rw [ind_f q9] at h25; omega), by rw [e3]; exact h36⟩).symm
              | (rw [Int.add_zero]; exact (cntP_n (Q := fun j => P j ∧ mF (z 170) j 0 = t) i1 (fun q9 => by have q8 := q9.2; rw [e3] at q8; exact h36 q8)).symm)
              | (rw [Int.add_zero]; exact (cntP_n (Q := fun j => P j ∧ mF (z 170) j 0 = t) i1 (fun q9 => h25 (ind_t q9.1))).symm)
          · refine v_iconst hG dX5_ofTown_39 ?_
            refine v_goto hG 44 dX5_ofTown_40 (by decide) ?_
            refine v_iadd hG dX5_ofTown_44 ?_
            refine v_istore_n hG [(0, _), (1, _), (2, _), (3, _), (4, _)] dX5_ofTown_45 (by decide) rfl ?_
            refine v_iinc hG [(0, _), (1, _), (2, _), (3, _), (4, _)] dX5_ofTown_46 4 rfl (by decide) rfl ?_
            refine v_goto hG 5 dX5_ofTown_49 (by decide) ?_
            refine ih5 _ _ ?_ (by omega)
            refine ⟨by omega, by omega, ?_⟩
            rw [i3v]
            first
              | exact (cntP_y (Q := fun j => P j ∧ mF (z 170) j 0 = t) i1 ⟨Classical.byContradiction (fun q9 => by rw [ind_f q9] at h25; omega), by rw [e3]; exact h36⟩).symm
              | (rw [Int.add_zero]; exact (cntP_n (Q := fun j => P j ∧ mF (z 170) j 0 = t) i1 (fun q9 => by have q8 := q9.2; rw [e3] at q8; exact h36 q8)).symm)
              | (rw [Int.add_zero]; exact (cntP_n (Q := fun j => P j ∧ mF (z 170) j 0 = t) i1 (fun q9 => h25 (ind_t q9.1))).symm)
  exact L5 _ _ _ ⟨by omega, by omega, rfl⟩ (Nat.le_refl _)

set_option maxHeartbeats 4000000 in
set_option maxRecDepth 100000 in
theorem c_X5_quarrels {l : Launch} {D : va_G} {cA : Nat → ClassId} {r : Nat → Nat} {z : Zt} {d : Int} (hr : Inj r) (h9 : kd 169 = 6) (hM : MI (z 170)) (hd : 0 ≤ d ∧ d ≤ 100000) : Ki l D cA r yX5_quarrels wsX5_quarrels 7 163 z [.ref (r 169), .int (iN d)] (fun v z1 => z = z1 ∧ v = ind (quM (z 170) d)) := by
  obtain ⟨hG1, h14, hFe, h55, h56, h57⟩ := id hM
  have hc0 := cntP_bd (fun j => ((j : Int) < z 170 14 ∧ onM (z 170) j d) ∧ mF (z 170) j 0 = 0) (z 170 14).toNat
  have hc1 := cntP_bd (fun j => ((j : Int) < z 170 14 ∧ onM (z 170) j d) ∧ mF (z 170) j 0 = 1) (z 170 14).toNat
  have hp0 := cntP_pos_iff (P := fun j => ((j : Int) < z 170 14 ∧ onM (z 170) j d) ∧ mF (z 170) j 0 = 0) (n := (z 170 14).toNat)
  have hp1 := cntP_pos_iff (P := fun j => ((j : Int) < z 170 14 ∧ onM (z 170) j d) ∧ mF (z 170) j 0 = 1) (n := (z 170 14).toNat)
  refine Ki_of [(0, _), (1, _)] hr (by decide) rfl rfl (Nat.le_of_ble_eq_true rfl) rfl (fun Γ hG hR => ?_)
  refine v_aload_n hG dX5_quarrels_0 0 rfl ?_
  refine v_iload_n hG dX5_quarrels_1 1 rfl ?_
  refine v_callVi (n := 1) (ci := 5) hG (c_X5_setOn hr h9 hM hd) gX5_quarrels_X5_setOn rfl (by decide +kernel) rfl (by decide) h9 (by decide) (cl_6 _ _ _ _) rfl dX5_quarrels_2 rfl (Nat.le_of_ble_eq_true rfl) (by decide) ?_
  intro v2 z2 hp2
  obtain ⟨rfl, hx2⟩ := hp2
  refine v_istore_n hG [(0, _), (1, _), (2, _)] dX5_quarrels_5 (by decide) rfl ?_
  refine v_aload_n hG dX5_quarrels_6 0 rfl ?_
  refine v_iload_n hG dX5_quarrels_7 2 rfl ?_
  refine v_iconst hG dX5_quarrels_8 ?_
  refine v_callVi (n := 2) (ci := 5) hG (c_X5_ofTown hr h9 hM hx2 (by omega)) gX5_quarrels_X5_ofTown rfl (by decide +kernel) rfl (by decide) h9 (by decide) (cl_6 _ _ _ _) rfl dX5_quarrels_9 rfl (Nat.le_of_ble_eq_true rfl) (by decide) ?_
  intro v9 z9 hp9
  obtain ⟨rfl, rfl⟩ := hp9
  refine v_eqi hG (y := iN (cntP (fun j => ((j : Int) < z 170 14 ∧ onM (z 170) j d) ∧ mF (z 170) j 0 = 0) (z 170 14).toNat)) rfl ?_
  refine v_if_le hG 28 (by clear hp0 hp1; omega) dX5_quarrels_12 (by decide) (fun h12 => ?_) (fun h12 => ?_)
  · refine v_iconst hG dX5_quarrels_28 ?_
    exact v_zret hG hR (by first | exact Or.inl rfl | exact Or.inr rfl | omega) dX5_quarrels_29 ⟨rfl, by first | exact (ind_t ⟨by obtain ⟨j, -, hj⟩ := hp0.mp (by clear hp0 hp1; omega); exact ⟨j, hj⟩, by obtain ⟨j, -, hj⟩ := hp1.mp (by clear hp0 hp1; omega); exact ⟨j, hj⟩⟩).symm | exact (ind_f (fun q9 => by obtain ⟨⟨j, hj⟩, -⟩ := q9; have h8 := hp0.mpr ⟨j, by have := hj.1.1; clear hp0 hp1; omega, hj⟩; clear hp0 hp1; omega)).symm | exact (ind_f (fun q9 => by obtain ⟨-, j, hj⟩ := q9; have h8 := hp1.mpr ⟨j, by have := hj.1.1; clear hp0 hp1; omega, hj⟩; clear hp0 hp1; omega)).symm⟩
  · refine v_aload_n hG dX5_quarrels_15 0 rfl ?_
    refine v_iload_n hG dX5_quarrels_16 2 rfl ?_
    refine v_iconst hG dX5_quarrels_17 ?_
    refine v_callVi (n := 2) (ci := 5) hG (c_X5_ofTown hr h9 hM hx2 (by omega)) gX5_quarrels_X5_ofTown rfl (by decide +kernel) rfl (by decide) h9 (by decide) (cl_6 _ _ _ _) rfl dX5_quarrels_18 rfl (Nat.le_of_ble_eq_true rfl) (by decide) ?_
    intro v18 z18 hp18
    obtain ⟨rfl, rfl⟩ := hp18
    refine v_eqi hG (y := iN (cntP (fun j => ((j : Int) < z 170 14 ∧ onM (z 170) j d) ∧ mF (z 170) j 0 = 1) (z 170 14).toNat)) rfl ?_
    refine v_if_le hG 28 (by clear hp0 hp1; omega) dX5_quarrels_21 (by decide) (fun h21 => ?_) (fun h21 => ?_)
    · refine v_iconst hG dX5_quarrels_28 ?_
      exact v_zret hG hR (by first | exact Or.inl rfl | exact Or.inr rfl | omega) dX5_quarrels_29 ⟨rfl, by first | exact (ind_t ⟨by obtain ⟨j, -, hj⟩ := hp0.mp (by clear hp0 hp1; omega); exact ⟨j, hj⟩, by obtain ⟨j, -, hj⟩ := hp1.mp (by clear hp0 hp1; omega); exact ⟨j, hj⟩⟩).symm | exact (ind_f (fun q9 => by obtain ⟨⟨j, hj⟩, -⟩ := q9; have h8 := hp0.mpr ⟨j, by have := hj.1.1; clear hp0 hp1; omega, hj⟩; clear hp0 hp1; omega)).symm | exact (ind_f (fun q9 => by obtain ⟨-, j, hj⟩ := q9; have h8 := hp1.mpr ⟨j, by have := hj.1.1; clear hp0 hp1; omega, hj⟩; clear hp0 hp1; omega)).symm⟩
    · refine v_iconst hG dX5_quarrels_24 ?_
      refine v_goto hG 29 dX5_quarrels_25 (by decide) ?_
      exact v_zret hG hR (by first | exact Or.inl rfl | exact Or.inr rfl | omega) dX5_quarrels_29 ⟨rfl, by first | exact (ind_t ⟨by obtain ⟨j, -, hj⟩ := hp0.mp (by clear hp0 hp1; omega); exact ⟨j, hj⟩, by obtain ⟨j, -, hj⟩ := hp1.mp (by clear hp0 hp1; omega); exact ⟨j, hj⟩⟩).symm | exact (ind_f (fun q9 => by obtain ⟨⟨j, hj⟩, -⟩ := q9; have h8 := hp0.mpr ⟨j, by have := hj.1.1; clear hp0 hp1; omega, hj⟩; clear hp0 hp1; omega)).symm | exact (ind_f (fun q9 => by obtain ⟨-, j, hj⟩ := q9; have h8 := hp1.mpr ⟨j, by have := hj.1.1; clear hp0 hp1; omega, hj⟩; clear hp0 hp1; omega)).symm⟩

set_option maxHeartbeats 4000000 in
set_option maxRecDepth 100000 in
theorem c_X5_quarrelsIn {l : Launch} {D : va_G} {cA : Nat → ClassId} {r : Nat → Nat} {z : Zt} {q : Int} (hr : Inj r) (h9 : kd 169 = 6) (hM : MI (z 170)) (hq : 1 ≤ q ∧ q ≤ 400) : Ki l D cA r yX5_quarrelsIn wsX5_quarrelsIn 8 185 z [.ref (r 169), .int (iN q)] (fun v z1 => z = z1 ∧ v = cntP (fun i => quM (z 170) (z 170 57 + i)) q.toNat) := by
  have iW5 : ∀ w ∈ u_ws RX5 TX5 10, w ∈ wsX5_quarrelsIn := by decide +kernel
  have f7 : Cond.fieldLink RX5 7 (TX5 0).1 (TX5 0).2.1 (TX5 0).2.2.1 ∈ wsX5_quarrelsIn := by decide +kernel
  obtain ⟨hG1, h14, hFe, h55, h56, h57⟩ := id hM
  refine Ki_of [(0, _), (1, _)] hr (by decide) rfl rfl (Nat.le_of_ble_eq_true rfl) rfl (fun Γ hG hR => ?_)
  refine v_iconst hG dX5_quarrelsIn_0 ?_
  refine v_istore_n hG [(0, _), (1, _), (2, _)] dX5_quarrelsIn_1 (by decide) rfl ?_
  refine v_aload_n hG dX5_quarrelsIn_2 0 rfl ?_
  refine v_getf (ci := 5) (k := 0) hG iW5 f7 rfl (by decide) h9 (by decide) (cl_6 _ _ _ _) rfl dX5_quarrelsIn_3 ?_
  refine v_bipush hG dX5_quarrelsIn_6 (by decide) ?_
  refine v_iald hG k_170 (by decide) (cl_162 _ _ _ _) (by decide) (by omega) dX5_quarrelsIn_8 ?_
  rw [show z 170 (57 : Int).toNat = z 170 57 from rfl]
  refine v_istore_n hG [(0, _), (1, _), (2, _), (3, _)] dX5_quarrelsIn_9 (by decide) rfl ?_
  have L10 : ∀ (n : Nat), ∀ (x2 x3 : Int), (z 170 57 ≤ x3 ∧ x3 ≤ z 170 57 + q ∧ x2 = cntP (fun i => quM (z 170) (z 170 57 + i)) (x3 - z 170 57).toNat) → (z 170 57 + q - x3 + 1).toNat ≤ n → V Γ z 0 0 [(0, .ref (r 169)), (1, .int (iN q)), (2, .int (iN x2)), (3, .int (iN x3))] 10 [] := by
    intro n
    induction n with
    | zero =>
      intro x2 x3 hI hm
      obtain ⟨i1, i2, i3v⟩ := hI
      exact absurd hm (by omega)
    | succ n ih10 =>
      intro x2 x3 hI hm
      obtain ⟨i1, i2, i3v⟩ := hI
      have e3 : z 170 57 + (((x3 - z 170 57).toNat : Nat) : Int) = x3 := by omega
      refine v_iload_n hG dX5_quarrelsIn_10 3 rfl ?_
      refine v_aload_n hG dX5_quarrelsIn_11 0 rfl ?_
      refine v_getf (ci := 5) (k := 0) hG iW5 f7 rfl (by decide) h9 (by decide) (cl_6 _ _ _ _) rfl dX5_quarrelsIn_12 ?_
      refine v_bipush hG dX5_quarrelsIn_15 (by decide) ?_
      refine v_iald hG k_170 (by decide) (cl_162 _ _ _ _) (by decide) (by omega) dX5_quarrelsIn_17 ?_
      rw [show z 170 (57 : Int).toNat = z 170 57 from rfl]
      refine v_iload_n hG dX5_quarrelsIn_18 1 rfl ?_
      refine v_iadd hG dX5_quarrelsIn_19 ?_
      refine v_icmp_ge hG 45 (by omega) (by omega) dX5_quarrelsIn_20 (by decide) (fun h20 => ?_) (fun h20 => ?_)
      · refine v_iload_n hG dX5_quarrelsIn_45 2 rfl ?_
        exact v_iret hG hR dX5_quarrelsIn_46 ⟨rfl, by rw [i3v, show x3 - z 170 57 = q by omega]⟩
      · refine v_iload_n hG dX5_quarrelsIn_23 2 rfl ?_
        refine v_aload_n hG dX5_quarrelsIn_24 0 rfl ?_
        refine v_iload_n hG dX5_quarrelsIn_25 3 rfl ?_
        refine v_callVi (n := 1) (ci := 5) hG (c_X5_quarrels hr h9 hM (by omega)) gX5_quarrelsIn_X5_quarrels rfl (by decide +kernel) rfl (by decide) h9 (by decide) (cl_6 _ _ _ _) rfl dX5_quarrelsIn_26 rfl (Nat.le_of_ble_eq_true rfl) (by decide) ?_
        intro v26 z26 hp26
        obtain ⟨rfl, rfl⟩ := hp26
        refine v_if_eq hG 36 (by have h8 := ind_bd (quM (z 170) x3); omega) dX5_quarrelsIn_29 (by decide) (fun h29 => ?_) (fun h29 => ?_)
        · refine v_iconst hG dX5_quarrelsIn_36 ?_
          refine v_iadd hG dX5_quarrelsIn_37 ?_
          refine v_istore_n hG [(0, _), (1, _), (2, _), (3, _)] dX5_quarrelsIn_38 (by decide) rfl ?_
          refine v_iinc hG [(0, _), (1, _), (2, _), (3, _)] dX5_quarrelsIn_39 3 rfl (by decide) rfl ?_
          refine v_goto hG 10 dX5_quarrelsIn_42 (by decide) ?_
          refine ih10 _ _ ?_ (by omega)
          refine ⟨by omega, by omega, ?_⟩
          rw [i3v, show x3 + 1 - z 170 57 = (x3 - z 170 57) + 1 by omega]
          first
            | exact (cntP_y (Q := fun i => quM (z 170) (z 170 57 + i)) (by omega) (by rw [e3]; exact Classical.byContradiction (fun q9 => h29 (ind_f q9)))).symm
            | (rw [Int.add_zero]; exact (cntP_n (Q := fun i => quM (z 170) (z 170 57 + i)) (by omega) (by rw [e3]; exact ind_0.mp h29)).symm)
        · refine v_iconst hG dX5_quarrelsIn_32 ?_
          refine v_goto hG 37 dX5_quarrelsIn_33 (by decide) ?_
          refine v_iadd hG dX5_quarrelsIn_37 ?_
          refine v_istore_n hG [(0, _), (1, _), (2, _), (3, _)] dX5_quarrelsIn_38 (by decide) rfl ?_
          refine v_iinc hG [(0, _), (1, _), (2, _), (3, _)] dX5_quarrelsIn_39 3 rfl (by decide) rfl ?_
          refine v_goto hG 10 dX5_quarrelsIn_42 (by decide) ?_
          refine ih10 _ _ ?_ (by omega)
          refine ⟨by omega, by omega, ?_⟩
          rw [i3v, show x3 + 1 - z 170 57 = (x3 - z 170 57) + 1 by omega]
          first
            | exact (cntP_y (Q := fun i => quM (z 170) (z 170 57 + i)) (by omega) (by rw [e3]; exact Classical.byContradiction (fun q9 => h29 (ind_f q9)))).symm
            | (rw [Int.add_zero]; exact (cntP_n (Q := fun i => quM (z 170) (z 170 57 + i)) (by omega) (by rw [e3]; exact ind_0.mp h29)).symm)
  exact L10 _ _ _ ⟨by omega, by omega, by rw [show (z 170 57 - z 170 57).toNat = 0 by omega]; rfl⟩ (Nat.le_refl _)

