set_option maxHeartbeats 4000000 in
set_option maxRecDepth 100000 in
theorem c_X3_dueIn {l : Launch} {D : va_G} {cA : Nat → ClassId} {r : Nat → Nat} {z : Zt} {t f : Nat} {y : Int} (hr : Inj r) (ht : kd t = 3) (hf : kd f = 4) (hT : TI z t) (hF : FI z f) (hy : 1 ≤ y ∧ y ≤ 1000) : Ki l D cA r yX3_dueIn wsX3_dueIn 2 45 z [.ref (r t), .ref (r f), .int (iN y)] (fun x z1 => z = z1 ∧ x = dueG (z t 0) (z t 3) (z (t + 1)) (z (t + 2)) (z f 1) (z f 2) y) := by
  have iW1 : ∀ w ∈ u_ws RX1 TX1 4, w ∈ wsX3_dueIn := by decide +kernel
  have f56 : Cond.fieldLinkNest RX3 56 (TX1 1).1 (TX1 1).2.1 (TX1 1).2.2.1 "TwoTownAlmanac" ∈ nwF := by decide +kernel
  have f61 : Cond.fieldLinkNest RX3 61 (TX1 2).1 (TX1 2).2.1 (TX1 2).2.2.1 "TwoTownAlmanac" ∈ nwF := by decide +kernel
  obtain ⟨hf0, hf1, hf2, hf3, hf4, hf5, hf6⟩ := id hF
  have hml := mlen_bd (z t 0) (z f 1)
  have hnd := nd_bd (a := z t 0) (m := z f 1) hf3
  have hdb := dofN_bd (a := z t 0) (y := y) (m := z f 1) (dd := z f 2) ⟨hf1, hf2⟩ hf3
  have hd1 : y * yl (z t 0) ≤ 366000 := by
    unfold yl
    split <;> omega
  have hd0 : 0 ≤ (y - 1) * yl (z t 0) := Int.mul_nonneg (by omega) (by have := yl_bd (z t 0); omega)
  have hfb := fdT_bd hT (d := dof (z t 0) y (z f 1) (nd (z t 0) (z f 1) (z f 2))) (by omega)
  have hyb := yT_bd hT (d := fdT z t (dof (z t 0) y (z f 1) (nd (z t 0) (z f 1) (z f 2)))) (by omega)
  refine Ki_of [(0, _), (1, _), (2, _)] hr (by decide) rfl rfl (Nat.le_of_ble_eq_true rfl) rfl (fun Γ hG hR => ?_)
  refine v_aload_n hG dX3_dueIn_0 0 rfl ?_
  refine v_aload_n hG dX3_dueIn_1 1 rfl ?_
  refine v_getfN (ci := 1) (k := 1) hG iW1 f56 rfl (by decide) hf (by decide) (cl_4 _ _ _ _) rfl dX3_dueIn_2 ?_
  refine v_callVi (n := 1) (ci := 3) hG (c_X3_daysInMonth hr ht hT (by omega)) gX3_dueIn_X3_daysInMonth rfl (by decide +kernel) rfl (by decide) ht (by decide) (cl_3 _ _ _ _) rfl dX3_dueIn_5 rfl (Nat.le_of_ble_eq_true rfl) (by decide) ?_
  intro v5 z5 hp5
  obtain ⟨rfl, rfl⟩ := hp5
  refine v_iconst hG dX3_dueIn_8 ?_
  refine v_iadd hG dX3_dueIn_9 ?_
  refine v_istore_n hG [(0, _), (1, _), (2, _), (3, _)] dX3_dueIn_10 (by decide) rfl ?_
  refine v_aload_n hG dX3_dueIn_11 1 rfl ?_
  refine v_getfN (ci := 1) (k := 2) hG iW1 f61 rfl (by decide) hf (by decide) (cl_4 _ _ _ _) rfl dX3_dueIn_12 ?_
  refine v_iload_n hG dX3_dueIn_15 3 rfl ?_
  have L27 : ∀ (x : Int), x = nd (z t 0) (z f 1) (z f 2) → V Γ z 0 0 [(0, .ref (r t)), (1, .ref (r f)), (2, .int (iN y))] 27 [.int (iN x)] := by
    intro x hI
    subst hI
    refine v_istore hG [(0, _), (1, _), (2, _), (4, _)] dX3_dueIn_27 (by decide) rfl ?_
    refine v_aload_n hG dX3_dueIn_29 0 rfl ?_
    refine v_aload_n hG dX3_dueIn_30 0 rfl ?_
    refine v_iload_n hG dX3_dueIn_31 2 rfl ?_
    refine v_aload_n hG dX3_dueIn_32 1 rfl ?_
    refine v_getfN (ci := 1) (k := 1) hG iW1 f56 rfl (by decide) hf (by decide) (cl_4 _ _ _ _) rfl dX3_dueIn_33 ?_
    refine v_iload hG dX3_dueIn_36 3 rfl ?_
    refine v_callVi (n := 3) (ci := 3) hG (c_X3_dateOf hr ht hT (by omega)) gX3_dueIn_X3_dateOf rfl (by decide +kernel) rfl (by decide) ht (by decide) (cl_3 _ _ _ _) rfl dX3_dueIn_38 rfl (Nat.le_of_ble_eq_true rfl) (by decide) ?_
    intro v38 z38 hp38
    obtain ⟨rfl, rfl⟩ := hp38
    refine v_callVi (n := 1) (ci := 3) hG (c_X3_firstDayFrom hr ht hT (by omega)) gX3_dueIn_X3_firstDayFrom rfl (by decide +kernel) rfl (by decide) ht (by decide) (cl_3 _ _ _ _) rfl dX3_dueIn_41 rfl (Nat.le_of_ble_eq_true rfl) (by decide) ?_
    intro v41 z41 hp41
    obtain ⟨rfl, rfl⟩ := hp41
    refine v_istore hG [(0, _), (1, _), (2, _), (4, _), (5, _)] dX3_dueIn_44 (by decide) rfl ?_
    refine v_aload_n hG dX3_dueIn_46 0 rfl ?_
    refine v_iload hG dX3_dueIn_47 4 rfl ?_
    refine v_callVi (n := 1) (ci := 3) hG (c_X3_yearOn hr ht hT (by omega)) gX3_dueIn_X3_yearOn rfl (by decide +kernel) rfl (by decide) ht (by decide) (cl_3 _ _ _ _) rfl dX3_dueIn_49 rfl (Nat.le_of_ble_eq_true rfl) (by decide) ?_
    intro v49 z49 hp49
    obtain ⟨rfl, rfl⟩ := hp49
    refine v_iload_n hG dX3_dueIn_52 2 rfl ?_
    refine v_icmp_ne hG 61 (by omega) (by omega) dX3_dueIn_53 (by decide) (fun h53 => ?_) (fun h53 => ?_)
    · refine v_iconst hG dX3_dueIn_61 ?_
      exact v_iret hG hR dX3_dueIn_62 ⟨rfl, by unfold dueG; first | exact (if_pos h53).symm | exact (if_neg h53).symm⟩
    · refine v_iload hG dX3_dueIn_56 4 rfl ?_
      refine v_goto hG 62 dX3_dueIn_58 (by decide) ?_
      exact v_iret hG hR dX3_dueIn_62 ⟨rfl, by unfold dueG; first | exact (if_pos h53).symm | exact (if_neg h53).symm⟩
  refine v_icmp_ge hG 26 (by omega) (by omega) dX3_dueIn_16 (by decide) (fun h16 => ?_) (fun h16 => ?_)
  · refine v_iload_n hG dX3_dueIn_26 3 rfl ?_
    refine v_sub hG [(0, _), (1, _), (2, _)] [0, 1, 2] rfl ?_
    exact L27 _ (by unfold nd; first | (rw [if_pos (by omega)]) | (rw [if_neg (by omega)]))
  · refine v_aload_n hG dX3_dueIn_19 1 rfl ?_
    refine v_getfN (ci := 1) (k := 2) hG iW1 f61 rfl (by decide) hf (by decide) (cl_4 _ _ _ _) rfl dX3_dueIn_20 ?_
    refine v_goto hG 27 dX3_dueIn_23 (by decide) ?_
    refine v_sub hG [(0, _), (1, _), (2, _)] [0, 1, 2] rfl ?_
    exact L27 _ (by unfold nd; first | (rw [if_pos (by omega)]) | (rw [if_neg (by omega)]))

set_option maxHeartbeats 4000000 in
set_option maxRecDepth 100000 in
theorem c_X2_townWith {l : Launch} {D : va_G} {cA : Nat → ClassId} {r : Nat → Nat} {z : Zt} {s : Nat} {q : Int} (hr : Inj r) (hs : kd s = 2) (hq : -2147483648 ≤ q ∧ q < 2147483648) : Kr l D cA r yX2_townWith wsX2_townWith 0 0 z [.ref (r s), .int (iN q)] (fun t1 z1 => z = z1 ∧ kd t1 = 3 ∧ t1 = (if q = 0 then s + 1 else s + 4)) := by
  have iW2 : ∀ w ∈ u_ws RX2 TX2 9, w ∈ wsX2_townWith := by decide +kernel
  have f14 : Cond.fieldLink RX2 14 (TX2 0).1 (TX2 0).2.1 (TX2 0).2.2.1 ∈ wsX2_townWith := by decide +kernel
  have f20 : Cond.fieldLink RX2 20 (TX2 1).1 (TX2 1).2.1 (TX2 1).2.2.1 ∈ wsX2_townWith := by decide +kernel
  refine Kr_of [(0, _), (1, _)] hr (by decide) rfl rfl (Nat.le_of_ble_eq_true rfl) rfl (fun Γ hG hR => ?_)
  refine v_iload_n hG dX2_townWith_0 1 rfl ?_
  refine v_if_ne hG 11 (by omega) dX2_townWith_1 (by decide) (fun h1 => ?_) (fun h1 => ?_)
  · refine v_aload_n hG dX2_townWith_11 0 rfl ?_
    refine v_getf (ci := 2) (k := 1) hG iW2 f20 rfl (by decide) hs (by decide) (cl_2 _ _ _ _) rfl dX2_townWith_12 ?_
    exact v_aret hG hR dX2_townWith_15 ⟨rfl, by first | exact kS_A hs | exact kS_B hs, by first | (rw [if_pos (by omega)]) | (rw [if_neg (by omega)])⟩
  · refine v_aload_n hG dX2_townWith_4 0 rfl ?_
    refine v_getf (ci := 2) (k := 0) hG iW2 f14 rfl (by decide) hs (by decide) (cl_2 _ _ _ _) rfl dX2_townWith_5 ?_
    refine v_goto hG 15 dX2_townWith_8 (by decide) ?_
    exact v_aret hG hR dX2_townWith_15 ⟨rfl, by first | exact kS_A hs | exact kS_B hs, by first | (rw [if_pos (by omega)]) | (rw [if_neg (by omega)])⟩

set_option maxHeartbeats 4000000 in
set_option maxRecDepth 100000 in
theorem c_X2_keptIn {l : Launch} {D : va_G} {cA : Nat → ClassId} {r : Nat → Nat} {z : Zt} {s f : Nat} {y : Int} (hr : Inj r) (hs : kd s = 2) (hf : kd f = 4) (hS : SI z s) (hF : FI z f) (hy : 1 ≤ y ∧ y ≤ 1000) : Ki l D cA r yX2_keptIn wsX2_keptIn 3 70 z [.ref (r s), .ref (r f), .int (iN y)] (fun x z1 => z = z1 ∧ x = kS z s f y) := by
  have iW1 : ∀ w ∈ u_ws RX1 TX1 4, w ∈ wsX2_keptIn := by decide +kernel
  have iW2 : ∀ w ∈ u_ws RX2 TX2 9, w ∈ wsX2_keptIn := by decide +kernel
  have f33 : Cond.fieldLink RX2 33 (TX2 4).1 (TX2 4).2.1 (TX2 4).2.2.1 ∈ wsX2_keptIn := by decide +kernel
  have f56 : Cond.fieldLinkNest RX2 56 (TX1 0).1 (TX1 0).2.1 (TX1 0).2.2.1 "TwoTownAlmanac" ∈ nwF := by decide +kernel
  have f65 : Cond.fieldLinkNest RX2 65 (TX1 3).1 (TX1 3).2.1 (TX1 3).2.2.1 "TwoTownAlmanac" ∈ nwF := by decide +kernel
  obtain ⟨hTA, hTB, hA1, hB0, hmn, hsh, hcp, hdn, hfe⟩ := id hS
  obtain ⟨hf0, hf1, hf2, hf3, hf4, hf5, hf6⟩ := id hF
  have hTW := SI_tw (f := f) hS
  have hdu := dG_bd hTW hF hy
  refine Ki_of [(0, _), (1, _), (2, _)] hr (by decide) rfl rfl (Nat.le_of_ble_eq_true rfl) rfl (fun Γ hG hR => ?_)
  refine v_aload_n hG dX2_keptIn_0 0 rfl ?_
  refine v_aload_n hG dX2_keptIn_1 1 rfl ?_
  refine v_getfN (ci := 1) (k := 0) hG iW1 f56 rfl (by decide) hf (by decide) (cl_4 _ _ _ _) rfl dX2_keptIn_2 ?_
  refine v_callVr (n := 1) (ci := 2) hG (c_X2_townWith hr hs (by omega)) gX2_keptIn_X2_townWith rfl (by decide +kernel) rfl (by decide) hs (by decide) (cl_2 _ _ _ _) rfl dX2_keptIn_5 rfl (Nat.le_of_ble_eq_true rfl) (by decide) ?_
  intro t5 z5 hp5
  obtain ⟨rfl, hk5, ht5⟩ := hp5
  have hw5 : t5 = tw z s f := ht5
  subst hw5
  refine v_aload_n hG dX2_keptIn_8 1 rfl ?_
  refine v_iload_n hG dX2_keptIn_9 2 rfl ?_
  refine v_callVi (n := 2) (ci := 3) hG (c_X3_dueIn hr hk5 hf hTW hF hy) gX2_keptIn_X3_dueIn rfl (by decide +kernel) rfl (by decide) hk5 (by decide) (cl_3 _ _ _ _) rfl dX2_keptIn_10 rfl (Nat.le_of_ble_eq_true rfl) (by decide) ?_
  intro v10 z10 hp10
  obtain ⟨rfl, rfl⟩ := hp10
  refine v_istore_n hG [(0, _), (1, _), (2, _), (3, _)] dX2_keptIn_13 (by decide) rfl ?_
  refine v_iload_n hG dX2_keptIn_14 3 rfl ?_
  refine v_iconst hG dX2_keptIn_15 ?_
  refine v_icmp_eq hG 30 (by omega) (by omega) dX2_keptIn_16 (by decide) (fun h16 => ?_) (fun h16 => ?_)
  · refine v_iload_n hG dX2_keptIn_30 3 rfl ?_
    exact v_iret hG hR dX2_keptIn_31 ⟨rfl, by unfold kS kG keG; (repeat' split) <;> omega⟩
  · refine v_iload_n hG dX2_keptIn_19 3 rfl ?_
    refine v_bipush hG dX2_keptIn_20 (by decide) ?_
    refine v_irem hG (by omega) (by omega) dX2_keptIn_22 ?_
    refine v_aload_n hG dX2_keptIn_23 1 rfl ?_
    refine v_getfN (ci := 1) (k := 3) hG iW1 f65 rfl (by decide) hf (by decide) (cl_4 _ _ _ _) rfl dX2_keptIn_24 ?_
    refine v_icmp_eq hG 32 (by omega) (by omega) dX2_keptIn_27 (by decide) (fun h27 => ?_) (fun h27 => ?_)
    · refine v_iload_n hG dX2_keptIn_32 3 rfl ?_
      refine v_aload_n hG dX2_keptIn_33 0 rfl ?_
      refine v_getf (ci := 2) (k := 4) hG iW2 f33 rfl (by decide) hs (by decide) (cl_2 _ _ _ _) rfl dX2_keptIn_34 ?_
      refine v_bipush hG dX2_keptIn_37 (by decide) ?_
      refine v_icmp_ne hG 46 (by omega) (by omega) dX2_keptIn_39 (by decide) (fun h39 => ?_) (fun h39 => ?_)
      · refine v_aload_n hG dX2_keptIn_46 0 rfl ?_
        refine v_getf (ci := 2) (k := 4) hG iW2 f33 rfl (by decide) hs (by decide) (cl_2 _ _ _ _) rfl dX2_keptIn_47 ?_
        refine v_iadd hG dX2_keptIn_50 ?_
        exact v_iret hG hR dX2_keptIn_51 ⟨rfl, by unfold kS kG keG; (repeat' split) <;> omega⟩
      · refine v_iconst hG dX2_keptIn_42 ?_
        refine v_goto hG 50 dX2_keptIn_43 (by decide) ?_
        refine v_iadd hG dX2_keptIn_50 ?_
        exact v_iret hG hR dX2_keptIn_51 ⟨rfl, by unfold kS kG keG; (repeat' split) <;> omega⟩
    · refine v_iload_n hG dX2_keptIn_30 3 rfl ?_
      exact v_iret hG hR dX2_keptIn_31 ⟨rfl, by unfold kS kG keG; (repeat' split) <;> omega⟩

set_option maxHeartbeats 4000000 in
set_option maxRecDepth 100000 in
theorem c_X2_firstYearFor {l : Launch} {D : va_G} {cA : Nat → ClassId} {r : Nat → Nat} {z : Zt} {s f : Nat} {d : Int} (hr : Inj r) (hs : kd s = 2) (hf : kd f = 4) (hS : SI z s) (hF : FI z f) (hd : 0 ≤ d ∧ d ≤ 30000) : Ki l D cA r yX2_firstYearFor wsX2_firstYearFor 2 45 z [.ref (r s), .ref (r f), .int (iN d)] (fun x z1 => z = z1 ∧ x = y0of (yS z s f) d) := by
  have iW1 : ∀ w ∈ u_ws RX1 TX1 4, w ∈ wsX2_firstYearFor := by decide +kernel
  have f56 : Cond.fieldLinkNest RX2 56 (TX1 0).1 (TX1 0).2.1 (TX1 0).2.2.1 "TwoTownAlmanac" ∈ nwF := by decide +kernel
  obtain ⟨hf0, hf1, hf2, hf3, hf4, hf5, hf6⟩ := id hF
  have hTW := SI_tw (f := f) hS
  refine Ki_of [(0, _), (1, _), (2, _)] hr (by decide) rfl rfl (Nat.le_of_ble_eq_true rfl) rfl (fun Γ hG hR => ?_)
  refine v_aload_n hG dX2_firstYearFor_0 0 rfl ?_
  refine v_aload_n hG dX2_firstYearFor_1 1 rfl ?_
  refine v_getfN (ci := 1) (k := 0) hG iW1 f56 rfl (by decide) hf (by decide) (cl_4 _ _ _ _) rfl dX2_firstYearFor_2 ?_
  refine v_callVr (n := 1) (ci := 2) hG (c_X2_townWith hr hs (by omega)) gX2_firstYearFor_X2_townWith rfl (by decide +kernel) rfl (by decide) hs (by decide) (cl_2 _ _ _ _) rfl dX2_firstYearFor_5 rfl (Nat.le_of_ble_eq_true rfl) (by decide) ?_
  intro t5 z5 hp5
  obtain ⟨rfl, hk5, ht5⟩ := hp5
  have hw5 : t5 = tw z s f := ht5
  subst hw5
  refine v_iconst hG dX2_firstYearFor_8 ?_
  refine v_iload_n hG dX2_firstYearFor_9 2 rfl ?_
  refine v_bipush hG dX2_firstYearFor_10 (by decide) ?_
  refine v_isub hG dX2_firstYearFor_12 ?_
  refine v_mmax hG (by decide +kernel) (by decide +kernel) (by decide +kernel) (by decide +kernel) (by omega) (by omega) (by decide) (Nat.le_of_ble_eq_true rfl) (by decide) dX2_firstYearFor_13 ?_
  refine v_callVi (n := 1) (ci := 3) hG (c_X3_yearOn hr hk5 hTW (by split <;> omega)) gX2_firstYearFor_X3_yearOn rfl (by decide +kernel) rfl (by decide) hk5 (by decide) (cl_3 _ _ _ _) rfl dX2_firstYearFor_16 rfl (Nat.le_of_ble_eq_true rfl) (by decide) ?_
  intro v16 z16 hp16
  obtain ⟨rfl, rfl⟩ := hp16
  exact v_iret hG hR dX2_firstYearFor_19 ⟨rfl, rfl⟩

set_option maxHeartbeats 4000000 in
set_option maxRecDepth 100000 in
theorem c_X2_firstKept {l : Launch} {D : va_G} {cA : Nat → ClassId} {r : Nat → Nat} {z : Zt} {s f : Nat} {fr to : Int} (hr : Inj r) (hs : kd s = 2) (hf : kd f = 4) (hS : SI z s) (hF : FI z f) (hd : 0 ≤ fr ∧ fr ≤ to ∧ to ≤ 30000) : Ki l D cA r yX2_firstKept wsX2_firstKept 4 93 z [.ref (r s), .ref (r f), .int (iN fr), .int (iN to)] (fun x z1 => z = z1 ∧ FKP (kS z s f) (yS z s f) (fun _ => True) fr to x) := by
  have iW1 : ∀ w ∈ u_ws RX1 TX1 4, w ∈ wsX2_firstKept := by decide +kernel
  have f56 : Cond.fieldLinkNest RX2 56 (TX1 0).1 (TX1 0).2.1 (TX1 0).2.2.1 "TwoTownAlmanac" ∈ nwF := by decide +kernel
  obtain ⟨hf0, hf1, hf2, hf3, hf4, hf5, hf6⟩ := id hF
  have hTW := SI_tw (f := f) hS
  have hKo := kS_ok hS hF
  have hyt := yS_bd (f := f) hS (x := to) (by omega)
  have hy0 := y0_le hKo (fr := fr) (to := to) hd.1 hd.2.1
  refine Ki_of [(0, _), (1, _), (2, _), (3, _)] hr (by decide) rfl rfl (Nat.le_of_ble_eq_true rfl) rfl (fun Γ hG hR => ?_)
  refine v_aload_n hG dX2_firstKept_0 0 rfl ?_
  refine v_aload_n hG dX2_firstKept_1 1 rfl ?_
  refine v_getfN (ci := 1) (k := 0) hG iW1 f56 rfl (by decide) hf (by decide) (cl_4 _ _ _ _) rfl dX2_firstKept_2 ?_
  refine v_callVr (n := 1) (ci := 2) hG (c_X2_townWith hr hs (by omega)) gX2_firstKept_X2_townWith rfl (by decide +kernel) rfl (by decide) hs (by decide) (cl_2 _ _ _ _) rfl dX2_firstKept_5 rfl (Nat.le_of_ble_eq_true rfl) (by decide) ?_
  intro t5 z5 hp5
  obtain ⟨rfl, hk5, ht5⟩ := hp5
  have hw5 : t5 = tw z s f := ht5
  subst hw5
  refine v_iload_n hG dX2_firstKept_8 3 rfl ?_
  refine v_callVi (n := 1) (ci := 3) hG (c_X3_yearOn hr hk5 hTW (by omega)) gX2_firstKept_X3_yearOn rfl (by decide +kernel) rfl (by decide) hk5 (by decide) (cl_3 _ _ _ _) rfl dX2_firstKept_9 rfl (Nat.le_of_ble_eq_true rfl) (by decide) ?_
  intro v9 z9 hp9
  obtain ⟨rfl, rfl⟩ := hp9
  refine v_istore hG [(0, _), (1, _), (2, _), (3, _), (4, _)] dX2_firstKept_12 (by decide) rfl ?_
  refine v_aload_n hG dX2_firstKept_14 0 rfl ?_
  refine v_aload_n hG dX2_firstKept_15 1 rfl ?_
  refine v_iload_n hG dX2_firstKept_16 2 rfl ?_
  refine v_callVi (n := 2) (ci := 2) hG (c_X2_firstYearFor hr hs hf hS hF (by omega)) gX2_firstKept_X2_firstYearFor rfl (by decide +kernel) rfl (by decide) hs (by decide) (cl_2 _ _ _ _) rfl dX2_firstKept_17 rfl (Nat.le_of_ble_eq_true rfl) (by decide) ?_
  intro v17 z17 hp17
  obtain ⟨rfl, rfl⟩ := hp17
  refine v_istore hG [(0, _), (1, _), (2, _), (3, _), (4, _), (5, _)] dX2_firstKept_20 (by decide) rfl ?_
  have L22 : ∀ (n : Nat), ∀ (x5 : Int), (y0of (yS z s f) fr ≤ x5 ∧ x5 ≤ yS z s f to + 1 ∧ ∀ y', y0of (yS z s f) fr ≤ y' → y' < x5 → ¬ (fr ≤ kS z s f y' ∧ kS z s f y' ≤ to ∧ True)) → (yS z s f to - x5 + 2).toNat ≤ n → V Γ z 0 0 [(0, .ref (r s)), (1, .ref (r f)), (2, .int (iN fr)), (3, .int (iN to)), (4, .int (iN (yS z s f to))), (5, .int (iN x5))] 22 [] := by
    intro n
    induction n with
    | zero =>
      intro x5 hI hm
      obtain ⟨i1, i2, i3v⟩ := hI
      exact absurd hm (by omega)
    | succ n ih22 =>
      intro x5 hI hm
      obtain ⟨i1, i2, i3v⟩ := hI
      have hkb : x5 ≤ yS z s f to → -1 ≤ kS z s f x5 ∧ kS z s f x5 ≤ 400000 := fun q => kS_bd hS hF (by omega)
      refine v_iload hG dX2_firstKept_22 5 rfl ?_
      refine v_iload hG dX2_firstKept_24 4 rfl ?_
      refine v_icmp_gt hG 59 (by omega) (by omega) dX2_firstKept_26 (by decide) (fun h26 => ?_) (fun h26 => ?_)
      · refine v_iconst hG dX2_firstKept_59 ?_
        exact v_iret hG hR dX2_firstKept_60 ⟨rfl, fk_none hKo hd.1 i3v (by omega)⟩
      · have hkb := hkb (by omega)
        refine v_aload_n hG dX2_firstKept_29 0 rfl ?_
        refine v_aload_n hG dX2_firstKept_30 1 rfl ?_
        refine v_iload hG dX2_firstKept_31 5 rfl ?_
        refine v_callVi (n := 2) (ci := 2) hG (c_X2_keptIn hr hs hf hS hF (by omega)) gX2_firstKept_X2_keptIn rfl (by decide +kernel) rfl (by decide) hs (by decide) (cl_2 _ _ _ _) rfl dX2_firstKept_33 rfl (Nat.le_of_ble_eq_true rfl) (by decide) ?_
        intro v33 z33 hp33
        obtain ⟨rfl, rfl⟩ := hp33
        refine v_istore hG [(0, _), (1, _), (2, _), (3, _), (4, _), (5, _), (6, _)] dX2_firstKept_36 (by decide) rfl ?_
        refine v_iload hG dX2_firstKept_38 6 rfl ?_
        refine v_iload_n hG dX2_firstKept_40 2 rfl ?_
        refine v_icmp_lt hG 53 (by omega) (by omega) dX2_firstKept_41 (by decide) (fun h41 => ?_) (fun h41 => ?_)
        · refine v_iinc hG [(0, _), (1, _), (2, _), (3, _), (4, _), (5, _), (6, _)] dX2_firstKept_53 5 rfl (by decide) rfl ?_
          refine v_goto hG 22 dX2_firstKept_56 (by decide) ?_
          refine v_sub hG [(0, _), (1, _), (2, _), (3, _), (4, _), (5, _)] [0, 1, 2, 3, 4, 5] rfl ?_
          exact ih22 _ (by refine ⟨by omega, by omega, fun y' a b c => ?_⟩; by_cases q9 : y' < x5; exact i3v y' a q9 c; have e9 : y' = x5 := (by omega); subst e9; first | exact absurd c.1 (by omega) | exact absurd c.2.1 (by omega)) (by omega)
        · refine v_iload hG dX2_firstKept_44 6 rfl ?_
          refine v_iload_n hG dX2_firstKept_46 3 rfl ?_
          refine v_icmp_gt hG 53 (by omega) (by omega) dX2_firstKept_47 (by decide) (fun h47 => ?_) (fun h47 => ?_)
          · refine v_iinc hG [(0, _), (1, _), (2, _), (3, _), (4, _), (5, _), (6, _)] dX2_firstKept_53 5 rfl (by decide) rfl ?_
            refine v_goto hG 22 dX2_firstKept_56 (by decide) ?_
            refine v_sub hG [(0, _), (1, _), (2, _), (3, _), (4, _), (5, _)] [0, 1, 2, 3, 4, 5] rfl ?_
            exact ih22 _ (by refine ⟨by omega, by omega, fun y' a b c => ?_⟩; by_cases q9 : y' < x5; exact i3v y' a q9 c; have e9 : y' = x5 := (by omega); subst e9; first | exact absurd c.1 (by omega) | exact absurd c.2.1 (by omega)) (by omega)
          · refine v_iload hG dX2_firstKept_50 6 rfl ?_
            exact v_iret hG hR dX2_firstKept_52 ⟨rfl, fk_found hKo hd.1 (by omega) i3v (by omega) (by omega) trivial⟩
  exact L22 _ _ ⟨by omega, by omega, fun y' a b => by omega⟩ (Nat.le_refl _)

set_option maxHeartbeats 4000000 in
set_option maxRecDepth 100000 in
theorem c_X2_firstMeeting {l : Launch} {D : va_G} {cA : Nat → ClassId} {r : Nat → Nat} {z : Zt} {s f g : Nat} {fr to : Int} (hr : Inj r) (hs : kd s = 2) (hf : kd f = 4) (hg : kd g = 4) (hS : SI z s) (hF : FI z f) (hG2 : FI z g) (hd : 0 ≤ fr ∧ fr ≤ to ∧ to ≤ 30000) : Ki l D cA r yX2_firstMeeting wsX2_firstMeeting 5 119 z [.ref (r s), .ref (r f), .ref (r g), .int (iN fr), .int (iN to)] (fun x z1 => z = z1 ∧ FKP (kS z s f) (yS z s f) (onS z s g) fr to x) := by
  have iW1 : ∀ w ∈ u_ws RX1 TX1 4, w ∈ wsX2_firstMeeting := by decide +kernel
  have f56 : Cond.fieldLinkNest RX2 56 (TX1 0).1 (TX1 0).2.1 (TX1 0).2.2.1 "TwoTownAlmanac" ∈ nwF := by decide +kernel
  obtain ⟨hf0, hf1, hf2, hf3, hf4, hf5, hf6⟩ := id hF
  have hTW := SI_tw (f := f) hS
  have hKo := kS_ok hS hF
  have hyt := yS_bd (f := f) hS (x := to) (by omega)
  have hy0 := y0_le hKo (fr := fr) (to := to) hd.1 hd.2.1
  refine Ki_of [(0, _), (1, _), (2, _), (3, _), (4, _)] hr (by decide) rfl rfl (Nat.le_of_ble_eq_true rfl) rfl (fun Γ hG hR => ?_)
  refine v_aload_n hG dX2_firstMeeting_0 0 rfl ?_
  refine v_aload_n hG dX2_firstMeeting_1 1 rfl ?_
  refine v_getfN (ci := 1) (k := 0) hG iW1 f56 rfl (by decide) hf (by decide) (cl_4 _ _ _ _) rfl dX2_firstMeeting_2 ?_
  refine v_callVr (n := 1) (ci := 2) hG (c_X2_townWith hr hs (by omega)) gX2_firstMeeting_X2_townWith rfl (by decide +kernel) rfl (by decide) hs (by decide) (cl_2 _ _ _ _) rfl dX2_firstMeeting_5 rfl (Nat.le_of_ble_eq_true rfl) (by decide) ?_
  intro t5 z5 hp5
  obtain ⟨rfl, hk5, ht5⟩ := hp5
  have hw5 : t5 = tw z s f := ht5
  subst hw5
  refine v_iload hG dX2_firstMeeting_8 4 rfl ?_
  refine v_callVi (n := 1) (ci := 3) hG (c_X3_yearOn hr hk5 hTW (by omega)) gX2_firstMeeting_X3_yearOn rfl (by decide +kernel) rfl (by decide) hk5 (by decide) (cl_3 _ _ _ _) rfl dX2_firstMeeting_10 rfl (Nat.le_of_ble_eq_true rfl) (by decide) ?_
  intro v10 z10 hp10
  obtain ⟨rfl, rfl⟩ := hp10
  refine v_istore hG [(0, _), (1, _), (2, _), (3, _), (4, _), (5, _)] dX2_firstMeeting_13 (by decide) rfl ?_
  refine v_aload_n hG dX2_firstMeeting_15 0 rfl ?_
  refine v_aload_n hG dX2_firstMeeting_16 1 rfl ?_
  refine v_iload_n hG dX2_firstMeeting_17 3 rfl ?_
  refine v_callVi (n := 2) (ci := 2) hG (c_X2_firstYearFor hr hs hf hS hF (by omega)) gX2_firstMeeting_X2_firstYearFor rfl (by decide +kernel) rfl (by decide) hs (by decide) (cl_2 _ _ _ _) rfl dX2_firstMeeting_18 rfl (Nat.le_of_ble_eq_true rfl) (by decide) ?_
  intro v18 z18 hp18
  obtain ⟨rfl, rfl⟩ := hp18
  refine v_istore hG [(0, _), (1, _), (2, _), (3, _), (4, _), (5, _), (6, _)] dX2_firstMeeting_21 (by decide) rfl ?_
  have L23 : ∀ (n : Nat), ∀ (x5 : Int), (y0of (yS z s f) fr ≤ x5 ∧ x5 ≤ yS z s f to + 1 ∧ ∀ y', y0of (yS z s f) fr ≤ y' → y' < x5 → ¬ (fr ≤ kS z s f y' ∧ kS z s f y' ≤ to ∧ onS z s g (kS z s f y'))) → (yS z s f to - x5 + 2).toNat ≤ n → V Γ z 0 0 [(0, .ref (r s)), (1, .ref (r f)), (2, .ref (r g)), (3, .int (iN fr)), (4, .int (iN to)), (5, .int (iN (yS z s f to))), (6, .int (iN x5))] 23 [] := by
    intro n
    induction n with
    | zero =>
      intro x5 hI hm
      obtain ⟨i1, i2, i3v⟩ := hI
      exact absurd hm (by omega)
    | succ n ih23 =>
      intro x5 hI hm
      obtain ⟨i1, i2, i3v⟩ := hI
      have hkb : x5 ≤ yS z s f to → -1 ≤ kS z s f x5 ∧ kS z s f x5 ≤ 400000 := fun q => kS_bd hS hF (by omega)
      refine v_iload hG dX2_firstMeeting_23 6 rfl ?_
      refine v_iload hG dX2_firstMeeting_25 5 rfl ?_
      refine v_icmp_gt hG 74 (by omega) (by omega) dX2_firstMeeting_27 (by decide) (fun h27 => ?_) (fun h27 => ?_)
      · refine v_iconst hG dX2_firstMeeting_74 ?_
        exact v_iret hG hR dX2_firstMeeting_75 ⟨rfl, fk_none hKo hd.1 i3v (by omega)⟩
      · have hkb := hkb (by omega)
        refine v_aload_n hG dX2_firstMeeting_30 0 rfl ?_
        refine v_aload_n hG dX2_firstMeeting_31 1 rfl ?_
        refine v_iload hG dX2_firstMeeting_32 6 rfl ?_
        refine v_callVi (n := 2) (ci := 2) hG (c_X2_keptIn hr hs hf hS hF (by omega)) gX2_firstMeeting_X2_keptIn rfl (by decide +kernel) rfl (by decide) hs (by decide) (cl_2 _ _ _ _) rfl dX2_firstMeeting_34 rfl (Nat.le_of_ble_eq_true rfl) (by decide) ?_
        intro v34 z34 hp34
        obtain ⟨rfl, rfl⟩ := hp34
        refine v_istore hG [(0, _), (1, _), (2, _), (3, _), (4, _), (5, _), (6, _), (7, _)] dX2_firstMeeting_37 (by decide) rfl ?_
        refine v_iload hG dX2_firstMeeting_39 7 rfl ?_
        refine v_iload_n hG dX2_firstMeeting_41 3 rfl ?_
        refine v_icmp_lt hG 68 (by omega) (by omega) dX2_firstMeeting_42 (by decide) (fun h42 => ?_) (fun h42 => ?_)
        · refine v_iinc hG [(0, _), (1, _), (2, _), (3, _), (4, _), (5, _), (6, _), (7, _)] dX2_firstMeeting_68 6 rfl (by decide) rfl ?_
          refine v_goto hG 23 dX2_firstMeeting_71 (by decide) ?_
          refine v_sub hG [(0, _), (1, _), (2, _), (3, _), (4, _), (5, _), (6, _)] [0, 1, 2, 3, 4, 5, 6] rfl ?_
          exact ih23 _ (by refine ⟨by omega, by omega, fun y' a b c => ?_⟩; by_cases q9 : y' < x5; exact i3v y' a q9 c; have e9 : y' = x5 := (by omega); subst e9; first | exact absurd c.1 (by omega) | exact absurd c.2.1 (by omega) | exact hpp.1 (by omega) c.2.2) (by omega)
        · refine v_iload hG dX2_firstMeeting_45 7 rfl ?_
          refine v_iload hG dX2_firstMeeting_47 4 rfl ?_
          refine v_icmp_gt hG 68 (by omega) (by omega) dX2_firstMeeting_49 (by decide) (fun h49 => ?_) (fun h49 => ?_)
          · refine v_iinc hG [(0, _), (1, _), (2, _), (3, _), (4, _), (5, _), (6, _), (7, _)] dX2_firstMeeting_68 6 rfl (by decide) rfl ?_
            refine v_goto hG 23 dX2_firstMeeting_71 (by decide) ?_
            refine v_sub hG [(0, _), (1, _), (2, _), (3, _), (4, _), (5, _), (6, _)] [0, 1, 2, 3, 4, 5, 6] rfl ?_
            exact ih23 _ (by refine ⟨by omega, by omega, fun y' a b c => ?_⟩; by_cases q9 : y' < x5; exact i3v y' a q9 c; have e9 : y' = x5 := (by omega); subst e9; first | exact absurd c.1 (by omega) | exact absurd c.2.1 (by omega) | exact hpp.1 (by omega) c.2.2) (by omega)
          · refine v_aload_n hG dX2_firstMeeting_52 0 rfl ?_
            refine v_aload_n hG dX2_firstMeeting_53 2 rfl ?_
            refine v_iload hG dX2_firstMeeting_54 7 rfl ?_
            refine v_iload hG dX2_firstMeeting_56 7 rfl ?_
            refine v_callVi (n := 3) (ci := 2) hG (c_X2_firstKept hr hs hg hS hG2 (by omega)) gX2_firstMeeting_X2_firstKept rfl (by decide +kernel) rfl (by decide) hs (by decide) (cl_2 _ _ _ _) rfl dX2_firstMeeting_58 rfl (Nat.le_of_ble_eq_true rfl) (by decide) ?_
            intro v58 z58 hp58
            obtain ⟨rfl, hx58⟩ := hp58
            have hpp := fkp_pt hx58 (by omega)
            have hpb := fkp_bd hx58 (by omega) (by omega)
            refine v_iconst hG dX2_firstMeeting_61 ?_
            refine v_icmp_eq hG 68 (by omega) (by omega) dX2_firstMeeting_62 (by decide) (fun h62 => ?_) (fun h62 => ?_)
            · refine v_iinc hG [(0, _), (1, _), (2, _), (3, _), (4, _), (5, _), (6, _), (7, _)] dX2_firstMeeting_68 6 rfl (by decide) rfl ?_
              refine v_goto hG 23 dX2_firstMeeting_71 (by decide) ?_
              refine v_sub hG [(0, _), (1, _), (2, _), (3, _), (4, _), (5, _), (6, _)] [0, 1, 2, 3, 4, 5, 6] rfl ?_
              exact ih23 _ (by refine ⟨by omega, by omega, fun y' a b c => ?_⟩; by_cases q9 : y' < x5; exact i3v y' a q9 c; have e9 : y' = x5 := (by omega); subst e9; first | exact absurd c.1 (by omega) | exact absurd c.2.1 (by omega) | exact hpp.1 (by omega) c.2.2) (by omega)
            · refine v_iload hG dX2_firstMeeting_65 7 rfl ?_
              exact v_iret hG hR dX2_firstMeeting_67 ⟨rfl, fk_found hKo hd.1 (by omega) i3v (by omega) (by omega) (hpp.2 (by omega))⟩
  exact L23 _ _ ⟨by omega, by omega, fun y' a b => by omega⟩ (Nat.le_refl _)

set_option maxHeartbeats 4000000 in
set_option maxRecDepth 100000 in
theorem c_X2_feastsOf {l : Launch} {D : va_G} {cA : Nat → ClassId} {r : Nat → Nat} {z : Zt} {s : Nat} {q : Int} (hr : Inj r) (hs : kd s = 2) (hS : SI z s) (hq : 0 ≤ q ∧ q ≤ 1) : Ki l D cA r yX2_feastsOf wsX2_feastsOf 0 0 z [.ref (r s), .int (iN q)] (fun x z1 => z = z1 ∧ isSet (fun j => (j : Int) < z s 3 ∧ z (s + 8 + j) 0 = q) x) := by
  have iW1 : ∀ w ∈ u_ws RX1 TX1 4, w ∈ wsX2_feastsOf := by decide +kernel
  have iW2 : ∀ w ∈ u_ws RX2 TX2 9, w ∈ wsX2_feastsOf := by decide +kernel
  have f25 : Cond.fieldLink RX2 25 (TX2 2).1 (TX2 2).2.1 (TX2 2).2.2.1 ∈ wsX2_feastsOf := by decide +kernel
  have f29 : Cond.fieldLink RX2 29 (TX2 3).1 (TX2 3).2.1 (TX2 3).2.2.1 ∈ wsX2_feastsOf := by decide +kernel
  have f56 : Cond.fieldLinkNest RX2 56 (TX1 0).1 (TX1 0).2.1 (TX1 0).2.2.1 "TwoTownAlmanac" ∈ nwF := by decide +kernel
  obtain ⟨hTA, hTB, hA1, hB0, hmn, hsh, hcp, hdn, hfe⟩ := id hS
  refine Ki_of [(0, _), (1, _)] hr (by decide) rfl rfl (Nat.le_of_ble_eq_true rfl) rfl (fun Γ hG hR => ?_)
  refine v_iconst hG dX2_feastsOf_0 ?_
  refine v_istore_n hG [(0, _), (1, _), (2, _)] dX2_feastsOf_1 (by decide) rfl ?_
  refine v_iconst hG dX2_feastsOf_2 ?_
  refine v_istore_n hG [(0, _), (1, _), (2, _), (3, _)] dX2_feastsOf_3 (by decide) rfl ?_
  have L4 : ∀ (n : Nat), ∀ (x2 x3 : Int), (0 ≤ x3 ∧ x3 ≤ z s 3 ∧ isSet (fun j => (j : Int) < x3 ∧ z (s + 8 + j) 0 = q) x2) → (z s 3 - x3 + 1).toNat ≤ n → V Γ z 0 0 [(0, .ref (r s)), (1, .int (iN q)), (2, .int (iN x2)), (3, .int (iN x3))] 4 [] := by
    intro n
    induction n with
    | zero =>
      intro x2 x3 hI hm
      obtain ⟨i1, i2, i3v⟩ := hI
      exact absurd hm (by omega)
    | succ n ih4 =>
      intro x2 x3 hI hm
      obtain ⟨i1, i2, i3v⟩ := hI
      refine v_iload_n hG dX2_feastsOf_4 3 rfl ?_
      refine v_aload_n hG dX2_feastsOf_5 0 rfl ?_
      refine v_getf (ci := 2) (k := 3) hG iW2 f29 rfl (by decide) hs (by decide) (cl_2 _ _ _ _) rfl dX2_feastsOf_6 ?_
      refine v_icmp_ge hG 37 (by omega) (by omega) dX2_feastsOf_9 (by decide) (fun h9 => ?_) (fun h9 => ?_)
      · refine v_iload_n hG dX2_feastsOf_37 2 rfl ?_
        exact v_iret hG hR dX2_feastsOf_38 ⟨rfl, isSet_congr i3v (fun j => by rw [show x3 = z s 3 by omega])⟩
      · have hb := hfe x3.toNat (by omega)
        obtain ⟨hb0, hb1⟩ := hb
        refine v_aload_n hG dX2_feastsOf_12 0 rfl ?_
        refine v_getf (ci := 2) (k := 2) hG iW2 f25 rfl (by decide) hs (by decide) (cl_2 _ _ _ _) rfl dX2_feastsOf_13 ?_
        refine v_iload_n hG dX2_feastsOf_16 3 rfl ?_
        refine v_aaldF hG (kS_F hs) (by omega) dX2_feastsOf_17 ?_
        rw [show s + 7 + 1 + x3.toNat = s + 8 + x3.toNat by omega]
        refine v_getfN (ci := 1) (k := 0) hG iW1 f56 rfl (by decide) (kF_f (kS_F hs) (by omega)) (by decide) (cl_4 _ _ _ _) rfl dX2_feastsOf_18 ?_
        refine v_iload_n hG dX2_feastsOf_21 1 rfl ?_
        refine v_icmp_ne hG 31 (by omega) (by omega) dX2_feastsOf_22 (by decide) (fun h22 => ?_) (fun h22 => ?_)
        · refine v_iinc hG [(0, _), (1, _), (2, _), (3, _)] dX2_feastsOf_31 3 rfl (by decide) rfl ?_
          refine v_goto hG 4 dX2_feastsOf_34 (by decide) ?_
          exact ih4 _ _ ⟨by omega, by omega, by first | exact isSet_yes i1 hs9 h22 | exact isSet_no i1 i3v h22⟩ (by omega)
        · refine v_iload_n hG dX2_feastsOf_25 2 rfl ?_
          refine v_iconst hG dX2_feastsOf_26 ?_
          refine v_iload_n hG dX2_feastsOf_27 3 rfl ?_
          refine v_ishl0 hG dX2_feastsOf_28 ?_
          refine v_ior0 hG dX2_feastsOf_29 ?_
          obtain ⟨x9, e9, hs9⟩ := set_or i3v (k := x3) (by omega)
          refine v_eqi hG e9 ?_
          refine v_istore_n hG [(0, _), (1, _), (2, _), (3, _)] dX2_feastsOf_30 (by decide) rfl ?_
          refine v_iinc hG [(0, _), (1, _), (2, _), (3, _)] dX2_feastsOf_31 3 rfl (by decide) rfl ?_
          refine v_goto hG 4 dX2_feastsOf_34 (by decide) ?_
          exact ih4 _ _ ⟨by omega, by omega, by first | exact isSet_yes i1 hs9 h22 | exact isSet_no i1 i3v h22⟩ (by omega)
  exact L4 _ _ _ ⟨by omega, by omega, isSet_0 (fun j hj => by omega)⟩ (Nat.le_refl _)

