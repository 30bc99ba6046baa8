set_option maxHeartbeats 4000000 in
set_option maxRecDepth 100000 in
/-- latestGapDay -/
theorem c_X3_latestGapDay {l : Launch} {D : va_G} {cA : Nat → ClassId} {r : Nat → Nat} {z : Zt} {t : Nat} (hr : Inj r) (ht : kd t = 3) (hT : TI z t) : Ki l D cA r yX3_latestGapDay wsX3_latestGapDay 0 0 z [.ref (r t)] (fun x z1 => z = z1 ∧ x = (if z t 3 = 0 then -1 else z (t + 1) (z t 3 - 1).toNat)) := by
  have iW3 : ∀ w ∈ u_ws RX3 TX3 5, w ∈ wsX3_latestGapDay := by decide +kernel
  have f9 : Cond.fieldLink RX3 9 (TX3 1).1 (TX3 1).2.1 (TX3 1).2.2.1 ∈ wsX3_latestGapDay := by decide +kernel
  have f18 : Cond.fieldLink RX3 18 (TX3 3).1 (TX3 3).2.1 (TX3 3).2.2.1 ∈ wsX3_latestGapDay := by decide +kernel
  obtain ⟨h01, hg⟩ := hT
  obtain ⟨hn0, hn3, hk, hs⟩ := id hg
  refine Ki_of [(0, _)] hr (by decide) rfl rfl (Nat.le_of_ble_eq_true rfl) rfl (fun Γ hG hR => ?_)
  refine v_aload_n hG dX3_latestGapDay_0 0 rfl ?_
  refine v_getf (ci := 3) (k := 3) hG iW3 f18 rfl (by decide) ht (by decide) (cl_3 _ _ _ _) rfl dX3_latestGapDay_1 ?_
  refine v_if_le hG 21 (by omega) dX3_latestGapDay_4 (by decide) (fun h4 => ?_) (fun h4 => ?_)
  · refine v_iconst hG dX3_latestGapDay_21 ?_
    exact v_iret hG hR dX3_latestGapDay_22 ⟨rfl, by first | (rw [if_neg (by omega)]) | (rw [if_pos (by omega)])⟩
  · refine v_aload_n hG dX3_latestGapDay_7 0 rfl ?_
    refine v_getf (ci := 3) (k := 1) hG iW3 f9 rfl (by decide) ht (by decide) (cl_3 _ _ _ _) rfl dX3_latestGapDay_8 ?_
    refine v_aload_n hG dX3_latestGapDay_11 0 rfl ?_
    refine v_getf (ci := 3) (k := 3) hG iW3 f18 rfl (by decide) ht (by decide) (cl_3 _ _ _ _) rfl dX3_latestGapDay_12 ?_
    refine v_iconst hG dX3_latestGapDay_15 ?_
    refine v_isub hG dX3_latestGapDay_16 ?_
    refine v_iald hG (kT_D ht) (by decide) (cl_103 _ _ _ _) (by decide) (by omega) dX3_latestGapDay_17 ?_
    refine v_goto hG 22 dX3_latestGapDay_18 (by decide) ?_
    exact v_iret hG hR dX3_latestGapDay_22 ⟨rfl, by first | (rw [if_neg (by omega)]) | (rw [if_pos (by omega)])⟩

set_option maxHeartbeats 4000000 in
set_option maxRecDepth 100000 in
theorem c_X3_daysInMonth {l : Launch} {D : va_G} {cA : Nat → ClassId} {r : Nat → Nat} {z : Zt} {t : Nat} {m : Int} (hr : Inj r) (ht : kd t = 3) (hT : TI z t) (hm : 0 ≤ m ∧ m ≤ 100) : Ki l D cA r yX3_daysInMonth wsX3_daysInMonth 0 0 z [.ref (r t), .int (iN m)] (fun x z1 => z = z1 ∧ x = mlen (z t 0) m) := by
  have iW3 : ∀ w ∈ u_ws RX3 TX3 5, w ∈ wsX3_daysInMonth := by decide +kernel
  have f25 : Cond.fieldLink RX3 25 (TX3 0).1 (TX3 0).2.1 (TX3 0).2.2.1 ∈ wsX3_daysInMonth := by decide +kernel
  obtain ⟨h01, hg⟩ := hT
  obtain ⟨hn0, hn3, hk, hs⟩ := id hg
  refine Ki_of [(0, _), (1, _)] hr (by decide) rfl rfl (Nat.le_of_ble_eq_true rfl) rfl (fun Γ hG hR => ?_)
  refine v_aload_n hG dX3_daysInMonth_0 0 rfl ?_
  refine v_getf (ci := 3) (k := 0) hG iW3 f25 rfl (by decide) ht (by decide) (cl_3 _ _ _ _) rfl dX3_daysInMonth_1 ?_
  refine v_if_eq hG 22 (by omega) dX3_daysInMonth_4 (by decide) (fun h4 => ?_) (fun h4 => ?_)
  · refine v_bipush hG dX3_daysInMonth_22 (by decide) ?_
    exact v_iret hG hR dX3_daysInMonth_24 ⟨rfl, by unfold mlen; first | (rw [if_pos (by omega)]) | (rw [if_neg (by omega), if_pos (by omega)]) | (rw [if_neg (by omega), if_neg (by omega)])⟩
  · refine v_iload_n hG dX3_daysInMonth_7 1 rfl ?_
    refine v_iconst hG dX3_daysInMonth_8 ?_
    refine v_irem hG (by omega) (by omega) dX3_daysInMonth_9 ?_
    refine v_iconst hG dX3_daysInMonth_10 ?_
    refine v_icmp_ne hG 19 (by omega) (by omega) dX3_daysInMonth_11 (by decide) (fun h11 => ?_) (fun h11 => ?_)
    · refine v_bipush hG dX3_daysInMonth_19 (by decide) ?_
      exact v_iret hG hR dX3_daysInMonth_21 ⟨rfl, by unfold mlen; first | (rw [if_pos (by omega)]) | (rw [if_neg (by omega), if_pos (by omega)]) | (rw [if_neg (by omega), if_neg (by omega)])⟩
    · refine v_bipush hG dX3_daysInMonth_14 (by decide) ?_
      refine v_goto hG 21 dX3_daysInMonth_16 (by decide) ?_
      exact v_iret hG hR dX3_daysInMonth_21 ⟨rfl, by unfold mlen; first | (rw [if_pos (by omega)]) | (rw [if_neg (by omega), if_pos (by omega)]) | (rw [if_neg (by omega), if_neg (by omega)])⟩

set_option maxHeartbeats 4000000 in
set_option maxRecDepth 100000 in
theorem c_X3_daysBeforeMonth {l : Launch} {D : va_G} {cA : Nat → ClassId} {r : Nat → Nat} {z : Zt} {t : Nat} {m : Int} (hr : Inj r) (ht : kd t = 3) (hT : TI z t) (hm : 1 ≤ m ∧ m ≤ 100) : Ki l D cA r yX3_daysBeforeMonth wsX3_daysBeforeMonth 0 0 z [.ref (r t), .int (iN m)] (fun x z1 => z = z1 ∧ x = mbef (z t 0) m) := by
  have iW3 : ∀ w ∈ u_ws RX3 TX3 5, w ∈ wsX3_daysBeforeMonth := by decide +kernel
  have f25 : Cond.fieldLink RX3 25 (TX3 0).1 (TX3 0).2.1 (TX3 0).2.2.1 ∈ wsX3_daysBeforeMonth := by decide +kernel
  obtain ⟨h01, hg⟩ := hT
  obtain ⟨hn0, hn3, hk, hs⟩ := id hg
  refine Ki_of [(0, _), (1, _)] hr (by decide) rfl rfl (Nat.le_of_ble_eq_true rfl) rfl (fun Γ hG hR => ?_)
  refine v_iload_n hG dX3_daysBeforeMonth_0 1 rfl ?_
  refine v_iconst hG dX3_daysBeforeMonth_1 ?_
  refine v_isub hG dX3_daysBeforeMonth_2 ?_
  refine v_istore_n hG [(0, _), (1, _), (2, _)] dX3_daysBeforeMonth_3 (by decide) rfl ?_
  refine v_aload_n hG dX3_daysBeforeMonth_4 0 rfl ?_
  refine v_getf (ci := 3) (k := 0) hG iW3 f25 rfl (by decide) ht (by decide) (cl_3 _ _ _ _) rfl dX3_daysBeforeMonth_5 ?_
  refine v_if_eq hG 22 (by omega) dX3_daysBeforeMonth_8 (by decide) (fun h8 => ?_) (fun h8 => ?_)
  · refine v_iload_n hG dX3_daysBeforeMonth_22 2 rfl ?_
    refine v_bipush hG dX3_daysBeforeMonth_23 (by decide) ?_
    refine v_imul hG dX3_daysBeforeMonth_25 ?_
    exact v_iret hG hR dX3_daysBeforeMonth_26 ⟨rfl, by unfold mbef; first | (rw [if_pos (by omega)]) | (rw [if_neg (by omega)])⟩
  · refine v_iload_n hG dX3_daysBeforeMonth_11 2 rfl ?_
    refine v_bipush hG dX3_daysBeforeMonth_12 (by decide) ?_
    refine v_imul hG dX3_daysBeforeMonth_14 ?_
    refine v_iload_n hG dX3_daysBeforeMonth_15 2 rfl ?_
    refine v_iconst hG dX3_daysBeforeMonth_16 ?_
    refine v_idiv hG (by omega) (by omega) dX3_daysBeforeMonth_17 ?_
    refine v_iadd hG dX3_daysBeforeMonth_18 ?_
    refine v_goto hG 26 dX3_daysBeforeMonth_19 (by decide) ?_
    exact v_iret hG hR dX3_daysBeforeMonth_26 ⟨rfl, by unfold mbef; first | (rw [if_pos (by omega)]) | (rw [if_neg (by omega)])⟩

set_option maxHeartbeats 4000000 in
set_option maxRecDepth 100000 in
theorem c_X3_daysInYear {l : Launch} {D : va_G} {cA : Nat → ClassId} {r : Nat → Nat} {z : Zt} {t : Nat} (hr : Inj r) (ht : kd t = 3) (hT : TI z t) : Ki l D cA r yX3_daysInYear wsX3_daysInYear 0 0 z [.ref (r t)] (fun x z1 => z = z1 ∧ x = yl (z t 0)) := by
  have iW3 : ∀ w ∈ u_ws RX3 TX3 5, w ∈ wsX3_daysInYear := by decide +kernel
  have f25 : Cond.fieldLink RX3 25 (TX3 0).1 (TX3 0).2.1 (TX3 0).2.2.1 ∈ wsX3_daysInYear := by decide +kernel
  obtain ⟨h01, hg⟩ := hT
  obtain ⟨hn0, hn3, hk, hs⟩ := id hg
  refine Ki_of [(0, _)] hr (by decide) rfl rfl (Nat.le_of_ble_eq_true rfl) rfl (fun Γ hG hR => ?_)
  refine v_aload_n hG dX3_daysInYear_0 0 rfl ?_
  refine v_getf (ci := 3) (k := 0) hG iW3 f25 rfl (by decide) ht (by decide) (cl_3 _ _ _ _) rfl dX3_daysInYear_1 ?_
  refine v_if_eq hG 13 (by omega) dX3_daysInYear_4 (by decide) (fun h4 => ?_) (fun h4 => ?_)
  · refine v_sipush hG dX3_daysInYear_13 (by decide) ?_
    exact v_iret hG hR dX3_daysInYear_16 ⟨rfl, by unfold yl; first | (rw [if_pos (by omega)]) | (rw [if_neg (by omega)])⟩
  · refine v_sipush hG dX3_daysInYear_7 (by decide) ?_
    refine v_goto hG 16 dX3_daysInYear_10 (by decide) ?_
    exact v_iret hG hR dX3_daysInYear_16 ⟨rfl, by unfold yl; first | (rw [if_pos (by omega)]) | (rw [if_neg (by omega)])⟩

set_option maxHeartbeats 4000000 in
set_option maxRecDepth 100000 in
theorem c_X3_dateOf {l : Launch} {D : va_G} {cA : Nat → ClassId} {r : Nat → Nat} {z : Zt} {t : Nat} {y m d : Int} (hr : Inj r) (ht : kd t = 3) (hT : TI z t) (hm : 1 ≤ m ∧ m ≤ 100) : Ki l D cA r yX3_dateOf wsX3_dateOf 1 22 z [.ref (r t), .int (iN y), .int (iN m), .int (iN d)] (fun x z1 => z = z1 ∧ x = dof (z t 0) y m d) := by
  refine Ki_of [(0, _), (1, _), (2, _), (3, _)] hr (by decide) rfl rfl (Nat.le_of_ble_eq_true rfl) rfl (fun Γ hG hR => ?_)
  refine v_iload_n hG dX3_dateOf_0 1 rfl ?_
  refine v_iconst hG dX3_dateOf_1 ?_
  refine v_isub hG dX3_dateOf_2 ?_
  refine v_aload_n hG dX3_dateOf_3 0 rfl ?_
  refine v_callVi (n := 0) (ci := 3) hG (c_X3_daysInYear hr ht hT) gX3_dateOf_X3_daysInYear rfl (by decide +kernel) rfl (by decide) ht (by decide) (cl_3 _ _ _ _) rfl dX3_dateOf_4 rfl (Nat.le_of_ble_eq_true rfl) (by decide) ?_
  intro v4 z4 hp4
  obtain ⟨rfl, rfl⟩ := hp4
  refine v_imul hG dX3_dateOf_7 ?_
  refine v_aload_n hG dX3_dateOf_8 0 rfl ?_
  refine v_iload_n hG dX3_dateOf_9 2 rfl ?_
  refine v_callVi (n := 1) (ci := 3) hG (c_X3_daysBeforeMonth hr ht hT (by omega)) gX3_dateOf_X3_daysBeforeMonth rfl (by decide +kernel) rfl (by decide) ht (by decide) (cl_3 _ _ _ _) rfl dX3_dateOf_10 rfl (Nat.le_of_ble_eq_true rfl) (by decide) ?_
  intro v10 z10 hp10
  obtain ⟨rfl, rfl⟩ := hp10
  refine v_iadd hG dX3_dateOf_13 ?_
  refine v_iload_n hG dX3_dateOf_14 3 rfl ?_
  refine v_iadd hG dX3_dateOf_15 ?_
  refine v_iconst hG dX3_dateOf_16 ?_
  refine v_isub hG dX3_dateOf_17 ?_
  exact v_iret hG hR dX3_dateOf_18 ⟨rfl, rfl⟩

set_option maxHeartbeats 4000000 in
set_option maxRecDepth 100000 in
theorem c_X3_dateOn {l : Launch} {D : va_G} {cA : Nat → ClassId} {r : Nat → Nat} {z : Zt} {t : Nat} {d : Int} (hr : Inj r) (ht : kd t = 3) (hT : TI z t) (hd : -2147483648 ≤ d ∧ d < 2147483648) : Ki l D cA r yX3_dateOn wsX3_dateOn 0 0 z [.ref (r t), .int (iN d)] (fun x z1 => z = z1 ∧ x = calT z t d) := by
  have iW3 : ∀ w ∈ u_ws RX3 TX3 5, w ∈ wsX3_dateOn := by decide +kernel
  have f9 : Cond.fieldLink RX3 9 (TX3 1).1 (TX3 1).2.1 (TX3 1).2.2.1 ∈ wsX3_dateOn := by decide +kernel
  have f15 : Cond.fieldLink RX3 15 (TX3 2).1 (TX3 2).2.1 (TX3 2).2.2.1 ∈ wsX3_dateOn := by decide +kernel
  have f18 : Cond.fieldLink RX3 18 (TX3 3).1 (TX3 3).2.1 (TX3 3).2.2.1 ∈ wsX3_dateOn := by decide +kernel
  obtain ⟨h01, hg⟩ := hT
  obtain ⟨hn0, hn3, hk, hs⟩ := id hg
  refine Ki_of [(0, _), (1, _)] hr (by decide) rfl rfl (Nat.le_of_ble_eq_true rfl) rfl (fun Γ hG hR => ?_)
  refine v_iload_n hG dX3_dateOn_0 1 rfl ?_
  refine v_istore_n hG [(0, _), (1, _), (2, _)] dX3_dateOn_1 (by decide) rfl ?_
  refine v_iconst hG dX3_dateOn_2 ?_
  refine v_istore_n hG [(0, _), (1, _), (2, _), (3, _)] dX3_dateOn_3 (by decide) rfl ?_
  have L4 : ∀ (n : Nat), ∀ (x2 x3 : Int), (0 ≤ x3 ∧ x3 ≤ z t 3 ∧ x2 = calN (z (t + 1)) (z (t + 2)) d x3.toNat) → (z t 3 - x3 + 1).toNat ≤ n → V Γ z 0 0 [(0, .ref (r t)), (1, .int (iN d)), (2, .int (iN x2)), (3, .int (iN x3))] 4 [] := by
    intro n
    induction n with
    | zero =>
      intro x2 x3 hI hm
      obtain ⟨i1, i2, i3v⟩ := hI
      exact absurd hm (by omega)
    | succ n ih4 =>
      intro x2 x3 hI hm
      obtain ⟨i1, i2, i3v⟩ := hI
      refine v_iload_n hG dX3_dateOn_4 3 rfl ?_
      refine v_aload_n hG dX3_dateOn_5 0 rfl ?_
      refine v_getf (ci := 3) (k := 3) hG iW3 f18 rfl (by decide) ht (by decide) (cl_3 _ _ _ _) rfl dX3_dateOn_6 ?_
      refine v_icmp_ge hG 37 (by omega) (by omega) dX3_dateOn_9 (by decide) (fun h9 => ?_) (fun h9 => ?_)
      · refine v_iload_n hG dX3_dateOn_37 2 rfl ?_
        exact v_iret hG hR dX3_dateOn_38 ⟨rfl, by rw [i3v, calT, show x3 = z t 3 by omega]⟩
      · have hb := hk x3.toNat (by omega)
        refine v_iload_n hG dX3_dateOn_12 1 rfl ?_
        refine v_aload_n hG dX3_dateOn_13 0 rfl ?_
        refine v_getf (ci := 3) (k := 1) hG iW3 f9 rfl (by decide) ht (by decide) (cl_3 _ _ _ _) rfl dX3_dateOn_14 ?_
        refine v_iload_n hG dX3_dateOn_17 3 rfl ?_
        refine v_iald hG (kT_D ht) (by decide) (cl_103 _ _ _ _) (by decide) (by omega) dX3_dateOn_18 ?_
        refine v_icmp_le hG 31 (by omega) (by omega) dX3_dateOn_19 (by decide) (fun h19 => ?_) (fun h19 => ?_)
        · refine v_iinc hG [(0, _), (1, _), (2, _), (3, _)] dX3_dateOn_31 3 rfl (by decide) rfl ?_
          refine v_goto hG 4 dX3_dateOn_34 (by decide) ?_
          exact ih4 _ _ (by refine ⟨by omega, by omega, ?_⟩; rw [show (x3 + 1).toNat = x3.toNat + 1 by omega]; simp only [calN]; split <;> omega) (by omega)
        · refine v_iload_n hG dX3_dateOn_22 2 rfl ?_
          refine v_aload_n hG dX3_dateOn_23 0 rfl ?_
          refine v_getf (ci := 3) (k := 2) hG iW3 f15 rfl (by decide) ht (by decide) (cl_3 _ _ _ _) rfl dX3_dateOn_24 ?_
          refine v_iload_n hG dX3_dateOn_27 3 rfl ?_
          refine v_iald hG (kT_L ht) (by decide) (cl_103 _ _ _ _) (by decide) (by omega) dX3_dateOn_28 ?_
          refine v_iadd hG dX3_dateOn_29 ?_
          refine v_istore_n hG [(0, _), (1, _), (2, _), (3, _)] dX3_dateOn_30 (by decide) rfl ?_
          refine v_iinc hG [(0, _), (1, _), (2, _), (3, _)] dX3_dateOn_31 3 rfl (by decide) rfl ?_
          refine v_goto hG 4 dX3_dateOn_34 (by decide) ?_
          exact ih4 _ _ (by refine ⟨by omega, by omega, ?_⟩; rw [show (x3 + 1).toNat = x3.toNat + 1 by omega]; simp only [calN]; split <;> omega) (by omega)
  exact L4 _ _ _ ⟨by omega, by omega, rfl⟩ (Nat.le_refl _)

set_option maxHeartbeats 4000000 in
set_option maxRecDepth 100000 in
theorem c_X3_dayInYearOn {l : Launch} {D : va_G} {cA : Nat → ClassId} {r : Nat → Nat} {z : Zt} {t : Nat} {d : Int} (hr : Inj r) (ht : kd t = 3) (hT : TI z t) (hd : 0 ≤ d ∧ d ≤ 1000000) : Ki l D cA r yX3_dayInYearOn wsX3_dayInYearOn 1 23 z [.ref (r t), .int (iN d)] (fun x z1 => z = z1 ∧ x = calT z t d % yl (z t 0)) := by
  have iW3 : ∀ w ∈ u_ws RX3 TX3 5, w ∈ wsX3_dayInYearOn := by decide +kernel
  have f25 : Cond.fieldLink RX3 25 (TX3 0).1 (TX3 0).2.1 (TX3 0).2.2.1 ∈ wsX3_dayInYearOn := by decide +kernel
  have hcb := calT_bd hT d
  have h01 := hT.1
  refine Ki_of [(0, _), (1, _)] hr (by decide) rfl rfl (Nat.le_of_ble_eq_true rfl) rfl (fun Γ hG hR => ?_)
  refine v_aload_n hG dX3_dayInYearOn_0 0 rfl ?_
  refine v_iload_n hG dX3_dayInYearOn_1 1 rfl ?_
  refine v_callVi (n := 1) (ci := 3) hG (c_X3_dateOn hr ht hT (by omega)) gX3_dayInYearOn_X3_dateOn rfl (by decide +kernel) rfl (by decide) ht (by decide) (cl_3 _ _ _ _) rfl dX3_dayInYearOn_2 rfl (Nat.le_of_ble_eq_true rfl) (by decide) ?_
  intro v2 z2 hp2
  obtain ⟨rfl, rfl⟩ := hp2
  refine v_istore_n hG [(0, _), (1, _), (2, _)] dX3_dayInYearOn_5 (by decide) rfl ?_
  refine v_aload_n hG dX3_dayInYearOn_6 0 rfl ?_
  refine v_getf (ci := 3) (k := 0) hG iW3 f25 rfl (by decide) ht (by decide) (cl_3 _ _ _ _) rfl dX3_dayInYearOn_7 ?_
  refine v_if_eq hG 21 (by omega) dX3_dayInYearOn_10 (by decide) (fun h10 => ?_) (fun h10 => ?_)
  · refine v_iload_n hG dX3_dayInYearOn_21 2 rfl ?_
    refine v_sipush hG dX3_dayInYearOn_22 (by decide) ?_
    refine v_irem hG (by omega) (by omega) dX3_dayInYearOn_25 ?_
    exact v_iret hG hR dX3_dayInYearOn_26 ⟨rfl, by unfold yl; first | (rw [if_pos (by omega)]) | (rw [if_neg (by omega)])⟩
  · refine v_iload_n hG dX3_dayInYearOn_13 2 rfl ?_
    refine v_sipush hG dX3_dayInYearOn_14 (by decide) ?_
    refine v_irem hG (by omega) (by omega) dX3_dayInYearOn_17 ?_
    refine v_goto hG 26 dX3_dayInYearOn_18 (by decide) ?_
    exact v_iret hG hR dX3_dayInYearOn_26 ⟨rfl, by unfold yl; first | (rw [if_pos (by omega)]) | (rw [if_neg (by omega)])⟩

set_option maxHeartbeats 4000000 in
set_option maxRecDepth 100000 in
theorem c_X3_yearOn {l : Launch} {D : va_G} {cA : Nat → ClassId} {r : Nat → Nat} {z : Zt} {t : Nat} {d : Int} (hr : Inj r) (ht : kd t = 3) (hT : TI z t) (hd : 0 ≤ d ∧ d ≤ 1000000) : Ki l D cA r yX3_yearOn wsX3_yearOn 1 23 z [.ref (r t), .int (iN d)] (fun x z1 => z = z1 ∧ x = 1 + calT z t d / yl (z t 0)) := by
  have iW3 : ∀ w ∈ u_ws RX3 TX3 5, w ∈ wsX3_yearOn := by decide +kernel
  have f25 : Cond.fieldLink RX3 25 (TX3 0).1 (TX3 0).2.1 (TX3 0).2.2.1 ∈ wsX3_yearOn := by decide +kernel
  have hcb := calT_bd hT d
  have h01 := hT.1
  refine Ki_of [(0, _), (1, _)] hr (by decide) rfl rfl (Nat.le_of_ble_eq_true rfl) rfl (fun Γ hG hR => ?_)
  refine v_aload_n hG dX3_yearOn_0 0 rfl ?_
  refine v_iload_n hG dX3_yearOn_1 1 rfl ?_
  refine v_callVi (n := 1) (ci := 3) hG (c_X3_dateOn hr ht hT (by omega)) gX3_yearOn_X3_dateOn rfl (by decide +kernel) rfl (by decide) ht (by decide) (cl_3 _ _ _ _) rfl dX3_yearOn_2 rfl (Nat.le_of_ble_eq_true rfl) (by decide) ?_
  intro v2 z2 hp2
  obtain ⟨rfl, rfl⟩ := hp2
  refine v_istore_n hG [(0, _), (1, _), (2, _)] dX3_yearOn_5 (by decide) rfl ?_
  refine v_iconst hG dX3_yearOn_6 ?_
  refine v_aload_n hG dX3_yearOn_7 0 rfl ?_
  refine v_getf (ci := 3) (k := 0) hG iW3 f25 rfl (by decide) ht (by decide) (cl_3 _ _ _ _) rfl dX3_yearOn_8 ?_
  refine v_if_eq hG 22 (by omega) dX3_yearOn_11 (by decide) (fun h11 => ?_) (fun h11 => ?_)
  · refine v_iload_n hG dX3_yearOn_22 2 rfl ?_
    refine v_sipush hG dX3_yearOn_23 (by decide) ?_
    refine v_idiv hG (by omega) (by omega) dX3_yearOn_26 ?_
    refine v_iadd hG dX3_yearOn_27 ?_
    exact v_iret hG hR dX3_yearOn_28 ⟨rfl, by unfold yl; first | (rw [if_pos (by omega)]) | (rw [if_neg (by omega)])⟩
  · refine v_iload_n hG dX3_yearOn_14 2 rfl ?_
    refine v_sipush hG dX3_yearOn_15 (by decide) ?_
    refine v_idiv hG (by omega) (by omega) dX3_yearOn_18 ?_
    refine v_goto hG 27 dX3_yearOn_19 (by decide) ?_
    refine v_iadd hG dX3_yearOn_27 ?_
    exact v_iret hG hR dX3_yearOn_28 ⟨rfl, by unfold yl; first | (rw [if_pos (by omega)]) | (rw [if_neg (by omega)])⟩

set_option maxHeartbeats 4000000 in
set_option maxRecDepth 100000 in
theorem c_X3_monthOn {l : Launch} {D : va_G} {cA : Nat → ClassId} {r : Nat → Nat} {z : Zt} {t : Nat} {d : Int} (hr : Inj r) (ht : kd t = 3) (hT : TI z t) (hd : 0 ≤ d ∧ d ≤ 1000000) : Ki l D cA r yX3_monthOn wsX3_monthOn 2 45 z [.ref (r t), .int (iN d)] (fun x z1 => z = z1 ∧ isMon (z t 0) (calT z t d % yl (z t 0)) x) := by
  have hcb := calT_bd hT d
  have hyl := yl_bd (z t 0)
  have hy0 := Int.emod_nonneg (calT z t d) (show yl (z t 0) ≠ 0 by omega)
  have hy1 := Int.emod_lt_of_pos (calT z t d) (show 0 < yl (z t 0) by omega)
  have h13 := mbef_13 (z t 0)
  have hm1 := mbef_1 (z t 0)
  refine Ki_of [(0, _), (1, _)] hr (by decide) rfl rfl (Nat.le_of_ble_eq_true rfl) rfl (fun Γ hG hR => ?_)
  refine v_aload_n hG dX3_monthOn_0 0 rfl ?_
  refine v_iload_n hG dX3_monthOn_1 1 rfl ?_
  refine v_callVi (n := 1) (ci := 3) hG (c_X3_dayInYearOn hr ht hT (by omega)) gX3_monthOn_X3_dayInYearOn rfl (by decide +kernel) rfl (by decide) ht (by decide) (cl_3 _ _ _ _) rfl dX3_monthOn_2 rfl (Nat.le_of_ble_eq_true rfl) (by decide) ?_
  intro v2 z2 hp2
  obtain ⟨rfl, rfl⟩ := hp2
  refine v_istore_n hG [(0, _), (1, _), (2, _)] dX3_monthOn_5 (by decide) rfl ?_
  refine v_bipush hG dX3_monthOn_6 (by decide) ?_
  refine v_istore_n hG [(0, _), (1, _), (2, _), (3, _)] dX3_monthOn_8 (by decide) rfl ?_
  have L9 : ∀ (n : Nat), ∀ (x3 : Int), (1 ≤ x3 ∧ x3 ≤ 12 ∧ calT z t d % yl (z t 0) < mbef (z t 0) (x3 + 1)) → (x3 + 1).toNat ≤ n → V Γ z 0 0 [(0, .ref (r t)), (1, .int (iN d)), (2, .int (iN (calT z t d % yl (z t 0)))), (3, .int (iN x3))] 9 [] := by
    intro n
    induction n with
    | zero =>
      intro x3 hI hm
      obtain ⟨i1, i2, i3v⟩ := hI
      exact absurd hm (by omega)
    | succ n ih9 =>
      intro x3 hI hm
      obtain ⟨i1, i2, i3v⟩ := hI
      have hmb := mbef_bd (a := z t 0) (m := x3) i1
      refine v_iload_n hG dX3_monthOn_9 3 rfl ?_
      refine v_iconst hG dX3_monthOn_10 ?_
      refine v_icmp_le hG 29 (by omega) (by omega) dX3_monthOn_11 (by decide) (fun h11 => ?_) (fun h11 => ?_)
      · refine v_iload_n hG dX3_monthOn_29 3 rfl ?_
        exact v_iret hG hR dX3_monthOn_30 ⟨rfl, i1, i2, by first | omega | (rw [show x3 = 1 by omega]; omega), i3v⟩
      · refine v_aload_n hG dX3_monthOn_14 0 rfl ?_
        refine v_iload_n hG dX3_monthOn_15 3 rfl ?_
        refine v_callVi (n := 1) (ci := 3) hG (c_X3_daysBeforeMonth hr ht hT (by omega)) gX3_monthOn_X3_daysBeforeMonth rfl (by decide +kernel) rfl (by decide) ht (by decide) (cl_3 _ _ _ _) rfl dX3_monthOn_16 rfl (Nat.le_of_ble_eq_true rfl) (by decide) ?_
        intro v16 z16 hp16
        obtain ⟨rfl, rfl⟩ := hp16
        refine v_iload_n hG dX3_monthOn_19 2 rfl ?_
        refine v_icmp_le hG 29 (by omega) (by omega) dX3_monthOn_20 (by decide) (fun h20 => ?_) (fun h20 => ?_)
        · refine v_iload_n hG dX3_monthOn_29 3 rfl ?_
          exact v_iret hG hR dX3_monthOn_30 ⟨rfl, i1, i2, by first | omega | (rw [show x3 = 1 by omega]; omega), i3v⟩
        · refine v_iinc hG [(0, _), (1, _), (2, _), (3, _)] dX3_monthOn_23 3 rfl (by decide) rfl ?_
          refine v_goto hG 9 dX3_monthOn_26 (by decide) ?_
          exact ih9 _ (by refine ⟨by omega, by omega, ?_⟩; rw [show x3 + -1 + 1 = x3 by omega]; omega) (by omega)
  exact L9 _ _ (by refine ⟨by omega, by omega, ?_⟩; show _ < mbef _ 13; omega) (Nat.le_refl _)

set_option maxHeartbeats 4000000 in
set_option maxRecDepth 100000 in
theorem c_X3_dayOfMonthOn {l : Launch} {D : va_G} {cA : Nat → ClassId} {r : Nat → Nat} {z : Zt} {t : Nat} {d : Int} (hr : Inj r) (ht : kd t = 3) (hT : TI z t) (hd : 0 ≤ d ∧ d ≤ 1000000) : Ki l D cA r yX3_dayOfMonthOn wsX3_dayOfMonthOn 3 68 z [.ref (r t), .int (iN d)] (fun x z1 => z = z1 ∧ ∃ mm : Int, isMon (z t 0) (calT z t d % yl (z t 0)) mm ∧ x = calT z t d % yl (z t 0) - mbef (z t 0) mm + 1) := by
  refine Ki_of [(0, _), (1, _)] hr (by decide) rfl rfl (Nat.le_of_ble_eq_true rfl) rfl (fun Γ hG hR => ?_)
  refine v_aload_n hG dX3_dayOfMonthOn_0 0 rfl ?_
  refine v_iload_n hG dX3_dayOfMonthOn_1 1 rfl ?_
  refine v_callVi (n := 1) (ci := 3) hG (c_X3_dayInYearOn hr ht hT (by omega)) gX3_dayOfMonthOn_X3_dayInYearOn rfl (by decide +kernel) rfl (by decide) ht (by decide) (cl_3 _ _ _ _) rfl dX3_dayOfMonthOn_2 rfl (Nat.le_of_ble_eq_true rfl) (by decide) ?_
  intro v2 z2 hp2
  obtain ⟨rfl, rfl⟩ := hp2
  refine v_aload_n hG dX3_dayOfMonthOn_5 0 rfl ?_
  refine v_aload_n hG dX3_dayOfMonthOn_6 0 rfl ?_
  refine v_iload_n hG dX3_dayOfMonthOn_7 1 rfl ?_
  refine v_callVi (n := 1) (ci := 3) hG (c_X3_monthOn hr ht hT (by omega)) gX3_dayOfMonthOn_X3_monthOn rfl (by decide +kernel) rfl (by decide) ht (by decide) (cl_3 _ _ _ _) rfl dX3_dayOfMonthOn_8 rfl (Nat.le_of_ble_eq_true rfl) (by decide) ?_
  intro v8 z8 hp8
  obtain ⟨rfl, hx8⟩ := hp8
  have ha8 := hx8.1
  have hb8 := hx8.2.1
  refine v_callVi (n := 1) (ci := 3) hG (c_X3_daysBeforeMonth hr ht hT (by omega)) gX3_dayOfMonthOn_X3_daysBeforeMonth rfl (by decide +kernel) rfl (by decide) ht (by decide) (cl_3 _ _ _ _) rfl dX3_dayOfMonthOn_11 rfl (Nat.le_of_ble_eq_true rfl) (by decide) ?_
  intro v11 z11 hp11
  obtain ⟨rfl, rfl⟩ := hp11
  refine v_isub hG dX3_dayOfMonthOn_14 ?_
  refine v_iconst hG dX3_dayOfMonthOn_15 ?_
  refine v_iadd hG dX3_dayOfMonthOn_16 ?_
  exact v_iret hG hR dX3_dayOfMonthOn_17 ⟨rfl, _, ‹isMon _ _ _›, rfl⟩

set_option maxHeartbeats 4000000 in
set_option maxRecDepth 100000 in
theorem c_X3_firstDayFrom {l : Launch} {D : va_G} {cA : Nat → ClassId} {r : Nat → Nat} {z : Zt} {t : Nat} {d : Int} (hr : Inj r) (ht : kd t = 3) (hT : TI z t) (hd : 0 ≤ d ∧ d ≤ 1000000) : Ki l D cA r yX3_firstDayFrom wsX3_firstDayFrom 0 0 z [.ref (r t), .int (iN d)] (fun x z1 => z = z1 ∧ x = fdT z t d) := by
  have iW3 : ∀ w ∈ u_ws RX3 TX3 5, w ∈ wsX3_firstDayFrom := by decide +kernel
  have f9 : Cond.fieldLink RX3 9 (TX3 1).1 (TX3 1).2.1 (TX3 1).2.2.1 ∈ wsX3_firstDayFrom := by decide +kernel
  have f15 : Cond.fieldLink RX3 15 (TX3 2).1 (TX3 2).2.1 (TX3 2).2.2.1 ∈ wsX3_firstDayFrom := by decide +kernel
  have f18 : Cond.fieldLink RX3 18 (TX3 3).1 (TX3 3).2.1 (TX3 3).2.2.1 ∈ wsX3_firstDayFrom := by decide +kernel
  obtain ⟨h01, hg⟩ := hT
  obtain ⟨hn0, hn3, hk, hs⟩ := id hg
  refine Ki_of [(0, _), (1, _)] hr (by decide) rfl rfl (Nat.le_of_ble_eq_true rfl) rfl (fun Γ hG hR => ?_)
  refine v_iload_n hG dX3_firstDayFrom_0 1 rfl ?_
  refine v_istore_n hG [(0, _), (1, _), (2, _)] dX3_firstDayFrom_1 (by decide) rfl ?_
  refine v_iconst hG dX3_firstDayFrom_2 ?_
  refine v_istore_n hG [(0, _), (1, _), (2, _), (3, _)] dX3_firstDayFrom_3 (by decide) rfl ?_
  have L4 : ∀ (n : Nat), ∀ (x2 x3 : Int), (0 ≤ x3 ∧ x3 ≤ z t 3 ∧ x2 = fdN (z (t + 1)) (z (t + 2)) d x3.toNat) → (z t 3 - x3 + 1).toNat ≤ n → V Γ z 0 0 [(0, .ref (r t)), (1, .int (iN d)), (2, .int (iN x2)), (3, .int (iN x3))] 4 [] := by
    intro n
    induction n with
    | zero =>
      intro x2 x3 hI hm
      obtain ⟨i1, i2, i3v⟩ := hI
      exact absurd hm (by omega)
    | succ n ih4 =>
      intro x2 x3 hI hm
      obtain ⟨i1, i2, i3v⟩ := hI
      have hfb := fdN_bd hg hd.1 x3.toNat (by omega)
      refine v_iload_n hG dX3_firstDayFrom_4 3 rfl ?_
      refine v_aload_n hG dX3_firstDayFrom_5 0 rfl ?_
      refine v_getf (ci := 3) (k := 3) hG iW3 f18 rfl (by decide) ht (by decide) (cl_3 _ _ _ _) rfl dX3_firstDayFrom_6 ?_
      refine v_icmp_ge hG 63 (by omega) (by omega) dX3_firstDayFrom_9 (by decide) (fun h9 => ?_) (fun h9 => ?_)
      · refine v_iload_n hG dX3_firstDayFrom_63 2 rfl ?_
        exact v_iret hG hR dX3_firstDayFrom_64 ⟨rfl, by first | (rw [i3v, fdT, show x3 = z t 3 by omega]) | (have h9 := (fdN_stop hg (d := d) (k := x3.toNat) (by omega) (z t 3 - x3).toNat (by omega)).1; rw [show x3.toNat + (z t 3 - x3).toNat = (z t 3).toNat by omega] at h9; rw [i3v, fdT, h9])⟩
      · have hb := hk x3.toNat (by omega)
        refine v_iload_n hG dX3_firstDayFrom_12 2 rfl ?_
        refine v_aload_n hG dX3_firstDayFrom_13 0 rfl ?_
        refine v_getf (ci := 3) (k := 1) hG iW3 f9 rfl (by decide) ht (by decide) (cl_3 _ _ _ _) rfl dX3_firstDayFrom_14 ?_
        refine v_iload_n hG dX3_firstDayFrom_17 3 rfl ?_
        refine v_iald hG (kT_D ht) (by decide) (cl_103 _ _ _ _) (by decide) (by omega) dX3_firstDayFrom_18 ?_
        refine v_icmp_le hG 63 (by omega) (by omega) dX3_firstDayFrom_19 (by decide) (fun h19 => ?_) (fun h19 => ?_)
        · refine v_iload_n hG dX3_firstDayFrom_63 2 rfl ?_
          exact v_iret hG hR dX3_firstDayFrom_64 ⟨rfl, by first | (rw [i3v, fdT, show x3 = z t 3 by omega]) | (have h9 := (fdN_stop hg (d := d) (k := x3.toNat) (by omega) (z t 3 - x3).toNat (by omega)).1; rw [show x3.toNat + (z t 3 - x3).toNat = (z t 3).toNat by omega] at h9; rw [i3v, fdT, h9])⟩
        · refine v_aload_n hG dX3_firstDayFrom_22 0 rfl ?_
          refine v_getf (ci := 3) (k := 1) hG iW3 f9 rfl (by decide) ht (by decide) (cl_3 _ _ _ _) rfl dX3_firstDayFrom_23 ?_
          refine v_iload_n hG dX3_firstDayFrom_26 3 rfl ?_
          refine v_iald hG (kT_D ht) (by decide) (cl_103 _ _ _ _) (by decide) (by omega) dX3_firstDayFrom_27 ?_
          refine v_iconst hG dX3_firstDayFrom_28 ?_
          refine v_iadd hG dX3_firstDayFrom_29 ?_
          refine v_istore hG [(0, _), (1, _), (2, _), (3, _), (4, _)] dX3_firstDayFrom_30 (by decide) rfl ?_
          refine v_iload_n hG dX3_firstDayFrom_32 2 rfl ?_
          refine v_aload_n hG dX3_firstDayFrom_33 0 rfl ?_
          refine v_getf (ci := 3) (k := 2) hG iW3 f15 rfl (by decide) ht (by decide) (cl_3 _ _ _ _) rfl dX3_firstDayFrom_34 ?_
          refine v_iload_n hG dX3_firstDayFrom_37 3 rfl ?_
          refine v_iald hG (kT_L ht) (by decide) (cl_103 _ _ _ _) (by decide) (by omega) dX3_firstDayFrom_38 ?_
          refine v_isub hG dX3_firstDayFrom_39 ?_
          refine v_istore hG [(0, _), (1, _), (2, _), (3, _), (4, _), (5, _)] dX3_firstDayFrom_40 (by decide) rfl ?_
          refine v_iload hG dX3_firstDayFrom_42 5 rfl ?_
          refine v_iload hG dX3_firstDayFrom_44 4 rfl ?_
          refine v_icmp_le hG 54 (by omega) (by omega) dX3_firstDayFrom_46 (by decide) (fun h46 => ?_) (fun h46 => ?_)
          · refine v_iload hG dX3_firstDayFrom_54 4 rfl ?_
            refine v_istore_n hG [(0, _), (1, _), (2, _), (3, _), (4, _), (5, _)] dX3_firstDayFrom_56 (by decide) rfl ?_
            refine v_iinc hG [(0, _), (1, _), (2, _), (3, _), (4, _), (5, _)] dX3_firstDayFrom_57 3 rfl (by decide) rfl ?_
            refine v_goto hG 4 dX3_firstDayFrom_60 (by decide) ?_
            refine v_sub hG [(0, _), (1, _), (2, _), (3, _)] [0, 1, 2, 3] rfl ?_
            exact ih4 _ _ (by refine ⟨by omega, by omega, ?_⟩; rw [show (x3 + 1).toNat = x3.toNat + 1 by omega]; simp only [fdN]; rw [if_pos (by omega)]; split <;> omega) (by omega)
          · refine v_iload hG dX3_firstDayFrom_49 5 rfl ?_
            refine v_goto hG 56 dX3_firstDayFrom_51 (by decide) ?_
            refine v_istore_n hG [(0, _), (1, _), (2, _), (3, _), (4, _), (5, _)] dX3_firstDayFrom_56 (by decide) rfl ?_
            refine v_iinc hG [(0, _), (1, _), (2, _), (3, _), (4, _), (5, _)] dX3_firstDayFrom_57 3 rfl (by decide) rfl ?_
            refine v_goto hG 4 dX3_firstDayFrom_60 (by decide) ?_
            refine v_sub hG [(0, _), (1, _), (2, _), (3, _)] [0, 1, 2, 3] rfl ?_
            exact ih4 _ _ (by refine ⟨by omega, by omega, ?_⟩; rw [show (x3 + 1).toNat = x3.toNat + 1 by omega]; simp only [fdN]; rw [if_pos (by omega)]; split <;> omega) (by omega)
  exact L4 _ _ _ ⟨by omega, by omega, rfl⟩ (Nat.le_refl _)

set_option maxHeartbeats 4000000 in
set_option maxRecDepth 100000 in
theorem c_X3_dayWithDate {l : Launch} {D : va_G} {cA : Nat → ClassId} {r : Nat → Nat} {z : Zt} {t : Nat} {y m d : Int} (hr : Inj r) (ht : kd t = 3) (hT : TI z t) (hy : 1 ≤ y ∧ y ≤ 1000) (hm : 1 ≤ m ∧ m ≤ 100) (hd : 1 ≤ d ∧ d ≤ 99) : Ki l D cA r yX3_dayWithDate wsX3_dayWithDate 2 45 z [.ref (r t), .int (iN y), .int (iN m), .int (iN d)] (fun x z1 => z = z1 ∧ x = (if 12 < m ∨ mlen (z t 0) m < d then -1 else if calT z t (fdT z t (dof (z t 0) y m d)) = dof (z t 0) y m d then fdT z t (dof (z t 0) y m d) else -1)) := by
  have hml := mlen_bd (z t 0) m
  have h01 := hT.1
  refine Ki_of [(0, _), (1, _), (2, _), (3, _)] hr (by decide) rfl rfl (Nat.le_of_ble_eq_true rfl) rfl (fun Γ hG hR => ?_)
  refine v_iload_n hG dX3_dayWithDate_0 2 rfl ?_
  refine v_bipush hG dX3_dayWithDate_1 (by decide) ?_
  refine v_icmp_gt hG 15 (by omega) (by omega) dX3_dayWithDate_3 (by decide) (fun h3 => ?_) (fun h3 => ?_)
  · refine v_iconst hG dX3_dayWithDate_15 ?_
    exact v_iret hG hR dX3_dayWithDate_16 ⟨rfl, by first | (rw [if_pos (by omega)]) | (rw [if_neg (by omega), if_pos (by omega)]) | (rw [if_neg (by omega), if_neg (by omega)])⟩
  · refine v_iload_n hG dX3_dayWithDate_6 3 rfl ?_
    refine v_aload_n hG dX3_dayWithDate_7 0 rfl ?_
    refine v_iload_n hG dX3_dayWithDate_8 2 rfl ?_
    refine v_callVi (n := 1) (ci := 3) hG (c_X3_daysInMonth hr ht hT (by omega)) gX3_dayWithDate_X3_daysInMonth rfl (by decide +kernel) rfl (by decide) ht (by decide) (cl_3 _ _ _ _) rfl dX3_dayWithDate_9 rfl (Nat.le_of_ble_eq_true rfl) (by decide) ?_
    intro v9 z9 hp9
    obtain ⟨rfl, rfl⟩ := hp9
    refine v_icmp_le hG 17 (by omega) (by omega) dX3_dayWithDate_12 (by decide) (fun h12 => ?_) (fun h12 => ?_)
    · refine v_aload_n hG dX3_dayWithDate_17 0 rfl ?_
      have hdb := dof_bd (a := z t 0) (y := y) (m := m) (d := d) (by omega) (by omega) (by omega)
      have hfb := fdT_bd hT (d := dof (z t 0) y m d) hdb.1
      have hcb := calT_bd hT (fdT z t (dof (z t 0) y m d))
      refine v_iload_n hG dX3_dayWithDate_18 1 rfl ?_
      refine v_iload_n hG dX3_dayWithDate_19 2 rfl ?_
      refine v_iload_n hG dX3_dayWithDate_20 3 rfl ?_
      refine v_callVi (n := 3) (ci := 3) hG (c_X3_dateOf hr ht hT (by omega)) gX3_dayWithDate_X3_dateOf rfl (by decide +kernel) rfl (by decide) ht (by decide) (cl_3 _ _ _ _) rfl dX3_dayWithDate_21 rfl (Nat.le_of_ble_eq_true rfl) (by decide) ?_
      intro v21 z21 hp21
      obtain ⟨rfl, rfl⟩ := hp21
      refine v_istore hG [(0, _), (1, _), (2, _), (3, _), (4, _)] dX3_dayWithDate_24 (by decide) rfl ?_
      refine v_aload_n hG dX3_dayWithDate_26 0 rfl ?_
      refine v_iload hG dX3_dayWithDate_27 4 rfl ?_
      refine v_callVi (n := 1) (ci := 3) hG (c_X3_firstDayFrom hr ht hT (by omega)) gX3_dayWithDate_X3_firstDayFrom rfl (by decide +kernel) rfl (by decide) ht (by decide) (cl_3 _ _ _ _) rfl dX3_dayWithDate_29 rfl (Nat.le_of_ble_eq_true rfl) (by decide) ?_
      intro v29 z29 hp29
      obtain ⟨rfl, rfl⟩ := hp29
      refine v_istore hG [(0, _), (1, _), (2, _), (3, _), (4, _), (5, _)] dX3_dayWithDate_32 (by decide) rfl ?_
      refine v_aload_n hG dX3_dayWithDate_34 0 rfl ?_
      refine v_iload hG dX3_dayWithDate_35 5 rfl ?_
      refine v_callVi (n := 1) (ci := 3) hG (c_X3_dateOn hr ht hT (by omega)) gX3_dayWithDate_X3_dateOn rfl (by decide +kernel) rfl (by decide) ht (by decide) (cl_3 _ _ _ _) rfl dX3_dayWithDate_37 rfl (Nat.le_of_ble_eq_true rfl) (by decide) ?_
      intro v37 z37 hp37
      obtain ⟨rfl, rfl⟩ := hp37
      refine v_iload hG dX3_dayWithDate_40 4 rfl ?_
      refine v_icmp_ne hG 50 (by omega) (by omega) dX3_dayWithDate_42 (by decide) (fun h42 => ?_) (fun h42 => ?_)
      · refine v_iconst hG dX3_dayWithDate_50 ?_
        exact v_iret hG hR dX3_dayWithDate_51 ⟨rfl, by first | (rw [if_pos (by omega)]) | (rw [if_neg (by omega), if_pos (by omega)]) | (rw [if_neg (by omega), if_neg (by omega)])⟩
      · refine v_iload hG dX3_dayWithDate_45 5 rfl ?_
        refine v_goto hG 51 dX3_dayWithDate_47 (by decide) ?_
        exact v_iret hG hR dX3_dayWithDate_51 ⟨rfl, by first | (rw [if_pos (by omega)]) | (rw [if_neg (by omega), if_pos (by omega)]) | (rw [if_neg (by omega), if_neg (by omega)])⟩
    · refine v_iconst hG dX3_dayWithDate_15 ?_
      exact v_iret hG hR dX3_dayWithDate_16 ⟨rfl, by first | (rw [if_pos (by omega)]) | (rw [if_neg (by omega), if_pos (by omega)]) | (rw [if_neg (by omega), if_neg (by omega)])⟩

