set_option maxHeartbeats 4000000 in
set_option maxRecDepth 100000 in
theorem c_X4_feastCount {l : Launch} {D : va_G} {cA : Nat → ClassId} {r : Nat → Nat} {z : Zt}  (hr : Inj r) (h0 : kd 0 = 1) : Ki l D cA r yX4_feastCount wsX4_feastCount 0 0 z [.ref (r 0)] (fun x z1 => z = z1 ∧ x = z 1 3) := by
  have iW2 : ∀ w ∈ u_ws RX2 TX2 9, w ∈ wsX4_feastCount := by decide +kernel
  have iW4 : ∀ w ∈ u_ws RX4 TX4 7, w ∈ wsX4_feastCount := by decide +kernel
  have f10 : Cond.fieldLink RX4 10 (TX4 0).1 (TX4 0).2.1 (TX4 0).2.2.1 ∈ wsX4_feastCount := by decide +kernel
  have f105 : Cond.fieldLinkNest RX4 105 (TX2 3).1 (TX2 3).2.1 (TX2 3).2.2.1 "TwoTownAlmanac" ∈ nwF := by decide +kernel
  refine Ki_of [(0, _)] hr (by decide) rfl rfl (Nat.le_of_ble_eq_true rfl) rfl (fun Γ hG hR => ?_)
  refine v_aload_n hG dX4_feastCount_0 0 rfl ?_
  refine v_getf (ci := 4) (k := 0) hG iW4 f10 rfl (by decide) h0 (by decide) (cl_1 _ _ _ _) rfl dX4_feastCount_1 ?_
  refine v_getfN (ci := 2) (k := 3) hG iW2 f105 rfl (by decide) k_1 (by decide) (cl_2 _ _ _ _) rfl dX4_feastCount_4 ?_
  exact v_iret hG hR dX4_feastCount_7 ⟨rfl, rfl⟩

set_option maxHeartbeats 4000000 in
set_option maxRecDepth 100000 in
theorem c_X4_shift {l : Launch} {D : va_G} {cA : Nat → ClassId} {r : Nat → Nat} {z : Zt}  (hr : Inj r) (h0 : kd 0 = 1) : Ki l D cA r yX4_shift wsX4_shift 0 0 z [.ref (r 0)] (fun x z1 => z = z1 ∧ x = z 1 4) := by
  have iW2 : ∀ w ∈ u_ws RX2 TX2 9, w ∈ wsX4_shift := by decide +kernel
  have iW4 : ∀ w ∈ u_ws RX4 TX4 7, w ∈ wsX4_shift := by decide +kernel
  have f10 : Cond.fieldLink RX4 10 (TX4 0).1 (TX4 0).2.1 (TX4 0).2.2.1 ∈ wsX4_shift := by decide +kernel
  have f148 : Cond.fieldLinkNest RX4 148 (TX2 4).1 (TX2 4).2.1 (TX2 4).2.2.1 "TwoTownAlmanac" ∈ nwF := by decide +kernel
  refine Ki_of [(0, _)] hr (by decide) rfl rfl (Nat.le_of_ble_eq_true rfl) rfl (fun Γ hG hR => ?_)
  refine v_aload_n hG dX4_shift_0 0 rfl ?_
  refine v_getf (ci := 4) (k := 0) hG iW4 f10 rfl (by decide) h0 (by decide) (cl_1 _ _ _ _) rfl dX4_shift_1 ?_
  refine v_getfN (ci := 2) (k := 4) hG iW2 f148 rfl (by decide) k_1 (by decide) (cl_2 _ _ _ _) rfl dX4_shift_4 ?_
  exact v_iret hG hR dX4_shift_7 ⟨rfl, rfl⟩

set_option maxHeartbeats 4000000 in
set_option maxRecDepth 100000 in
theorem c_X4_copiesPerDay {l : Launch} {D : va_G} {cA : Nat → ClassId} {r : Nat → Nat} {z : Zt}  (hr : Inj r) (h0 : kd 0 = 1) : Ki l D cA r yX4_copiesPerDay wsX4_copiesPerDay 0 0 z [.ref (r 0)] (fun x z1 => z = z1 ∧ x = z 1 5) := by
  have iW2 : ∀ w ∈ u_ws RX2 TX2 9, w ∈ wsX4_copiesPerDay := by decide +kernel
  have iW4 : ∀ w ∈ u_ws RX4 TX4 7, w ∈ wsX4_copiesPerDay := by decide +kernel
  have f10 : Cond.fieldLink RX4 10 (TX4 0).1 (TX4 0).2.1 (TX4 0).2.2.1 ∈ wsX4_copiesPerDay := by decide +kernel
  have f151 : Cond.fieldLinkNest RX4 151 (TX2 5).1 (TX2 5).2.1 (TX2 5).2.2.1 "TwoTownAlmanac" ∈ nwF := by decide +kernel
  refine Ki_of [(0, _)] hr (by decide) rfl rfl (Nat.le_of_ble_eq_true rfl) rfl (fun Γ hG hR => ?_)
  refine v_aload_n hG dX4_copiesPerDay_0 0 rfl ?_
  refine v_getf (ci := 4) (k := 0) hG iW4 f10 rfl (by decide) h0 (by decide) (cl_1 _ _ _ _) rfl dX4_copiesPerDay_1 ?_
  refine v_getfN (ci := 2) (k := 5) hG iW2 f151 rfl (by decide) k_1 (by decide) (cl_2 _ _ _ _) rfl dX4_copiesPerDay_4 ?_
  exact v_iret hG hR dX4_copiesPerDay_7 ⟨rfl, rfl⟩

set_option maxHeartbeats 4000000 in
set_option maxRecDepth 100000 in
theorem c_X4_today {l : Launch} {D : va_G} {cA : Nat → ClassId} {r : Nat → Nat} {z : Zt}  (hr : Inj r) (h0 : kd 0 = 1) : Ki l D cA r yX4_today wsX4_today 0 0 z [.ref (r 0)] (fun x z1 => z = z1 ∧ x = z 1 6) := by
  have iW2 : ∀ w ∈ u_ws RX2 TX2 9, w ∈ wsX4_today := by decide +kernel
  have iW4 : ∀ w ∈ u_ws RX4 TX4 7, w ∈ wsX4_today := by decide +kernel
  have f10 : Cond.fieldLink RX4 10 (TX4 0).1 (TX4 0).2.1 (TX4 0).2.2.1 ∈ wsX4_today := by decide +kernel
  have f154 : Cond.fieldLinkNest RX4 154 (TX2 6).1 (TX2 6).2.1 (TX2 6).2.2.1 "TwoTownAlmanac" ∈ nwF := by decide +kernel
  refine Ki_of [(0, _)] hr (by decide) rfl rfl (Nat.le_of_ble_eq_true rfl) rfl (fun Γ hG hR => ?_)
  refine v_aload_n hG dX4_today_0 0 rfl ?_
  refine v_getf (ci := 4) (k := 0) hG iW4 f10 rfl (by decide) h0 (by decide) (cl_1 _ _ _ _) rfl dX4_today_1 ?_
  refine v_getfN (ci := 2) (k := 6) hG iW2 f154 rfl (by decide) k_1 (by decide) (cl_2 _ _ _ _) rfl dX4_today_4 ?_
  exact v_iret hG hR dX4_today_7 ⟨rfl, rfl⟩

set_option maxHeartbeats 4000000 in
set_option maxRecDepth 100000 in
theorem c_X4_quarrelCount {l : Launch} {D : va_G} {cA : Nat → ClassId} {r : Nat → Nat} {z : Zt}  (hr : Inj r) (h0 : kd 0 = 1) : Ki l D cA r yX4_quarrelCount wsX4_quarrelCount 0 0 z [.ref (r 0)] (fun x z1 => z = z1 ∧ x = z 1 7) := by
  have iW2 : ∀ w ∈ u_ws RX2 TX2 9, w ∈ wsX4_quarrelCount := by decide +kernel
  have iW4 : ∀ w ∈ u_ws RX4 TX4 7, w ∈ wsX4_quarrelCount := by decide +kernel
  have f10 : Cond.fieldLink RX4 10 (TX4 0).1 (TX4 0).2.1 (TX4 0).2.2.1 ∈ wsX4_quarrelCount := by decide +kernel
  have f159 : Cond.fieldLinkNest RX4 159 (TX2 7).1 (TX2 7).2.1 (TX2 7).2.2.1 "TwoTownAlmanac" ∈ nwF := by decide +kernel
  refine Ki_of [(0, _)] hr (by decide) rfl rfl (Nat.le_of_ble_eq_true rfl) rfl (fun Γ hG hR => ?_)
  refine v_aload_n hG dX4_quarrelCount_0 0 rfl ?_
  refine v_getf (ci := 4) (k := 0) hG iW4 f10 rfl (by decide) h0 (by decide) (cl_1 _ _ _ _) rfl dX4_quarrelCount_1 ?_
  refine v_getfN (ci := 2) (k := 7) hG iW2 f159 rfl (by decide) k_1 (by decide) (cl_2 _ _ _ _) rfl dX4_quarrelCount_4 ?_
  exact v_iret hG hR dX4_quarrelCount_7 ⟨rfl, rfl⟩

set_option maxHeartbeats 4000000 in
set_option maxRecDepth 100000 in
theorem c_X4_copiesMade {l : Launch} {D : va_G} {cA : Nat → ClassId} {r : Nat → Nat} {z : Zt}  (hr : Inj r) (h0 : kd 0 = 1) : Ki l D cA r yX4_copiesMade wsX4_copiesMade 0 0 z [.ref (r 0)] (fun x z1 => z = z1 ∧ x = z 1 8) := by
  have iW2 : ∀ w ∈ u_ws RX2 TX2 9, w ∈ wsX4_copiesMade := by decide +kernel
  have iW4 : ∀ w ∈ u_ws RX4 TX4 7, w ∈ wsX4_copiesMade := by decide +kernel
  have f10 : Cond.fieldLink RX4 10 (TX4 0).1 (TX4 0).2.1 (TX4 0).2.2.1 ∈ wsX4_copiesMade := by decide +kernel
  have f169 : Cond.fieldLinkNest RX4 169 (TX2 8).1 (TX2 8).2.1 (TX2 8).2.2.1 "TwoTownAlmanac" ∈ nwF := by decide +kernel
  refine Ki_of [(0, _)] hr (by decide) rfl rfl (Nat.le_of_ble_eq_true rfl) rfl (fun Γ hG hR => ?_)
  refine v_aload_n hG dX4_copiesMade_0 0 rfl ?_
  refine v_getf (ci := 4) (k := 0) hG iW4 f10 rfl (by decide) h0 (by decide) (cl_1 _ _ _ _) rfl dX4_copiesMade_1 ?_
  refine v_getfN (ci := 2) (k := 8) hG iW2 f169 rfl (by decide) k_1 (by decide) (cl_2 _ _ _ _) rfl dX4_copiesMade_4 ?_
  exact v_iret hG hR dX4_copiesMade_7 ⟨rfl, rfl⟩

set_option maxHeartbeats 4000000 in
set_option maxRecDepth 100000 in
theorem c_X4_textLength {l : Launch} {D : va_G} {cA : Nat → ClassId} {r : Nat → Nat} {z : Zt}  (hr : Inj r) (h0 : kd 0 = 1) : Ki l D cA r yX4_textLength wsX4_textLength 0 0 z [.ref (r 0)] (fun x z1 => z = z1 ∧ x = z 22 1) := by
  have iW0 : ∀ w ∈ u_ws RX0 TX0 2, w ∈ wsX4_textLength := by decide +kernel
  have iW4 : ∀ w ∈ u_ws RX4 TX4 7, w ∈ wsX4_textLength := by decide +kernel
  have f34 : Cond.fieldLink RX4 34 (TX4 5).1 (TX4 5).2.1 (TX4 5).2.2.1 ∈ wsX4_textLength := by decide +kernel
  have f184 : Cond.fieldLinkNest RX4 184 (TX0 1).1 (TX0 1).2.1 (TX0 1).2.2.1 "TwoTownAlmanac" ∈ nwF := by decide +kernel
  refine Ki_of [(0, _)] hr (by decide) rfl rfl (Nat.le_of_ble_eq_true rfl) rfl (fun Γ hG hR => ?_)
  refine v_aload_n hG dX4_textLength_0 0 rfl ?_
  refine v_getf (ci := 4) (k := 5) hG iW4 f34 rfl (by decide) h0 (by decide) (cl_1 _ _ _ _) rfl dX4_textLength_1 ?_
  refine v_getfN (ci := 0) (k := 1) hG iW0 f184 rfl (by decide) k_22 (by decide) (cl_5 _ _ _ _) rfl dX4_textLength_4 ?_
  exact v_iret hG hR dX4_textLength_7 ⟨rfl, rfl⟩

set_option maxHeartbeats 4000000 in
set_option maxRecDepth 100000 in
theorem c_X4_textError {l : Launch} {D : va_G} {cA : Nat → ClassId} {r : Nat → Nat} {z : Zt}  (hr : Inj r) (h0 : kd 0 = 1) (hX : TX (z 23) (z 22 1)) : Ki l D cA r yX4_textError wsX4_textError 2 47 z [.ref (r 0)] (fun x z1 => z = z1 ∧ FE (z 23) (z 22 1) x) := by
  have iW4 : ∀ w ∈ u_ws RX4 TX4 7, w ∈ wsX4_textError := by decide +kernel
  have f34 : Cond.fieldLink RX4 34 (TX4 5).1 (TX4 5).2.1 (TX4 5).2.2.1 ∈ wsX4_textError := by decide +kernel
  refine Ki_of [(0, _)] hr (by decide) rfl rfl (Nat.le_of_ble_eq_true rfl) rfl (fun Γ hG hR => ?_)
  refine v_aload_n hG dX4_textError_0 0 rfl ?_
  refine v_getf (ci := 4) (k := 5) hG iW4 f34 rfl (by decide) h0 (by decide) (cl_1 _ _ _ _) rfl dX4_textError_1 ?_
  refine v_callVi (n := 0) (ci := 0) hG (c_X0_firstError hr k_22 hX) gX4_textError_X0_firstError rfl (by decide +kernel) rfl (by decide) k_22 (by decide) (cl_5 _ _ _ _) rfl dX4_textError_4 rfl (Nat.le_of_ble_eq_true rfl) (by decide) ?_
  intro v4 z4 hp4
  obtain ⟨rfl, hx4⟩ := hp4
  exact v_iret hG hR dX4_textError_7 ⟨rfl, ‹FE _ _ _›⟩

set_option maxHeartbeats 4000000 in
set_option maxRecDepth 100000 in
theorem c_X4_clearText {l : Launch} {D : va_G} {cA : Nat → ClassId} {r : Nat → Nat} {z : Zt}  (hr : Inj r) (h0 : kd 0 = 1) : Ki l D cA r yX4_clearText wsX4_clearText 0 0 z [.ref (r 0)] (fun x z1 => zup z 22 1 0 = z1 ∧ x = z 22 1) := by
  have iW0 : ∀ w ∈ u_ws RX0 TX0 2, w ∈ wsX4_clearText := by decide +kernel
  have iW4 : ∀ w ∈ u_ws RX4 TX4 7, w ∈ wsX4_clearText := by decide +kernel
  have f34 : Cond.fieldLink RX4 34 (TX4 5).1 (TX4 5).2.1 (TX4 5).2.2.1 ∈ wsX4_clearText := by decide +kernel
  have f184 : Cond.fieldLinkNest RX4 184 (TX0 1).1 (TX0 1).2.1 (TX0 1).2.2.1 "TwoTownAlmanac" ∈ nwF := by decide +kernel
  refine Ki_of [(0, _)] hr (by decide) rfl rfl (Nat.le_of_ble_eq_true rfl) rfl (fun Γ hG hR => ?_)
  refine v_aload_n hG dX4_clearText_0 0 rfl ?_
  refine v_getf (ci := 4) (k := 5) hG iW4 f34 rfl (by decide) h0 (by decide) (cl_1 _ _ _ _) rfl dX4_clearText_1 ?_
  refine v_getfN (ci := 0) (k := 1) hG iW0 f184 rfl (by decide) k_22 (by decide) (cl_5 _ _ _ _) rfl dX4_clearText_4 ?_
  refine v_istore_n hG [(0, _), (1, _)] dX4_clearText_7 (by decide) rfl ?_
  refine v_aload_n hG dX4_clearText_8 0 rfl ?_
  refine v_getf (ci := 4) (k := 5) hG iW4 f34 rfl (by decide) h0 (by decide) (cl_1 _ _ _ _) rfl dX4_clearText_9 ?_
  refine v_iconst hG dX4_clearText_12 ?_
  refine v_putfN (ci := 0) (k := 1) hG iW0 tyX0_ok nmX0 f184 rfl (by decide) rfl rfl k_22 (by decide) (cl_5 _ _ _ _) (Nat.le_of_ble_eq_true rfl) rfl dX4_clearText_13 ?_
  refine v_iload_n hG dX4_clearText_16 1 rfl ?_
  exact v_iret hG hR dX4_clearText_17 ⟨rfl, rfl⟩

set_option maxHeartbeats 4000000 in
set_option maxRecDepth 100000 in
theorem c_X4_gapCount {l : Launch} {D : va_G} {cA : Nat → ClassId} {r : Nat → Nat} {z : Zt} {t : Int} (hr : Inj r) (h0 : kd 0 = 1) (ht : -2147483648 ≤ t ∧ t < 2147483648) (hok : (0 ≤ t ∧ t ≤ 1)) : Ki l D cA r yX4_gapCount wsX4_gapCount 2 42 z [.ref (r 0), .int (iN t)] (fun x z1 => z = z1 ∧ (0 ≤ t ∧ t ≤ 1) ∧ x = z (tid t) 3) := by
  have iW3 : ∀ w ∈ u_ws RX3 TX3 5, w ∈ wsX4_gapCount := by decide +kernel
  have f63 : Cond.fieldLinkNest RX4 63 (TX3 3).1 (TX3 3).2.1 (TX3 3).2.2.1 "TwoTownAlmanac" ∈ nwF := by decide +kernel
  refine Ki_of [(0, _), (1, _)] hr (by decide) rfl rfl (Nat.le_of_ble_eq_true rfl) rfl (fun Γ hG hR => ?_)
  refine v_aload_n hG dX4_gapCount_0 0 rfl ?_
  refine v_iload_n hG dX4_gapCount_1 1 rfl ?_
  refine v_callVr (n := 1) (ci := 4) hG (c_X4_requireTown hr h0 (by omega) (by omega)) gX4_gapCount_X4_requireTown rfl (by decide +kernel) rfl (by decide) h0 (by decide) (cl_1 _ _ _ _) rfl dX4_gapCount_2 rfl (Nat.le_of_ble_eq_true rfl) (by decide) ?_
  intro t2 z2 hp2
  obtain ⟨rfl, hk2, rfl, hb2⟩ := hp2
  refine v_getfN (ci := 3) (k := 3) hG iW3 f63 rfl (by decide) hk2 (by decide) (cl_3 _ _ _ _) rfl dX4_gapCount_5 ?_
  exact v_iret hG hR dX4_gapCount_8 ⟨rfl, by omega, rfl⟩

set_option maxHeartbeats 4000000 in
set_option maxRecDepth 100000 in
theorem c_X4_gapDay {l : Launch} {D : va_G} {cA : Nat → ClassId} {r : Nat → Nat} {z : Zt} {t g : Int} (hr : Inj r) (h0 : kd 0 = 1) (hS : SI z 1) (ht : -2147483648 ≤ t ∧ t < 2147483648) (hg : -2147483648 ≤ g ∧ g < 2147483648) (hok : (0 ≤ t ∧ t ≤ 1) ∧ (0 ≤ g ∧ g < z (tid t) 3)) : Ki l D cA r yX4_gapDay wsX4_gapDay 2 42 z [.ref (r 0), .int (iN t), .int (iN g)] (fun x z1 => z = z1 ∧ (0 ≤ t ∧ t ≤ 1) ∧ (0 ≤ g ∧ g < z (tid t) 3) ∧ x = z (tid t + 1) g.toNat) := by
  have iW3 : ∀ w ∈ u_ws RX3 TX3 5, w ∈ wsX4_gapDay := by decide +kernel
  have f63 : Cond.fieldLinkNest RX4 63 (TX3 3).1 (TX3 3).2.1 (TX3 3).2.2.1 "TwoTownAlmanac" ∈ nwF := by decide +kernel
  have f82 : Cond.fieldLinkNest RX4 82 (TX3 1).1 (TX3 1).2.1 (TX3 1).2.2.1 "TwoTownAlmanac" ∈ nwF := by decide +kernel
  have hg3 := (TI_tid hS t).2.1
  have hg4 := (TI_tid hS t).2.2.1
  refine Ki_of [(0, _), (1, _), (2, _)] hr (by decide) rfl rfl (Nat.le_of_ble_eq_true rfl) rfl (fun Γ hG hR => ?_)
  refine v_aload_n hG dX4_gapDay_0 0 rfl ?_
  refine v_iload_n hG dX4_gapDay_1 1 rfl ?_
  refine v_callVr (n := 1) (ci := 4) hG (c_X4_requireTown hr h0 (by omega) (by omega)) gX4_gapDay_X4_requireTown rfl (by decide +kernel) rfl (by decide) h0 (by decide) (cl_1 _ _ _ _) rfl dX4_gapDay_2 rfl (Nat.le_of_ble_eq_true rfl) (by decide) ?_
  intro t2 z2 hp2
  obtain ⟨rfl, hk2, rfl, hb2⟩ := hp2
  refine v_astore_n hG [(0, _), (1, _), (2, _), (3, _)] dX4_gapDay_5 (by decide) rfl ?_
  refine v_iload_n hG dX4_gapDay_6 2 rfl ?_
  refine v_aload_n hG dX4_gapDay_7 3 rfl ?_
  refine v_getfN (ci := 3) (k := 3) hG iW3 f63 rfl (by decide) hk2 (by decide) (cl_3 _ _ _ _) rfl dX4_gapDay_8 ?_
  refine v_callSv (n := 2) hG (c_X4_requireIndex hr (by omega) (by omega) (by omega)) gX4_gapDay_X4_requireIndex rfl (by decide +kernel) rfl (by decide) dX4_gapDay_11 rfl (Nat.le_of_ble_eq_true rfl) (by decide) ?_
  intro z11 hp11
  obtain ⟨rfl, hr11⟩ := hp11
  refine v_aload_n hG dX4_gapDay_14 3 rfl ?_
  refine v_getfN (ci := 3) (k := 1) hG iW3 f82 rfl (by decide) hk2 (by decide) (cl_3 _ _ _ _) rfl dX4_gapDay_15 ?_
  refine v_iload_n hG dX4_gapDay_18 2 rfl ?_
  refine v_iald hG (kT_D hk2) (by decide) (cl_103 _ _ _ _) (by decide) (by omega) dX4_gapDay_19 ?_
  exact v_iret hG hR dX4_gapDay_20 ⟨rfl, by omega, by omega, rfl⟩

set_option maxHeartbeats 4000000 in
set_option maxRecDepth 100000 in
theorem c_X4_gapLength {l : Launch} {D : va_G} {cA : Nat → ClassId} {r : Nat → Nat} {z : Zt} {t g : Int} (hr : Inj r) (h0 : kd 0 = 1) (hS : SI z 1) (ht : -2147483648 ≤ t ∧ t < 2147483648) (hg : -2147483648 ≤ g ∧ g < 2147483648) (hok : (0 ≤ t ∧ t ≤ 1) ∧ (0 ≤ g ∧ g < z (tid t) 3)) : Ki l D cA r yX4_gapLength wsX4_gapLength 2 42 z [.ref (r 0), .int (iN t), .int (iN g)] (fun x z1 => z = z1 ∧ (0 ≤ t ∧ t ≤ 1) ∧ (0 ≤ g ∧ g < z (tid t) 3) ∧ x = z (tid t + 2) g.toNat) := by
  have iW3 : ∀ w ∈ u_ws RX3 TX3 5, w ∈ wsX4_gapLength := by decide +kernel
  have f63 : Cond.fieldLinkNest RX4 63 (TX3 3).1 (TX3 3).2.1 (TX3 3).2.2.1 "TwoTownAlmanac" ∈ nwF := by decide +kernel
  have f85 : Cond.fieldLinkNest RX4 85 (TX3 2).1 (TX3 2).2.1 (TX3 2).2.2.1 "TwoTownAlmanac" ∈ nwF := by decide +kernel
  have hg3 := (TI_tid hS t).2.1
  have hg4 := (TI_tid hS t).2.2.1
  refine Ki_of [(0, _), (1, _), (2, _)] hr (by decide) rfl rfl (Nat.le_of_ble_eq_true rfl) rfl (fun Γ hG hR => ?_)
  refine v_aload_n hG dX4_gapLength_0 0 rfl ?_
  refine v_iload_n hG dX4_gapLength_1 1 rfl ?_
  refine v_callVr (n := 1) (ci := 4) hG (c_X4_requireTown hr h0 (by omega) (by omega)) gX4_gapLength_X4_requireTown rfl (by decide +kernel) rfl (by decide) h0 (by decide) (cl_1 _ _ _ _) rfl dX4_gapLength_2 rfl (Nat.le_of_ble_eq_true rfl) (by decide) ?_
  intro t2 z2 hp2
  obtain ⟨rfl, hk2, rfl, hb2⟩ := hp2
  refine v_astore_n hG [(0, _), (1, _), (2, _), (3, _)] dX4_gapLength_5 (by decide) rfl ?_
  refine v_iload_n hG dX4_gapLength_6 2 rfl ?_
  refine v_aload_n hG dX4_gapLength_7 3 rfl ?_
  refine v_getfN (ci := 3) (k := 3) hG iW3 f63 rfl (by decide) hk2 (by decide) (cl_3 _ _ _ _) rfl dX4_gapLength_8 ?_
  refine v_callSv (n := 2) hG (c_X4_requireIndex hr (by omega) (by omega) (by omega)) gX4_gapLength_X4_requireIndex rfl (by decide +kernel) rfl (by decide) dX4_gapLength_11 rfl (Nat.le_of_ble_eq_true rfl) (by decide) ?_
  intro z11 hp11
  obtain ⟨rfl, hr11⟩ := hp11
  refine v_aload_n hG dX4_gapLength_14 3 rfl ?_
  refine v_getfN (ci := 3) (k := 2) hG iW3 f85 rfl (by decide) hk2 (by decide) (cl_3 _ _ _ _) rfl dX4_gapLength_15 ?_
  refine v_iload_n hG dX4_gapLength_18 2 rfl ?_
  refine v_iald hG (kT_L hk2) (by decide) (cl_103 _ _ _ _) (by decide) (by omega) dX4_gapLength_19 ?_
  exact v_iret hG hR dX4_gapLength_20 ⟨rfl, by omega, by omega, rfl⟩

set_option maxHeartbeats 4000000 in
set_option maxRecDepth 100000 in
theorem c_X4_monthLength {l : Launch} {D : va_G} {cA : Nat → ClassId} {r : Nat → Nat} {z : Zt} {t m : Int} (hr : Inj r) (h0 : kd 0 = 1) (hS : SI z 1) (ht : -2147483648 ≤ t ∧ t < 2147483648) (hm : -2147483648 ≤ m ∧ m < 2147483648) (hok : (0 ≤ t ∧ t ≤ 1) ∧ (1 ≤ m ∧ m ≤ 12)) : Ki l D cA r yX4_monthLength wsX4_monthLength 2 42 z [.ref (r 0), .int (iN t), .int (iN m)] (fun x z1 => z = z1 ∧ (0 ≤ t ∧ t ≤ 1) ∧ (1 ≤ m ∧ m ≤ 12) ∧ x = mlen (z (tid t) 0) m) := by
  have hTT := TI_tid hS t
  refine Ki_of [(0, _), (1, _), (2, _)] hr (by decide) rfl rfl (Nat.le_of_ble_eq_true rfl) rfl (fun Γ hG hR => ?_)
  refine v_aload_n hG dX4_monthLength_0 0 rfl ?_
  refine v_iload_n hG dX4_monthLength_1 1 rfl ?_
  refine v_callVr (n := 1) (ci := 4) hG (c_X4_requireTown hr h0 (by omega) (by omega)) gX4_monthLength_X4_requireTown rfl (by decide +kernel) rfl (by decide) h0 (by decide) (cl_1 _ _ _ _) rfl dX4_monthLength_2 rfl (Nat.le_of_ble_eq_true rfl) (by decide) ?_
  intro t2 z2 hp2
  obtain ⟨rfl, hk2, rfl, hb2⟩ := hp2
  refine v_astore_n hG [(0, _), (1, _), (2, _), (3, _)] dX4_monthLength_5 (by decide) rfl ?_
  refine v_iload_n hG dX4_monthLength_6 2 rfl ?_
  refine v_iconst hG dX4_monthLength_7 ?_
  refine v_bipush hG dX4_monthLength_8 (by decide) ?_
  refine v_callSv (n := 3) hG (c_X4_requireRange hr (by omega) (by omega) (by omega) (by omega)) gX4_monthLength_X4_requireRange rfl (by decide +kernel) rfl (by decide) dX4_monthLength_10 rfl (Nat.le_of_ble_eq_true rfl) (by decide) ?_
  intro z10 hp10
  obtain ⟨rfl, hr10⟩ := hp10
  refine v_aload_n hG dX4_monthLength_13 3 rfl ?_
  refine v_iload_n hG dX4_monthLength_14 2 rfl ?_
  refine v_callVi (n := 1) (ci := 3) hG (c_X3_daysInMonth hr hk2 hTT (by omega)) gX4_monthLength_X3_daysInMonth rfl (by decide +kernel) rfl (by decide) hk2 (by decide) (cl_3 _ _ _ _) rfl dX4_monthLength_15 rfl (Nat.le_of_ble_eq_true rfl) (by decide) ?_
  intro v15 z15 hp15
  obtain ⟨rfl, rfl⟩ := hp15
  exact v_iret hG hR dX4_monthLength_18 ⟨rfl, by omega, by omega, rfl⟩

set_option maxHeartbeats 4000000 in
set_option maxRecDepth 100000 in
theorem c_X4_dayOfMonth {l : Launch} {D : va_G} {cA : Nat → ClassId} {r : Nat → Nat} {z : Zt} {t d : Int} (hr : Inj r) (h0 : kd 0 = 1) (hS : SI z 1) (ht : -2147483648 ≤ t ∧ t < 2147483648) (hd : -2147483648 ≤ d ∧ d < 2147483648) (hok : (0 ≤ t ∧ t ≤ 1) ∧ (0 ≤ d ∧ d ≤ 20000)) : Ki l D cA r yX4_dayOfMonth wsX4_dayOfMonth 4 89 z [.ref (r 0), .int (iN t), .int (iN d)] (fun x z1 => z = z1 ∧ (0 ≤ t ∧ t ≤ 1) ∧ (0 ≤ d ∧ d ≤ 20000) ∧ ∃ mm : Int, isMon (z (tid t) 0) (calT z (tid t) d % yl (z (tid t) 0)) mm ∧ x = calT z (tid t) d % yl (z (tid t) 0) - mbef (z (tid t) 0) mm + 1) := by
  have hTT := TI_tid hS t
  refine Ki_of [(0, _), (1, _), (2, _)] hr (by decide) rfl rfl (Nat.le_of_ble_eq_true rfl) rfl (fun Γ hG hR => ?_)
  refine v_aload_n hG dX4_dayOfMonth_0 0 rfl ?_
  refine v_iload_n hG dX4_dayOfMonth_1 1 rfl ?_
  refine v_callVr (n := 1) (ci := 4) hG (c_X4_requireTown hr h0 (by omega) (by omega)) gX4_dayOfMonth_X4_requireTown rfl (by decide +kernel) rfl (by decide) h0 (by decide) (cl_1 _ _ _ _) rfl dX4_dayOfMonth_2 rfl (Nat.le_of_ble_eq_true rfl) (by decide) ?_
  intro t2 z2 hp2
  obtain ⟨rfl, hk2, rfl, hb2⟩ := hp2
  refine v_astore_n hG [(0, _), (1, _), (2, _), (3, _)] dX4_dayOfMonth_5 (by decide) rfl ?_
  refine v_iload_n hG dX4_dayOfMonth_6 2 rfl ?_
  refine v_iconst hG dX4_dayOfMonth_7 ?_
  refine v_sipush hG dX4_dayOfMonth_8 (by decide) ?_
  refine v_callSv (n := 3) hG (c_X4_requireRange hr (by omega) (by omega) (by omega) (by omega)) gX4_dayOfMonth_X4_requireRange rfl (by decide +kernel) rfl (by decide) dX4_dayOfMonth_11 rfl (Nat.le_of_ble_eq_true rfl) (by decide) ?_
  intro z11 hp11
  obtain ⟨rfl, hr11⟩ := hp11
  refine v_aload_n hG dX4_dayOfMonth_14 3 rfl ?_
  refine v_iload_n hG dX4_dayOfMonth_15 2 rfl ?_
  refine v_callVi (n := 1) (ci := 3) hG (c_X3_dayOfMonthOn hr hk2 hTT (by omega)) gX4_dayOfMonth_X3_dayOfMonthOn rfl (by decide +kernel) rfl (by decide) hk2 (by decide) (cl_3 _ _ _ _) rfl dX4_dayOfMonth_16 rfl (Nat.le_of_ble_eq_true rfl) (by decide) ?_
  intro v16 z16 hp16
  obtain ⟨rfl, mm16, hm16, rfl⟩ := hp16
  exact v_iret hG hR dX4_dayOfMonth_19 ⟨rfl, by omega, by omega, _, ‹isMon _ _ _›, rfl⟩

set_option maxHeartbeats 4000000 in
set_option maxRecDepth 100000 in
theorem c_X4_monthOf {l : Launch} {D : va_G} {cA : Nat → ClassId} {r : Nat → Nat} {z : Zt} {t d : Int} (hr : Inj r) (h0 : kd 0 = 1) (hS : SI z 1) (ht : -2147483648 ≤ t ∧ t < 2147483648) (hd : -2147483648 ≤ d ∧ d < 2147483648) (hok : (0 ≤ t ∧ t ≤ 1) ∧ (0 ≤ d ∧ d ≤ 20000)) : Ki l D cA r yX4_monthOf wsX4_monthOf 3 68 z [.ref (r 0), .int (iN t), .int (iN d)] (fun x z1 => z = z1 ∧ (0 ≤ t ∧ t ≤ 1) ∧ (0 ≤ d ∧ d ≤ 20000) ∧ isMon (z (tid t) 0) (calT z (tid t) d % yl (z (tid t) 0)) x) := by
  have hTT := TI_tid hS t
  refine Ki_of [(0, _), (1, _), (2, _)] hr (by decide) rfl rfl (Nat.le_of_ble_eq_true rfl) rfl (fun Γ hG hR => ?_)
  refine v_aload_n hG dX4_monthOf_0 0 rfl ?_
  refine v_iload_n hG dX4_monthOf_1 1 rfl ?_
  refine v_callVr (n := 1) (ci := 4) hG (c_X4_requireTown hr h0 (by omega) (by omega)) gX4_monthOf_X4_requireTown rfl (by decide +kernel) rfl (by decide) h0 (by decide) (cl_1 _ _ _ _) rfl dX4_monthOf_2 rfl (Nat.le_of_ble_eq_true rfl) (by decide) ?_
  intro t2 z2 hp2
  obtain ⟨rfl, hk2, rfl, hb2⟩ := hp2
  refine v_astore_n hG [(0, _), (1, _), (2, _), (3, _)] dX4_monthOf_5 (by decide) rfl ?_
  refine v_iload_n hG dX4_monthOf_6 2 rfl ?_
  refine v_iconst hG dX4_monthOf_7 ?_
  refine v_sipush hG dX4_monthOf_8 (by decide) ?_
  refine v_callSv (n := 3) hG (c_X4_requireRange hr (by omega) (by omega) (by omega) (by omega)) gX4_monthOf_X4_requireRange rfl (by decide +kernel) rfl (by decide) dX4_monthOf_11 rfl (Nat.le_of_ble_eq_true rfl) (by decide) ?_
  intro z11 hp11
  obtain ⟨rfl, hr11⟩ := hp11
  refine v_aload_n hG dX4_monthOf_14 3 rfl ?_
  refine v_iload_n hG dX4_monthOf_15 2 rfl ?_
  refine v_callVi (n := 1) (ci := 3) hG (c_X3_monthOn hr hk2 hTT (by omega)) gX4_monthOf_X3_monthOn rfl (by decide +kernel) rfl (by decide) hk2 (by decide) (cl_3 _ _ _ _) rfl dX4_monthOf_16 rfl (Nat.le_of_ble_eq_true rfl) (by decide) ?_
  intro v16 z16 hp16
  obtain ⟨rfl, hx16⟩ := hp16
  have ha16 := hx16.1
  have hb16 := hx16.2.1
  exact v_iret hG hR dX4_monthOf_19 ⟨rfl, by omega, by omega, ‹isMon _ _ _›⟩

set_option maxHeartbeats 4000000 in
set_option maxRecDepth 100000 in
theorem c_X4_yearOf {l : Launch} {D : va_G} {cA : Nat → ClassId} {r : Nat → Nat} {z : Zt} {t d : Int} (hr : Inj r) (h0 : kd 0 = 1) (hS : SI z 1) (ht : -2147483648 ≤ t ∧ t < 2147483648) (hd : -2147483648 ≤ d ∧ d < 2147483648) (hok : (0 ≤ t ∧ t ≤ 1) ∧ (0 ≤ d ∧ d ≤ 20000)) : Ki l D cA r yX4_yearOf wsX4_yearOf 2 45 z [.ref (r 0), .int (iN t), .int (iN d)] (fun x z1 => z = z1 ∧ (0 ≤ t ∧ t ≤ 1) ∧ (0 ≤ d ∧ d ≤ 20000) ∧ x = 1 + calT z (tid t) d / yl (z (tid t) 0)) := by
  have hTT := TI_tid hS t
  refine Ki_of [(0, _), (1, _), (2, _)] hr (by decide) rfl rfl (Nat.le_of_ble_eq_true rfl) rfl (fun Γ hG hR => ?_)
  refine v_aload_n hG dX4_yearOf_0 0 rfl ?_
  refine v_iload_n hG dX4_yearOf_1 1 rfl ?_
  refine v_callVr (n := 1) (ci := 4) hG (c_X4_requireTown hr h0 (by omega) (by omega)) gX4_yearOf_X4_requireTown rfl (by decide +kernel) rfl (by decide) h0 (by decide) (cl_1 _ _ _ _) rfl dX4_yearOf_2 rfl (Nat.le_of_ble_eq_true rfl) (by decide) ?_
  intro t2 z2 hp2
  obtain ⟨rfl, hk2, rfl, hb2⟩ := hp2
  refine v_astore_n hG [(0, _), (1, _), (2, _), (3, _)] dX4_yearOf_5 (by decide) rfl ?_
  refine v_iload_n hG dX4_yearOf_6 2 rfl ?_
  refine v_iconst hG dX4_yearOf_7 ?_
  refine v_sipush hG dX4_yearOf_8 (by decide) ?_
  refine v_callSv (n := 3) hG (c_X4_requireRange hr (by omega) (by omega) (by omega) (by omega)) gX4_yearOf_X4_requireRange rfl (by decide +kernel) rfl (by decide) dX4_yearOf_11 rfl (Nat.le_of_ble_eq_true rfl) (by decide) ?_
  intro z11 hp11
  obtain ⟨rfl, hr11⟩ := hp11
  refine v_aload_n hG dX4_yearOf_14 3 rfl ?_
  refine v_iload_n hG dX4_yearOf_15 2 rfl ?_
  refine v_callVi (n := 1) (ci := 3) hG (c_X3_yearOn hr hk2 hTT (by omega)) gX4_yearOf_X3_yearOn rfl (by decide +kernel) rfl (by decide) hk2 (by decide) (cl_3 _ _ _ _) rfl dX4_yearOf_16 rfl (Nat.le_of_ble_eq_true rfl) (by decide) ?_
  intro v16 z16 hp16
  obtain ⟨rfl, rfl⟩ := hp16
  exact v_iret hG hR dX4_yearOf_19 ⟨rfl, by omega, by omega, rfl⟩

set_option maxHeartbeats 4000000 in
set_option maxRecDepth 100000 in
theorem c_X4_weekday {l : Launch} {D : va_G} {cA : Nat → ClassId} {r : Nat → Nat} {z : Zt} {d : Int} (hr : Inj r) (h0 : kd 0 = 1) (hd : -2147483648 ≤ d ∧ d < 2147483648) (hok : 0 ≤ d ∧ d ≤ 20000) : Ki l D cA r yX4_weekday wsX4_weekday 1 22 z [.ref (r 0), .int (iN d)] (fun x z1 => z = z1 ∧ (0 ≤ d ∧ d ≤ 20000) ∧ x = d % 7) := by
  refine Ki_of [(0, _), (1, _)] hr (by decide) rfl rfl (Nat.le_of_ble_eq_true rfl) rfl (fun Γ hG hR => ?_)
  refine v_iload_n hG dX4_weekday_0 1 rfl ?_
  refine v_iconst hG dX4_weekday_1 ?_
  refine v_sipush hG dX4_weekday_2 (by decide) ?_
  refine v_callSv (n := 3) hG (c_X4_requireRange hr (by omega) (by omega) (by omega) (by omega)) gX4_weekday_X4_requireRange rfl (by decide +kernel) rfl (by decide) dX4_weekday_5 rfl (Nat.le_of_ble_eq_true rfl) (by decide) ?_
  intro z5 hp5
  obtain ⟨rfl, hr5⟩ := hp5
  refine v_iload_n hG dX4_weekday_8 1 rfl ?_
  refine v_bipush hG dX4_weekday_9 (by decide) ?_
  refine v_irem hG (by omega) (by omega) dX4_weekday_11 ?_
  exact v_iret hG hR dX4_weekday_12 ⟨rfl, by omega, rfl⟩

set_option maxHeartbeats 4000000 in
set_option maxRecDepth 100000 in
theorem c_X4_dayOfDate {l : Launch} {D : va_G} {cA : Nat → ClassId} {r : Nat → Nat} {z : Zt} {t y m q : Int} (hr : Inj r) (h0 : kd 0 = 1) (hS : SI z 1) (ht : -2147483648 ≤ t ∧ t < 2147483648) (hy : -2147483648 ≤ y ∧ y < 2147483648) (hm : -2147483648 ≤ m ∧ m < 2147483648) (hq : -2147483648 ≤ q ∧ q < 2147483648) (hok : (0 ≤ t ∧ t ≤ 1) ∧ ((1 ≤ y ∧ y ≤ 60) ∧ (1 ≤ m ∧ m ≤ 12) ∧ (1 ≤ q ∧ q ≤ 31))) : Ki l D cA r yX4_dayOfDate wsX4_dayOfDate 3 70 z [.ref (r 0), .int (iN t), .int (iN y), .int (iN m), .int (iN q)] (fun x z1 => z = z1 ∧ (0 ≤ t ∧ t ≤ 1) ∧ ((1 ≤ y ∧ y ≤ 60) ∧ (1 ≤ m ∧ m ≤ 12) ∧ (1 ≤ q ∧ q ≤ 31)) ∧ x = (if 12 < m ∨ mlen (z (tid t) 0) m < q then -1 else if calT z (tid t) (fdT z (tid t) (dof (z (tid t) 0) y m q)) = dof (z (tid t) 0) y m q then fdT z (tid t) (dof (z (tid t) 0) y m q) else -1)) := by
  have hTT := TI_tid hS t
  refine Ki_of [(0, _), (1, _), (2, _), (3, _), (4, _)] hr (by decide) rfl rfl (Nat.le_of_ble_eq_true rfl) rfl (fun Γ hG hR => ?_)
  refine v_aload_n hG dX4_dayOfDate_0 0 rfl ?_
  refine v_iload_n hG dX4_dayOfDate_1 1 rfl ?_
  refine v_callVr (n := 1) (ci := 4) hG (c_X4_requireTown hr h0 (by omega) (by omega)) gX4_dayOfDate_X4_requireTown rfl (by decide +kernel) rfl (by decide) h0 (by decide) (cl_1 _ _ _ _) rfl dX4_dayOfDate_2 rfl (Nat.le_of_ble_eq_true rfl) (by decide) ?_
  intro t2 z2 hp2
  obtain ⟨rfl, hk2, rfl, hb2⟩ := hp2
  refine v_astore hG [(0, _), (1, _), (2, _), (3, _), (4, _), (5, _)] dX4_dayOfDate_5 (by decide) rfl ?_
  refine v_iload_n hG dX4_dayOfDate_7 2 rfl ?_
  refine v_iconst hG dX4_dayOfDate_8 ?_
  refine v_bipush hG dX4_dayOfDate_9 (by decide) ?_
  refine v_callSv (n := 3) hG (c_X4_requireRange hr (by omega) (by omega) (by omega) (by omega)) gX4_dayOfDate_X4_requireRange rfl (by decide +kernel) rfl (by decide) dX4_dayOfDate_11 rfl (Nat.le_of_ble_eq_true rfl) (by decide) ?_
  intro z11 hp11
  obtain ⟨rfl, hr11⟩ := hp11
  refine v_iload_n hG dX4_dayOfDate_14 3 rfl ?_
  refine v_iconst hG dX4_dayOfDate_15 ?_
  refine v_bipush hG dX4_dayOfDate_16 (by decide) ?_
  refine v_callSv (n := 3) hG (c_X4_requireRange hr (by omega) (by omega) (by omega) (by omega)) gX4_dayOfDate_X4_requireRange rfl (by decide +kernel) rfl (by decide) dX4_dayOfDate_18 rfl (Nat.le_of_ble_eq_true rfl) (by decide) ?_
  intro z18 hp18
  obtain ⟨rfl, hr18⟩ := hp18
  refine v_iload hG dX4_dayOfDate_21 4 rfl ?_
  refine v_iconst hG dX4_dayOfDate_23 ?_
  refine v_bipush hG dX4_dayOfDate_24 (by decide) ?_
  refine v_callSv (n := 3) hG (c_X4_requireRange hr (by omega) (by omega) (by omega) (by omega)) gX4_dayOfDate_X4_requireRange rfl (by decide +kernel) rfl (by decide) dX4_dayOfDate_26 rfl (Nat.le_of_ble_eq_true rfl) (by decide) ?_
  intro z26 hp26
  obtain ⟨rfl, hr26⟩ := hp26
  refine v_aload hG dX4_dayOfDate_29 5 rfl ?_
  refine v_iload_n hG dX4_dayOfDate_31 2 rfl ?_
  refine v_iload_n hG dX4_dayOfDate_32 3 rfl ?_
  refine v_iload hG dX4_dayOfDate_33 4 rfl ?_
  refine v_callVi (n := 3) (ci := 3) hG (c_X3_dayWithDate hr hk2 hTT (by omega) (by omega) (by omega)) gX4_dayOfDate_X3_dayWithDate rfl (by decide +kernel) rfl (by decide) hk2 (by decide) (cl_3 _ _ _ _) rfl dX4_dayOfDate_35 rfl (Nat.le_of_ble_eq_true rfl) (by decide) ?_
  intro v35 z35 hp35
  obtain ⟨rfl, rfl⟩ := hp35
  exact v_iret hG hR dX4_dayOfDate_38 ⟨rfl, by omega, by omega, rfl⟩

set_option maxHeartbeats 4000000 in
set_option maxRecDepth 100000 in
theorem c_X4_feastTown {l : Launch} {D : va_G} {cA : Nat → ClassId} {r : Nat → Nat} {z : Zt} {f : Int} (hr : Inj r) (h0 : kd 0 = 1) (hS : SI z 1) (hf : -2147483648 ≤ f ∧ f < 2147483648) (hok : (0 ≤ f ∧ f < z 1 3)) : Ki l D cA r yX4_feastTown wsX4_feastTown 2 42 z [.ref (r 0), .int (iN f)] (fun x z1 => z = z1 ∧ (0 ≤ f ∧ f < z 1 3) ∧ x = z (9 + f.toNat) 0) := by
  have iW1 : ∀ w ∈ u_ws RX1 TX1 4, w ∈ wsX4_feastTown := by decide +kernel
  have f124 : Cond.fieldLinkNest RX4 124 (TX1 0).1 (TX1 0).2.1 (TX1 0).2.2.1 "TwoTownAlmanac" ∈ nwF := by decide +kernel
  obtain ⟨hTA, hTB, hA1, hB0, hmn, hsh, hcp, hdn, hfe⟩ := id hS
  refine Ki_of [(0, _), (1, _)] hr (by decide) rfl rfl (Nat.le_of_ble_eq_true rfl) rfl (fun Γ hG hR => ?_)
  refine v_aload_n hG dX4_feastTown_0 0 rfl ?_
  refine v_iload_n hG dX4_feastTown_1 1 rfl ?_
  refine v_callVr (n := 1) (ci := 4) hG (c_X4_requireFeast hr h0 (by omega) (by omega) (by omega)) gX4_feastTown_X4_requireFeast rfl (by decide +kernel) rfl (by decide) h0 (by decide) (cl_1 _ _ _ _) rfl dX4_feastTown_2 rfl (Nat.le_of_ble_eq_true rfl) (by decide) ?_
  intro t2 z2 hp2
  obtain ⟨rfl, hk2, rfl, hb2⟩ := hp2
  refine v_getfN (ci := 1) (k := 0) hG iW1 f124 rfl (by decide) hk2 (by decide) (cl_4 _ _ _ _) rfl dX4_feastTown_5 ?_
  exact v_iret hG hR dX4_feastTown_8 ⟨rfl, by omega, rfl⟩

set_option maxHeartbeats 4000000 in
set_option maxRecDepth 100000 in
theorem c_X4_barredWeekday {l : Launch} {D : va_G} {cA : Nat → ClassId} {r : Nat → Nat} {z : Zt} {f : Int} (hr : Inj r) (h0 : kd 0 = 1) (hS : SI z 1) (hf : -2147483648 ≤ f ∧ f < 2147483648) (hok : (0 ≤ f ∧ f < z 1 3)) : Ki l D cA r yX4_barredWeekday wsX4_barredWeekday 2 42 z [.ref (r 0), .int (iN f)] (fun x z1 => z = z1 ∧ (0 ≤ f ∧ f < z 1 3) ∧ x = z (9 + f.toNat) 3) := by
  have iW1 : ∀ w ∈ u_ws RX1 TX1 4, w ∈ wsX4_barredWeekday := by decide +kernel
  have f117 : Cond.fieldLinkNest RX4 117 (TX1 3).1 (TX1 3).2.1 (TX1 3).2.2.1 "TwoTownAlmanac" ∈ nwF := by decide +kernel
  obtain ⟨hTA, hTB, hA1, hB0, hmn, hsh, hcp, hdn, hfe⟩ := id hS
  refine Ki_of [(0, _), (1, _)] hr (by decide) rfl rfl (Nat.le_of_ble_eq_true rfl) rfl (fun Γ hG hR => ?_)
  refine v_aload_n hG dX4_barredWeekday_0 0 rfl ?_
  refine v_iload_n hG dX4_barredWeekday_1 1 rfl ?_
  refine v_callVr (n := 1) (ci := 4) hG (c_X4_requireFeast hr h0 (by omega) (by omega) (by omega)) gX4_barredWeekday_X4_requireFeast rfl (by decide +kernel) rfl (by decide) h0 (by decide) (cl_1 _ _ _ _) rfl dX4_barredWeekday_2 rfl (Nat.le_of_ble_eq_true rfl) (by decide) ?_
  intro t2 z2 hp2
  obtain ⟨rfl, hk2, rfl, hb2⟩ := hp2
  refine v_getfN (ci := 1) (k := 3) hG iW1 f117 rfl (by decide) hk2 (by decide) (cl_4 _ _ _ _) rfl dX4_barredWeekday_5 ?_
  exact v_iret hG hR dX4_barredWeekday_8 ⟨rfl, by omega, rfl⟩

set_option maxHeartbeats 4000000 in
set_option maxRecDepth 100000 in
theorem c_X4_dayDue {l : Launch} {D : va_G} {cA : Nat → ClassId} {r : Nat → Nat} {z : Zt} {f y : Int} (hr : Inj r) (h0 : kd 0 = 1) (hS : SI z 1) (hf : -2147483648 ≤ f ∧ f < 2147483648) (hy : -2147483648 ≤ y ∧ y < 2147483648) (hok : (0 ≤ f ∧ f < z 1 3) ∧ (1 ≤ y ∧ y ≤ 60)) : Ki l D cA r yX4_dayDue wsX4_dayDue 3 70 z [.ref (r 0), .int (iN f), .int (iN y)] (fun x z1 => z = z1 ∧ (0 ≤ f ∧ f < z 1 3) ∧ (1 ≤ y ∧ y ≤ 60) ∧ x = dS z 1 (9 + f.toNat) y) := by
  have iW1 : ∀ w ∈ u_ws RX1 TX1 4, w ∈ wsX4_dayDue := by decide +kernel
  have iW4 : ∀ w ∈ u_ws RX4 TX4 7, w ∈ wsX4_dayDue := by decide +kernel
  have f10 : Cond.fieldLink RX4 10 (TX4 0).1 (TX4 0).2.1 (TX4 0).2.2.1 ∈ wsX4_dayDue := by decide +kernel
  have f124 : Cond.fieldLinkNest RX4 124 (TX1 0).1 (TX1 0).2.1 (TX1 0).2.2.1 "TwoTownAlmanac" ∈ nwF := by decide +kernel
  obtain ⟨hTA, hTB, hA1, hB0, hmn, hsh, hcp, hdn, hfe⟩ := id hS
  have hFf : 0 ≤ f ∧ f < z 1 3 → FI z (9 + f.toNat) := fun q => by
    have h8 := hfe f.toNat (by omega)
    rw [show 1 + 8 + f.toNat = 9 + f.toNat by omega] at h8
    exact h8
  refine Ki_of [(0, _), (1, _), (2, _)] hr (by decide) rfl rfl (Nat.le_of_ble_eq_true rfl) rfl (fun Γ hG hR => ?_)
  refine v_aload_n hG dX4_dayDue_0 0 rfl ?_
  refine v_iload_n hG dX4_dayDue_1 1 rfl ?_
  refine v_callVr (n := 1) (ci := 4) hG (c_X4_requireFeast hr h0 (by omega) (by omega) (by omega)) gX4_dayDue_X4_requireFeast rfl (by decide +kernel) rfl (by decide) h0 (by decide) (cl_1 _ _ _ _) rfl dX4_dayDue_2 rfl (Nat.le_of_ble_eq_true rfl) (by decide) ?_
  intro t2 z2 hp2
  obtain ⟨rfl, hk2, rfl, hb2⟩ := hp2
  refine v_astore_n hG [(0, _), (1, _), (2, _), (3, _)] dX4_dayDue_5 (by decide) rfl ?_
  refine v_iload_n hG dX4_dayDue_6 2 rfl ?_
  refine v_iconst hG dX4_dayDue_7 ?_
  refine v_bipush hG dX4_dayDue_8 (by decide) ?_
  refine v_callSv (n := 3) hG (c_X4_requireRange hr (by omega) (by omega) (by omega) (by omega)) gX4_dayDue_X4_requireRange rfl (by decide +kernel) rfl (by decide) dX4_dayDue_10 rfl (Nat.le_of_ble_eq_true rfl) (by decide) ?_
  intro z10 hp10
  obtain ⟨rfl, hr10⟩ := hp10
  refine v_aload_n hG dX4_dayDue_13 0 rfl ?_
  refine v_getf (ci := 4) (k := 0) hG iW4 f10 rfl (by decide) h0 (by decide) (cl_1 _ _ _ _) rfl dX4_dayDue_14 ?_
  refine v_aload_n hG dX4_dayDue_17 3 rfl ?_
  refine v_getfN (ci := 1) (k := 0) hG iW1 f124 rfl (by decide) hk2 (by decide) (cl_4 _ _ _ _) rfl dX4_dayDue_18 ?_
  refine v_callVr (n := 1) (ci := 2) hG (c_X2_townWith hr k_1 (by have h8 := (hFf (by omega)).1; omega)) gX4_dayDue_X2_townWith rfl (by decide +kernel) rfl (by decide) k_1 (by decide) (cl_2 _ _ _ _) rfl dX4_dayDue_21 rfl (Nat.le_of_ble_eq_true rfl) (by decide) ?_
  intro t21 z21 hp21
  obtain ⟨rfl, hk21, ht21⟩ := hp21
  have hw21 : t21 = tw z 1 (9 + f.toNat) := ht21
  subst hw21
  refine v_aload_n hG dX4_dayDue_24 3 rfl ?_
  refine v_iload_n hG dX4_dayDue_25 2 rfl ?_
  refine v_callVi (n := 2) (ci := 3) hG (c_X3_dueIn hr hk21 hk2 (SI_tw hS) (hFf (by omega)) (by omega)) gX4_dayDue_X3_dueIn rfl (by decide +kernel) rfl (by decide) hk21 (by decide) (cl_3 _ _ _ _) rfl dX4_dayDue_26 rfl (Nat.le_of_ble_eq_true rfl) (by decide) ?_
  intro v26 z26 hp26
  obtain ⟨rfl, rfl⟩ := hp26
  exact v_iret hG hR dX4_dayDue_29 ⟨rfl, by omega, by omega, rfl⟩

set_option maxHeartbeats 4000000 in
set_option maxRecDepth 100000 in
theorem c_X4_dayKept {l : Launch} {D : va_G} {cA : Nat → ClassId} {r : Nat → Nat} {z : Zt} {f y : Int} (hr : Inj r) (h0 : kd 0 = 1) (hS : SI z 1) (hf : -2147483648 ≤ f ∧ f < 2147483648) (hy : -2147483648 ≤ y ∧ y < 2147483648) (hok : (0 ≤ f ∧ f < z 1 3) ∧ (1 ≤ y ∧ y ≤ 60)) : Ki l D cA r yX4_dayKept wsX4_dayKept 4 93 z [.ref (r 0), .int (iN f), .int (iN y)] (fun x z1 => z = z1 ∧ (0 ≤ f ∧ f < z 1 3) ∧ (1 ≤ y ∧ y ≤ 60) ∧ x = kS z 1 (9 + f.toNat) y) := by
  have iW4 : ∀ w ∈ u_ws RX4 TX4 7, w ∈ wsX4_dayKept := by decide +kernel
  have f10 : Cond.fieldLink RX4 10 (TX4 0).1 (TX4 0).2.1 (TX4 0).2.2.1 ∈ wsX4_dayKept := by decide +kernel
  obtain ⟨hTA, hTB, hA1, hB0, hmn, hsh, hcp, hdn, hfe⟩ := id hS
  have hFf : 0 ≤ f ∧ f < z 1 3 → FI z (9 + f.toNat) := fun q => by
    have h8 := hfe f.toNat (by omega)
    rw [show 1 + 8 + f.toNat = 9 + f.toNat by omega] at h8
    exact h8
  refine Ki_of [(0, _), (1, _), (2, _)] hr (by decide) rfl rfl (Nat.le_of_ble_eq_true rfl) rfl (fun Γ hG hR => ?_)
  refine v_aload_n hG dX4_dayKept_0 0 rfl ?_
  refine v_iload_n hG dX4_dayKept_1 1 rfl ?_
  refine v_callVr (n := 1) (ci := 4) hG (c_X4_requireFeast hr h0 (by omega) (by omega) (by omega)) gX4_dayKept_X4_requireFeast rfl (by decide +kernel) rfl (by decide) h0 (by decide) (cl_1 _ _ _ _) rfl dX4_dayKept_2 rfl (Nat.le_of_ble_eq_true rfl) (by decide) ?_
  intro t2 z2 hp2
  obtain ⟨rfl, hk2, rfl, hb2⟩ := hp2
  refine v_astore_n hG [(0, _), (1, _), (2, _), (3, _)] dX4_dayKept_5 (by decide) rfl ?_
  refine v_iload_n hG dX4_dayKept_6 2 rfl ?_
  refine v_iconst hG dX4_dayKept_7 ?_
  refine v_bipush hG dX4_dayKept_8 (by decide) ?_
  refine v_callSv (n := 3) hG (c_X4_requireRange hr (by omega) (by omega) (by omega) (by omega)) gX4_dayKept_X4_requireRange rfl (by decide +kernel) rfl (by decide) dX4_dayKept_10 rfl (Nat.le_of_ble_eq_true rfl) (by decide) ?_
  intro z10 hp10
  obtain ⟨rfl, hr10⟩ := hp10
  refine v_aload_n hG dX4_dayKept_13 0 rfl ?_
  refine v_getf (ci := 4) (k := 0) hG iW4 f10 rfl (by decide) h0 (by decide) (cl_1 _ _ _ _) rfl dX4_dayKept_14 ?_
  refine v_aload_n hG dX4_dayKept_17 3 rfl ?_
  refine v_iload_n hG dX4_dayKept_18 2 rfl ?_
  refine v_callVi (n := 2) (ci := 2) hG (c_X2_keptIn hr k_1 hk2 hS (hFf (by omega)) (by omega)) gX4_dayKept_X2_keptIn rfl (by decide +kernel) rfl (by decide) k_1 (by decide) (cl_2 _ _ _ _) rfl dX4_dayKept_19 rfl (Nat.le_of_ble_eq_true rfl) (by decide) ?_
  intro v19 z19 hp19
  obtain ⟨rfl, rfl⟩ := hp19
  exact v_iret hG hR dX4_dayKept_22 ⟨rfl, by omega, by omega, rfl⟩

set_option maxHeartbeats 4000000 in
set_option maxRecDepth 100000 in
theorem c_X4_isKept {l : Launch} {D : va_G} {cA : Nat → ClassId} {r : Nat → Nat} {z : Zt} {f d : Int} (hr : Inj r) (h0 : kd 0 = 1) (hS : SI z 1) (hf : -2147483648 ≤ f ∧ f < 2147483648) (hd : -2147483648 ≤ d ∧ d < 2147483648) (hok : (0 ≤ f ∧ f < z 1 3) ∧ (0 ≤ d ∧ d ≤ 20000)) : Ki l D cA r yX4_isKept wsX4_isKept 5 119 z [.ref (r 0), .int (iN f), .int (iN d)] (fun x z1 => z = z1 ∧ (0 ≤ f ∧ f < z 1 3) ∧ (0 ≤ d ∧ d ≤ 20000) ∧ x = ind (onS z 1 (9 + f.toNat) d)) := by
  have iW4 : ∀ w ∈ u_ws RX4 TX4 7, w ∈ wsX4_isKept := by decide +kernel
  have f10 : Cond.fieldLink RX4 10 (TX4 0).1 (TX4 0).2.1 (TX4 0).2.2.1 ∈ wsX4_isKept := by decide +kernel
  obtain ⟨hTA, hTB, hA1, hB0, hmn, hsh, hcp, hdn, hfe⟩ := id hS
  have hFf : 0 ≤ f ∧ f < z 1 3 → FI z (9 + f.toNat) := fun q => by
    have h8 := hfe f.toNat (by omega)
    rw [show 1 + 8 + f.toNat = 9 + f.toNat by omega] at h8
    exact h8
  refine Ki_of [(0, _), (1, _), (2, _)] hr (by decide) rfl rfl (Nat.le_of_ble_eq_true rfl) rfl (fun Γ hG hR => ?_)
  refine v_aload_n hG dX4_isKept_0 0 rfl ?_
  refine v_iload_n hG dX4_isKept_1 1 rfl ?_
  refine v_callVr (n := 1) (ci := 4) hG (c_X4_requireFeast hr h0 (by omega) (by omega) (by omega)) gX4_isKept_X4_requireFeast rfl (by decide +kernel) rfl (by decide) h0 (by decide) (cl_1 _ _ _ _) rfl dX4_isKept_2 rfl (Nat.le_of_ble_eq_true rfl) (by decide) ?_
  intro t2 z2 hp2
  obtain ⟨rfl, hk2, rfl, hb2⟩ := hp2
  refine v_astore_n hG [(0, _), (1, _), (2, _), (3, _)] dX4_isKept_5 (by decide) rfl ?_
  refine v_iload_n hG dX4_isKept_6 2 rfl ?_
  refine v_iconst hG dX4_isKept_7 ?_
  refine v_sipush hG dX4_isKept_8 (by decide) ?_
  refine v_callSv (n := 3) hG (c_X4_requireRange hr (by omega) (by omega) (by omega) (by omega)) gX4_isKept_X4_requireRange rfl (by decide +kernel) rfl (by decide) dX4_isKept_11 rfl (Nat.le_of_ble_eq_true rfl) (by decide) ?_
  intro z11 hp11
  obtain ⟨rfl, hr11⟩ := hp11
  refine v_aload_n hG dX4_isKept_14 0 rfl ?_
  refine v_getf (ci := 4) (k := 0) hG iW4 f10 rfl (by decide) h0 (by decide) (cl_1 _ _ _ _) rfl dX4_isKept_15 ?_
  refine v_aload_n hG dX4_isKept_18 3 rfl ?_
  refine v_iload_n hG dX4_isKept_19 2 rfl ?_
  refine v_iload_n hG dX4_isKept_20 2 rfl ?_
  refine v_callVi (n := 3) (ci := 2) hG (c_X2_firstKept hr k_1 hk2 hS (hFf (by omega)) (by omega)) gX4_isKept_X2_firstKept rfl (by decide +kernel) rfl (by decide) k_1 (by decide) (cl_2 _ _ _ _) rfl dX4_isKept_21 rfl (Nat.le_of_ble_eq_true rfl) (by decide) ?_
  intro v21 z21 hp21
  obtain ⟨rfl, hx21⟩ := hp21
  have hpp := fkp_pt hx21 (by omega)
  have hpb := fkp_bd hx21 (by omega) (by omega)
  refine v_iconst hG dX4_isKept_24 ?_
  refine v_icmp_eq hG 32 (by omega) (by omega) dX4_isKept_25 (by decide) (fun h25 => ?_) (fun h25 => ?_)
  · refine v_iconst hG dX4_isKept_32 ?_
    exact v_zret hG hR (by first | exact Or.inl rfl | exact Or.inr rfl | omega) dX4_isKept_33 ⟨rfl, by omega, by omega, by first | exact (ind_t (hpp.2 h25)).symm | exact (ind_f (hpp.1 h25)).symm⟩
  · refine v_iconst hG dX4_isKept_28 ?_
    refine v_goto hG 33 dX4_isKept_29 (by decide) ?_
    exact v_zret hG hR (by first | exact Or.inl rfl | exact Or.inr rfl | omega) dX4_isKept_33 ⟨rfl, by omega, by omega, by first | exact (ind_t (hpp.2 h25)).symm | exact (ind_f (hpp.1 h25)).symm⟩

set_option maxHeartbeats 4000000 in
set_option maxRecDepth 100000 in
theorem c_X4_feastsOn {l : Launch} {D : va_G} {cA : Nat → ClassId} {r : Nat → Nat} {z : Zt} {d : Int} (hr : Inj r) (h0 : kd 0 = 1) (hS : SI z 1) (hd : -2147483648 ≤ d ∧ d < 2147483648) (hok : 0 ≤ d ∧ d ≤ 20000) : Ki l D cA r yX4_feastsOn wsX4_feastsOn 5 120 z [.ref (r 0), .int (iN d)] (fun x z1 => ag24 z z1 ∧ (0 ≤ d ∧ d ≤ 20000) ∧ isSet (fun j => (j : Int) < z 1 3 ∧ onS z 1 (1 + 8 + j) d) x) := by
  have iW4 : ∀ w ∈ u_ws RX4 TX4 7, w ∈ wsX4_feastsOn := by decide +kernel
  have f10 : Cond.fieldLink RX4 10 (TX4 0).1 (TX4 0).2.1 (TX4 0).2.2.1 ∈ wsX4_feastsOn := by decide +kernel
  have f38 : Cond.fieldLink RX4 38 (TX4 6).1 (TX4 6).2.1 (TX4 6).2.2.1 ∈ wsX4_feastsOn := by decide +kernel
  refine Ki_of [(0, _), (1, _)] hr (by decide) rfl rfl (Nat.le_of_ble_eq_true rfl) rfl (fun Γ hG hR => ?_)
  refine v_iload_n hG dX4_feastsOn_0 1 rfl ?_
  refine v_iconst hG dX4_feastsOn_1 ?_
  refine v_sipush hG dX4_feastsOn_2 (by decide) ?_
  refine v_callSv (n := 3) hG (c_X4_requireRange hr (by omega) (by omega) (by omega) (by omega)) gX4_feastsOn_X4_requireRange rfl (by decide +kernel) rfl (by decide) dX4_feastsOn_5 rfl (Nat.le_of_ble_eq_true rfl) (by decide) ?_
  intro z5 hp5
  obtain ⟨rfl, hr5⟩ := hp5
  refine v_aload_n hG dX4_feastsOn_8 0 rfl ?_
  refine v_getf (ci := 4) (k := 0) hG iW4 f10 rfl (by decide) h0 (by decide) (cl_1 _ _ _ _) rfl dX4_feastsOn_9 ?_
  refine v_aload_n hG dX4_feastsOn_12 0 rfl ?_
  refine v_getf (ci := 4) (k := 6) hG iW4 f38 rfl (by decide) h0 (by decide) (cl_1 _ _ _ _) rfl dX4_feastsOn_13 ?_
  refine v_iload_n hG dX4_feastsOn_16 1 rfl ?_
  refine v_iconst hG dX4_feastsOn_17 ?_
  refine v_callVv (n := 3) (ci := 2) hG (c_X2_markFeasts hr k_1 k_24 hS (by omega)) gX4_feastsOn_X2_markFeasts rfl (by decide +kernel) rfl (by decide) k_1 (by decide) (cl_2 _ _ _ _) rfl dX4_feastsOn_18 rfl (Nat.le_of_ble_eq_true rfl) (by decide) ?_
  intro z18 hp18
  obtain ⟨ha18, hm18⟩ := hp18
  refine v_aload_n hG dX4_feastsOn_21 0 rfl ?_
  refine v_getf (ci := 4) (k := 6) hG iW4 f38 rfl (by decide) h0 (by decide) (cl_1 _ _ _ _) rfl dX4_feastsOn_22 ?_
  refine v_iconst hG dX4_feastsOn_25 ?_
  refine v_iald hG k_24 (by decide) (cl_500 _ _ _ _) (by decide) (by omega) dX4_feastsOn_26 ?_
  exact v_iret hG hR dX4_feastsOn_27 ⟨ha18, by omega, isSet_congr (hm18 0 (by omega)) (fun j => by rw [show d + ((0 : Nat) : Int) = d by omega])⟩

set_option maxHeartbeats 4000000 in
set_option maxRecDepth 100000 in
theorem c_X4_isQuarrel {l : Launch} {D : va_G} {cA : Nat → ClassId} {r : Nat → Nat} {z : Zt} {d : Int} (hr : Inj r) (h0 : kd 0 = 1) (hS : SI z 1) (hd : -2147483648 ≤ d ∧ d < 2147483648) (hok : 0 ≤ d ∧ d ≤ 20000) : Ki l D cA r yX4_isQuarrel wsX4_isQuarrel 6 142 z [.ref (r 0), .int (iN d)] (fun x z1 => ag24 z z1 ∧ (0 ≤ d ∧ d ≤ 20000) ∧ x = ind (quS z 1 d)) := by
  have hq1 : cntP (fun i => quS z 1 (d + i)) (1 : Int).toNat = ind (quS z 1 d) := by
    show 0 + ind (quS z 1 (d + ((0 : Nat) : Int))) = _
    rw [show d + ((0 : Nat) : Int) = d by omega]
    omega
  have hib := ind_bd (quS z 1 d)
  refine Ki_of [(0, _), (1, _)] hr (by decide) rfl rfl (Nat.le_of_ble_eq_true rfl) rfl (fun Γ hG hR => ?_)
  refine v_iload_n hG dX4_isQuarrel_0 1 rfl ?_
  refine v_iconst hG dX4_isQuarrel_1 ?_
  refine v_sipush hG dX4_isQuarrel_2 (by decide) ?_
  refine v_callSv (n := 3) hG (c_X4_requireRange hr (by omega) (by omega) (by omega) (by omega)) gX4_isQuarrel_X4_requireRange rfl (by decide +kernel) rfl (by decide) dX4_isQuarrel_5 rfl (Nat.le_of_ble_eq_true rfl) (by decide) ?_
  intro z5 hp5
  obtain ⟨rfl, hr5⟩ := hp5
  refine v_aload_n hG dX4_isQuarrel_8 0 rfl ?_
  refine v_iload_n hG dX4_isQuarrel_9 1 rfl ?_
  refine v_iconst hG dX4_isQuarrel_10 ?_
  refine v_callVi (n := 2) (ci := 4) hG (c_X4_quarrelsFrom hr h0 hS (by omega)) gX4_isQuarrel_X4_quarrelsFrom rfl (by decide +kernel) rfl (by decide) h0 (by decide) (cl_1 _ _ _ _) rfl dX4_isQuarrel_11 rfl (Nat.le_of_ble_eq_true rfl) (by decide) ?_
  intro v11 z11 hp11
  obtain ⟨ha11, rfl, hs11⟩ := hp11
  rw [hq1]
  refine v_if_le hG 21 (by omega) dX4_isQuarrel_14 (by decide) (fun h14 => ?_) (fun h14 => ?_)
  · refine v_iconst hG dX4_isQuarrel_21 ?_
    exact v_zret hG hR (by first | exact Or.inl rfl | exact Or.inr rfl | omega) dX4_isQuarrel_22 ⟨ha11, by omega, by first | exact (ind_t (Classical.byContradiction (fun q => by rw [ind_f q] at h14; omega))).symm | exact (ind_f (fun q => by rw [ind_t q] at h14; omega)).symm⟩
  · refine v_iconst hG dX4_isQuarrel_17 ?_
    refine v_goto hG 22 dX4_isQuarrel_18 (by decide) ?_
    exact v_zret hG hR (by first | exact Or.inl rfl | exact Or.inr rfl | omega) dX4_isQuarrel_22 ⟨ha11, by omega, by first | exact (ind_t (Classical.byContradiction (fun q => by rw [ind_f q] at h14; omega))).symm | exact (ind_f (fun q => by rw [ind_t q] at h14; omega)).symm⟩

set_option maxHeartbeats 4000000 in
set_option maxRecDepth 100000 in
theorem c_X4_nextDay {l : Launch} {D : va_G} {cA : Nat → ClassId} {r : Nat → Nat} {z : Zt} {f : Int} (hr : Inj r) (h0 : kd 0 = 1) (hS : SI z 1) (hf : -2147483648 ≤ f ∧ f < 2147483648) (hok : (0 ≤ f ∧ f < z 1 3)) : Ki l D cA r yX4_nextDay wsX4_nextDay 5 119 z [.ref (r 0), .int (iN f)] (fun x z1 => z = z1 ∧ (0 ≤ f ∧ f < z 1 3) ∧ FKP (kS z 1 (9 + f.toNat)) (yS z 1 (9 + f.toNat)) (fun _ => True) (z 1 6) (z 1 6 + 799) x) := by
  have iW2 : ∀ w ∈ u_ws RX2 TX2 9, w ∈ wsX4_nextDay := by decide +kernel
  have iW4 : ∀ w ∈ u_ws RX4 TX4 7, w ∈ wsX4_nextDay := by decide +kernel
  have f10 : Cond.fieldLink RX4 10 (TX4 0).1 (TX4 0).2.1 (TX4 0).2.2.1 ∈ wsX4_nextDay := by decide +kernel
  have f154 : Cond.fieldLinkNest RX4 154 (TX2 6).1 (TX2 6).2.1 (TX2 6).2.2.1 "TwoTownAlmanac" ∈ nwF := by decide +kernel
  obtain ⟨hTA, hTB, hA1, hB0, hmn, hsh, hcp, hdn, hfe⟩ := id hS
  have hFf : 0 ≤ f ∧ f < z 1 3 → FI z (9 + f.toNat) := fun q => by
    have h8 := hfe f.toNat (by omega)
    rw [show 1 + 8 + f.toNat = 9 + f.toNat by omega] at h8
    exact h8
  refine Ki_of [(0, _), (1, _)] hr (by decide) rfl rfl (Nat.le_of_ble_eq_true rfl) rfl (fun Γ hG hR => ?_)
  refine v_aload_n hG dX4_nextDay_0 0 rfl ?_
  refine v_iload_n hG dX4_nextDay_1 1 rfl ?_
  refine v_callVr (n := 1) (ci := 4) hG (c_X4_requireFeast hr h0 (by omega) (by omega) (by omega)) gX4_nextDay_X4_requireFeast rfl (by decide +kernel) rfl (by decide) h0 (by decide) (cl_1 _ _ _ _) rfl dX4_nextDay_2 rfl (Nat.le_of_ble_eq_true rfl) (by decide) ?_
  intro t2 z2 hp2
  obtain ⟨rfl, hk2, rfl, hb2⟩ := hp2
  refine v_astore_n hG [(0, _), (1, _), (2, _)] dX4_nextDay_5 (by decide) rfl ?_
  refine v_aload_n hG dX4_nextDay_6 0 rfl ?_
  refine v_getf (ci := 4) (k := 0) hG iW4 f10 rfl (by decide) h0 (by decide) (cl_1 _ _ _ _) rfl dX4_nextDay_7 ?_
  refine v_aload_n hG dX4_nextDay_10 2 rfl ?_
  refine v_aload_n hG dX4_nextDay_11 0 rfl ?_
  refine v_getf (ci := 4) (k := 0) hG iW4 f10 rfl (by decide) h0 (by decide) (cl_1 _ _ _ _) rfl dX4_nextDay_12 ?_
  refine v_getfN (ci := 2) (k := 6) hG iW2 f154 rfl (by decide) k_1 (by decide) (cl_2 _ _ _ _) rfl dX4_nextDay_15 ?_
  refine v_aload_n hG dX4_nextDay_18 0 rfl ?_
  refine v_getf (ci := 4) (k := 0) hG iW4 f10 rfl (by decide) h0 (by decide) (cl_1 _ _ _ _) rfl dX4_nextDay_19 ?_
  refine v_getfN (ci := 2) (k := 6) hG iW2 f154 rfl (by decide) k_1 (by decide) (cl_2 _ _ _ _) rfl dX4_nextDay_22 ?_
  refine v_sipush hG dX4_nextDay_25 (by decide) ?_
  refine v_iadd hG dX4_nextDay_28 ?_
  refine v_iconst hG dX4_nextDay_29 ?_
  refine v_isub hG dX4_nextDay_30 ?_
  refine v_callVi (n := 3) (ci := 2) hG (c_X2_firstKept hr k_1 hk2 hS (hFf (by omega)) (by omega)) gX4_nextDay_X2_firstKept rfl (by decide +kernel) rfl (by decide) k_1 (by decide) (cl_2 _ _ _ _) rfl dX4_nextDay_31 rfl (Nat.le_of_ble_eq_true rfl) (by decide) ?_
  intro v31 z31 hp31
  obtain ⟨rfl, hx31⟩ := hp31
  exact v_iret hG hR dX4_nextDay_34 ⟨rfl, by omega, by have h8 := hx31; rw [show z 1 6 + 800 - 1 = z 1 6 + 799 by omega] at h8; exact h8⟩

set_option maxHeartbeats 4000000 in
set_option maxRecDepth 100000 in
theorem c_X4_daysUntilMeeting {l : Launch} {D : va_G} {cA : Nat → ClassId} {r : Nat → Nat} {z : Zt} {f g : Int} (hr : Inj r) (h0 : kd 0 = 1) (hS : SI z 1) (hf : -2147483648 ≤ f ∧ f < 2147483648) (hg : -2147483648 ≤ g ∧ g < 2147483648) (hok : (0 ≤ f ∧ f < z 1 3) ∧ (0 ≤ g ∧ g < z 1 3) ∧ f ≠ g) : Ki l D cA r yX4_daysUntilMeeting wsX4_daysUntilMeeting 6 146 z [.ref (r 0), .int (iN f), .int (iN g)] (fun x z1 => z = z1 ∧ (0 ≤ f ∧ f < z 1 3) ∧ (0 ≤ g ∧ g < z 1 3) ∧ f ≠ g ∧ ∃ d, FKP (kS z 1 (9 + f.toNat)) (yS z 1 (9 + f.toNat)) (onS z 1 (9 + g.toNat)) (z 1 6) (z 1 6 + 2000) d ∧ x = (if d = -1 then -1 else d - z 1 6)) := by
  have iW2 : ∀ w ∈ u_ws RX2 TX2 9, w ∈ wsX4_daysUntilMeeting := by decide +kernel
  have iW4 : ∀ w ∈ u_ws RX4 TX4 7, w ∈ wsX4_daysUntilMeeting := by decide +kernel
  have f10 : Cond.fieldLink RX4 10 (TX4 0).1 (TX4 0).2.1 (TX4 0).2.2.1 ∈ wsX4_daysUntilMeeting := by decide +kernel
  have f154 : Cond.fieldLinkNest RX4 154 (TX2 6).1 (TX2 6).2.1 (TX2 6).2.2.1 "TwoTownAlmanac" ∈ nwF := by decide +kernel
  obtain ⟨hTA, hTB, hA1, hB0, hmn, hsh, hcp, hdn, hfe⟩ := id hS
  have hFf : 0 ≤ f ∧ f < z 1 3 → FI z (9 + f.toNat) := fun q => by
    have h8 := hfe f.toNat (by omega)
    rw [show 1 + 8 + f.toNat = 9 + f.toNat by omega] at h8
    exact h8
  have hFg : 0 ≤ g ∧ g < z 1 3 → FI z (9 + g.toNat) := fun q => by
    have h8 := hfe g.toNat (by omega)
    rw [show 1 + 8 + g.toNat = 9 + g.toNat by omega] at h8
    exact h8
  refine Ki_of [(0, _), (1, _), (2, _)] hr (by decide) rfl rfl (Nat.le_of_ble_eq_true rfl) rfl (fun Γ hG hR => ?_)
  refine v_aload_n hG dX4_daysUntilMeeting_0 0 rfl ?_
  refine v_iload_n hG dX4_daysUntilMeeting_1 1 rfl ?_
  refine v_callVr (n := 1) (ci := 4) hG (c_X4_requireFeast hr h0 (by omega) (by omega) (by omega)) gX4_daysUntilMeeting_X4_requireFeast rfl (by decide +kernel) rfl (by decide) h0 (by decide) (cl_1 _ _ _ _) rfl dX4_daysUntilMeeting_2 rfl (Nat.le_of_ble_eq_true rfl) (by decide) ?_
  intro t2 z2 hp2
  obtain ⟨rfl, hk2, rfl, hb2⟩ := hp2
  refine v_astore_n hG [(0, _), (1, _), (2, _), (3, _)] dX4_daysUntilMeeting_5 (by decide) rfl ?_
  refine v_aload_n hG dX4_daysUntilMeeting_6 0 rfl ?_
  refine v_iload_n hG dX4_daysUntilMeeting_7 2 rfl ?_
  refine v_callVr (n := 1) (ci := 4) hG (c_X4_requireFeast hr h0 (by omega) (by omega) (by omega)) gX4_daysUntilMeeting_X4_requireFeast rfl (by decide +kernel) rfl (by decide) h0 (by decide) (cl_1 _ _ _ _) rfl dX4_daysUntilMeeting_8 rfl (Nat.le_of_ble_eq_true rfl) (by decide) ?_
  intro t8 z8 hp8
  obtain ⟨rfl, hk8, rfl, hb8⟩ := hp8
  refine v_astore hG [(0, _), (1, _), (2, _), (3, _), (4, _)] dX4_daysUntilMeeting_11 (by decide) rfl ?_
  refine v_iload_n hG dX4_daysUntilMeeting_13 1 rfl ?_
  refine v_iload_n hG dX4_daysUntilMeeting_14 2 rfl ?_
  refine v_icmp_ne hG 28 (by omega) (by omega) dX4_daysUntilMeeting_15 (by decide) (fun h15 => ?_) (fun h15 => ?_)
  · refine v_aload_n hG dX4_daysUntilMeeting_28 0 rfl ?_
    refine v_getf (ci := 4) (k := 0) hG iW4 f10 rfl (by decide) h0 (by decide) (cl_1 _ _ _ _) rfl dX4_daysUntilMeeting_29 ?_
    refine v_aload_n hG dX4_daysUntilMeeting_32 3 rfl ?_
    refine v_aload hG dX4_daysUntilMeeting_33 4 rfl ?_
    refine v_aload_n hG dX4_daysUntilMeeting_35 0 rfl ?_
    refine v_getf (ci := 4) (k := 0) hG iW4 f10 rfl (by decide) h0 (by decide) (cl_1 _ _ _ _) rfl dX4_daysUntilMeeting_36 ?_
    refine v_getfN (ci := 2) (k := 6) hG iW2 f154 rfl (by decide) k_1 (by decide) (cl_2 _ _ _ _) rfl dX4_daysUntilMeeting_39 ?_
    refine v_aload_n hG dX4_daysUntilMeeting_42 0 rfl ?_
    refine v_getf (ci := 4) (k := 0) hG iW4 f10 rfl (by decide) h0 (by decide) (cl_1 _ _ _ _) rfl dX4_daysUntilMeeting_43 ?_
    refine v_getfN (ci := 2) (k := 6) hG iW2 f154 rfl (by decide) k_1 (by decide) (cl_2 _ _ _ _) rfl dX4_daysUntilMeeting_46 ?_
    refine v_sipush hG dX4_daysUntilMeeting_49 (by decide) ?_
    refine v_iadd hG dX4_daysUntilMeeting_52 ?_
    refine v_callVi (n := 4) (ci := 2) hG (c_X2_firstMeeting hr k_1 hk2 hk8 hS (hFf (by omega)) (hFg (by omega)) (by omega)) gX4_daysUntilMeeting_X2_firstMeeting rfl (by decide +kernel) rfl (by decide) k_1 (by decide) (cl_2 _ _ _ _) rfl dX4_daysUntilMeeting_53 rfl (Nat.le_of_ble_eq_true rfl) (by decide) ?_
    intro v53 z53 hp53
    obtain ⟨rfl, hx53⟩ := hp53
    have hpb := fkp_bd hx53 (by omega) (by omega)
    refine v_istore hG [(0, _), (1, _), (2, _), (3, _), (4, _), (5, _)] dX4_daysUntilMeeting_56 (by decide) rfl ?_
    refine v_iload hG dX4_daysUntilMeeting_58 5 rfl ?_
    refine v_iconst hG dX4_daysUntilMeeting_60 ?_
    refine v_icmp_ne hG 68 (by omega) (by omega) dX4_daysUntilMeeting_61 (by decide) (fun h61 => ?_) (fun h61 => ?_)
    · refine v_iload hG dX4_daysUntilMeeting_68 5 rfl ?_
      refine v_aload_n hG dX4_daysUntilMeeting_70 0 rfl ?_
      refine v_getf (ci := 4) (k := 0) hG iW4 f10 rfl (by decide) h0 (by decide) (cl_1 _ _ _ _) rfl dX4_daysUntilMeeting_71 ?_
      refine v_getfN (ci := 2) (k := 6) hG iW2 f154 rfl (by decide) k_1 (by decide) (cl_2 _ _ _ _) rfl dX4_daysUntilMeeting_74 ?_
      refine v_isub hG dX4_daysUntilMeeting_77 ?_
      exact v_iret hG hR dX4_daysUntilMeeting_78 ⟨rfl, by omega, by omega, by omega, _, hx53, by first | (rw [if_pos (by omega)]) | (rw [if_neg (by omega)])⟩
    · refine v_iconst hG dX4_daysUntilMeeting_64 ?_
      refine v_goto hG 78 dX4_daysUntilMeeting_65 (by decide) ?_
      exact v_iret hG hR dX4_daysUntilMeeting_78 ⟨rfl, by omega, by omega, by omega, _, hx53, by first | (rw [if_pos (by omega)]) | (rw [if_neg (by omega)])⟩
  · exfalso; omega

set_option maxHeartbeats 4000000 in
set_option maxRecDepth 100000 in
theorem c_X4_quarrelsWithin {l : Launch} {D : va_G} {cA : Nat → ClassId} {r : Nat → Nat} {z : Zt} {q : Int} (hr : Inj r) (h0 : kd 0 = 1) (hS : SI z 1) (hq : -2147483648 ≤ q ∧ q < 2147483648) (hok : 1 ≤ q ∧ q ≤ 400) : Ki l D cA r yX4_quarrelsWithin wsX4_quarrelsWithin 6 142 z [.ref (r 0), .int (iN q)] (fun x z1 => ag24 z z1 ∧ (1 ≤ q ∧ q ≤ 400) ∧ x = cntP (fun i => quS z 1 (z 1 6 + i)) q.toNat) := by
  have iW2 : ∀ w ∈ u_ws RX2 TX2 9, w ∈ wsX4_quarrelsWithin := by decide +kernel
  have iW4 : ∀ w ∈ u_ws RX4 TX4 7, w ∈ wsX4_quarrelsWithin := by decide +kernel
  have f10 : Cond.fieldLink RX4 10 (TX4 0).1 (TX4 0).2.1 (TX4 0).2.2.1 ∈ wsX4_quarrelsWithin := by decide +kernel
  have f154 : Cond.fieldLinkNest RX4 154 (TX2 6).1 (TX2 6).2.1 (TX2 6).2.2.1 "TwoTownAlmanac" ∈ nwF := by decide +kernel
  obtain ⟨hTA, hTB, hA1, hB0, hmn, hsh, hcp, hdn, hfe⟩ := id hS
  refine Ki_of [(0, _), (1, _)] hr (by decide) rfl rfl (Nat.le_of_ble_eq_true rfl) rfl (fun Γ hG hR => ?_)
  refine v_iload_n hG dX4_quarrelsWithin_0 1 rfl ?_
  refine v_iconst hG dX4_quarrelsWithin_1 ?_
  refine v_sipush hG dX4_quarrelsWithin_2 (by decide) ?_
  refine v_callSv (n := 3) hG (c_X4_requireRange hr (by omega) (by omega) (by omega) (by omega)) gX4_quarrelsWithin_X4_requireRange rfl (by decide +kernel) rfl (by decide) dX4_quarrelsWithin_5 rfl (Nat.le_of_ble_eq_true rfl) (by decide) ?_
  intro z5 hp5
  obtain ⟨rfl, hr5⟩ := hp5
  refine v_aload_n hG dX4_quarrelsWithin_8 0 rfl ?_
  refine v_aload_n hG dX4_quarrelsWithin_9 0 rfl ?_
  refine v_getf (ci := 4) (k := 0) hG iW4 f10 rfl (by decide) h0 (by decide) (cl_1 _ _ _ _) rfl dX4_quarrelsWithin_10 ?_
  refine v_getfN (ci := 2) (k := 6) hG iW2 f154 rfl (by decide) k_1 (by decide) (cl_2 _ _ _ _) rfl dX4_quarrelsWithin_13 ?_
  refine v_iload_n hG dX4_quarrelsWithin_16 1 rfl ?_
  refine v_callVi (n := 2) (ci := 4) hG (c_X4_quarrelsFrom hr h0 hS (by omega)) gX4_quarrelsWithin_X4_quarrelsFrom rfl (by decide +kernel) rfl (by decide) h0 (by decide) (cl_1 _ _ _ _) rfl dX4_quarrelsWithin_17 rfl (Nat.le_of_ble_eq_true rfl) (by decide) ?_
  intro v17 z17 hp17
  obtain ⟨ha17, rfl, hs17⟩ := hp17
  exact v_iret hG hR dX4_quarrelsWithin_20 ⟨‹ag24 _ _›, by omega, rfl⟩

set_option maxHeartbeats 4000000 in
set_option maxRecDepth 100000 in
theorem c_X4_textCharacter {l : Launch} {D : va_G} {cA : Nat → ClassId} {r : Nat → Nat} {z : Zt} {i : Int} (hr : Inj r) (h0 : kd 0 = 1) (hX : TX (z 23) (z 22 1)) (hi : -2147483648 ≤ i ∧ i < 2147483648) (hok : 0 ≤ i ∧ i < z 22 1) : Ki l D cA r yX4_textCharacter wsX4_textCharacter 1 21 z [.ref (r 0), .int (iN i)] (fun x z1 => z = z1 ∧ (0 ≤ i ∧ i < z 22 1) ∧ x = z 23 i.toNat) := by
  have iW0 : ∀ w ∈ u_ws RX0 TX0 2, w ∈ wsX4_textCharacter := by decide +kernel
  have iW4 : ∀ w ∈ u_ws RX4 TX4 7, w ∈ wsX4_textCharacter := by decide +kernel
  have f34 : Cond.fieldLink RX4 34 (TX4 5).1 (TX4 5).2.1 (TX4 5).2.2.1 ∈ wsX4_textCharacter := by decide +kernel
  have f184 : Cond.fieldLinkNest RX4 184 (TX0 1).1 (TX0 1).2.1 (TX0 1).2.2.1 "TwoTownAlmanac" ∈ nwF := by decide +kernel
  have f200 : Cond.fieldLinkNest RX4 200 (TX0 0).1 (TX0 0).2.1 (TX0 0).2.2.1 "TwoTownAlmanac" ∈ nwF := by decide +kernel
  obtain ⟨hl0, hl8, hch⟩ := id hX
  refine Ki_of [(0, _), (1, _)] hr (by decide) rfl rfl (Nat.le_of_ble_eq_true rfl) rfl (fun Γ hG hR => ?_)
  refine v_iload_n hG dX4_textCharacter_0 1 rfl ?_
  refine v_aload_n hG dX4_textCharacter_1 0 rfl ?_
  refine v_getf (ci := 4) (k := 5) hG iW4 f34 rfl (by decide) h0 (by decide) (cl_1 _ _ _ _) rfl dX4_textCharacter_2 ?_
  refine v_getfN (ci := 0) (k := 1) hG iW0 f184 rfl (by decide) k_22 (by decide) (cl_5 _ _ _ _) rfl dX4_textCharacter_5 ?_
  refine v_callSv (n := 2) hG (c_X4_requireIndex hr (by omega) (by omega) (by omega)) gX4_textCharacter_X4_requireIndex rfl (by decide +kernel) rfl (by decide) dX4_textCharacter_8 rfl (Nat.le_of_ble_eq_true rfl) (by decide) ?_
  intro z8 hp8
  obtain ⟨rfl, hr8⟩ := hp8
  refine v_aload_n hG dX4_textCharacter_11 0 rfl ?_
  refine v_getf (ci := 4) (k := 5) hG iW4 f34 rfl (by decide) h0 (by decide) (cl_1 _ _ _ _) rfl dX4_textCharacter_12 ?_
  refine v_getfN (ci := 0) (k := 0) hG iW0 f200 rfl (by decide) k_22 (by decide) (cl_5 _ _ _ _) rfl dX4_textCharacter_15 ?_
  refine v_iload_n hG dX4_textCharacter_18 1 rfl ?_
  refine v_iald hG k_23 (by decide) (cl_180 _ _ _ _) (by decide) (by omega) dX4_textCharacter_19 ?_
  exact v_iret hG hR dX4_textCharacter_20 ⟨rfl, by omega, rfl⟩

set_option maxHeartbeats 4000000 in
set_option maxRecDepth 100000 in
theorem c_X4_feastsKept {l : Launch} {D : va_G} {cA : Nat → ClassId} {r : Nat → Nat} {z : Zt} {t : Int} (hr : Inj r) (h0 : kd 0 = 1) (ht : -2147483648 ≤ t ∧ t < 2147483648) (hok : (0 ≤ t ∧ t ≤ 1)) : Ki l D cA r yX4_feastsKept wsX4_feastsKept 2 42 z [.ref (r 0), .int (iN t)] (fun x z1 => z = z1 ∧ (0 ≤ t ∧ t ≤ 1) ∧ x = z (tid t) 4) := by
  have iW3 : ∀ w ∈ u_ws RX3 TX3 5, w ∈ wsX4_feastsKept := by decide +kernel
  have f166 : Cond.fieldLinkNest RX4 166 (TX3 4).1 (TX3 4).2.1 (TX3 4).2.2.1 "TwoTownAlmanac" ∈ nwF := by decide +kernel
  refine Ki_of [(0, _), (1, _)] hr (by decide) rfl rfl (Nat.le_of_ble_eq_true rfl) rfl (fun Γ hG hR => ?_)
  refine v_aload_n hG dX4_feastsKept_0 0 rfl ?_
  refine v_iload_n hG dX4_feastsKept_1 1 rfl ?_
  refine v_callVr (n := 1) (ci := 4) hG (c_X4_requireTown hr h0 (by omega) (by omega)) gX4_feastsKept_X4_requireTown rfl (by decide +kernel) rfl (by decide) h0 (by decide) (cl_1 _ _ _ _) rfl dX4_feastsKept_2 rfl (Nat.le_of_ble_eq_true rfl) (by decide) ?_
  intro t2 z2 hp2
  obtain ⟨rfl, hk2, rfl, hb2⟩ := hp2
  refine v_getfN (ci := 3) (k := 4) hG iW3 f166 rfl (by decide) hk2 (by decide) (cl_3 _ _ _ _) rfl dX4_feastsKept_5 ?_
  exact v_iret hG hR dX4_feastsKept_8 ⟨rfl, by omega, rfl⟩

