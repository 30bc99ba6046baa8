theorem zup_self (z : Zt) (i k : Nat) : zup z i k (z i k) = z := by
  funext a j
  unfold zup
  by_cases q : a = i
  · subst q
    rw [if_pos rfl]
    by_cases q2 : j = k
    · subst q2; rw [if_pos rfl]
    · rw [if_neg q2]
  · rw [if_neg q]
theorem psZ_f {z : Zt} {s : Nat} {a b c : Int} {j : Nat} (h : j ≠ 8) : psZ z s a b c s j = z s j := by
  unfold psZ
  rw [if_neg (by omega), if_neg (by omega), if_pos rfl, if_neg h]
theorem zup_o1 {z : Zt} {i a k : Nat} {x : Int} (h : a ≠ i) : zup z i k x a = z a := by simp [zup, h]
theorem upd7_SI {z : Zt} {x : Int} (h : SI z 1) : SI (zup z 1 7 x) 1 := by
  obtain ⟨h1, h2, h3, h4, h5, h6, h7, h8, h9⟩ := h
  exact ⟨h1, h2, h3, h4, h5, h6, h7, h8, fun k hk => by
    have h := h9 k hk
    unfold FI at h ⊢
    rw [zup_o1 (by omega)]
    exact h⟩
def LI (z : Zt) : Prop := ∀ i : Nat, i < 2 → 25 ≤ z 20 i ∧ kd (z 20 i).toNat = 2
theorem recZ_20 {z : Zt} (h : PI z) : recZ z 20 = z 20 := by
  have := recQ_is h
  exact recZ_o (by decide) (by decide) (Or.inl (by omega))
theorem recZ_AI {z : Zt} (h : PI z) (hA : AI z) : AI (recZ z) := fun q hq => by
  have h1 := hA q hq
  have h2 := hA 1 k_1
  have hr := recQ_is h
  obtain ⟨m1, m2, m3⟩ := S_ne (j := 1) hq (by decide)
  obtain ⟨n1, n2, n3⟩ := S_ne (j := 4) hq (by decide)
  have k1 : q + 1 ≠ 19 ∧ q + 4 ≠ 19 := by
    rcases S_base hq with e | ⟨j, -, e⟩ <;> omega
  by_cases e : q = recQ z
  · have a1 := recZ_1 h (j := 1) (by decide)
    have b1 : recZ z (q + 1) = z 2 := by
      have e1 : recZ z (q + 1) = cpB (rc0 z) (recQ z) 1 (q + 1) := by simp [recZ, zup]
      rw [e1]
      unfold cpB
      rw [if_pos (by omega), show q + 1 - recQ z + 1 = 2 by omega]
      exact rc0_o (by decide) (by decide)
    have b4 : recZ z (q + 4) = z 5 := by
      have e1 : recZ z (q + 4) = cpB (rc0 z) (recQ z) 1 (q + 4) := by simp [recZ, zup]
      rw [e1]
      unfold cpB
      rw [if_pos (by omega), show q + 4 - recQ z + 1 = 5 by omega]
      exact rc0_o (by decide) (by decide)
    rw [b1, b4]
    exact h2
  · have far := SS_far hq hr.1 e
    rw [recZ_o m2 k1.1 (by omega), recZ_o n2 k1.2 (by omega)]
    exact h1
set_option maxHeartbeats 4000000 in
set_option maxRecDepth 100000 in
theorem c_X4_addGap {l : Launch} {D : va_G} {cA : Nat → ClassId} {r : Nat → Nat} {z : Zt} {t a q : Int} (hr : Inj r) (h0 : kd 0 = 1) (hS : SI z 1)  (hP : PI z) (hA : AI z) (ht : -2147483648 ≤ t ∧ t < 2147483648) (ha : -2147483648 ≤ a ∧ a < 2147483648) (hq : -2147483648 ≤ q ∧ q < 2147483648) (hok : (0 ≤ t ∧ t ≤ 1) ∧ ((0 ≤ a ∧ a ≤ 9999) ∧ (1 ≤ q ∧ q ≤ 40) ∧ (if z (tid t) 3 = 0 then -1 else z (tid t + 1) (z (tid t) 3 - 1).toNat) < a) ∧ z (tid t) 3 < 3) : Ki l D cA r yX4_addGap wsX4_addGap 3 64 z [.ref (r 0), .int (iN t), .int (iN a), .int (iN q)] (fun x z1 => lvZ (recZ z) (tid t) a q = z1 ∧ (0 ≤ t ∧ t ≤ 1) ∧ ((0 ≤ a ∧ a ≤ 9999) ∧ (1 ≤ q ∧ q ≤ 40) ∧ (if z (tid t) 3 = 0 then -1 else z (tid t + 1) (z (tid t) 3 - 1).toNat) < a) ∧ z (tid t) 3 < 3 ∧ x = z (tid t) 3 + 1) := by
  have iW3 : ∀ w ∈ u_ws RX3 TX3 5, w ∈ wsX4_addGap := by decide +kernel
  have f63 : Cond.fieldLinkNest RX4 63 (TX3 3).1 (TX3 3).2.1 (TX3 3).2.2.1 "TwoTownAlmanac" ∈ nwF := by decide +kernel
  have hTT := TI_tid hS t
  have hgn := hTT.2.1
  have hgm := hTT.2.2.1
  have e0 := recZ_tid hP t (k := 0) (by decide)
  have e3 : recZ z (tid t) 3 = z (tid t) 3 := congrFun e0 3
  have hlg : -1 ≤ (if z (tid t) 3 = 0 then -1 else z (tid t + 1) (z (tid t) 3 - 1).toNat) ∧ (if z (tid t) 3 = 0 then -1 else z (tid t + 1) (z (tid t) 3 - 1).toNat) ≤ 9999 := by
    split
    · omega
    · have := hTT.2.2.2.1 (z (tid t) 3 - 1).toNat (by omega)
      omega
  refine Ki_of [(0, _), (1, _), (2, _), (3, _)] hr (by decide) rfl rfl (Nat.le_of_ble_eq_true rfl) rfl (fun Γ hG hR => ?_)
  refine v_aload_n hG dX4_addGap_0 0 rfl ?_
  refine v_iload_n hG dX4_addGap_1 1 rfl ?_
  refine v_callVr (n := 1) (ci := 4) hG (c_X4_requireTown hr h0 (by omega) (by omega)) gX4_addGap_X4_requireTown rfl (by decide +kernel) rfl (by decide) h0 (by decide) (cl_1 _ _ _ _) rfl dX4_addGap_2 rfl (Nat.le_of_ble_eq_true rfl) (by decide) ?_
  intro t2 z2 hp2
  obtain ⟨rfl, hk2, rfl, hb2⟩ := hp2
  refine v_astore hG [(0, _), (1, _), (2, _), (3, _), (4, _)] dX4_addGap_5 (by decide) rfl ?_
  refine v_iload_n hG dX4_addGap_7 2 rfl ?_
  refine v_iconst hG dX4_addGap_8 ?_
  refine v_sipush hG dX4_addGap_9 (by decide) ?_
  refine v_callSv (n := 3) hG (c_X4_requireRange hr (by omega) (by omega) (by omega) (by omega)) gX4_addGap_X4_requireRange rfl (by decide +kernel) rfl (by decide) dX4_addGap_12 rfl (Nat.le_of_ble_eq_true rfl) (by decide) ?_
  intro z12 hp12
  obtain ⟨rfl, hr12⟩ := hp12
  refine v_iload_n hG dX4_addGap_15 3 rfl ?_
  refine v_iconst hG dX4_addGap_16 ?_
  refine v_bipush hG dX4_addGap_17 (by decide) ?_
  refine v_callSv (n := 3) hG (c_X4_requireRange hr (by omega) (by omega) (by omega) (by omega)) gX4_addGap_X4_requireRange rfl (by decide +kernel) rfl (by decide) dX4_addGap_19 rfl (Nat.le_of_ble_eq_true rfl) (by decide) ?_
  intro z19 hp19
  obtain ⟨rfl, hr19⟩ := hp19
  refine v_iload_n hG dX4_addGap_22 2 rfl ?_
  refine v_aload hG dX4_addGap_23 4 rfl ?_
  refine v_callVi (n := 0) (ci := 3) hG (c_X3_latestGapDay hr hk2 hTT) gX4_addGap_X3_latestGapDay rfl (by decide +kernel) rfl (by decide) hk2 (by decide) (cl_3 _ _ _ _) rfl dX4_addGap_25 rfl (Nat.le_of_ble_eq_true rfl) (by decide) ?_
  intro v25 z25 hp25
  obtain ⟨rfl, rfl⟩ := hp25
  refine v_icmp_gt hG 41 (by omega) (by omega) dX4_addGap_28 (by decide) (fun h28 => ?_) (fun h28 => ?_)
  · refine v_aload hG dX4_addGap_41 4 rfl ?_
    refine v_getfN (ci := 3) (k := 3) hG iW3 f63 rfl (by decide) hk2 (by decide) (cl_3 _ _ _ _) rfl dX4_addGap_43 ?_
    refine v_iconst hG dX4_addGap_46 ?_
    refine v_icmp_lt hG 60 (by omega) (by omega) dX4_addGap_47 (by decide) (fun h47 => ?_) (fun h47 => ?_)
    · refine v_aload_n hG dX4_addGap_60 0 rfl ?_
      refine v_callVv (n := 0) (ci := 4) hG (c_X4_recordState hr h0 hP hA) gX4_addGap_X4_recordState rfl (by decide +kernel) rfl (by decide) h0 (by decide) (cl_1 _ _ _ _) rfl dX4_addGap_61 rfl (Nat.le_of_ble_eq_true rfl) (by decide) ?_
      intro z61 hp61
      obtain rfl := hp61
      refine v_aload hG dX4_addGap_64 4 rfl ?_
      refine v_iload_n hG dX4_addGap_66 2 rfl ?_
      refine v_iload_n hG dX4_addGap_67 3 rfl ?_
      refine v_callVi (n := 2) (ci := 3) hG (c_X3_leaveOut hr hk2 (by omega)) gX4_addGap_X3_leaveOut rfl (by decide +kernel) rfl (by decide) hk2 (by decide) (cl_3 _ _ _ _) rfl dX4_addGap_68 rfl (Nat.le_of_ble_eq_true rfl) (by decide) ?_
      intro v68 z68 hp68
      obtain ⟨rfl, rfl⟩ := hp68
      exact v_iret hG hR dX4_addGap_71 ⟨rfl, by omega, by omega, by omega, by rw [e3]⟩
    · exfalso; omega
  · exfalso; omega

set_option maxHeartbeats 4000000 in
set_option maxRecDepth 100000 in
theorem c_X4_addFeast {l : Launch} {D : va_G} {cA : Nat → ClassId} {r : Nat → Nat} {z : Zt} {t m q : Int} (hr : Inj r) (h0 : kd 0 = 1) (hS : SI z 1)  (hP : PI z) (hA : AI z) (ht : -2147483648 ≤ t ∧ t < 2147483648) (hm : -2147483648 ≤ m ∧ m < 2147483648) (hq : -2147483648 ≤ q ∧ q < 2147483648) (hok : (0 ≤ t ∧ t ≤ 1) ∧ ((1 ≤ m ∧ m ≤ 12) ∧ (1 ≤ q ∧ q ≤ 31)) ∧ z 1 3 < 10) : Ki l D cA r yX4_addFeast wsX4_addFeast 3 64 z [.ref (r 0), .int (iN t), .int (iN m), .int (iN q)] (fun x z1 => pfZ (recZ z) 1 t m q = z1 ∧ (0 ≤ t ∧ t ≤ 1) ∧ ((1 ≤ m ∧ m ≤ 12) ∧ (1 ≤ q ∧ q ≤ 31)) ∧ z 1 3 < 10 ∧ x = z 1 3) := by
  have iW2 : ∀ w ∈ u_ws RX2 TX2 9, w ∈ wsX4_addFeast := by decide +kernel
  have iW4 : ∀ w ∈ u_ws RX4 TX4 7, w ∈ wsX4_addFeast := by decide +kernel
  have f10 : Cond.fieldLink RX4 10 (TX4 0).1 (TX4 0).2.1 (TX4 0).2.2.1 ∈ wsX4_addFeast := by decide +kernel
  have f105 : Cond.fieldLinkNest RX4 105 (TX2 3).1 (TX2 3).2.1 (TX2 3).2.2.1 "TwoTownAlmanac" ∈ nwF := by decide +kernel
  obtain ⟨hTA, hTB, hA1, hB0, hmn, hsh, hcp, hdn, hfe⟩ := id hS
  have e3 : recZ z 1 3 = z 1 3 := congrFun (recZ_s hP) 3
  refine Ki_of [(0, _), (1, _), (2, _), (3, _)] hr (by decide) rfl rfl (Nat.le_of_ble_eq_true rfl) rfl (fun Γ hG hR => ?_)
  refine v_aload_n hG dX4_addFeast_0 0 rfl ?_
  refine v_iload_n hG dX4_addFeast_1 1 rfl ?_
  refine v_callVr (n := 1) (ci := 4) hG (c_X4_requireTown hr h0 (by omega) (by omega)) gX4_addFeast_X4_requireTown rfl (by decide +kernel) rfl (by decide) h0 (by decide) (cl_1 _ _ _ _) rfl dX4_addFeast_2 rfl (Nat.le_of_ble_eq_true rfl) (by decide) ?_
  intro t2 z2 hp2
  obtain ⟨rfl, hk2, rfl, hb2⟩ := hp2
  refine v_pop hG dX4_addFeast_5 rfl ?_
  refine v_iload_n hG dX4_addFeast_6 2 rfl ?_
  refine v_iconst hG dX4_addFeast_7 ?_
  refine v_bipush hG dX4_addFeast_8 (by decide) ?_
  refine v_callSv (n := 3) hG (c_X4_requireRange hr (by omega) (by omega) (by omega) (by omega)) gX4_addFeast_X4_requireRange rfl (by decide +kernel) rfl (by decide) dX4_addFeast_10 rfl (Nat.le_of_ble_eq_true rfl) (by decide) ?_
  intro z10 hp10
  obtain ⟨rfl, hr10⟩ := hp10
  refine v_iload_n hG dX4_addFeast_13 3 rfl ?_
  refine v_iconst hG dX4_addFeast_14 ?_
  refine v_bipush hG dX4_addFeast_15 (by decide) ?_
  refine v_callSv (n := 3) hG (c_X4_requireRange hr (by omega) (by omega) (by omega) (by omega)) gX4_addFeast_X4_requireRange rfl (by decide +kernel) rfl (by decide) dX4_addFeast_17 rfl (Nat.le_of_ble_eq_true rfl) (by decide) ?_
  intro z17 hp17
  obtain ⟨rfl, hr17⟩ := hp17
  refine v_aload_n hG dX4_addFeast_20 0 rfl ?_
  refine v_getf (ci := 4) (k := 0) hG iW4 f10 rfl (by decide) h0 (by decide) (cl_1 _ _ _ _) rfl dX4_addFeast_21 ?_
  refine v_getfN (ci := 2) (k := 3) hG iW2 f105 rfl (by decide) k_1 (by decide) (cl_2 _ _ _ _) rfl dX4_addFeast_24 ?_
  refine v_bipush hG dX4_addFeast_27 (by decide) ?_
  refine v_icmp_lt hG 42 (by omega) (by omega) dX4_addFeast_29 (by decide) (fun h29 => ?_) (fun h29 => ?_)
  · refine v_aload_n hG dX4_addFeast_42 0 rfl ?_
    refine v_callVv (n := 0) (ci := 4) hG (c_X4_recordState hr h0 hP hA) gX4_addFeast_X4_recordState rfl (by decide +kernel) rfl (by decide) h0 (by decide) (cl_1 _ _ _ _) rfl dX4_addFeast_43 rfl (Nat.le_of_ble_eq_true rfl) (by decide) ?_
    intro z43 hp43
    obtain rfl := hp43
    refine v_aload_n hG dX4_addFeast_46 0 rfl ?_
    refine v_getf (ci := 4) (k := 0) hG iW4 f10 rfl (by decide) h0 (by decide) (cl_1 _ _ _ _) rfl dX4_addFeast_47 ?_
    refine v_iload_n hG dX4_addFeast_50 1 rfl ?_
    refine v_iload_n hG dX4_addFeast_51 2 rfl ?_
    refine v_iload_n hG dX4_addFeast_52 3 rfl ?_
    refine v_callVi (n := 3) (ci := 2) hG (c_X2_putFeast hr k_1 (by omega)) gX4_addFeast_X2_putFeast rfl (by decide +kernel) rfl (by decide) k_1 (by decide) (cl_2 _ _ _ _) rfl dX4_addFeast_53 rfl (Nat.le_of_ble_eq_true rfl) (by decide) ?_
    intro v53 z53 hp53
    obtain ⟨rfl, rfl⟩ := hp53
    exact v_iret hG hR dX4_addFeast_56 ⟨rfl, by omega, by omega, by omega, by rw [e3]⟩
  · exfalso; omega

set_option maxHeartbeats 4000000 in
set_option maxRecDepth 100000 in
theorem c_X4_barWeekday {l : Launch} {D : va_G} {cA : Nat → ClassId} {r : Nat → Nat} {z : Zt} {f w : Int} (hr : Inj r) (h0 : kd 0 = 1) (hS : SI z 1)  (hP : PI z) (hA : AI z) (hf : -2147483648 ≤ f ∧ f < 2147483648) (hw : -2147483648 ≤ w ∧ w < 2147483648) (hok : (0 ≤ f ∧ f < z 1 3) ∧ (0 ≤ w ∧ w ≤ 6)) : Ki l D cA r yX4_barWeekday wsX4_barWeekday 3 64 z [.ref (r 0), .int (iN f), .int (iN w)] (fun x z1 => zup (recZ z) (9 + f.toNat) 3 w = z1 ∧ (0 ≤ f ∧ f < z 1 3) ∧ (0 ≤ w ∧ w ≤ 6) ∧ x = z (9 + f.toNat) 3) := by
  have iW1 : ∀ w ∈ u_ws RX1 TX1 4, w ∈ wsX4_barWeekday := by decide +kernel
  have f117 : Cond.fieldLinkNest RX4 117 (TX1 3).1 (TX1 3).2.1 (TX1 3).2.2.1 "TwoTownAlmanac" ∈ nwF := by decide +kernel
  obtain ⟨hTA, hTB, hA1, hB0, hmn, hsh, hcp, hdn, hfe⟩ := id hS
  have ef : 0 ≤ f ∧ f < z 1 3 → recZ z (9 + f.toNat) 3 = z (9 + f.toNat) 3 := fun q9 => congrFun (recZ_f hP (k := f.toNat) (by omega)) 3
  refine Ki_of [(0, _), (1, _), (2, _)] hr (by decide) rfl rfl (Nat.le_of_ble_eq_true rfl) rfl (fun Γ hG hR => ?_)
  refine v_aload_n hG dX4_barWeekday_0 0 rfl ?_
  refine v_iload_n hG dX4_barWeekday_1 1 rfl ?_
  refine v_callVr (n := 1) (ci := 4) hG (c_X4_requireFeast hr h0 (by omega) (by omega) (by omega)) gX4_barWeekday_X4_requireFeast rfl (by decide +kernel) rfl (by decide) h0 (by decide) (cl_1 _ _ _ _) rfl dX4_barWeekday_2 rfl (Nat.le_of_ble_eq_true rfl) (by decide) ?_
  intro t2 z2 hp2
  obtain ⟨rfl, hk2, rfl, hb2⟩ := hp2
  refine v_astore_n hG [(0, _), (1, _), (2, _), (3, _)] dX4_barWeekday_5 (by decide) rfl ?_
  refine v_iload_n hG dX4_barWeekday_6 2 rfl ?_
  refine v_iconst hG dX4_barWeekday_7 ?_
  refine v_bipush hG dX4_barWeekday_8 (by decide) ?_
  refine v_callSv (n := 3) hG (c_X4_requireRange hr (by omega) (by omega) (by omega) (by omega)) gX4_barWeekday_X4_requireRange rfl (by decide +kernel) rfl (by decide) dX4_barWeekday_10 rfl (Nat.le_of_ble_eq_true rfl) (by decide) ?_
  intro z10 hp10
  obtain ⟨rfl, hr10⟩ := hp10
  refine v_aload_n hG dX4_barWeekday_13 0 rfl ?_
  refine v_callVv (n := 0) (ci := 4) hG (c_X4_recordState hr h0 hP hA) gX4_barWeekday_X4_recordState rfl (by decide +kernel) rfl (by decide) h0 (by decide) (cl_1 _ _ _ _) rfl dX4_barWeekday_14 rfl (Nat.le_of_ble_eq_true rfl) (by decide) ?_
  intro z14 hp14
  obtain rfl := hp14
  refine v_aload_n hG dX4_barWeekday_17 3 rfl ?_
  refine v_getfN (ci := 1) (k := 3) hG iW1 f117 rfl (by decide) hk2 (by decide) (cl_4 _ _ _ _) rfl dX4_barWeekday_18 ?_
  refine v_istore hG [(0, _), (1, _), (2, _), (3, _), (4, _)] dX4_barWeekday_21 (by decide) rfl ?_
  refine v_aload_n hG dX4_barWeekday_23 3 rfl ?_
  refine v_iload_n hG dX4_barWeekday_24 2 rfl ?_
  refine v_putfN (ci := 1) (k := 3) hG iW1 tyX1_ok nmX1 f117 rfl (by decide) rfl rfl hk2 (by decide) (cl_4 _ _ _ _) (Nat.le_of_ble_eq_true rfl) rfl dX4_barWeekday_25 ?_
  refine v_iload hG dX4_barWeekday_28 4 rfl ?_
  exact v_iret hG hR dX4_barWeekday_30 ⟨rfl, by omega, by omega, ef (by omega)⟩

set_option maxHeartbeats 4000000 in
set_option maxRecDepth 100000 in
theorem c_X4_allowAllWeekdays {l : Launch} {D : va_G} {cA : Nat → ClassId} {r : Nat → Nat} {z : Zt} {f : Int} (hr : Inj r) (h0 : kd 0 = 1) (hS : SI z 1)  (hP : PI z) (hA : AI z) (hf : -2147483648 ≤ f ∧ f < 2147483648) (hok : (0 ≤ f ∧ f < z 1 3) ∧ z (9 + f.toNat) 3 ≠ -1) : Ki l D cA r yX4_allowAllWeekdays wsX4_allowAllWeekdays 3 64 z [.ref (r 0), .int (iN f)] (fun x z1 => zup (recZ z) (9 + f.toNat) 3 (-1) = z1 ∧ (0 ≤ f ∧ f < z 1 3) ∧ z (9 + f.toNat) 3 ≠ -1 ∧ x = z (9 + f.toNat) 3) := by
  have iW1 : ∀ w ∈ u_ws RX1 TX1 4, w ∈ wsX4_allowAllWeekdays := by decide +kernel
  have f117 : Cond.fieldLinkNest RX4 117 (TX1 3).1 (TX1 3).2.1 (TX1 3).2.2.1 "TwoTownAlmanac" ∈ nwF := by decide +kernel
  obtain ⟨hTA, hTB, hA1, hB0, hmn, hsh, hcp, hdn, hfe⟩ := id hS
  have ef : 0 ≤ f ∧ f < z 1 3 → recZ z (9 + f.toNat) 3 = z (9 + f.toNat) 3 := fun q9 => congrFun (recZ_f hP (k := f.toNat) (by omega)) 3
  have hFf : 0 ≤ f ∧ f < z 1 3 → FI z (9 + f.toNat) := fun q => by
    have h8 := hfe f.toNat (by omega)
    rw [show 1 + 8 + f.toNat = 9 + f.toNat by omega] at h8
    exact h8
  refine Ki_of [(0, _), (1, _)] hr (by decide) rfl rfl (Nat.le_of_ble_eq_true rfl) rfl (fun Γ hG hR => ?_)
  refine v_aload_n hG dX4_allowAllWeekdays_0 0 rfl ?_
  refine v_iload_n hG dX4_allowAllWeekdays_1 1 rfl ?_
  refine v_callVr (n := 1) (ci := 4) hG (c_X4_requireFeast hr h0 (by omega) (by omega) (by omega)) gX4_allowAllWeekdays_X4_requireFeast rfl (by decide +kernel) rfl (by decide) h0 (by decide) (cl_1 _ _ _ _) rfl dX4_allowAllWeekdays_2 rfl (Nat.le_of_ble_eq_true rfl) (by decide) ?_
  intro t2 z2 hp2
  obtain ⟨rfl, hk2, rfl, hb2⟩ := hp2
  have hFq := hFf (by omega)
  obtain ⟨-, -, -, -, -, hq5, hq6⟩ := id hFq
  refine v_astore_n hG [(0, _), (1, _), (2, _)] dX4_allowAllWeekdays_5 (by decide) rfl ?_
  refine v_aload_n hG dX4_allowAllWeekdays_6 2 rfl ?_
  refine v_getfN (ci := 1) (k := 3) hG iW1 f117 rfl (by decide) hk2 (by decide) (cl_4 _ _ _ _) rfl dX4_allowAllWeekdays_7 ?_
  refine v_iconst hG dX4_allowAllWeekdays_10 ?_
  refine v_icmp_ne hG 24 (by omega) (by omega) dX4_allowAllWeekdays_11 (by decide) (fun h11 => ?_) (fun h11 => ?_)
  · refine v_aload_n hG dX4_allowAllWeekdays_24 0 rfl ?_
    refine v_callVv (n := 0) (ci := 4) hG (c_X4_recordState hr h0 hP hA) gX4_allowAllWeekdays_X4_recordState rfl (by decide +kernel) rfl (by decide) h0 (by decide) (cl_1 _ _ _ _) rfl dX4_allowAllWeekdays_25 rfl (Nat.le_of_ble_eq_true rfl) (by decide) ?_
    intro z25 hp25
    obtain rfl := hp25
    refine v_aload_n hG dX4_allowAllWeekdays_28 2 rfl ?_
    refine v_getfN (ci := 1) (k := 3) hG iW1 f117 rfl (by decide) hk2 (by decide) (cl_4 _ _ _ _) rfl dX4_allowAllWeekdays_29 ?_
    refine v_istore_n hG [(0, _), (1, _), (2, _), (3, _)] dX4_allowAllWeekdays_32 (by decide) rfl ?_
    refine v_aload_n hG dX4_allowAllWeekdays_33 2 rfl ?_
    refine v_iconst hG dX4_allowAllWeekdays_34 ?_
    refine v_putfN (ci := 1) (k := 3) hG iW1 tyX1_ok nmX1 f117 rfl (by decide) rfl rfl hk2 (by decide) (cl_4 _ _ _ _) (Nat.le_of_ble_eq_true rfl) rfl dX4_allowAllWeekdays_35 ?_
    refine v_iload_n hG dX4_allowAllWeekdays_38 3 rfl ?_
    exact v_iret hG hR dX4_allowAllWeekdays_39 ⟨rfl, by omega, by omega, ef (by omega)⟩
  · exfalso; omega

set_option maxHeartbeats 4000000 in
set_option maxRecDepth 100000 in
theorem c_X4_setShift {l : Launch} {D : va_G} {cA : Nat → ClassId} {r : Nat → Nat} {z : Zt} {q : Int} (hr : Inj r) (h0 : kd 0 = 1) (hP : PI z) (hA : AI z) (hq : -2147483648 ≤ q ∧ q < 2147483648) (hok : 1 ≤ q ∧ q ≤ 9) : Ki l D cA r yX4_setShift wsX4_setShift 3 64 z [.ref (r 0), .int (iN q)] (fun x z1 => zup (recZ z) 1 4 q = z1 ∧ (1 ≤ q ∧ q ≤ 9) ∧ x = z 1 4) := by
  have iW2 : ∀ w ∈ u_ws RX2 TX2 9, w ∈ wsX4_setShift := by decide +kernel
  have iW4 : ∀ w ∈ u_ws RX4 TX4 7, w ∈ wsX4_setShift := by decide +kernel
  have f10 : Cond.fieldLink RX4 10 (TX4 0).1 (TX4 0).2.1 (TX4 0).2.2.1 ∈ wsX4_setShift := by decide +kernel
  have f148 : Cond.fieldLinkNest RX4 148 (TX2 4).1 (TX2 4).2.1 (TX2 4).2.2.1 "TwoTownAlmanac" ∈ nwF := by decide +kernel
  refine Ki_of [(0, _), (1, _)] hr (by decide) rfl rfl (Nat.le_of_ble_eq_true rfl) rfl (fun Γ hG hR => ?_)
  refine v_iload_n hG dX4_setShift_0 1 rfl ?_
  refine v_iconst hG dX4_setShift_1 ?_
  refine v_bipush hG dX4_setShift_2 (by decide) ?_
  refine v_callSv (n := 3) hG (c_X4_requireRange hr (by omega) (by omega) (by omega) (by omega)) gX4_setShift_X4_requireRange rfl (by decide +kernel) rfl (by decide) dX4_setShift_4 rfl (Nat.le_of_ble_eq_true rfl) (by decide) ?_
  intro z4 hp4
  obtain ⟨rfl, hr4⟩ := hp4
  refine v_aload_n hG dX4_setShift_7 0 rfl ?_
  refine v_callVv (n := 0) (ci := 4) hG (c_X4_recordState hr h0 hP hA) gX4_setShift_X4_recordState rfl (by decide +kernel) rfl (by decide) h0 (by decide) (cl_1 _ _ _ _) rfl dX4_setShift_8 rfl (Nat.le_of_ble_eq_true rfl) (by decide) ?_
  intro z8 hp8
  obtain rfl := hp8
  refine v_aload_n hG dX4_setShift_11 0 rfl ?_
  refine v_getf (ci := 4) (k := 0) hG iW4 f10 rfl (by decide) h0 (by decide) (cl_1 _ _ _ _) rfl dX4_setShift_12 ?_
  refine v_getfN (ci := 2) (k := 4) hG iW2 f148 rfl (by decide) k_1 (by decide) (cl_2 _ _ _ _) rfl dX4_setShift_15 ?_
  refine v_istore_n hG [(0, _), (1, _), (2, _)] dX4_setShift_18 (by decide) rfl ?_
  refine v_aload_n hG dX4_setShift_19 0 rfl ?_
  refine v_getf (ci := 4) (k := 0) hG iW4 f10 rfl (by decide) h0 (by decide) (cl_1 _ _ _ _) rfl dX4_setShift_20 ?_
  refine v_iload_n hG dX4_setShift_23 1 rfl ?_
  refine v_putfN (ci := 2) (k := 4) hG iW2 tyX2_ok nmX2 f148 rfl (by decide) rfl rfl k_1 (by decide) (cl_2 _ _ _ _) (Nat.le_of_ble_eq_true rfl) rfl dX4_setShift_24 ?_
  refine v_iload_n hG dX4_setShift_27 2 rfl ?_
  exact v_iret hG hR dX4_setShift_28 ⟨rfl, by omega, congrFun (recZ_s hP) 4⟩

set_option maxHeartbeats 4000000 in
set_option maxRecDepth 100000 in
theorem c_X4_setCopiesPerDay {l : Launch} {D : va_G} {cA : Nat → ClassId} {r : Nat → Nat} {z : Zt} {q : Int} (hr : Inj r) (h0 : kd 0 = 1) (hP : PI z) (hA : AI z) (hq : -2147483648 ≤ q ∧ q < 2147483648) (hok : 0 ≤ q ∧ q ≤ 9) : Ki l D cA r yX4_setCopiesPerDay wsX4_setCopiesPerDay 3 64 z [.ref (r 0), .int (iN q)] (fun x z1 => zup (recZ z) 1 5 q = z1 ∧ (0 ≤ q ∧ q ≤ 9) ∧ x = z 1 5) := by
  have iW2 : ∀ w ∈ u_ws RX2 TX2 9, w ∈ wsX4_setCopiesPerDay := by decide +kernel
  have iW4 : ∀ w ∈ u_ws RX4 TX4 7, w ∈ wsX4_setCopiesPerDay := by decide +kernel
  have f10 : Cond.fieldLink RX4 10 (TX4 0).1 (TX4 0).2.1 (TX4 0).2.2.1 ∈ wsX4_setCopiesPerDay := by decide +kernel
  have f151 : Cond.fieldLinkNest RX4 151 (TX2 5).1 (TX2 5).2.1 (TX2 5).2.2.1 "TwoTownAlmanac" ∈ nwF := by decide +kernel
  refine Ki_of [(0, _), (1, _)] hr (by decide) rfl rfl (Nat.le_of_ble_eq_true rfl) rfl (fun Γ hG hR => ?_)
  refine v_iload_n hG dX4_setCopiesPerDay_0 1 rfl ?_
  refine v_iconst hG dX4_setCopiesPerDay_1 ?_
  refine v_bipush hG dX4_setCopiesPerDay_2 (by decide) ?_
  refine v_callSv (n := 3) hG (c_X4_requireRange hr (by omega) (by omega) (by omega) (by omega)) gX4_setCopiesPerDay_X4_requireRange rfl (by decide +kernel) rfl (by decide) dX4_setCopiesPerDay_4 rfl (Nat.le_of_ble_eq_true rfl) (by decide) ?_
  intro z4 hp4
  obtain ⟨rfl, hr4⟩ := hp4
  refine v_aload_n hG dX4_setCopiesPerDay_7 0 rfl ?_
  refine v_callVv (n := 0) (ci := 4) hG (c_X4_recordState hr h0 hP hA) gX4_setCopiesPerDay_X4_recordState rfl (by decide +kernel) rfl (by decide) h0 (by decide) (cl_1 _ _ _ _) rfl dX4_setCopiesPerDay_8 rfl (Nat.le_of_ble_eq_true rfl) (by decide) ?_
  intro z8 hp8
  obtain rfl := hp8
  refine v_aload_n hG dX4_setCopiesPerDay_11 0 rfl ?_
  refine v_getf (ci := 4) (k := 0) hG iW4 f10 rfl (by decide) h0 (by decide) (cl_1 _ _ _ _) rfl dX4_setCopiesPerDay_12 ?_
  refine v_getfN (ci := 2) (k := 5) hG iW2 f151 rfl (by decide) k_1 (by decide) (cl_2 _ _ _ _) rfl dX4_setCopiesPerDay_15 ?_
  refine v_istore_n hG [(0, _), (1, _), (2, _)] dX4_setCopiesPerDay_18 (by decide) rfl ?_
  refine v_aload_n hG dX4_setCopiesPerDay_19 0 rfl ?_
  refine v_getf (ci := 4) (k := 0) hG iW4 f10 rfl (by decide) h0 (by decide) (cl_1 _ _ _ _) rfl dX4_setCopiesPerDay_20 ?_
  refine v_iload_n hG dX4_setCopiesPerDay_23 1 rfl ?_
  refine v_putfN (ci := 2) (k := 5) hG iW2 tyX2_ok nmX2 f151 rfl (by decide) rfl rfl k_1 (by decide) (cl_2 _ _ _ _) (Nat.le_of_ble_eq_true rfl) rfl dX4_setCopiesPerDay_24 ?_
  refine v_iload_n hG dX4_setCopiesPerDay_27 2 rfl ?_
  exact v_iret hG hR dX4_setCopiesPerDay_28 ⟨rfl, by omega, congrFun (recZ_s hP) 5⟩

set_option maxHeartbeats 4000000 in
set_option maxRecDepth 100000 in
theorem c_X4_bestBarredWeekday {l : Launch} {D : va_G} {cA : Nat → ClassId} {r : Nat → Nat} {z : Zt} {f : Int} (hr : Inj r) (h0 : kd 0 = 1) (hS : SI z 1) (hf : -2147483648 ≤ f ∧ f < 2147483648) (hok : (0 ≤ f ∧ f < z 1 3)) : Ki l D cA r yX4_bestBarredWeekday wsX4_bestBarredWeekday 6 142 z [.ref (r 0), .int (iN f)] (fun x z1 => ag24 z z1 ∧ (0 ≤ f ∧ f < z 1 3) ∧ x = (bwN (fun k : Nat => qwS (zup z (9 + f.toNat) 3 (k : Int)) 400) 7).2) := by
  have iW1 : ∀ w ∈ u_ws RX1 TX1 4, w ∈ wsX4_bestBarredWeekday := by decide +kernel
  have iW2 : ∀ w ∈ u_ws RX2 TX2 9, w ∈ wsX4_bestBarredWeekday := by decide +kernel
  have iW4 : ∀ w ∈ u_ws RX4 TX4 7, w ∈ wsX4_bestBarredWeekday := by decide +kernel
  have f10 : Cond.fieldLink RX4 10 (TX4 0).1 (TX4 0).2.1 (TX4 0).2.2.1 ∈ wsX4_bestBarredWeekday := by decide +kernel
  have f117 : Cond.fieldLinkNest RX4 117 (TX1 3).1 (TX1 3).2.1 (TX1 3).2.2.1 "TwoTownAlmanac" ∈ nwF := by decide +kernel
  have f154 : Cond.fieldLinkNest RX4 154 (TX2 6).1 (TX2 6).2.1 (TX2 6).2.2.1 "TwoTownAlmanac" ∈ nwF := by decide +kernel
  obtain ⟨hTA, hTB, hA1, hB0, hmn, hsh, hcp, hdn, hfe⟩ := id hS
  refine Ki_of [(0, _), (1, _)] hr (by decide) rfl rfl (Nat.le_of_ble_eq_true rfl) rfl (fun Γ hG hR => ?_)
  refine v_aload_n hG dX4_bestBarredWeekday_0 0 rfl ?_
  refine v_iload_n hG dX4_bestBarredWeekday_1 1 rfl ?_
  refine v_callVr (n := 1) (ci := 4) hG (c_X4_requireFeast hr h0 (by omega) (by omega) (by omega)) gX4_bestBarredWeekday_X4_requireFeast rfl (by decide +kernel) rfl (by decide) h0 (by decide) (cl_1 _ _ _ _) rfl dX4_bestBarredWeekday_2 rfl (Nat.le_of_ble_eq_true rfl) (by decide) ?_
  intro t2 z2 hp2
  obtain ⟨rfl, hk2, rfl, hb2⟩ := hp2
  obtain ⟨Q, hQ⟩ : ∃ Q : Nat → Int, Q = (fun k : Nat => qwS (zup z (9 + f.toNat) 3 (k : Int)) 400) := ⟨_, rfl⟩
  have hQb : ∀ k, 0 ≤ Q k ∧ Q k ≤ 400 := fun k => by
    rw [hQ]
    exact cntP_bd _ 400
  refine v_astore_n hG [(0, _), (1, _), (2, _)] dX4_bestBarredWeekday_5 (by decide) rfl ?_
  refine v_aload_n hG dX4_bestBarredWeekday_6 2 rfl ?_
  refine v_getfN (ci := 1) (k := 3) hG iW1 f117 rfl (by decide) hk2 (by decide) (cl_4 _ _ _ _) rfl dX4_bestBarredWeekday_7 ?_
  refine v_istore_n hG [(0, _), (1, _), (2, _), (3, _)] dX4_bestBarredWeekday_10 (by decide) rfl ?_
  refine v_iconst hG dX4_bestBarredWeekday_11 ?_
  refine v_istore hG [(0, _), (1, _), (2, _), (3, _), (4, _)] dX4_bestBarredWeekday_12 (by decide) rfl ?_
  refine v_sipush hG dX4_bestBarredWeekday_14 (by decide) ?_
  refine v_istore hG [(0, _), (1, _), (2, _), (3, _), (4, _), (5, _)] dX4_bestBarredWeekday_17 (by decide) rfl ?_
  refine v_iconst hG dX4_bestBarredWeekday_19 ?_
  refine v_istore hG [(0, _), (1, _), (2, _), (3, _), (4, _), (5, _), (6, _)] dX4_bestBarredWeekday_20 (by decide) rfl ?_
  have L22 : ∀ (n : Nat), ∀ (x4 x5 x6 b : Int) (z1 : Zt), (0 ≤ x6 ∧ x6 ≤ 7 ∧ x5 = (bwN Q x6.toNat).1 ∧ x4 = (bwN Q x6.toNat).2 ∧ ag24 (zup z (9 + f.toNat) 3 b) z1) → (7 - x6 + 1).toNat ≤ n → V Γ z1 0 0 [(0, .ref (r 0)), (1, .int (iN f)), (2, .ref (r (9 + f.toNat))), (3, .int (iN (z (9 + f.toNat) 3))), (4, .int (iN x4)), (5, .int (iN x5)), (6, .int (iN x6))] 22 [] := by
    intro n
    induction n with
    | zero =>
      intro x4 x5 x6 b z1 hI hm
      obtain ⟨i1, i2, i3v, i4, i5⟩ := hI
      exact absurd hm (by omega)
    | succ n ih22 =>
      intro x4 x5 x6 b z1 hI hm
      obtain ⟨i1, i2, i3v, i4, i5⟩ := hI
      have hbd := bwN_bd hQb x6.toNat
      have h16 : z1 1 6 = z 1 6 := by
        rw [i5 1 (by decide)]
        simp only [zup, if_neg (show ¬ (1 = 9 + f.toNat) by omega)]
      have eN9 : zup z1 (9 + f.toNat) 3 x6 1 6 = z1 1 6 := by simp only [zup, if_neg (show ¬ (1 = 9 + f.toNat) by omega)]
      refine v_iload hG dX4_bestBarredWeekday_22 6 rfl ?_
      refine v_bipush hG dX4_bestBarredWeekday_24 (by decide) ?_
      refine v_icmp_ge hG 72 (by omega) (by omega) dX4_bestBarredWeekday_26 (by decide) (fun h26 => ?_) (fun h26 => ?_)
      · refine v_aload_n hG dX4_bestBarredWeekday_72 2 rfl ?_
        refine v_iload_n hG dX4_bestBarredWeekday_73 3 rfl ?_
        refine v_putfN (ci := 1) (k := 3) hG iW1 tyX1_ok nmX1 f117 rfl (by decide) rfl rfl hk2 (by decide) (cl_4 _ _ _ _) (Nat.le_of_ble_eq_true rfl) rfl dX4_bestBarredWeekday_74 ?_
        refine v_iload hG dX4_bestBarredWeekday_77 4 rfl ?_
        exact v_iret hG hR dX4_bestBarredWeekday_79 ⟨fun a ha => by have h9 := ag24_put (b := z (9 + f.toNat) 3) i5 (by omega) a ha; rw [zup_self] at h9; exact h9, by omega, by rw [i4, show x6.toNat = 7 by omega, hQ]⟩
      · refine v_aload_n hG dX4_bestBarredWeekday_29 2 rfl ?_
        refine v_iload hG dX4_bestBarredWeekday_30 6 rfl ?_
        refine v_putfN (ci := 1) (k := 3) hG iW1 tyX1_ok nmX1 f117 rfl (by decide) rfl rfl hk2 (by decide) (cl_4 _ _ _ _) (Nat.le_of_ble_eq_true rfl) rfl dX4_bestBarredWeekday_32 ?_
        refine v_aload_n hG dX4_bestBarredWeekday_35 0 rfl ?_
        refine v_aload_n hG dX4_bestBarredWeekday_36 0 rfl ?_
        refine v_getf (ci := 4) (k := 0) hG iW4 f10 rfl (by decide) h0 (by decide) (cl_1 _ _ _ _) rfl dX4_bestBarredWeekday_37 ?_
        refine v_getfN (ci := 2) (k := 6) hG iW2 f154 rfl (by decide) k_1 (by decide) (cl_2 _ _ _ _) rfl dX4_bestBarredWeekday_40 ?_
        refine v_sipush hG dX4_bestBarredWeekday_43 (by decide) ?_
        refine v_callVi (n := 2) (ci := 4) hG (c_X4_quarrelsFrom hr h0 (blk_SI (ag24_blk (ag24_put (b := x6) i5 (by omega)) k_1) (barZ_SI hS (by omega) (by omega))) (by omega)) gX4_bestBarredWeekday_X4_quarrelsFrom rfl (by decide +kernel) rfl (by decide) h0 (by decide) (cl_1 _ _ _ _) rfl dX4_bestBarredWeekday_46 rfl (Nat.le_of_ble_eq_true rfl) (by decide) ?_
        intro v46 z46 hp46
        obtain ⟨ha46, rfl, hs46⟩ := hp46
        have g24 := ag24_put (b := x6) i5 (by omega)
        have hbl := ag24_blk g24 k_1
        have hv : cntP (fun i => quS (zup z1 (9 + f.toNat) 3 x6) 1 (zup z1 (9 + f.toNat) 3 x6 1 6 + i)) (400 : Int).toNat = Q x6.toNat := by
          have h9 := qwS_blk hbl (by simp only [zup, if_neg (show ¬ (1 = 9 + f.toNat) by omega)]; omega) 400
          have e6 : ((x6.toNat : Nat) : Int) = x6 := by omega
          rw [hQ]
          show qwS (zup z1 (9 + f.toNat) 3 x6) 400 = qwS (zup z (9 + f.toNat) 3 ((x6.toNat : Nat) : Int)) 400
          rw [e6]
          exact h9
        have eN : zup z1 (9 + f.toNat) 3 x6 1 6 = z1 1 6 := by simp only [zup, if_neg (show ¬ (1 = 9 + f.toNat) by omega)]
        first | rw [hv] | (rw [eN] at hv; rw [hv])
        have h24 : ag24 (zup z (9 + f.toNat) 3 x6) z46 := fun a ha => (ha46 a ha).trans (g24 a ha)
        have hqx := hQb x6.toNat
        refine v_istore hG [(0, _), (1, _), (2, _), (3, _), (4, _), (5, _), (6, _), (7, _)] dX4_bestBarredWeekday_49 (by decide) rfl ?_
        refine v_iload hG dX4_bestBarredWeekday_51 7 rfl ?_
        refine v_iload hG dX4_bestBarredWeekday_53 5 rfl ?_
        refine v_icmp_ge hG 66 (by omega) (by omega) dX4_bestBarredWeekday_55 (by decide) (fun h55 => ?_) (fun h55 => ?_)
        · refine v_iinc hG [(0, _), (1, _), (2, _), (3, _), (4, _), (5, _), (6, _), (7, _)] dX4_bestBarredWeekday_66 6 rfl (by decide) rfl ?_
          refine v_goto hG 22 dX4_bestBarredWeekday_69 (by decide) ?_
          refine v_sub hG [(0, _), (1, _), (2, _), (3, _), (4, _), (5, _), (6, _)] [0, 1, 2, 3, 4, 5, 6] rfl ?_
          refine ih22 _ _ _ x6 _ ?_ (by omega)
          have e9 : (x6 + 1).toNat = x6.toNat + 1 := by omega
          rw [e9]
          first
            | (have h9 := bwN_t (Q := Q) (k := x6.toNat) (by omega); exact ⟨by omega, by omega, h9.1.symm, by rw [h9.2]; omega, h24⟩)
            | (have h9 := bwN_f (Q := Q) (k := x6.toNat) (by omega); rw [h9]; exact ⟨by omega, by omega, i3v, i4, h24⟩)
        · refine v_iload hG dX4_bestBarredWeekday_58 7 rfl ?_
          refine v_istore hG [(0, _), (1, _), (2, _), (3, _), (4, _), (5, _), (6, _), (7, _)] dX4_bestBarredWeekday_60 (by decide) rfl ?_
          refine v_iload hG dX4_bestBarredWeekday_62 6 rfl ?_
          refine v_istore hG [(0, _), (1, _), (2, _), (3, _), (4, _), (5, _), (6, _), (7, _)] dX4_bestBarredWeekday_64 (by decide) rfl ?_
          refine v_iinc hG [(0, _), (1, _), (2, _), (3, _), (4, _), (5, _), (6, _), (7, _)] dX4_bestBarredWeekday_66 6 rfl (by decide) rfl ?_
          refine v_goto hG 22 dX4_bestBarredWeekday_69 (by decide) ?_
          refine v_sub hG [(0, _), (1, _), (2, _), (3, _), (4, _), (5, _), (6, _)] [0, 1, 2, 3, 4, 5, 6] rfl ?_
          refine ih22 _ _ _ x6 _ ?_ (by omega)
          have e9 : (x6 + 1).toNat = x6.toNat + 1 := by omega
          rw [e9]
          first
            | (have h9 := bwN_t (Q := Q) (k := x6.toNat) (by omega); exact ⟨by omega, by omega, h9.1.symm, by rw [h9.2]; omega, h24⟩)
            | (have h9 := bwN_f (Q := Q) (k := x6.toNat) (by omega); rw [h9]; exact ⟨by omega, by omega, i3v, i4, h24⟩)
  exact L22 _ _ _ _ (z (9 + f.toNat) 3) _ ⟨by omega, by omega, rfl, rfl, by rw [zup_self]; exact ag24_refl z⟩ (Nat.le_refl _)

set_option maxHeartbeats 4000000 in
set_option maxRecDepth 100000 in
theorem c_X4_passDays {l : Launch} {D : va_G} {cA : Nat → ClassId} {r : Nat → Nat} {z : Zt} {q : Int} (hr : Inj r) (h0 : kd 0 = 1) (hS : SI z 1)  (hP : PI z) (hA : AI z) (hq : -2147483648 ≤ q ∧ q < 2147483648) (hok : (1 ≤ q ∧ q ≤ 400) ∧ z 1 6 + q ≤ 9999) : Ki l D cA r yX4_passDays wsX4_passDays 6 142 z [.ref (r 0), .int (iN q)] (fun x z1 => (∃ z3, ag24 (recZ z) z3 ∧ z1 = zup (psZ (zup z3 1 7 (z 1 7 + qwS z q.toNat)) 1 (sumN (fun i => cntP (fun j => ((j : Int) < z 1 3 ∧ onS z 1 (9 + j) (z 1 6 + i)) ∧ ((j : Int) < z 1 3 ∧ z (9 + j) 0 = 0)) 10) q.toNat) (sumN (fun i => cntP (fun j => ((j : Int) < z 1 3 ∧ onS z 1 (9 + j) (z 1 6 + i)) ∧ ((j : Int) < z 1 3 ∧ z (9 + j) 0 = 1)) 10) q.toNat) (sumN (fun i => ind (∀ j : Nat, ¬ ((j : Int) < z 1 3 ∧ onS z 1 (9 + j) (z 1 6 + i))) * z 1 5) q.toNat)) 1 6 (z 1 6 + q)) ∧ (1 ≤ q ∧ q ≤ 400) ∧ z 1 6 + q ≤ 9999 ∧ x = qwS z q.toNat) := by
  have iW2 : ∀ w ∈ u_ws RX2 TX2 9, w ∈ wsX4_passDays := by decide +kernel
  have iW4 : ∀ w ∈ u_ws RX4 TX4 7, w ∈ wsX4_passDays := by decide +kernel
  have f10 : Cond.fieldLink RX4 10 (TX4 0).1 (TX4 0).2.1 (TX4 0).2.2.1 ∈ wsX4_passDays := by decide +kernel
  have f38 : Cond.fieldLink RX4 38 (TX4 6).1 (TX4 6).2.1 (TX4 6).2.2.1 ∈ wsX4_passDays := by decide +kernel
  have f154 : Cond.fieldLinkNest RX4 154 (TX2 6).1 (TX2 6).2.1 (TX2 6).2.2.1 "TwoTownAlmanac" ∈ nwF := by decide +kernel
  have f159 : Cond.fieldLinkNest RX4 159 (TX2 7).1 (TX2 7).2.1 (TX2 7).2.2.1 "TwoTownAlmanac" ∈ nwF := by decide +kernel
  obtain ⟨hTA, hTB, hA1, hB0, hmn, hsh, hcp, hdn, hfe⟩ := id hS
  have hbR := recZ_blk hP
  have hSR := blk_SI hbR hS
  have eR := recZ_s hP
  refine Ki_of [(0, _), (1, _)] hr (by decide) rfl rfl (Nat.le_of_ble_eq_true rfl) rfl (fun Γ hG hR => ?_)
  refine v_iload_n hG dX4_passDays_0 1 rfl ?_
  refine v_iconst hG dX4_passDays_1 ?_
  refine v_sipush hG dX4_passDays_2 (by decide) ?_
  refine v_callSv (n := 3) hG (c_X4_requireRange hr (by omega) (by omega) (by omega) (by omega)) gX4_passDays_X4_requireRange rfl (by decide +kernel) rfl (by decide) dX4_passDays_5 rfl (Nat.le_of_ble_eq_true rfl) (by decide) ?_
  intro z5 hp5
  obtain ⟨rfl, hr5⟩ := hp5
  refine v_aload_n hG dX4_passDays_8 0 rfl ?_
  refine v_getf (ci := 4) (k := 0) hG iW4 f10 rfl (by decide) h0 (by decide) (cl_1 _ _ _ _) rfl dX4_passDays_9 ?_
  refine v_getfN (ci := 2) (k := 6) hG iW2 f154 rfl (by decide) k_1 (by decide) (cl_2 _ _ _ _) rfl dX4_passDays_12 ?_
  refine v_iload_n hG dX4_passDays_15 1 rfl ?_
  refine v_iadd hG dX4_passDays_16 ?_
  refine v_sipush hG dX4_passDays_17 (by decide) ?_
  refine v_icmp_le hG 33 (by omega) (by omega) dX4_passDays_20 (by decide) (fun h20 => ?_) (fun h20 => ?_)
  · refine v_aload_n hG dX4_passDays_33 0 rfl ?_
    refine v_callVv (n := 0) (ci := 4) hG (c_X4_recordState hr h0 hP hA) gX4_passDays_X4_recordState rfl (by decide +kernel) rfl (by decide) h0 (by decide) (cl_1 _ _ _ _) rfl dX4_passDays_34 rfl (Nat.le_of_ble_eq_true rfl) (by decide) ?_
    intro z34 hp34
    obtain rfl := hp34
    refine v_aload_n hG dX4_passDays_37 0 rfl ?_
    refine v_aload_n hG dX4_passDays_38 0 rfl ?_
    refine v_getf (ci := 4) (k := 0) hG iW4 f10 rfl (by decide) h0 (by decide) (cl_1 _ _ _ _) rfl dX4_passDays_39 ?_
    refine v_getfN (ci := 2) (k := 6) hG iW2 f154 rfl (by decide) k_1 (by decide) (cl_2 _ _ _ _) rfl dX4_passDays_42 ?_
    refine v_iload_n hG dX4_passDays_45 1 rfl ?_
    refine v_callVi (n := 2) (ci := 4) hG (c_X4_quarrelsFrom hr h0 hSR (by rw [eR]; omega)) gX4_passDays_X4_quarrelsFrom rfl (by decide +kernel) rfl (by decide) h0 (by decide) (cl_1 _ _ _ _) rfl dX4_passDays_46 rfl (Nat.le_of_ble_eq_true rfl) (by decide) ?_
    intro v46 z46 hp46
    obtain ⟨ha46, rfl, hs46⟩ := hp46
    have hq9 : cntP (fun i => quS (recZ z) 1 (recZ z 1 6 + i)) q.toNat = qwS z q.toNat := qwS_blk hbR (by omega) q.toNat
    rw [hq9]
    have hb3 := ag24_blk ha46 k_1
    have es3 : z46 1 = z 1 := (ag24_s ha46 k_1).trans eR
    have e37 : z46 1 7 = z 1 7 := congrFun es3 7
    refine v_istore_n hG [(0, _), (1, _), (2, _)] dX4_passDays_49 (by decide) rfl ?_
    refine v_aload_n hG dX4_passDays_50 0 rfl ?_
    refine v_getf (ci := 4) (k := 0) hG iW4 f10 rfl (by decide) h0 (by decide) (cl_1 _ _ _ _) rfl dX4_passDays_51 ?_
    refine v_dup hG dX4_passDays_54 rfl ?_
    refine v_getfN (ci := 2) (k := 7) hG iW2 f159 rfl (by decide) k_1 (by decide) (cl_2 _ _ _ _) rfl dX4_passDays_55 ?_
    rw [e37]
    refine v_iload_n hG dX4_passDays_58 2 rfl ?_
    refine v_iadd hG dX4_passDays_59 ?_
    refine v_putfN (ci := 2) (k := 7) hG iW2 tyX2_ok nmX2 f159 rfl (by decide) rfl rfl k_1 (by decide) (cl_2 _ _ _ _) (Nat.le_of_ble_eq_true rfl) rfl dX4_passDays_60 ?_
    refine v_aload_n hG dX4_passDays_63 0 rfl ?_
    refine v_getf (ci := 4) (k := 0) hG iW4 f10 rfl (by decide) h0 (by decide) (cl_1 _ _ _ _) rfl dX4_passDays_64 ?_
    refine v_aload_n hG dX4_passDays_67 0 rfl ?_
    refine v_getf (ci := 4) (k := 6) hG iW4 f38 rfl (by decide) h0 (by decide) (cl_1 _ _ _ _) rfl dX4_passDays_68 ?_
    refine v_iload_n hG dX4_passDays_71 1 rfl ?_
    refine v_callVv (n := 2) (ci := 2) hG (c_X2_countPassed hr k_1 k_24 (upd7_SI (blk_SI hb3 hSR)) (by omega) (P := fun i j => (j : Int) < z 1 3 ∧ onS z 1 (9 + j) (z 1 6 + i)) (fun i hi => isSet_congr (hs46 i hi) (fun j => by
    rw [eR]
    by_cases q9 : (j : Int) < z 1 3
    · have e9 := blk_onS hbR (k := j) (by omega)
      rw [show 1 + 8 + j = 9 + j by omega] at e9 ⊢
      rw [e9]
    · simp [q9]))) gX4_passDays_X2_countPassed rfl (by decide +kernel) rfl (by decide) k_1 (by decide) (cl_2 _ _ _ _) rfl dX4_passDays_72 rfl (Nat.le_of_ble_eq_true rfl) (by decide) ?_
    intro z72 hp72
    obtain rfl := hp72
    refine v_aload_n hG dX4_passDays_75 0 rfl ?_
    refine v_getf (ci := 4) (k := 0) hG iW4 f10 rfl (by decide) h0 (by decide) (cl_1 _ _ _ _) rfl dX4_passDays_76 ?_
    refine v_dup hG dX4_passDays_79 rfl ?_
    refine v_getfN (ci := 2) (k := 6) hG iW2 f154 rfl (by decide) k_1 (by decide) (cl_2 _ _ _ _) rfl dX4_passDays_80 ?_
    refine v_eqi hG (y := iN (z 1 6)) (congrArg iN (by rw [psZ_f (by decide)]; exact congrFun es3 6)) ?_
    refine v_iload_n hG dX4_passDays_83 1 rfl ?_
    refine v_iadd hG dX4_passDays_84 ?_
    refine v_putfN (ci := 2) (k := 6) hG iW2 tyX2_ok nmX2 f154 rfl (by decide) rfl rfl k_1 (by decide) (cl_2 _ _ _ _) (Nat.le_of_ble_eq_true rfl) rfl dX4_passDays_85 ?_
    refine v_iload_n hG dX4_passDays_88 2 rfl ?_
    exact v_iret hG hR dX4_passDays_89 ⟨⟨z46, ha46, by
    have eW3 : zup z46 1 7 (z 1 7 + qwS z q.toNat) 1 3 = z 1 3 := congrFun es3 3
    have eW5 : zup z46 1 7 (z 1 7 + qwS z q.toNat) 1 5 = z 1 5 := congrFun es3 5
    have eWf : ∀ j : Nat, j < 10 → zup z46 1 7 (z 1 7 + qwS z q.toNat) (1 + 8 + j) = z (9 + j) := fun j hj => by
      rw [zup_o1 (by omega), show 1 + 8 + j = 1 + (8 + j) by omega, hb3 (8 + j) (by omega), hbR (8 + j) (by omega), show 1 + (8 + j) = 9 + j by omega]
    have hSM : ∀ a : Int, sumN (fun i => cntP (fun j => ((j : Int) < z 1 3 ∧ onS z 1 (9 + j) (z 1 6 + i)) ∧ ((j : Int) < zup z46 1 7 (z 1 7 + qwS z q.toNat) 1 3 ∧ zup z46 1 7 (z 1 7 + qwS z q.toNat) (1 + 8 + j) 0 = a)) 10) q.toNat = sumN (fun i => cntP (fun j => ((j : Int) < z 1 3 ∧ onS z 1 (9 + j) (z 1 6 + i)) ∧ ((j : Int) < z 1 3 ∧ z (9 + j) 0 = a)) 10) q.toNat := fun a => sumN_congr (fun i _ => cntP_congr (fun j hj => by rw [eW3, eWf j hj]))
    rw [← hSM 0, ← hSM 1, ← eW5]⟩, by omega, by omega, rfl⟩
  · exfalso; omega

