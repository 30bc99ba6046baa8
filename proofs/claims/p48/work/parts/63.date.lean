theorem FE_bd {f : Nat → Int} {n x : Int} (h : FE f n x) (hn : 0 ≤ n) : -1 ≤ x ∧ x ≤ n := by
  rcases h with ⟨i, a1, a2, -⟩ | ⟨-, a2⟩
  · omega
  · rw [a2]
    split <;> omega
theorem dmon_bd {a y m : Int} (h : isMon a y m) : 1 ≤ y - mbef a m + 1 ∧ y - mbef a m + 1 ≤ 31 := by
  obtain ⟨h1, h2, h3, h4⟩ := h
  have h5 := mbef_s (a := a) h1
  have h6 := mlen_bd a m
  omega
theorem yr_bd {a c : Int} (h : 0 ≤ c) (h2 : c ≤ 20120) : 1 ≤ 1 + c / yl a ∧ 1 + c / yl a ≤ 60 := by
  unfold yl
  split <;> omega
def wrZ (z : Zt) (t a b c : Int) : Zt := pnZ (putZ (pnZ (putZ (pnZ (putZ (zup z 22 1 0) (65 + t)) a) 46) b) 46) c
theorem T_of {z w : Zt} (o : ∀ i, i ≠ 22 → i ≠ 23 → w i = z i) (t : Int) : (TI z (tid t) → TI w (tid t)) ∧ w (tid t) = z (tid t) ∧ ∀ d, calT w (tid t) d = calT z (tid t) d := by
  have h := tid_or t
  have e0 := o (tid t) (by omega) (by omega)
  have h2 := TI_eq e0 (o (tid t + 1) (by omega) (by omega)) (o (tid t + 2) (by omega) (by omega))
  exact ⟨h2.1, e0, h2.2.1⟩
set_option maxHeartbeats 4000000 in
set_option maxRecDepth 100000 in
theorem c_X4_dayOfText {l : Launch} {D : va_G} {cA : Nat → ClassId} {r : Nat → Nat} {z : Zt} {tt : Int} (hr : Inj r) (h0 : kd 0 = 1) (hS : SI z 1)  (hX : TX (z 23) (z 22 1)) (htt : tt = (if 0 < z 22 1 ∧ z 23 0 = 65 then (0 : Int) else 1)) (hok : ∀ e, FE (z 23) (z 22 1) e → e = -1) : Ki l D cA r yX4_dayOfText wsX4_dayOfText 3 70 z [.ref (r 0)] (fun x z1 => z = z1 ∧ FE (z 23) (z 22 1) (-1) ∧ x = (if 12 < nuN (z 23) 2 (z 22 1).toNat ∨ mlen (z (tid tt) 0) (nuN (z 23) 2 (z 22 1).toNat) < nuN (z 23) 1 (z 22 1).toNat then -1 else if calT z (tid tt) (fdT z (tid tt) (dof (z (tid tt) 0) (nuN (z 23) 3 (z 22 1).toNat) (nuN (z 23) 2 (z 22 1).toNat) (nuN (z 23) 1 (z 22 1).toNat))) = dof (z (tid tt) 0) (nuN (z 23) 3 (z 22 1).toNat) (nuN (z 23) 2 (z 22 1).toNat) (nuN (z 23) 1 (z 22 1).toNat) then fdT z (tid tt) (dof (z (tid tt) 0) (nuN (z 23) 3 (z 22 1).toNat) (nuN (z 23) 2 (z 22 1).toNat) (nuN (z 23) 1 (z 22 1).toNat)) else -1)) := by
  have iW4 : ∀ w ∈ u_ws RX4 TX4 7, w ∈ wsX4_dayOfText := by decide +kernel
  have f10 : Cond.fieldLink RX4 10 (TX4 0).1 (TX4 0).2.1 (TX4 0).2.2.1 ∈ wsX4_dayOfText := by decide +kernel
  have f34 : Cond.fieldLink RX4 34 (TX4 5).1 (TX4 5).2.1 (TX4 5).2.2.1 ∈ wsX4_dayOfText := by decide +kernel
  obtain ⟨hl0, hl8, hch⟩ := id hX
  have hTT := TI_tid hS tt
  have ht2 : 0 ≤ tt ∧ tt ≤ 1 := by
    rw [htt]
    split <;> omega
  refine Ki_of [(0, _)] hr (by decide) rfl rfl (Nat.le_of_ble_eq_true rfl) rfl (fun Γ hG hR => ?_)
  refine v_aload_n hG dX4_dayOfText_0 0 rfl ?_
  refine v_getf (ci := 4) (k := 5) hG iW4 f34 rfl (by decide) h0 (by decide) (cl_1 _ _ _ _) rfl dX4_dayOfText_1 ?_
  refine v_callVi (n := 0) (ci := 0) hG (c_X0_firstError hr k_22 hX) gX4_dayOfText_X0_firstError rfl (by decide +kernel) rfl (by decide) k_22 (by decide) (cl_5 _ _ _ _) rfl dX4_dayOfText_4 rfl (Nat.le_of_ble_eq_true rfl) (by decide) ?_
  intro v4 z4 hp4
  obtain ⟨rfl, hx4⟩ := hp4
  have hbe := FE_bd hx4 hl0
  refine v_iconst hG dX4_dayOfText_7 ?_
  refine v_icmp_eq hG 21 (by omega) (by omega) dX4_dayOfText_8 (by decide) (fun h8 => ?_) (fun h8 => ?_)
  · refine v_aload_n hG dX4_dayOfText_21 0 rfl ?_
    refine v_getf (ci := 4) (k := 0) hG iW4 f10 rfl (by decide) h0 (by decide) (cl_1 _ _ _ _) rfl dX4_dayOfText_22 ?_
    refine v_aload_n hG dX4_dayOfText_25 0 rfl ?_
    refine v_getf (ci := 4) (k := 5) hG iW4 f34 rfl (by decide) h0 (by decide) (cl_1 _ _ _ _) rfl dX4_dayOfText_26 ?_
    refine v_callVi (n := 0) (ci := 0) hG (c_X0_town hr k_22 hX) gX4_dayOfText_X0_town rfl (by decide +kernel) rfl (by decide) k_22 (by decide) (cl_5 _ _ _ _) rfl dX4_dayOfText_29 rfl (Nat.le_of_ble_eq_true rfl) (by decide) ?_
    intro v29 z29 hp29
    obtain ⟨rfl, rfl⟩ := hp29
    rw [← htt]
    refine v_callVr (n := 1) (ci := 2) hG (c_X2_townWith hr k_1 (by omega)) gX4_dayOfText_X2_townWith rfl (by decide +kernel) rfl (by decide) k_1 (by decide) (cl_2 _ _ _ _) rfl dX4_dayOfText_32 rfl (Nat.le_of_ble_eq_true rfl) (by decide) ?_
    intro t32 z32 hp32
    obtain ⟨rfl, hk32, ht32⟩ := hp32
    have hw32 : t32 = tid tt := ht32
    subst hw32
    have hE : FE (z 23) (z 22 1) (-1) := by
      rw [show v4 = -1 by omega] at hx4
      exact hx4
    have hno := num_ok hE hl0
    refine v_astore_n hG [(0, _), (1, _)] dX4_dayOfText_35 (by decide) rfl ?_
    refine v_aload_n hG dX4_dayOfText_36 1 rfl ?_
    refine v_aload_n hG dX4_dayOfText_37 0 rfl ?_
    refine v_getf (ci := 4) (k := 5) hG iW4 f34 rfl (by decide) h0 (by decide) (cl_1 _ _ _ _) rfl dX4_dayOfText_38 ?_
    refine v_iconst hG dX4_dayOfText_41 ?_
    refine v_callVi (n := 1) (ci := 0) hG (c_X0_number hr k_22 hX (by omega) (by omega)) gX4_dayOfText_X0_number rfl (by decide +kernel) rfl (by decide) k_22 (by decide) (cl_5 _ _ _ _) rfl dX4_dayOfText_42 rfl (Nat.le_of_ble_eq_true rfl) (by decide) ?_
    intro v42 z42 hp42
    obtain ⟨rfl, rfl⟩ := hp42
    refine v_aload_n hG dX4_dayOfText_45 0 rfl ?_
    refine v_getf (ci := 4) (k := 5) hG iW4 f34 rfl (by decide) h0 (by decide) (cl_1 _ _ _ _) rfl dX4_dayOfText_46 ?_
    refine v_iconst hG dX4_dayOfText_49 ?_
    refine v_callVi (n := 1) (ci := 0) hG (c_X0_number hr k_22 hX (by omega) (by omega)) gX4_dayOfText_X0_number rfl (by decide +kernel) rfl (by decide) k_22 (by decide) (cl_5 _ _ _ _) rfl dX4_dayOfText_50 rfl (Nat.le_of_ble_eq_true rfl) (by decide) ?_
    intro v50 z50 hp50
    obtain ⟨rfl, rfl⟩ := hp50
    refine v_aload_n hG dX4_dayOfText_53 0 rfl ?_
    refine v_getf (ci := 4) (k := 5) hG iW4 f34 rfl (by decide) h0 (by decide) (cl_1 _ _ _ _) rfl dX4_dayOfText_54 ?_
    refine v_iconst hG dX4_dayOfText_57 ?_
    refine v_callVi (n := 1) (ci := 0) hG (c_X0_number hr k_22 hX (by omega) (by omega)) gX4_dayOfText_X0_number rfl (by decide +kernel) rfl (by decide) k_22 (by decide) (cl_5 _ _ _ _) rfl dX4_dayOfText_58 rfl (Nat.le_of_ble_eq_true rfl) (by decide) ?_
    intro v58 z58 hp58
    obtain ⟨rfl, rfl⟩ := hp58
    refine v_callVi (n := 3) (ci := 3) hG (c_X3_dayWithDate hr hk32 hTT (by omega) (by omega) (by omega)) gX4_dayOfText_X3_dayWithDate rfl (by decide +kernel) rfl (by decide) hk32 (by decide) (cl_3 _ _ _ _) rfl dX4_dayOfText_61 rfl (Nat.le_of_ble_eq_true rfl) (by decide) ?_
    intro v61 z61 hp61
    obtain ⟨rfl, rfl⟩ := hp61
    exact v_iret hG hR dX4_dayOfText_64 ⟨rfl, hE, rfl⟩
  · exact absurd (hok _ hx4) (by omega)

set_option maxHeartbeats 4000000 in
set_option maxRecDepth 100000 in
theorem c_X4_writeDate {l : Launch} {D : va_G} {cA : Nat → ClassId} {r : Nat → Nat} {z : Zt} {t d : Int} (hr : Inj r) (h0 : kd 0 = 1) (hS : SI z 1) (ht : -2147483648 ≤ t ∧ t < 2147483648) (hd : -2147483648 ≤ d ∧ d < 2147483648) (hok : (0 ≤ t ∧ t ≤ 1) ∧ (0 ≤ d ∧ d ≤ 20000)) : Ki l D cA r yX4_writeDate wsX4_writeDate 4 89 z [.ref (r 0), .int (iN t), .int (iN d)] (fun x z1 => (0 ≤ t ∧ t ≤ 1) ∧ (0 ≤ d ∧ d ≤ 20000) ∧ (∃ m1 m2 : Int, isMon (z (tid t) 0) (calT z (tid t) d % yl (z (tid t) 0)) m1 ∧ isMon (z (tid t) 0) (calT z (tid t) d % yl (z (tid t) 0)) m2 ∧ wrZ z t (calT z (tid t) d % yl (z (tid t) 0) - mbef (z (tid t) 0) m1 + 1) m2 (1 + calT z (tid t) d / yl (z (tid t) 0)) = z1) ∧ x = z1 22 1) := by
  have iW0 : ∀ w ∈ u_ws RX0 TX0 2, w ∈ wsX4_writeDate := by decide +kernel
  have iW4 : ∀ w ∈ u_ws RX4 TX4 7, w ∈ wsX4_writeDate := by decide +kernel
  have f34 : Cond.fieldLink RX4 34 (TX4 5).1 (TX4 5).2.1 (TX4 5).2.2.1 ∈ wsX4_writeDate := by decide +kernel
  have f184 : Cond.fieldLinkNest RX4 184 (TX0 1).1 (TX0 1).2.1 (TX0 1).2.2.1 "TwoTownAlmanac" ∈ nwF := by decide +kernel
  have hTT := TI_tid hS t
  have hyl := yl_bd (z (tid t) 0)
  have hcb := calT_bd hTT d
  refine Ki_of [(0, _), (1, _), (2, _)] hr (by decide) rfl rfl (Nat.le_of_ble_eq_true rfl) rfl (fun Γ hG hR => ?_)
  refine v_aload_n hG dX4_writeDate_0 0 rfl ?_
  refine v_iload_n hG dX4_writeDate_1 1 rfl ?_
  refine v_callVr (n := 1) (ci := 4) hG (c_X4_requireTown hr h0 (by omega) (by omega)) gX4_writeDate_X4_requireTown rfl (by decide +kernel) rfl (by decide) h0 (by decide) (cl_1 _ _ _ _) rfl dX4_writeDate_2 rfl (Nat.le_of_ble_eq_true rfl) (by decide) ?_
  intro t2 z2 hp2
  obtain ⟨rfl, hk2, rfl, hb2⟩ := hp2
  refine v_astore_n hG [(0, _), (1, _), (2, _), (3, _)] dX4_writeDate_5 (by decide) rfl ?_
  refine v_iload_n hG dX4_writeDate_6 2 rfl ?_
  refine v_iconst hG dX4_writeDate_7 ?_
  refine v_sipush hG dX4_writeDate_8 (by decide) ?_
  refine v_callSv (n := 3) hG (c_X4_requireRange hr (by omega) (by omega) (by omega) (by omega)) gX4_writeDate_X4_requireRange rfl (by decide +kernel) rfl (by decide) dX4_writeDate_11 rfl (Nat.le_of_ble_eq_true rfl) (by decide) ?_
  intro z11 hp11
  obtain ⟨rfl, hr11⟩ := hp11
  refine v_aload_n hG dX4_writeDate_14 0 rfl ?_
  refine v_getf (ci := 4) (k := 5) hG iW4 f34 rfl (by decide) h0 (by decide) (cl_1 _ _ _ _) rfl dX4_writeDate_15 ?_
  refine v_iconst hG dX4_writeDate_18 ?_
  refine v_putfN (ci := 0) (k := 1) hG iW0 tyX0_ok nmX0 f184 rfl (by decide) rfl rfl k_22 (by decide) (cl_5 _ _ _ _) (Nat.le_of_ble_eq_true rfl) rfl dX4_writeDate_19 ?_
  have L37 : ∀ (c : Int), c = 65 + t → V Γ (zup z 22 1 0) 0 0 [(0, .ref (r 0)), (1, .int (iN t)), (2, .int (iN d)), (3, .ref (r (tid t)))] 37 [.int (iN c), .ref (r 22)] := by
    intro c hI
    subst hI
    refine v_callVv (n := 1) (ci := 0) hG (c_X0_put hr k_22 (by rw [zup_s]; omega)) gX4_writeDate_X0_put rfl (by decide +kernel) rfl (by decide) k_22 (by decide) (cl_5 _ _ _ _) rfl dX4_writeDate_37 rfl (Nat.le_of_ble_eq_true rfl) (by decide) ?_
    intro z37 hp37
    have o37 : ∀ i, i ≠ 22 → i ≠ 23 → z37 i = z i := fun i a b => by
      rw [← hp37, putZ_o _ _ a b, zup_o1 a]
    have T37 := T_of o37 t
    have l37 : z37 22 1 = 1 := by rw [← hp37, putZ_len, zup_s]; rfl
    refine v_aload_n hG dX4_writeDate_40 0 rfl ?_
    refine v_getf (ci := 4) (k := 5) hG iW4 f34 rfl (by decide) h0 (by decide) (cl_1 _ _ _ _) rfl dX4_writeDate_41 ?_
    refine v_aload_n hG dX4_writeDate_44 3 rfl ?_
    refine v_iload_n hG dX4_writeDate_45 2 rfl ?_
    refine v_callVi (n := 1) (ci := 3) hG (c_X3_dayOfMonthOn hr hk2 (T37.1 hTT) (by omega)) gX4_writeDate_X3_dayOfMonthOn rfl (by decide +kernel) rfl (by decide) hk2 (by decide) (cl_3 _ _ _ _) rfl dX4_writeDate_46 rfl (Nat.le_of_ble_eq_true rfl) (by decide) ?_
    intro v46 z46 hp46
    obtain ⟨rfl, mm46, hm46, rfl⟩ := hp46
    rw [T37.2.1, T37.2.2] at hm46 ⊢
    have hdm := dmon_bd hm46
    refine v_callVv (n := 1) (ci := 0) hG (c_X0_putNumber hr k_22 (by omega) (by omega)) gX4_writeDate_X0_putNumber rfl (by decide +kernel) rfl (by decide) k_22 (by decide) (cl_5 _ _ _ _) rfl dX4_writeDate_49 rfl (Nat.le_of_ble_eq_true rfl) (by decide) ?_
    intro z49 hp49
    have o49 : ∀ i, i ≠ 22 → i ≠ 23 → z49 i = z i := fun i a b => by
      rw [← hp49, pnZ_o _ _ a b, o37 i a b]
    have T49 := T_of o49 t
    have l49 := pnZ_len z37 (calT z (tid t) d % yl (z (tid t) 0) - mbef (z (tid t) 0) mm46 + 1)
    rw [hp49] at l49
    refine v_aload_n hG dX4_writeDate_52 0 rfl ?_
    refine v_getf (ci := 4) (k := 5) hG iW4 f34 rfl (by decide) h0 (by decide) (cl_1 _ _ _ _) rfl dX4_writeDate_53 ?_
    refine v_bipush hG dX4_writeDate_56 (by decide) ?_
    refine v_callVv (n := 1) (ci := 0) hG (c_X0_put hr k_22 (by omega)) gX4_writeDate_X0_put rfl (by decide +kernel) rfl (by decide) k_22 (by decide) (cl_5 _ _ _ _) rfl dX4_writeDate_58 rfl (Nat.le_of_ble_eq_true rfl) (by decide) ?_
    intro z58 hp58
    have o58 : ∀ i, i ≠ 22 → i ≠ 23 → z58 i = z i := fun i a b => by
      rw [← hp58, putZ_o _ _ a b, o49 i a b]
    have T58 := T_of o58 t
    have l58 := putZ_len z49 46
    rw [hp58] at l58
    refine v_aload_n hG dX4_writeDate_61 0 rfl ?_
    refine v_getf (ci := 4) (k := 5) hG iW4 f34 rfl (by decide) h0 (by decide) (cl_1 _ _ _ _) rfl dX4_writeDate_62 ?_
    refine v_aload_n hG dX4_writeDate_65 3 rfl ?_
    refine v_iload_n hG dX4_writeDate_66 2 rfl ?_
    refine v_callVi (n := 1) (ci := 3) hG (c_X3_monthOn hr hk2 (T58.1 hTT) (by omega)) gX4_writeDate_X3_monthOn rfl (by decide +kernel) rfl (by decide) hk2 (by decide) (cl_3 _ _ _ _) rfl dX4_writeDate_67 rfl (Nat.le_of_ble_eq_true rfl) (by decide) ?_
    intro v67 z67 hp67
    obtain ⟨rfl, hx67⟩ := hp67
    rw [T58.2.1, T58.2.2] at hx67
    have ha67 := hx67.1
    have hb67 := hx67.2.1
    refine v_callVv (n := 1) (ci := 0) hG (c_X0_putNumber hr k_22 (by omega) (by omega)) gX4_writeDate_X0_putNumber rfl (by decide +kernel) rfl (by decide) k_22 (by decide) (cl_5 _ _ _ _) rfl dX4_writeDate_70 rfl (Nat.le_of_ble_eq_true rfl) (by decide) ?_
    intro z70 hp70
    have o70 : ∀ i, i ≠ 22 → i ≠ 23 → z70 i = z i := fun i a b => by
      rw [← hp70, pnZ_o _ _ a b, o58 i a b]
    have T70 := T_of o70 t
    have l70 := pnZ_len z58 v67
    rw [hp70] at l70
    refine v_aload_n hG dX4_writeDate_73 0 rfl ?_
    refine v_getf (ci := 4) (k := 5) hG iW4 f34 rfl (by decide) h0 (by decide) (cl_1 _ _ _ _) rfl dX4_writeDate_74 ?_
    refine v_bipush hG dX4_writeDate_77 (by decide) ?_
    refine v_callVv (n := 1) (ci := 0) hG (c_X0_put hr k_22 (by omega)) gX4_writeDate_X0_put rfl (by decide +kernel) rfl (by decide) k_22 (by decide) (cl_5 _ _ _ _) rfl dX4_writeDate_79 rfl (Nat.le_of_ble_eq_true rfl) (by decide) ?_
    intro z79 hp79
    have o79 : ∀ i, i ≠ 22 → i ≠ 23 → z79 i = z i := fun i a b => by
      rw [← hp79, putZ_o _ _ a b, o70 i a b]
    have T79 := T_of o79 t
    have l79 := putZ_len z70 46
    rw [hp79] at l79
    refine v_aload_n hG dX4_writeDate_82 0 rfl ?_
    refine v_getf (ci := 4) (k := 5) hG iW4 f34 rfl (by decide) h0 (by decide) (cl_1 _ _ _ _) rfl dX4_writeDate_83 ?_
    refine v_aload_n hG dX4_writeDate_86 3 rfl ?_
    refine v_iload_n hG dX4_writeDate_87 2 rfl ?_
    refine v_callVi (n := 1) (ci := 3) hG (c_X3_yearOn hr hk2 (T79.1 hTT) (by omega)) gX4_writeDate_X3_yearOn rfl (by decide +kernel) rfl (by decide) hk2 (by decide) (cl_3 _ _ _ _) rfl dX4_writeDate_88 rfl (Nat.le_of_ble_eq_true rfl) (by decide) ?_
    intro v88 z88 hp88
    obtain ⟨rfl, rfl⟩ := hp88
    rw [T79.2.1, T79.2.2]
    have hyr := yr_bd (a := z (tid t) 0) (c := calT z (tid t) d) (by omega) (by omega)
    refine v_callVv (n := 1) (ci := 0) hG (c_X0_putNumber hr k_22 (by omega) (by omega)) gX4_writeDate_X0_putNumber rfl (by decide +kernel) rfl (by decide) k_22 (by decide) (cl_5 _ _ _ _) rfl dX4_writeDate_91 rfl (Nat.le_of_ble_eq_true rfl) (by decide) ?_
    intro z91 hp91
    refine v_aload_n hG dX4_writeDate_94 0 rfl ?_
    refine v_getf (ci := 4) (k := 5) hG iW4 f34 rfl (by decide) h0 (by decide) (cl_1 _ _ _ _) rfl dX4_writeDate_95 ?_
    refine v_getfN (ci := 0) (k := 1) hG iW0 f184 rfl (by decide) k_22 (by decide) (cl_5 _ _ _ _) rfl dX4_writeDate_98 ?_
    exact v_iret hG hR dX4_writeDate_101 ⟨by omega, by omega, ⟨mm46, v67, hm46, hx67, by rw [← hp91, ← hp79, ← hp70, ← hp58, ← hp49, ← hp37]; rfl⟩, rfl⟩
  refine v_aload_n hG dX4_writeDate_22 0 rfl ?_
  refine v_getf (ci := 4) (k := 5) hG iW4 f34 rfl (by decide) h0 (by decide) (cl_1 _ _ _ _) rfl dX4_writeDate_23 ?_
  refine v_iload_n hG dX4_writeDate_26 1 rfl ?_
  refine v_if_ne hG 35 (by omega) dX4_writeDate_27 (by decide) (fun h27 => ?_) (fun h27 => ?_)
  · refine v_bipush hG dX4_writeDate_35 (by decide) ?_
    exact L37 _ (by omega)
  · refine v_bipush hG dX4_writeDate_30 (by decide) ?_
    refine v_goto hG 37 dX4_writeDate_32 (by decide) ?_
    exact L37 _ (by omega)

