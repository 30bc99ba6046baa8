/-! the first world -/
def z0 : Zt := fun i j => if kd i = 3 then (if j = 0 ∧ kd (i - 1) = 2 then 1 else 0) else if kd i = 2 then (if j = 4 then 1 else if j = 5 then 2 else 0) else if kd i = 4 then (if j = 3 then -1 else if j = 1 ∨ j = 2 then 1 else 0) else if kd i = 36 then 25 + 18 * (j : Int) else if kd i = 32 then 133 + 18 * (j : Int) else if kd i = 162 then (if j = 55 then 1 else if j = 56 then 2 else 0) else 0
def mixE (r : Nat → Nat) (cA : Nat → ClassId) (E : Nat → va_E) (a m : Nat) : Nat → va_E := fun i => if a ≤ i ∧ i < a + m then Ez r cA z0 i else E i
theorem mixE_i {r : Nat → Nat} {cA : Nat → ClassId} {E : Nat → va_E} {a m i : Nat} (h : a ≤ i ∧ i < a + m) : mixE r cA E a m i = Ez r cA z0 i := if_pos h
theorem mixE_o {r : Nat → Nat} {cA : Nat → ClassId} {E : Nat → va_E} {a m i : Nat} (h : ¬ (a ≤ i ∧ i < a + m)) : mixE r cA E a m i = E i := if_neg h
theorem Ez_3 {r : Nat → Nat} {cA : Nat → ClassId} {t : Nat} (h : kd t = 3) {x : Int} (hx : x = (if kd (t - 1) = 2 then 1 else 0)) : Ez r cA z0 t = .inr (3, [.int (iN x), .ref (r (t + 1)), .ref (r (t + 2)), .int (iN 0), .int (iN 0)]) := by
  have e0 : z0 t 0 = x := by
    unfold z0
    rw [if_pos h, hx]
    by_cases q : kd (t - 1) = 2
    · simp [q]
    · simp [q]
  have e3 : z0 t 3 = 0 := by
    unfold z0
    rw [if_pos h]
    simp
  have e4 : z0 t 4 = 0 := by
    unfold z0
    rw [if_pos h]
    simp
  unfold Ez
  rw [h, cl_3, e0, e3, e4]
theorem Ez_2 {r : Nat → Nat} {cA : Nat → ClassId} {t : Nat} (h : kd t = 2) : Ez r cA z0 t = .inr (2, [.ref (r (t + 1)), .ref (r (t + 4)), .ref (r (t + 7)), .int (iN 0), .int (iN 1), .int (iN 2), .int (iN 0), .int (iN 0), .int (iN 0)]) := by
  have e : ∀ j, z0 t j = (if j = 4 then 1 else if j = 5 then 2 else 0) := fun j => by
    unfold z0
    rw [if_neg (by omega), if_pos h]
  unfold Ez
  rw [h, cl_2, e, e, e, e, e, e]
  rfl
theorem Ez_4 {r : Nat → Nat} {cA : Nat → ClassId} {t : Nat} (h : kd t = 4) : Ez r cA z0 t = .inr (1, [.int (iN 0), .int (iN 1), .int (iN 1), .int (iN (-1))]) := by
  have e : ∀ j, z0 t j = (if j = 3 then -1 else if j = 1 ∨ j = 2 then 1 else 0) := fun j => by
    unfold z0
    rw [if_neg (by omega), if_neg (by omega), if_pos h]
  unfold Ez
  rw [h, cl_4, e, e, e, e]
  rfl
theorem Ez_arr {r : Nat → Nat} {cA : Nat → ClassId} {t K : Nat} (h : kd t = K) (hK : K = 103 ∨ K = 108 ∨ K = 180 ∨ K = 114 ∨ K = 140 ∨ K = 500) : Ez r cA z0 t = .inl (cA 0, K - 100, .inl (fun _ => iN 0)) := by
  have e : z0 t = fun _ => 0 := by
    funext j
    unfold z0
    rw [if_neg (by omega), if_neg (by omega), if_neg (by omega), if_neg (by omega), if_neg (by omega), if_neg (by omega)]
  unfold Ez
  rw [h, e]
  rcases hK with q | q | q | q | q | q <;> subst q <;> rfl
theorem Ez_20 {r : Nat → Nat} {cA : Nat → ClassId} {t : Nat} (h : kd t = 20) : Ez r cA z0 t = .inl (cA 1, 2, .inl (fun _ => iN 0)) := by
  have e : z0 t = fun _ => 0 := by
    funext j
    unfold z0
    rw [if_neg (by omega), if_neg (by omega), if_neg (by omega), if_neg (by omega), if_neg (by omega), if_neg (by omega)]
  unfold Ez
  rw [h, e]
  rfl
theorem Ez_5 {r : Nat → Nat} {cA : Nat → ClassId} {t : Nat} (h : kd t = 5) : Ez r cA z0 t = .inr (0, [.ref (r 23), .int (iN 0)]) := by
  have e : z0 t 1 = 0 := by
    unfold z0
    rw [if_neg (by omega), if_neg (by omega), if_neg (by omega), if_neg (by omega), if_neg (by omega), if_neg (by omega)]
  unfold Ez
  rw [h, cl_5, e]
theorem Ez_40 {r : Nat → Nat} {cA : Nat → ClassId} {t : Nat} (h : kd t = 40) : Ez r cA z0 t = .inl (cA 3, 10, .inr (.inr (.inr (.inr (fun j => some (r (t + 1 + j))))))) := by
  unfold Ez
  rw [h]
  rfl
/-- what is born -/
def frs (c : Nat) : List Value := if c = 0 then [.null, .int (iN 0)] else if c = 1 then [.int (iN 0), .int (iN 0), .int (iN 0), .int (iN 0)] else if c = 2 then [.null, .null, .null, .int (iN 0), .int (iN 0), .int (iN 0), .int (iN 0), .int (iN 0), .int (iN 0)] else if c = 3 then [.int (iN 0), .null, .null, .int (iN 0), .int (iN 0)] else if c = 4 then [.null, .null, .int (iN 0), .null, .null, .null, .null] else [.null, .null, .int (iN 0), .null, .null, .int (iN 0), .null, .int (iN 0), .int (iN 0), .null]
theorem frs_0 : ∀ j, j < 2 → defaultValue (tyX0 j) = vp_V (frs 0) j := by
  intro j hj
  rcases (show j = 0 ∨ j = 1 by omega) with rfl | rfl <;> rfl
theorem frs_1 : ∀ j, j < 4 → defaultValue (tyX1 j) = vp_V (frs 1) j := by
  intro j hj
  rcases (show j = 0 ∨ j = 1 ∨ j = 2 ∨ j = 3 by omega) with rfl | rfl | rfl | rfl <;> rfl
theorem frs_2 : ∀ j, j < 9 → defaultValue (tyX2 j) = vp_V (frs 2) j := by
  intro j hj
  rcases (show j = 0 ∨ j = 1 ∨ j = 2 ∨ j = 3 ∨ j = 4 ∨ j = 5 ∨ j = 6 ∨ j = 7 ∨ j = 8 by omega) with rfl | rfl | rfl | rfl | rfl | rfl | rfl | rfl | rfl <;> rfl
theorem frs_3 : ∀ j, j < 5 → defaultValue (tyX3 j) = vp_V (frs 3) j := by
  intro j hj
  rcases (show j = 0 ∨ j = 1 ∨ j = 2 ∨ j = 3 ∨ j = 4 by omega) with rfl | rfl | rfl | rfl | rfl <;> rfl
theorem frs_4 : ∀ j, j < 7 → defaultValue (tyX4 j) = vp_V (frs 4) j := by
  intro j hj
  rcases (show j = 0 ∨ j = 1 ∨ j = 2 ∨ j = 3 ∨ j = 4 ∨ j = 5 ∨ j = 6 by omega) with rfl | rfl | rfl | rfl | rfl | rfl | rfl <;> rfl
theorem kS_dis {s : Nat} (h : kd s = 2) : kd (s + 1) = 3 ∧ kd (s + 4) = 3 ∧ kd (s + 7) = 40 ∧ kd (s + 3) = 103 := ⟨kS_A h, kS_B h, kS_F h, kT_L (kS_A h)⟩
set_option maxHeartbeats 4000000 in
set_option maxRecDepth 100000 in
theorem c_X1_init {l : Launch} {D : va_G} {cA : Nat → ClassId} {r : Nat → Nat} {E : Nat → va_E} {t n : Nat} (hr : Sq r) (ht : t < n) (hn : n ≤ NN) (hk : kd t = 4) (hE : E t = .inr (1, frs 1)) : KG l D cA r yX1_init wsX1_init 1 12 0 0 n E [.ref (r t)] n (mixE r cA E t 1) := by
  have iW1 : ∀ w ∈ u_ws RX1 TX1 4, w ∈ wsX1_init := by decide +kernel
  have f9 : Cond.fieldLink RX1 9 (TX1 0).1 (TX1 0).2.1 (TX1 0).2.2.1 ∈ wsX1_init := by decide +kernel
  have f15 : Cond.fieldLink RX1 15 (TX1 1).1 (TX1 1).2.1 (TX1 1).2.2.1 ∈ wsX1_init := by decide +kernel
  have f18 : Cond.fieldLink RX1 18 (TX1 2).1 (TX1 2).2.1 (TX1 2).2.2.1 ∈ wsX1_init := by decide +kernel
  have f21 : Cond.fieldLink RX1 21 (TX1 3).1 (TX1 3).2.1 (TX1 3).2.2.1 ∈ wsX1_init := by decide +kernel
  refine KG_of [(0, _)] hr (by decide) rfl rfl rfl (Nat.le_of_ble_eq_true rfl) rfl (fun Γ hG hNm hR => ?_)
  refine g_aload_n hG dX1_init_0 0 rfl ?_
  refine g_obj hG (by decide +kernel) (by decide +kernel) (by decide +kernel) (Nat.le_of_ble_eq_true rfl) (Nat.le_of_ble_eq_true rfl) dX1_init_1 ?_
  refine g_aload_n hG dX1_init_4 0 rfl ?_
  refine g_iconst hG dX1_init_5 ?_
  refine g_put (ci := 1) (k := 0) hG iW1 tyX1_ok nmX1 f9 rfl (by decide) rfl  rfl rfl rfl (by omega) (by omega) (by first | exact hE | exact va_up_s _ _ _ | exact (va_up_o (by omega)).trans (va_up_s _ _ _) | exact (va_up_o (by omega)).trans hE | exact (mixE_o (by omega)).trans ((va_up_o (by omega)).trans (va_up_s _ _ _)) | exact (mixE_o (by omega)).trans ((va_up_o (by omega)).trans hE)) (Nat.le_of_ble_eq_true rfl) dX1_init_6 ?_
  refine g_aload_n hG dX1_init_9 0 rfl ?_
  refine g_iconst hG dX1_init_10 ?_
  refine g_put (ci := 1) (k := 1) hG iW1 tyX1_ok nmX1 f15 rfl (by decide) rfl  rfl rfl rfl (by omega) (by omega) (by first | exact hE | exact va_up_s _ _ _ | exact (va_up_o (by omega)).trans (va_up_s _ _ _) | exact (va_up_o (by omega)).trans hE | exact (mixE_o (by omega)).trans ((va_up_o (by omega)).trans (va_up_s _ _ _)) | exact (mixE_o (by omega)).trans ((va_up_o (by omega)).trans hE)) (Nat.le_of_ble_eq_true rfl) dX1_init_11 ?_
  refine g_aload_n hG dX1_init_14 0 rfl ?_
  refine g_iconst hG dX1_init_15 ?_
  refine g_put (ci := 1) (k := 2) hG iW1 tyX1_ok nmX1 f18 rfl (by decide) rfl  rfl rfl rfl (by omega) (by omega) (by first | exact hE | exact va_up_s _ _ _ | exact (va_up_o (by omega)).trans (va_up_s _ _ _) | exact (va_up_o (by omega)).trans hE | exact (mixE_o (by omega)).trans ((va_up_o (by omega)).trans (va_up_s _ _ _)) | exact (mixE_o (by omega)).trans ((va_up_o (by omega)).trans hE)) (Nat.le_of_ble_eq_true rfl) dX1_init_16 ?_
  refine g_aload_n hG dX1_init_19 0 rfl ?_
  refine g_iconst hG dX1_init_20 ?_
  refine g_put (ci := 1) (k := 3) hG iW1 tyX1_ok nmX1 f21 rfl (by decide) rfl  rfl rfl rfl (by omega) (by omega) (by first | exact hE | exact va_up_s _ _ _ | exact (va_up_o (by omega)).trans (va_up_s _ _ _) | exact (va_up_o (by omega)).trans hE | exact (mixE_o (by omega)).trans ((va_up_o (by omega)).trans (va_up_s _ _ _)) | exact (mixE_o (by omega)).trans ((va_up_o (by omega)).trans hE)) (Nat.le_of_ble_eq_true rfl) dX1_init_21 ?_
  refine g_E hG (mixE r cA E t 1) ?_ ?_
  · intro i hi
    by_cases q : i = t
    · subst q
      rw [mixE_i (by omega), Ez_4 hk, va_up_s]
      exact eqE.rf _
    · rw [mixE_o (by omega), va_up_o q, va_up_o q, va_up_o q, va_up_o q]
      exact eqE.rf _
  exact g_vret hG hR dX1_init_24

set_option maxHeartbeats 4000000 in
set_option maxRecDepth 100000 in
theorem c_X0_init {l : Launch} {D : va_G} {cA : Nat → ClassId} {r : Nat → Nat} {E : Nat → va_E} {t n : Nat} (hr : Sq r) (ht : t = 22) (hn : n = t + 1) (hE : E t = .inr (0, frs 0)) : KG l D cA r yX0_init wsX0_init 1 12 1 80 n E [.ref (r t)] (n + 1) (mixE r cA E t 2) := by
  have iW0 : ∀ w ∈ u_ws RX0 TX0 2, w ∈ wsX0_init := by decide +kernel
  have f9 : Cond.fieldLink RX0 9 (TX0 0).1 (TX0 0).2.1 (TX0 0).2.2.1 ∈ wsX0_init := by decide +kernel
  have f15 : Cond.fieldLink RX0 15 (TX0 1).1 (TX0 1).2.1 (TX0 1).2.2.1 ∈ wsX0_init := by decide +kernel
  have hnn : n + 1 ≤ NN := by
    unfold NN
    omega
  refine KG_of [(0, _)] hr (by decide) rfl rfl rfl (Nat.le_of_ble_eq_true rfl) rfl (fun Γ hG hNm hR => ?_)
  refine g_aload_n hG dX0_init_0 0 rfl ?_
  refine g_obj hG (by decide +kernel) (by decide +kernel) (by decide +kernel) (Nat.le_of_ble_eq_true rfl) (Nat.le_of_ble_eq_true rfl) dX0_init_1 ?_
  refine g_aload_n hG dX0_init_4 0 rfl ?_
  refine g_bipush hG dX0_init_5 (by decide) ?_
  refine g_newaI hG (by decide +kernel) (by decide) (by first | (exact Nat.le_of_ble_eq_true rfl) | (show _ ≤ (1 : Nat); omega)) (by first | (exact Nat.le_of_ble_eq_true rfl) | (show _ ≤ (80 : Nat); omega)) dX0_init_7 ?_
  refine g_putF (ci := 0) (k := 0) hG iW0 tyX0_ok nmX0 f9 rfl (by decide) rfl hNm rfl rfl rfl rfl (by omega) (by omega) (by first | exact hE | exact va_up_s _ _ _ | exact (va_up_o (by omega)).trans (va_up_s _ _ _) | exact (va_up_o (by omega)).trans hE | exact (mixE_o (by omega)).trans ((va_up_o (by omega)).trans (va_up_s _ _ _)) | exact (mixE_o (by omega)).trans ((va_up_o (by omega)).trans hE)) (Nat.le_of_ble_eq_true rfl) dX0_init_9 ?_
  refine g_aload_n hG dX0_init_12 0 rfl ?_
  refine g_iconst hG dX0_init_13 ?_
  refine g_put (ci := 0) (k := 1) hG iW0 tyX0_ok nmX0 f15 rfl (by decide) rfl  rfl rfl rfl (by omega) (by omega) (by first | exact hE | exact va_up_s _ _ _ | exact (va_up_o (by omega)).trans (va_up_s _ _ _) | exact (va_up_o (by omega)).trans hE | exact (mixE_o (by omega)).trans ((va_up_o (by omega)).trans (va_up_s _ _ _)) | exact (mixE_o (by omega)).trans ((va_up_o (by omega)).trans hE)) (Nat.le_of_ble_eq_true rfl) dX0_init_14 ?_
  refine g_E hG (mixE r cA E t 2) ?_ ?_
  · intro i hi
    by_cases q : i = t
    · subst q
      rw [mixE_i (by omega), Ez_5 (by rw [ht]; rfl), va_up_s, hn, ht]
      exact eqE.rf _
    · by_cases q2 : i = n
      · subst q2
        rw [mixE_i (by omega), Ez_arr (K := 180) (by rw [hn, ht]; rfl) (by decide), va_up_o q, va_up_o q, va_up_s]
        exact eqE.rf _
      · rw [mixE_o (by omega), va_up_o q, va_up_o q, va_up_o q2]
        exact eqE.rf _
  exact g_vret hG hR dX0_init_17

set_option maxHeartbeats 4000000 in
set_option maxRecDepth 100000 in
theorem c_X3_init {l : Launch} {D : va_G} {cA : Nat → ClassId} {r : Nat → Nat} {E : Nat → va_E} {t n : Nat} {q : Int} (hr : Sq r) (hn : n = t + 1) (hnn : n + 2 ≤ NN) (hk : kd t = 3) (hq : (q = 0 ∧ kd (t - 1) = 2) ∨ (q = 1 ∧ kd (t - 1) ≠ 2)) (hE : E t = .inr (3, frs 3)) : KG l D cA r yX3_init wsX3_init 1 12 2 6 n E [.ref (r t), .int (iN q)] (n + 2) (mixE r cA E t 3) := by
  have iW3 : ∀ w ∈ u_ws RX3 TX3 5, w ∈ wsX3_init := by decide +kernel
  have f9 : Cond.fieldLink RX3 9 (TX3 1).1 (TX3 1).2.1 (TX3 1).2.2.1 ∈ wsX3_init := by decide +kernel
  have f15 : Cond.fieldLink RX3 15 (TX3 2).1 (TX3 2).2.1 (TX3 2).2.2.1 ∈ wsX3_init := by decide +kernel
  have f18 : Cond.fieldLink RX3 18 (TX3 3).1 (TX3 3).2.1 (TX3 3).2.2.1 ∈ wsX3_init := by decide +kernel
  have f22 : Cond.fieldLink RX3 22 (TX3 4).1 (TX3 4).2.1 (TX3 4).2.2.1 ∈ wsX3_init := by decide +kernel
  have f25 : Cond.fieldLink RX3 25 (TX3 0).1 (TX3 0).2.1 (TX3 0).2.2.1 ∈ wsX3_init := by decide +kernel
  refine KG_of [(0, _), (1, _)] hr (by decide) rfl rfl rfl (Nat.le_of_ble_eq_true rfl) rfl (fun Γ hG hNm hR => ?_)
  refine g_aload_n hG dX3_init_0 0 rfl ?_
  refine g_obj hG (by decide +kernel) (by decide +kernel) (by decide +kernel) (Nat.le_of_ble_eq_true rfl) (Nat.le_of_ble_eq_true rfl) dX3_init_1 ?_
  refine g_aload_n hG dX3_init_4 0 rfl ?_
  refine g_iconst hG dX3_init_5 ?_
  refine g_newaI hG (by decide +kernel) (by decide) (by first | (exact Nat.le_of_ble_eq_true rfl) | (show _ ≤ (2 : Nat); omega)) (by first | (exact Nat.le_of_ble_eq_true rfl) | (show _ ≤ (6 : Nat); omega)) dX3_init_6 ?_
  refine g_putF (ci := 3) (k := 1) hG iW3 tyX3_ok nmX3 f9 rfl (by decide) rfl hNm rfl rfl rfl rfl (by omega) (by omega) (by first | exact hE | exact va_up_s _ _ _ | exact (va_up_o (by omega)).trans (va_up_s _ _ _) | exact (va_up_o (by omega)).trans hE | exact (mixE_o (by omega)).trans ((va_up_o (by omega)).trans (va_up_s _ _ _)) | exact (mixE_o (by omega)).trans ((va_up_o (by omega)).trans hE)) (Nat.le_of_ble_eq_true rfl) dX3_init_8 ?_
  refine g_aload_n hG dX3_init_11 0 rfl ?_
  refine g_iconst hG dX3_init_12 ?_
  refine g_newaI hG (by decide +kernel) (by decide) (by first | (exact Nat.le_of_ble_eq_true rfl) | (show _ ≤ (2 : Nat); omega)) (by first | (exact Nat.le_of_ble_eq_true rfl) | (show _ ≤ (6 : Nat); omega)) dX3_init_13 ?_
  refine g_putF (ci := 3) (k := 2) hG iW3 tyX3_ok nmX3 f15 rfl (by decide) rfl hNm rfl rfl rfl rfl (by omega) (by omega) (by first | exact hE | exact va_up_s _ _ _ | exact (va_up_o (by omega)).trans (va_up_s _ _ _) | exact (va_up_o (by omega)).trans hE | exact (mixE_o (by omega)).trans ((va_up_o (by omega)).trans (va_up_s _ _ _)) | exact (mixE_o (by omega)).trans ((va_up_o (by omega)).trans hE)) (Nat.le_of_ble_eq_true rfl) dX3_init_15 ?_
  refine g_aload_n hG dX3_init_18 0 rfl ?_
  refine g_iconst hG dX3_init_19 ?_
  refine g_put (ci := 3) (k := 3) hG iW3 tyX3_ok nmX3 f18 rfl (by decide) rfl  rfl rfl rfl (by omega) (by omega) (by first | exact hE | exact va_up_s _ _ _ | exact (va_up_o (by omega)).trans (va_up_s _ _ _) | exact (va_up_o (by omega)).trans hE | exact (mixE_o (by omega)).trans ((va_up_o (by omega)).trans (va_up_s _ _ _)) | exact (mixE_o (by omega)).trans ((va_up_o (by omega)).trans hE)) (Nat.le_of_ble_eq_true rfl) dX3_init_20 ?_
  refine g_aload_n hG dX3_init_23 0 rfl ?_
  refine g_iconst hG dX3_init_24 ?_
  refine g_put (ci := 3) (k := 4) hG iW3 tyX3_ok nmX3 f22 rfl (by decide) rfl  rfl rfl rfl (by omega) (by omega) (by first | exact hE | exact va_up_s _ _ _ | exact (va_up_o (by omega)).trans (va_up_s _ _ _) | exact (va_up_o (by omega)).trans hE | exact (mixE_o (by omega)).trans ((va_up_o (by omega)).trans (va_up_s _ _ _)) | exact (mixE_o (by omega)).trans ((va_up_o (by omega)).trans hE)) (Nat.le_of_ble_eq_true rfl) dX3_init_25 ?_
  refine g_aload_n hG dX3_init_28 0 rfl ?_
  refine g_iload_n hG dX3_init_29 1 rfl ?_
  refine g_if_ne hG 37 (by omega) dX3_init_30 (by decide) (fun h30 => ?_) (fun h30 => ?_)
  · refine g_iconst hG dX3_init_37 ?_
    refine g_putF (ci := 3) (k := 0) hG iW3 tyX3_ok nmX3 f25 rfl (by decide) rfl hNm rfl rfl (nar01 (Or.inl rfl)) rfl (by omega) (by omega) (by first | exact hE | exact va_up_s _ _ _ | exact (va_up_o (by omega)).trans (va_up_s _ _ _) | exact (va_up_o (by omega)).trans hE | exact (mixE_o (by omega)).trans ((va_up_o (by omega)).trans (va_up_s _ _ _)) | exact (mixE_o (by omega)).trans ((va_up_o (by omega)).trans hE)) (Nat.le_of_ble_eq_true rfl) dX3_init_38 ?_
    refine g_E hG (mixE r cA E t 3) ?_ ?_
    · intro i hi
      by_cases q1 : i = t
      · subst q1
        rw [mixE_i (by omega), Ez_3 hk (x := 0) (by first | (rw [if_pos (by omega)]) | (rw [if_neg (by omega)])), va_up_s, hn]
        exact eqE.rf _
      · by_cases q2 : i = n
        · rw [mixE_i (by omega), q2, Ez_arr (K := 103) (by rw [hn]; exact kT_D hk) (by decide), va_up_o (by omega), va_up_o (by omega), va_up_o (by omega), va_up_o (by omega), va_up_o (by omega), va_up_o (by omega), va_up_s]
          exact eqE.rf _
        · by_cases q3 : i = n + 1
          · rw [mixE_i (by omega), q3, Ez_arr (K := 103) (by rw [hn]; exact kT_L hk) (by decide), va_up_o (by omega), va_up_o (by omega), va_up_o (by omega), va_up_o (by omega), va_up_s]
            exact eqE.rf _
          · rw [mixE_o (by omega), va_up_o q1, va_up_o q1, va_up_o q1, va_up_o q1, va_up_o q3, va_up_o q1, va_up_o q2]
            exact eqE.rf _
    exact g_vret hG hR dX3_init_41
  · refine g_iconst hG dX3_init_33 ?_
    refine g_goto hG 38 dX3_init_34 (by decide) ?_
    refine g_putF (ci := 3) (k := 0) hG iW3 tyX3_ok nmX3 f25 rfl (by decide) rfl hNm rfl rfl (nar01 (Or.inr rfl)) rfl (by omega) (by omega) (by first | exact hE | exact va_up_s _ _ _ | exact (va_up_o (by omega)).trans (va_up_s _ _ _) | exact (va_up_o (by omega)).trans hE | exact (mixE_o (by omega)).trans ((va_up_o (by omega)).trans (va_up_s _ _ _)) | exact (mixE_o (by omega)).trans ((va_up_o (by omega)).trans hE)) (Nat.le_of_ble_eq_true rfl) dX3_init_38 ?_
    refine g_E hG (mixE r cA E t 3) ?_ ?_
    · intro i hi
      by_cases q1 : i = t
      · subst q1
        rw [mixE_i (by omega), Ez_3 hk (x := 1) (by first | (rw [if_pos (by omega)]) | (rw [if_neg (by omega)])), va_up_s, hn]
        exact eqE.rf _
      · by_cases q2 : i = n
        · rw [mixE_i (by omega), q2, Ez_arr (K := 103) (by rw [hn]; exact kT_D hk) (by decide), va_up_o (by omega), va_up_o (by omega), va_up_o (by omega), va_up_o (by omega), va_up_o (by omega), va_up_o (by omega), va_up_s]
          exact eqE.rf _
        · by_cases q3 : i = n + 1
          · rw [mixE_i (by omega), q3, Ez_arr (K := 103) (by rw [hn]; exact kT_L hk) (by decide), va_up_o (by omega), va_up_o (by omega), va_up_o (by omega), va_up_o (by omega), va_up_s]
            exact eqE.rf _
          · rw [mixE_o (by omega), va_up_o q1, va_up_o q1, va_up_o q1, va_up_o q1, va_up_o q3, va_up_o q1, va_up_o q2]
            exact eqE.rf _
    exact g_vret hG hR dX3_init_41
