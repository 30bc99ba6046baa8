def lvZ (z : Zt) (t : Nat) (a q : Int) : Zt := zup (zup (zup z (t + 1) (z t 3).toNat a) (t + 2) (z t 3).toNat q) t 3 (z t 3 + 1)
def pfZ (z : Zt) (s : Nat) (tn m d : Int) : Zt := zup (zup (zup (zup (zup z (s + 7 + 1 + (z s 3).toNat) 0 tn) (s + 7 + 1 + (z s 3).toNat) 1 m) (s + 7 + 1 + (z s 3).toNat) 2 d) (s + 7 + 1 + (z s 3).toNat) 3 (-1)) s 3 (z s 3 + 1)
set_option maxHeartbeats 4000000 in
set_option maxRecDepth 100000 in
theorem c_J6_bitCount_0f7a4 {l : Launch} {D : va_G} {cA : Nat → ClassId} {r : Nat → Nat} {z : Zt} {v : Int} {Q : Nat → Prop} (hr : Inj r) (hv : isSet Q v) : Ki l D cA r yJ6_bitCount_0f7a4 wsJ6_bitCount_0f7a4 0 0 z [.int (iN v)] (fun x z1 => z = z1 ∧ x = cntP Q 10) := by
  refine Ki_of [(0, _)] hr (by decide) rfl rfl (Nat.le_of_ble_eq_true rfl) rfl (fun Γ hG hR => ?_)
  refine v_iload_n hG dJ6_bitCount_0f7a4_0 0 rfl ?_
  refine v_iload_n hG dJ6_bitCount_0f7a4_1 0 rfl ?_
  refine v_iconst hG dJ6_bitCount_0f7a4_2 ?_
  refine v_iushr0 hG dJ6_bitCount_0f7a4_3 ?_
  refine v_ldcw (v := 1431655765) hG (by decide +kernel) dJ6_bitCount_0f7a4_4 ?_
  refine v_iand0 hG dJ6_bitCount_0f7a4_7 ?_
  refine v_isub0 hG dJ6_bitCount_0f7a4_8 ?_
  refine v_istore_n hG [(0, _)] dJ6_bitCount_0f7a4_9 (by decide) rfl ?_
  refine v_iload_n hG dJ6_bitCount_0f7a4_10 0 rfl ?_
  refine v_ldcw (v := 858993459) hG (by decide +kernel) dJ6_bitCount_0f7a4_11 ?_
  refine v_iand0 hG dJ6_bitCount_0f7a4_14 ?_
  refine v_iload_n hG dJ6_bitCount_0f7a4_15 0 rfl ?_
  refine v_iconst hG dJ6_bitCount_0f7a4_16 ?_
  refine v_iushr0 hG dJ6_bitCount_0f7a4_17 ?_
  refine v_ldcw (v := 858993459) hG (by decide +kernel) dJ6_bitCount_0f7a4_18 ?_
  refine v_iand0 hG dJ6_bitCount_0f7a4_21 ?_
  refine v_iadd0 hG dJ6_bitCount_0f7a4_22 ?_
  refine v_istore_n hG [(0, _)] dJ6_bitCount_0f7a4_23 (by decide) rfl ?_
  refine v_iload_n hG dJ6_bitCount_0f7a4_24 0 rfl ?_
  refine v_iload_n hG dJ6_bitCount_0f7a4_25 0 rfl ?_
  refine v_iconst hG dJ6_bitCount_0f7a4_26 ?_
  refine v_iushr0 hG dJ6_bitCount_0f7a4_27 ?_
  refine v_iadd0 hG dJ6_bitCount_0f7a4_28 ?_
  refine v_ldcw (v := 252645135) hG (by decide +kernel) dJ6_bitCount_0f7a4_29 ?_
  refine v_iand0 hG dJ6_bitCount_0f7a4_32 ?_
  refine v_istore_n hG [(0, _)] dJ6_bitCount_0f7a4_33 (by decide) rfl ?_
  refine v_iload_n hG dJ6_bitCount_0f7a4_34 0 rfl ?_
  refine v_iload_n hG dJ6_bitCount_0f7a4_35 0 rfl ?_
  refine v_bipush hG dJ6_bitCount_0f7a4_36 (by decide) ?_
  refine v_iushr0 hG dJ6_bitCount_0f7a4_38 ?_
  refine v_iadd0 hG dJ6_bitCount_0f7a4_39 ?_
  refine v_istore_n hG [(0, _)] dJ6_bitCount_0f7a4_40 (by decide) rfl ?_
  refine v_iload_n hG dJ6_bitCount_0f7a4_41 0 rfl ?_
  refine v_iload_n hG dJ6_bitCount_0f7a4_42 0 rfl ?_
  refine v_bipush hG dJ6_bitCount_0f7a4_43 (by decide) ?_
  refine v_iushr0 hG dJ6_bitCount_0f7a4_45 ?_
  refine v_iadd0 hG dJ6_bitCount_0f7a4_46 ?_
  refine v_istore_n hG [(0, _)] dJ6_bitCount_0f7a4_47 (by decide) rfl ?_
  refine v_iload_n hG dJ6_bitCount_0f7a4_48 0 rfl ?_
  refine v_bipush hG dJ6_bitCount_0f7a4_49 (by decide) ?_
  refine v_iand0 hG dJ6_bitCount_0f7a4_51 ?_
  refine v_eqi hG (bc_ok hv) ?_
  exact v_iret hG hR dJ6_bitCount_0f7a4_52 ⟨rfl, rfl⟩

set_option maxHeartbeats 4000000 in
set_option maxRecDepth 100000 in
theorem c_X1_copyFrom {l : Launch} {D : va_G} {cA : Nat → ClassId} {r : Nat → Nat} {z : Zt} {f g : Nat} (hr : Inj r) (hf : kd f = 4) (hg : kd g = 4) (hne : g ≠ f) : Kv l D cA r yX1_copyFrom wsX1_copyFrom 0 0 z [.ref (r f), .ref (r g)] (fun z1 => cpy z f g = z1) := by
  have iW1 : ∀ w ∈ u_ws RX1 TX1 4, w ∈ wsX1_copyFrom := by decide +kernel
  have f9 : Cond.fieldLink RX1 9 (TX1 0).1 (TX1 0).2.1 (TX1 0).2.2.1 ∈ wsX1_copyFrom := by decide +kernel
  have f15 : Cond.fieldLink RX1 15 (TX1 1).1 (TX1 1).2.1 (TX1 1).2.2.1 ∈ wsX1_copyFrom := by decide +kernel
  have f18 : Cond.fieldLink RX1 18 (TX1 2).1 (TX1 2).2.1 (TX1 2).2.2.1 ∈ wsX1_copyFrom := by decide +kernel
  have f21 : Cond.fieldLink RX1 21 (TX1 3).1 (TX1 3).2.1 (TX1 3).2.2.1 ∈ wsX1_copyFrom := by decide +kernel
  refine Kv_of [(0, _), (1, _)] hr (by decide) rfl rfl (Nat.le_of_ble_eq_true rfl) rfl (fun Γ hG hR => ?_)
  refine v_aload_n hG dX1_copyFrom_0 0 rfl ?_
  refine v_aload_n hG dX1_copyFrom_1 1 rfl ?_
  refine v_getf (ci := 1) (k := 0) hG iW1 f9 rfl (by decide) hg (by decide) (cl_4 _ _ _ _) rfl dX1_copyFrom_2 ?_
  refine v_putf (ci := 1) (k := 0) hG iW1 tyX1_ok nmX1 f9 rfl (by decide) rfl rfl hf (by decide) (cl_4 _ _ _ _) (Nat.le_of_ble_eq_true rfl) rfl dX1_copyFrom_5 ?_
  refine v_aload_n hG dX1_copyFrom_8 0 rfl ?_
  refine v_aload_n hG dX1_copyFrom_9 1 rfl ?_
  refine v_getf (ci := 1) (k := 1) hG iW1 f15 rfl (by decide) hg (by decide) (cl_4 _ _ _ _) rfl dX1_copyFrom_10 ?_
  refine v_putf (ci := 1) (k := 1) hG iW1 tyX1_ok nmX1 f15 rfl (by decide) rfl rfl hf (by decide) (cl_4 _ _ _ _) (Nat.le_of_ble_eq_true rfl) rfl dX1_copyFrom_13 ?_
  refine v_aload_n hG dX1_copyFrom_16 0 rfl ?_
  refine v_aload_n hG dX1_copyFrom_17 1 rfl ?_
  refine v_getf (ci := 1) (k := 2) hG iW1 f18 rfl (by decide) hg (by decide) (cl_4 _ _ _ _) rfl dX1_copyFrom_18 ?_
  refine v_putf (ci := 1) (k := 2) hG iW1 tyX1_ok nmX1 f18 rfl (by decide) rfl rfl hf (by decide) (cl_4 _ _ _ _) (Nat.le_of_ble_eq_true rfl) rfl dX1_copyFrom_21 ?_
  refine v_aload_n hG dX1_copyFrom_24 0 rfl ?_
  refine v_aload_n hG dX1_copyFrom_25 1 rfl ?_
  refine v_getf (ci := 1) (k := 3) hG iW1 f21 rfl (by decide) hg (by decide) (cl_4 _ _ _ _) rfl dX1_copyFrom_26 ?_
  refine v_putf (ci := 1) (k := 3) hG iW1 tyX1_ok nmX1 f21 rfl (by decide) rfl rfl hf (by decide) (cl_4 _ _ _ _) (Nat.le_of_ble_eq_true rfl) rfl dX1_copyFrom_29 ?_
  refine v_re hG (cpy z f g) ?_ ?_
  · intro i j _ hj
    unfold cpy
    by_cases q : i = f
    · subst q
      rw [if_pos rfl]
      rw [hf] at hj
      have hj4 : j < 4 := by simpa [ksz] using hj
      rcases (show j = 0 ∨ j = 1 ∨ j = 2 ∨ j = 3 by omega) with rfl | rfl | rfl | rfl <;> simp [zup, hne]
    · rw [if_neg q]
      simp [zup, q]
  exact v_vret hG hR dX1_copyFrom_32 rfl

set_option maxHeartbeats 4000000 in
set_option maxRecDepth 100000 in
theorem c_X3_copyFrom {l : Launch} {D : va_G} {cA : Nat → ClassId} {r : Nat → Nat} {z : Zt} {t u : Nat} (hr : Inj r) (ht : kd t = 3) (hu : kd u = 3) (hne : u ≠ t) (h00 : z t 0 = z u 0) : Kv l D cA r yX3_copyFrom wsX3_copyFrom 0 0 z [.ref (r t), .ref (r u)] (fun z1 => cpT z t u = z1) := by
  have iW3 : ∀ w ∈ u_ws RX3 TX3 5, w ∈ wsX3_copyFrom := by decide +kernel
  have f9 : Cond.fieldLink RX3 9 (TX3 1).1 (TX3 1).2.1 (TX3 1).2.2.1 ∈ wsX3_copyFrom := by decide +kernel
  have f15 : Cond.fieldLink RX3 15 (TX3 2).1 (TX3 2).2.1 (TX3 2).2.2.1 ∈ wsX3_copyFrom := by decide +kernel
  have f18 : Cond.fieldLink RX3 18 (TX3 3).1 (TX3 3).2.1 (TX3 3).2.2.1 ∈ wsX3_copyFrom := by decide +kernel
  have f22 : Cond.fieldLink RX3 22 (TX3 4).1 (TX3 4).2.1 (TX3 4).2.2.1 ∈ wsX3_copyFrom := by decide +kernel
  obtain ⟨n1, n2, n3, n4⟩ := TT_ne ht hu
  refine Kv_of [(0, _), (1, _)] hr (by decide) rfl rfl (Nat.le_of_ble_eq_true rfl) rfl (fun Γ hG hR => ?_)
  refine v_iconst hG dX3_copyFrom_0 ?_
  refine v_istore_n hG [(0, _), (1, _), (2, _)] dX3_copyFrom_1 (by decide) rfl ?_
  have L2 : ∀ (n : Nat), ∀ (x2 : Int) (z1 : Zt), (0 ≤ x2 ∧ x2 ≤ 3 ∧ (∀ a, a ≠ t + 1 → a ≠ t + 2 → z1 a = z a) ∧ ∀ j : Nat, (j : Int) < x2 → z1 (t + 1) j = z (u + 1) j ∧ z1 (t + 2) j = z (u + 2) j) → (3 - x2 + 1).toNat ≤ n → V Γ z1 0 0 [(0, .ref (r t)), (1, .ref (r u)), (2, .int (iN x2))] 2 [] := by
    intro n
    induction n with
    | zero =>
      intro x2 z1 hI hm
      obtain ⟨i1, i2, i3v, i4⟩ := hI
      exact absurd hm (by omega)
    | succ n ih2 =>
      intro x2 z1 hI hm
      obtain ⟨i1, i2, i3v, i4⟩ := hI
      refine v_iload_n hG dX3_copyFrom_2 2 rfl ?_
      refine v_iconst hG dX3_copyFrom_3 ?_
      refine v_icmp_ge hG 37 (by omega) (by omega) dX3_copyFrom_4 (by decide) (fun h4 => ?_) (fun h4 => ?_)
      · refine v_aload_n hG dX3_copyFrom_37 0 rfl ?_
        refine v_aload_n hG dX3_copyFrom_38 1 rfl ?_
        refine v_getf (ci := 3) (k := 3) hG iW3 f18 rfl (by decide) hu (by decide) (cl_3 _ _ _ _) rfl dX3_copyFrom_39 ?_
        refine v_putf (ci := 3) (k := 3) hG iW3 tyX3_ok nmX3 f18 rfl (by decide) rfl rfl ht (by decide) (cl_3 _ _ _ _) (Nat.le_of_ble_eq_true rfl) rfl dX3_copyFrom_42 ?_
        refine v_aload_n hG dX3_copyFrom_45 0 rfl ?_
        refine v_aload_n hG dX3_copyFrom_46 1 rfl ?_
        refine v_getf (ci := 3) (k := 4) hG iW3 f22 rfl (by decide) hu (by decide) (cl_3 _ _ _ _) rfl dX3_copyFrom_47 ?_
        refine v_putf (ci := 3) (k := 4) hG iW3 tyX3_ok nmX3 f22 rfl (by decide) rfl rfl ht (by decide) (cl_3 _ _ _ _) (Nat.le_of_ble_eq_true rfl) rfl dX3_copyFrom_50 ?_
        refine v_re hG (cpT z t u) ?_ ?_
        · intro i j _ hj
          unfold cpT
          rcases Classical.em (t = i) with rfl | q0
          · rw [if_pos rfl]
            rw [ht] at hj
            have hj4 : j = 0 ∨ j = 3 ∨ j = 4 := by simpa [ksz] using hj
            rcases hj4 with rfl | rfl | rfl
            · simp [zup, i3v t (by omega) (by omega), h00]
            · simp [zup, i3v u n1 n2]
            · simp [zup, hne, i3v u n1 n2]
          · have q : ¬ i = t := fun e => q0 e.symm
            rw [if_neg q]
            by_cases q1 : i = t + 1
            · subst q1
              rw [if_pos rfl]
              rw [kT_D ht] at hj
              have hj4 : j < 3 := by simpa [ksz] using hj
              simp [zup, (i4 j (by omega)).1]
            · rw [if_neg q1]
              by_cases q2 : i = t + 2
              · subst q2
                rw [if_pos rfl]
                rw [kT_L ht] at hj
                have hj4 : j < 3 := by simpa [ksz] using hj
                simp [zup, (i4 j (by omega)).2]
              · rw [if_neg q2]
                simp [zup, q, i3v i q1 q2]
        exact v_vret hG hR dX3_copyFrom_53 rfl
      · refine v_aload_n hG dX3_copyFrom_7 0 rfl ?_
        refine v_getf (ci := 3) (k := 1) hG iW3 f9 rfl (by decide) ht (by decide) (cl_3 _ _ _ _) rfl dX3_copyFrom_8 ?_
        refine v_iload_n hG dX3_copyFrom_11 2 rfl ?_
        refine v_aload_n hG dX3_copyFrom_12 1 rfl ?_
        refine v_getf (ci := 3) (k := 1) hG iW3 f9 rfl (by decide) hu (by decide) (cl_3 _ _ _ _) rfl dX3_copyFrom_13 ?_
        refine v_iload_n hG dX3_copyFrom_16 2 rfl ?_
        refine v_iald hG (kT_D hu) (by decide) (cl_103 _ _ _ _) (by decide) (by omega) dX3_copyFrom_17 ?_
        refine v_iast hG (kT_D ht) (by decide) (cl_103 _ _ _) (by decide) (by omega) dX3_copyFrom_18 ?_
        refine v_aload_n hG dX3_copyFrom_19 0 rfl ?_
        refine v_getf (ci := 3) (k := 2) hG iW3 f15 rfl (by decide) ht (by decide) (cl_3 _ _ _ _) rfl dX3_copyFrom_20 ?_
        refine v_iload_n hG dX3_copyFrom_23 2 rfl ?_
        refine v_aload_n hG dX3_copyFrom_24 1 rfl ?_
        refine v_getf (ci := 3) (k := 2) hG iW3 f15 rfl (by decide) hu (by decide) (cl_3 _ _ _ _) rfl dX3_copyFrom_25 ?_
        refine v_iload_n hG dX3_copyFrom_28 2 rfl ?_
        refine v_iald hG (kT_L hu) (by decide) (cl_103 _ _ _ _) (by decide) (by omega) dX3_copyFrom_29 ?_
        refine v_iast hG (kT_L ht) (by decide) (cl_103 _ _ _) (by decide) (by omega) dX3_copyFrom_30 ?_
        refine v_iinc hG [(0, _), (1, _), (2, _)] dX3_copyFrom_31 2 rfl (by decide) rfl ?_
        refine v_goto hG 2 dX3_copyFrom_34 (by decide) ?_
        refine ih2 _ _ ?_ (by omega)
        refine ⟨by omega, by omega, fun a b1 b2 => ?_, fun j hj => ?_⟩
        · simp only [zup, if_neg b1, if_neg b2]
          exact i3v a b1 b2
        · by_cases q : j = x2.toNat
          · subst q
            simp only [zup, if_pos, show ¬ (t + 1 = t + 2) by omega, show ¬ (u + 2 = t + 1) by omega, if_false]
            rw [i3v (u + 1) (by omega) (by omega), i3v (u + 2) (by omega) (by omega)]
            exact ⟨rfl, rfl⟩
          · have h9 := i4 j (by omega)
            simp only [zup, if_pos, show ¬ (t + 1 = t + 2) by omega, show ¬ (t + 2 = t + 1) by omega, if_false, if_neg q]
            exact h9
  exact L2 _ _ _ ⟨by omega, by omega, fun _ _ _ => rfl, fun j hj => by omega⟩ (Nat.le_refl _)

set_option maxHeartbeats 4000000 in
set_option maxRecDepth 100000 in
theorem c_X3_leaveOut {l : Launch} {D : va_G} {cA : Nat → ClassId} {r : Nat → Nat} {z : Zt} {t : Nat} {a q : Int} (hr : Inj r) (ht : kd t = 3) (hg : 0 ≤ z t 3 ∧ z t 3 < 3) : Ki l D cA r yX3_leaveOut wsX3_leaveOut 0 0 z [.ref (r t), .int (iN a), .int (iN q)] (fun x z1 => lvZ z t a q = z1 ∧ x = z t 3 + 1) := by
  have iW3 : ∀ w ∈ u_ws RX3 TX3 5, w ∈ wsX3_leaveOut := by decide +kernel
  have f9 : Cond.fieldLink RX3 9 (TX3 1).1 (TX3 1).2.1 (TX3 1).2.2.1 ∈ wsX3_leaveOut := by decide +kernel
  have f15 : Cond.fieldLink RX3 15 (TX3 2).1 (TX3 2).2.1 (TX3 2).2.2.1 ∈ wsX3_leaveOut := by decide +kernel
  have f18 : Cond.fieldLink RX3 18 (TX3 3).1 (TX3 3).2.1 (TX3 3).2.2.1 ∈ wsX3_leaveOut := by decide +kernel
  have n1 : t ≠ t + 1 := by omega
  have n2 : t ≠ t + 2 := by omega
  have n3 : t + 1 ≠ t + 2 := by omega
  refine Ki_of [(0, _), (1, _), (2, _)] hr (by decide) rfl rfl (Nat.le_of_ble_eq_true rfl) rfl (fun Γ hG hR => ?_)
  refine v_aload_n hG dX3_leaveOut_0 0 rfl ?_
  refine v_getf (ci := 3) (k := 3) hG iW3 f18 rfl (by decide) ht (by decide) (cl_3 _ _ _ _) rfl dX3_leaveOut_1 ?_
  refine v_iconst hG dX3_leaveOut_4 ?_
  refine v_icmp_ge hG 38 (by omega) (by omega) dX3_leaveOut_5 (by decide) (fun h5 => ?_) (fun h5 => ?_)
  · exfalso; omega
  · refine v_aload_n hG dX3_leaveOut_8 0 rfl ?_
    refine v_getf (ci := 3) (k := 1) hG iW3 f9 rfl (by decide) ht (by decide) (cl_3 _ _ _ _) rfl dX3_leaveOut_9 ?_
    refine v_aload_n hG dX3_leaveOut_12 0 rfl ?_
    refine v_getf (ci := 3) (k := 3) hG iW3 f18 rfl (by decide) ht (by decide) (cl_3 _ _ _ _) rfl dX3_leaveOut_13 ?_
    have e1 : z t 3 = z t 3 := rfl
    refine v_iload_n hG dX3_leaveOut_16 1 rfl ?_
    refine v_iast hG (kT_D ht) (by decide) (cl_103 _ _ _) (by decide) (by omega) dX3_leaveOut_17 ?_
    refine v_aload_n hG dX3_leaveOut_18 0 rfl ?_
    refine v_getf (ci := 3) (k := 2) hG iW3 f15 rfl (by decide) ht (by decide) (cl_3 _ _ _ _) rfl dX3_leaveOut_19 ?_
    refine v_aload_n hG dX3_leaveOut_22 0 rfl ?_
    refine v_getf (ci := 3) (k := 3) hG iW3 f18 rfl (by decide) ht (by decide) (cl_3 _ _ _ _) rfl dX3_leaveOut_23 ?_
    rw [show zup z (t + 1) (z t 3).toNat a t 3 = z t 3 by simp [zup]]
    refine v_iload_n hG dX3_leaveOut_26 2 rfl ?_
    refine v_iast hG (kT_L ht) (by decide) (cl_103 _ _ _) (by decide) (by omega) dX3_leaveOut_27 ?_
    refine v_aload_n hG dX3_leaveOut_28 0 rfl ?_
    refine v_dup hG dX3_leaveOut_29 rfl ?_
    refine v_getf (ci := 3) (k := 3) hG iW3 f18 rfl (by decide) ht (by decide) (cl_3 _ _ _ _) rfl dX3_leaveOut_30 ?_
    rw [show zup (zup z (t + 1) (z t 3).toNat a) (t + 2) (z t 3).toNat q t 3 = z t 3 by simp [zup]]
    refine v_iconst hG dX3_leaveOut_33 ?_
    refine v_iadd hG dX3_leaveOut_34 ?_
    refine v_putf (ci := 3) (k := 3) hG iW3 tyX3_ok nmX3 f18 rfl (by decide) rfl rfl ht (by decide) (cl_3 _ _ _ _) (Nat.le_of_ble_eq_true rfl) rfl dX3_leaveOut_35 ?_
    refine v_aload_n hG dX3_leaveOut_38 0 rfl ?_
    refine v_getf (ci := 3) (k := 3) hG iW3 f18 rfl (by decide) ht (by decide) (cl_3 _ _ _ _) rfl dX3_leaveOut_39 ?_
    rw [zup_s]
    exact v_iret hG hR dX3_leaveOut_42 ⟨rfl, rfl⟩

set_option maxHeartbeats 4000000 in
set_option maxRecDepth 100000 in
theorem c_X2_putFeast {l : Launch} {D : va_G} {cA : Nat → ClassId} {r : Nat → Nat} {z : Zt} {s : Nat} {tn m d : Int} (hr : Inj r) (hs : kd s = 2) (hg : 0 ≤ z s 3 ∧ z s 3 < 10) : Ki l D cA r yX2_putFeast wsX2_putFeast 0 0 z [.ref (r s), .int (iN tn), .int (iN m), .int (iN d)] (fun x z1 => pfZ z s tn m d = z1 ∧ x = z s 3) := by
  have iW1 : ∀ w ∈ u_ws RX1 TX1 4, w ∈ wsX2_putFeast := by decide +kernel
  have iW2 : ∀ w ∈ u_ws RX2 TX2 9, w ∈ wsX2_putFeast := by decide +kernel
  have f25 : Cond.fieldLink RX2 25 (TX2 2).1 (TX2 2).2.1 (TX2 2).2.2.1 ∈ wsX2_putFeast := by decide +kernel
  have f29 : Cond.fieldLink RX2 29 (TX2 3).1 (TX2 3).2.1 (TX2 3).2.2.1 ∈ wsX2_putFeast := by decide +kernel
  have f56 : Cond.fieldLinkNest RX2 56 (TX1 0).1 (TX1 0).2.1 (TX1 0).2.2.1 "TwoTownAlmanac" ∈ nwF := by decide +kernel
  have f59 : Cond.fieldLinkNest RX2 59 (TX1 1).1 (TX1 1).2.1 (TX1 1).2.2.1 "TwoTownAlmanac" ∈ nwF := by decide +kernel
  have f62 : Cond.fieldLinkNest RX2 62 (TX1 2).1 (TX1 2).2.1 (TX1 2).2.2.1 "TwoTownAlmanac" ∈ nwF := by decide +kernel
  have f65 : Cond.fieldLinkNest RX2 65 (TX1 3).1 (TX1 3).2.1 (TX1 3).2.2.1 "TwoTownAlmanac" ∈ nwF := by decide +kernel
  have hf : kd (s + 7 + 1 + (z s 3).toNat) = 4 := kF_f (kS_F hs) (by omega)
  have n1 : ¬ s = s + 7 + 1 + (z s 3).toNat := by omega
  refine Ki_of [(0, _), (1, _), (2, _), (3, _)] hr (by decide) rfl rfl (Nat.le_of_ble_eq_true rfl) rfl (fun Γ hG hR => ?_)
  refine v_aload_n hG dX2_putFeast_0 0 rfl ?_
  refine v_getf (ci := 2) (k := 3) hG iW2 f29 rfl (by decide) hs (by decide) (cl_2 _ _ _ _) rfl dX2_putFeast_1 ?_
  refine v_istore hG [(0, _), (1, _), (2, _), (3, _), (4, _)] dX2_putFeast_4 (by decide) rfl ?_
  refine v_iload hG dX2_putFeast_6 4 rfl ?_
  refine v_bipush hG dX2_putFeast_8 (by decide) ?_
  refine v_icmp_ge hG 56 (by omega) (by omega) dX2_putFeast_10 (by decide) (fun h10 => ?_) (fun h10 => ?_)
  · exfalso; omega
  · refine v_aload_n hG dX2_putFeast_13 0 rfl ?_
    refine v_getf (ci := 2) (k := 2) hG iW2 f25 rfl (by decide) hs (by decide) (cl_2 _ _ _ _) rfl dX2_putFeast_14 ?_
    refine v_iload hG dX2_putFeast_17 4 rfl ?_
    refine v_aaldF hG (kS_F hs) (by omega) dX2_putFeast_19 ?_
    refine v_astore hG [(0, _), (1, _), (2, _), (3, _), (4, _), (5, _)] dX2_putFeast_20 (by decide) rfl ?_
    refine v_aload hG dX2_putFeast_22 5 rfl ?_
    refine v_iload_n hG dX2_putFeast_24 1 rfl ?_
    refine v_putfN (ci := 1) (k := 0) hG iW1 tyX1_ok nmX1 f56 rfl (by decide) rfl rfl (kF_f (kS_F hs) (by omega)) (by decide) (cl_4 _ _ _ _) (Nat.le_of_ble_eq_true rfl) rfl dX2_putFeast_25 ?_
    refine v_aload hG dX2_putFeast_28 5 rfl ?_
    refine v_iload_n hG dX2_putFeast_30 2 rfl ?_
    refine v_putfN (ci := 1) (k := 1) hG iW1 tyX1_ok nmX1 f59 rfl (by decide) rfl rfl (kF_f (kS_F hs) (by omega)) (by decide) (cl_4 _ _ _ _) (Nat.le_of_ble_eq_true rfl) rfl dX2_putFeast_31 ?_
    refine v_aload hG dX2_putFeast_34 5 rfl ?_
    refine v_iload_n hG dX2_putFeast_36 3 rfl ?_
    refine v_putfN (ci := 1) (k := 2) hG iW1 tyX1_ok nmX1 f62 rfl (by decide) rfl rfl (kF_f (kS_F hs) (by omega)) (by decide) (cl_4 _ _ _ _) (Nat.le_of_ble_eq_true rfl) rfl dX2_putFeast_37 ?_
    refine v_aload hG dX2_putFeast_40 5 rfl ?_
    refine v_iconst hG dX2_putFeast_42 ?_
    refine v_putfN (ci := 1) (k := 3) hG iW1 tyX1_ok nmX1 f65 rfl (by decide) rfl rfl (kF_f (kS_F hs) (by omega)) (by decide) (cl_4 _ _ _ _) (Nat.le_of_ble_eq_true rfl) rfl dX2_putFeast_43 ?_
    refine v_aload_n hG dX2_putFeast_46 0 rfl ?_
    refine v_dup hG dX2_putFeast_47 rfl ?_
    refine v_getf (ci := 2) (k := 3) hG iW2 f29 rfl (by decide) hs (by decide) (cl_2 _ _ _ _) rfl dX2_putFeast_48 ?_
    rw [show zup (zup (zup (zup z (s + 7 + 1 + (z s 3).toNat) 0 tn) (s + 7 + 1 + (z s 3).toNat) 1 m) (s + 7 + 1 + (z s 3).toNat) 2 d) (s + 7 + 1 + (z s 3).toNat) 3 (-1) s 3 = z s 3 by simp [zup, n1]]
    refine v_iconst hG dX2_putFeast_51 ?_
    refine v_iadd hG dX2_putFeast_52 ?_
    refine v_putf (ci := 2) (k := 3) hG iW2 tyX2_ok nmX2 f29 rfl (by decide) rfl rfl hs (by decide) (cl_2 _ _ _ _) (Nat.le_of_ble_eq_true rfl) rfl dX2_putFeast_53 ?_
    refine v_iload hG dX2_putFeast_56 4 rfl ?_
    exact v_iret hG hR dX2_putFeast_58 ⟨rfl, rfl⟩

set_option maxHeartbeats 4000000 in
set_option maxRecDepth 100000 in
theorem c_X2_copyFrom {l : Launch} {D : va_G} {cA : Nat → ClassId} {r : Nat → Nat} {z : Zt} {s q : Nat} (hr : Inj r) (hs : kd s = 2) (hq : kd q = 2) (hne : s ≠ q) (hA : z (s + 1) 0 = z (q + 1) 0) (hB : z (s + 4) 0 = z (q + 4) 0) : Kv l D cA r yX2_copyFrom wsX2_copyFrom 1 22 z [.ref (r s), .ref (r q)] (fun z1 => cpB z s q = z1) := by
  have iW2 : ∀ w ∈ u_ws RX2 TX2 9, w ∈ wsX2_copyFrom := by decide +kernel
  have f14 : Cond.fieldLink RX2 14 (TX2 0).1 (TX2 0).2.1 (TX2 0).2.2.1 ∈ wsX2_copyFrom := by decide +kernel
  have f20 : Cond.fieldLink RX2 20 (TX2 1).1 (TX2 1).2.1 (TX2 1).2.2.1 ∈ wsX2_copyFrom := by decide +kernel
  have f25 : Cond.fieldLink RX2 25 (TX2 2).1 (TX2 2).2.1 (TX2 2).2.2.1 ∈ wsX2_copyFrom := by decide +kernel
  have f29 : Cond.fieldLink RX2 29 (TX2 3).1 (TX2 3).2.1 (TX2 3).2.2.1 ∈ wsX2_copyFrom := by decide +kernel
  have f33 : Cond.fieldLink RX2 33 (TX2 4).1 (TX2 4).2.1 (TX2 4).2.2.1 ∈ wsX2_copyFrom := by decide +kernel
  have f36 : Cond.fieldLink RX2 36 (TX2 5).1 (TX2 5).2.1 (TX2 5).2.2.1 ∈ wsX2_copyFrom := by decide +kernel
  have f39 : Cond.fieldLink RX2 39 (TX2 6).1 (TX2 6).2.1 (TX2 6).2.2.1 ∈ wsX2_copyFrom := by decide +kernel
  have f42 : Cond.fieldLink RX2 42 (TX2 7).1 (TX2 7).2.1 (TX2 7).2.2.1 ∈ wsX2_copyFrom := by decide +kernel
  have f45 : Cond.fieldLink RX2 45 (TX2 8).1 (TX2 8).2.1 (TX2 8).2.2.1 ∈ wsX2_copyFrom := by decide +kernel
  have far := SS_far hs hq hne
  refine Kv_of [(0, _), (1, _)] hr (by decide) rfl rfl (Nat.le_of_ble_eq_true rfl) rfl (fun Γ hG hR => ?_)
  refine v_aload_n hG dX2_copyFrom_0 0 rfl ?_
  refine v_getf (ci := 2) (k := 0) hG iW2 f14 rfl (by decide) hs (by decide) (cl_2 _ _ _ _) rfl dX2_copyFrom_1 ?_
  refine v_aload_n hG dX2_copyFrom_4 1 rfl ?_
  refine v_getf (ci := 2) (k := 0) hG iW2 f14 rfl (by decide) hq (by decide) (cl_2 _ _ _ _) rfl dX2_copyFrom_5 ?_
  refine v_callVv (n := 1) (ci := 3) hG (c_X3_copyFrom hr (kS_A hs) (kS_A hq) (by omega) hA) gX2_copyFrom_X3_copyFrom rfl (by decide +kernel) rfl (by decide) (kS_A hs) (by decide) (cl_3 _ _ _ _) rfl dX2_copyFrom_8 rfl (Nat.le_of_ble_eq_true rfl) (by decide) ?_
  intro z8 hp8
  obtain rfl := hp8
  refine v_aload_n hG dX2_copyFrom_11 0 rfl ?_
  refine v_getf (ci := 2) (k := 1) hG iW2 f20 rfl (by decide) hs (by decide) (cl_2 _ _ _ _) rfl dX2_copyFrom_12 ?_
  refine v_aload_n hG dX2_copyFrom_15 1 rfl ?_
  refine v_getf (ci := 2) (k := 1) hG iW2 f20 rfl (by decide) hq (by decide) (cl_2 _ _ _ _) rfl dX2_copyFrom_16 ?_
  refine v_callVv (n := 1) (ci := 3) hG (c_X3_copyFrom hr (kS_B hs) (kS_B hq) (by omega) (by rw [cpT_o (by omega) (by omega) (by omega), cpT_o (by omega) (by omega) (by omega)]; exact hB)) gX2_copyFrom_X3_copyFrom rfl (by decide +kernel) rfl (by decide) (kS_B hs) (by decide) (cl_3 _ _ _ _) rfl dX2_copyFrom_19 rfl (Nat.le_of_ble_eq_true rfl) (by decide) ?_
  intro z19 hp19
  obtain rfl := hp19
  refine v_iconst hG dX2_copyFrom_22 ?_
  refine v_istore_n hG [(0, _), (1, _), (2, _)] dX2_copyFrom_23 (by decide) rfl ?_
  have L24 : ∀ (n : Nat), ∀ (x2 : Int) (z1 : Zt), (0 ≤ x2 ∧ x2 ≤ 10 ∧ z1 = cpS z s q x2.toNat) → (10 - x2 + 1).toNat ≤ n → V Γ z1 0 0 [(0, .ref (r s)), (1, .ref (r q)), (2, .int (iN x2))] 24 [] := by
    intro n
    induction n with
    | zero =>
      intro x2 z1 hI hm
      obtain ⟨i1, i2, i3v⟩ := hI
      exact absurd hm (by omega)
    | succ n ih24 =>
      intro x2 z1 hI hm
      obtain ⟨i1, i2, i3v⟩ := hI
      refine v_iload_n hG dX2_copyFrom_24 2 rfl ?_
      refine v_bipush hG dX2_copyFrom_25 (by decide) ?_
      refine v_icmp_ge hG 51 (by omega) (by omega) dX2_copyFrom_27 (by decide) (fun h27 => ?_) (fun h27 => ?_)
      · refine v_aload_n hG dX2_copyFrom_51 0 rfl ?_
        refine v_aload_n hG dX2_copyFrom_52 1 rfl ?_
        refine v_getf (ci := 2) (k := 3) hG iW2 f29 rfl (by decide) hq (by decide) (cl_2 _ _ _ _) rfl dX2_copyFrom_53 ?_
        refine v_putf (ci := 2) (k := 3) hG iW2 tyX2_ok nmX2 f29 rfl (by decide) rfl rfl hs (by decide) (cl_2 _ _ _ _) (Nat.le_of_ble_eq_true rfl) rfl dX2_copyFrom_56 ?_
        refine v_aload_n hG dX2_copyFrom_59 0 rfl ?_
        refine v_aload_n hG dX2_copyFrom_60 1 rfl ?_
        refine v_getf (ci := 2) (k := 4) hG iW2 f33 rfl (by decide) hq (by decide) (cl_2 _ _ _ _) rfl dX2_copyFrom_61 ?_
        refine v_putf (ci := 2) (k := 4) hG iW2 tyX2_ok nmX2 f33 rfl (by decide) rfl rfl hs (by decide) (cl_2 _ _ _ _) (Nat.le_of_ble_eq_true rfl) rfl dX2_copyFrom_64 ?_
        refine v_aload_n hG dX2_copyFrom_67 0 rfl ?_
        refine v_aload_n hG dX2_copyFrom_68 1 rfl ?_
        refine v_getf (ci := 2) (k := 5) hG iW2 f36 rfl (by decide) hq (by decide) (cl_2 _ _ _ _) rfl dX2_copyFrom_69 ?_
        refine v_putf (ci := 2) (k := 5) hG iW2 tyX2_ok nmX2 f36 rfl (by decide) rfl rfl hs (by decide) (cl_2 _ _ _ _) (Nat.le_of_ble_eq_true rfl) rfl dX2_copyFrom_72 ?_
        refine v_aload_n hG dX2_copyFrom_75 0 rfl ?_
        refine v_aload_n hG dX2_copyFrom_76 1 rfl ?_
        refine v_getf (ci := 2) (k := 6) hG iW2 f39 rfl (by decide) hq (by decide) (cl_2 _ _ _ _) rfl dX2_copyFrom_77 ?_
        refine v_putf (ci := 2) (k := 6) hG iW2 tyX2_ok nmX2 f39 rfl (by decide) rfl rfl hs (by decide) (cl_2 _ _ _ _) (Nat.le_of_ble_eq_true rfl) rfl dX2_copyFrom_80 ?_
        refine v_aload_n hG dX2_copyFrom_83 0 rfl ?_
        refine v_aload_n hG dX2_copyFrom_84 1 rfl ?_
        refine v_getf (ci := 2) (k := 7) hG iW2 f42 rfl (by decide) hq (by decide) (cl_2 _ _ _ _) rfl dX2_copyFrom_85 ?_
        refine v_putf (ci := 2) (k := 7) hG iW2 tyX2_ok nmX2 f42 rfl (by decide) rfl rfl hs (by decide) (cl_2 _ _ _ _) (Nat.le_of_ble_eq_true rfl) rfl dX2_copyFrom_88 ?_
        refine v_aload_n hG dX2_copyFrom_91 0 rfl ?_
        refine v_aload_n hG dX2_copyFrom_92 1 rfl ?_
        refine v_getf (ci := 2) (k := 8) hG iW2 f45 rfl (by decide) hq (by decide) (cl_2 _ _ _ _) rfl dX2_copyFrom_93 ?_
        refine v_putf (ci := 2) (k := 8) hG iW2 tyX2_ok nmX2 f45 rfl (by decide) rfl rfl hs (by decide) (cl_2 _ _ _ _) (Nat.le_of_ble_eq_true rfl) rfl dX2_copyFrom_96 ?_
        refine v_re hG (cpB z s q) ?_ ?_
        · intro i j _ hj
          have e10 : x2.toNat = 10 := by omega
          rw [e10] at i3v
          unfold cpB
          by_cases b1 : i = s
          · subst b1
            rw [if_pos (by omega), show i - i + q = q by omega]
            rw [hs] at hj
            have hj4 : 3 ≤ j ∧ j ≤ 8 := by simpa [ksz] using hj
            have hq0 : z1 q = z q := by
              rw [i3v]
              exact cpS_q (i := 0) far (Nat.le_refl _) (by decide)
            rcases (show j = 3 ∨ j = 4 ∨ j = 5 ∨ j = 6 ∨ j = 7 ∨ j = 8 by omega) with rfl | rfl | rfl | rfl | rfl | rfl <;> simp [zup, Ne.symm hne, hq0]
          · have h9 : ∀ (k : Nat) (x : Int) (w : Zt), zup w s k x i j = w i j := fun k x w => zup_n w x (fun e => b1 e.1)
            rw [h9, h9, h9, h9, h9, h9, i3v]
            unfold cpS
            by_cases b2 : s ≤ i ∧ i < s + 18
            · rw [if_pos b2]
              by_cases b3 : s + 1 ≤ i ∧ i < s + 7
              · rw [if_pos b3]
              · rw [if_neg b3]
                by_cases b4 : i = s + 7
                · exfalso
                  subst b4
                  rw [kS_F hs] at hj
                  simp [ksz] at hj
                · rw [if_pos (by omega)]
            · rw [if_neg b2, if_neg (by omega), if_neg (by omega)]
        exact v_vret hG hR dX2_copyFrom_99 rfl
      · refine v_aload_n hG dX2_copyFrom_30 0 rfl ?_
        refine v_getf (ci := 2) (k := 2) hG iW2 f25 rfl (by decide) hs (by decide) (cl_2 _ _ _ _) rfl dX2_copyFrom_31 ?_
        refine v_iload_n hG dX2_copyFrom_34 2 rfl ?_
        refine v_aaldF hG (kS_F hs) (by omega) dX2_copyFrom_35 ?_
        refine v_aload_n hG dX2_copyFrom_36 1 rfl ?_
        refine v_getf (ci := 2) (k := 2) hG iW2 f25 rfl (by decide) hq (by decide) (cl_2 _ _ _ _) rfl dX2_copyFrom_37 ?_
        refine v_iload_n hG dX2_copyFrom_40 2 rfl ?_
        refine v_aaldF hG (kS_F hq) (by omega) dX2_copyFrom_41 ?_
        refine v_callVv (n := 1) (ci := 1) hG (c_X1_copyFrom hr (kF_f (kS_F hs) (by omega)) (kF_f (kS_F hq) (by omega)) (by omega)) gX2_copyFrom_X1_copyFrom rfl (by decide +kernel) rfl (by decide) (kF_f (kS_F hs) (by omega)) (by decide) (cl_4 _ _ _ _) rfl dX2_copyFrom_42 rfl (Nat.le_of_ble_eq_true rfl) (by decide) ?_
        intro z42 hp42
        obtain rfl := hp42
        refine v_iinc hG [(0, _), (1, _), (2, _)] dX2_copyFrom_45 2 rfl (by decide) rfl ?_
        refine v_goto hG 24 dX2_copyFrom_48 (by decide) ?_
        exact ih24 _ _ ⟨by omega, by omega, by rw [i3v, cpS_s far (by omega), show (x2 + 1).toNat = x2.toNat + 1 by omega]⟩ (by omega)
  exact L24 _ _ _ ⟨by omega, by omega, cpS_0 far⟩ (Nat.le_refl _)

