set_option maxHeartbeats 4000000 in
set_option maxRecDepth 100000 in
theorem c_X0_put {l : Launch} {D : va_G} {cA : Nat → ClassId} {r : Nat → Nat} {z : Zt} {c : Int} (hr : Inj r) (h22k : kd 22 = 5) (hl : 0 ≤ z 22 1 ∧ z 22 1 < 80) : Kv l D cA r yX0_put wsX0_put 0 0 z [.ref (r 22), .int (iN c)] (fun z1 => putZ z c = z1) := by
  have iW0 : ∀ w ∈ u_ws RX0 TX0 2, w ∈ wsX0_put := by decide +kernel
  have f9 : Cond.fieldLink RX0 9 (TX0 0).1 (TX0 0).2.1 (TX0 0).2.2.1 ∈ wsX0_put := by decide +kernel
  have f15 : Cond.fieldLink RX0 15 (TX0 1).1 (TX0 1).2.1 (TX0 1).2.2.1 ∈ wsX0_put := by decide +kernel
  refine Kv_of [(0, _), (1, _)] hr (by decide) rfl rfl (Nat.le_of_ble_eq_true rfl) rfl (fun Γ hG hR => ?_)
  refine v_aload_n hG dX0_put_0 0 rfl ?_
  refine v_getf (ci := 0) (k := 1) hG iW0 f15 rfl (by decide) h22k (by decide) (cl_5 _ _ _ _) rfl dX0_put_1 ?_
  refine v_bipush hG dX0_put_4 (by decide) ?_
  refine v_icmp_ge hG 29 (by omega) (by omega) dX0_put_6 (by decide) (fun h6 => ?_) (fun h6 => ?_)
  · exfalso; omega
  · refine v_aload_n hG dX0_put_9 0 rfl ?_
    refine v_getf (ci := 0) (k := 0) hG iW0 f9 rfl (by decide) h22k (by decide) (cl_5 _ _ _ _) rfl dX0_put_10 ?_
    refine v_aload_n hG dX0_put_13 0 rfl ?_
    refine v_getf (ci := 0) (k := 1) hG iW0 f15 rfl (by decide) h22k (by decide) (cl_5 _ _ _ _) rfl dX0_put_14 ?_
    refine v_iload_n hG dX0_put_17 1 rfl ?_
    refine v_iast hG k_23 (by decide) (cl_180 _ _ _) (by decide) (by omega) dX0_put_18 ?_
    refine v_aload_n hG dX0_put_19 0 rfl ?_
    refine v_dup hG dX0_put_20 rfl ?_
    refine v_getf (ci := 0) (k := 1) hG iW0 f15 rfl (by decide) h22k (by decide) (cl_5 _ _ _ _) rfl dX0_put_21 ?_
    refine v_iconst hG dX0_put_24 ?_
    refine v_iadd hG dX0_put_25 ?_
    refine v_putf (ci := 0) (k := 1) hG iW0 tyX0_ok nmX0 f15 rfl (by decide) rfl rfl h22k (by decide) (cl_5 _ _ _ _) (Nat.le_of_ble_eq_true rfl) rfl dX0_put_26 ?_
    exact v_vret hG hR dX0_put_29 rfl

set_option maxHeartbeats 4000000 in
set_option maxRecDepth 100000 in
theorem c_X0_putNumber {l : Launch} {D : va_G} {cA : Nat → ClassId} {r : Nat → Nat} {z : Zt} {n : Int} (hr : Inj r) (h22k : kd 22 = 5) (hl : 0 ≤ z 22 1 ∧ z 22 1 ≤ 78) (hn : 0 ≤ n ∧ n ≤ 99) : Kv l D cA r yX0_putNumber wsX0_putNumber 1 21 z [.ref (r 22), .int (iN n)] (fun z1 => pnZ z n = z1) := by
  refine Kv_of [(0, _), (1, _)] hr (by decide) rfl rfl (Nat.le_of_ble_eq_true rfl) rfl (fun Γ hG hR => ?_)
  refine v_iload_n hG dX0_putNumber_0 1 rfl ?_
  refine v_bipush hG dX0_putNumber_1 (by decide) ?_
  refine v_icmp_lt hG 17 (by omega) (by omega) dX0_putNumber_3 (by decide) (fun h3 => ?_) (fun h3 => ?_)
  · refine v_aload_n hG dX0_putNumber_17 0 rfl ?_
    refine v_bipush hG dX0_putNumber_18 (by decide) ?_
    refine v_iload_n hG dX0_putNumber_20 1 rfl ?_
    refine v_bipush hG dX0_putNumber_21 (by decide) ?_
    refine v_irem hG (by omega) (by omega) dX0_putNumber_23 ?_
    refine v_iadd hG dX0_putNumber_24 ?_
    refine v_callVv (n := 1) (ci := 0) hG (c_X0_put hr h22k (by first | omega | (rw [putZ_len]; omega))) gX0_putNumber_X0_put rfl (by decide +kernel) rfl (by decide) h22k (by decide) (cl_5 _ _ _ _) rfl dX0_putNumber_25 rfl (Nat.le_of_ble_eq_true rfl) (by decide) ?_
    intro z25 hp25
    obtain rfl := hp25
    exact v_vret hG hR dX0_putNumber_28 (by unfold pnZ; first | (rw [if_pos (by omega)]) | (rw [if_neg (by omega)]))
  · refine v_aload_n hG dX0_putNumber_6 0 rfl ?_
    refine v_bipush hG dX0_putNumber_7 (by decide) ?_
    refine v_iload_n hG dX0_putNumber_9 1 rfl ?_
    refine v_bipush hG dX0_putNumber_10 (by decide) ?_
    refine v_idiv hG (by omega) (by omega) dX0_putNumber_12 ?_
    refine v_iadd hG dX0_putNumber_13 ?_
    refine v_callVv (n := 1) (ci := 0) hG (c_X0_put hr h22k (by omega)) gX0_putNumber_X0_put rfl (by decide +kernel) rfl (by decide) h22k (by decide) (cl_5 _ _ _ _) rfl dX0_putNumber_14 rfl (Nat.le_of_ble_eq_true rfl) (by decide) ?_
    intro z14 hp14
    obtain rfl := hp14
    refine v_aload_n hG dX0_putNumber_17 0 rfl ?_
    refine v_bipush hG dX0_putNumber_18 (by decide) ?_
    refine v_iload_n hG dX0_putNumber_20 1 rfl ?_
    refine v_bipush hG dX0_putNumber_21 (by decide) ?_
    refine v_irem hG (by omega) (by omega) dX0_putNumber_23 ?_
    refine v_iadd hG dX0_putNumber_24 ?_
    refine v_callVv (n := 1) (ci := 0) hG (c_X0_put hr h22k (by first | omega | (rw [putZ_len]; omega))) gX0_putNumber_X0_put rfl (by decide +kernel) rfl (by decide) h22k (by decide) (cl_5 _ _ _ _) rfl dX0_putNumber_25 rfl (Nat.le_of_ble_eq_true rfl) (by decide) ?_
    intro z25 hp25
    obtain rfl := hp25
    exact v_vret hG hR dX0_putNumber_28 (by unfold pnZ; first | (rw [if_pos (by omega)]) | (rw [if_neg (by omega)]))

set_option maxHeartbeats 4000000 in
set_option maxRecDepth 100000 in
theorem c_X0_fits {l : Launch} {D : va_G} {cA : Nat → ClassId} {r : Nat → Nat} {z : Zt} {c p d : Int} (hr : Inj r) (hc : 0 ≤ c ∧ c ≤ 200) (hp : 0 ≤ p ∧ p ≤ 100) (hd : 0 ≤ d ∧ d ≤ 100) : Ki l D cA r yX0_fits wsX0_fits 0 0 z [.int (iN c), .int (iN p), .int (iN d)] (fun x z1 => z = z1 ∧ x = ind (fitC c p d)) := by
  refine Ki_of [(0, _), (1, _), (2, _)] hr (by decide) rfl rfl (Nat.le_of_ble_eq_true rfl) rfl (fun Γ hG hR => ?_)
  refine v_iload_n hG dX0_fits_0 1 rfl ?_
  refine v_if_ne hG 22 (by omega) dX0_fits_1 (by decide) (fun h1 => ?_) (fun h1 => ?_)
  · refine v_iload_n hG dX0_fits_22 0 rfl ?_
    refine v_bipush hG dX0_fits_23 (by decide) ?_
    refine v_icmp_ne hG 43 (by omega) (by omega) dX0_fits_25 (by decide) (fun h25 => ?_) (fun h25 => ?_)
    · refine v_iload_n hG dX0_fits_43 2 rfl ?_
      have L54 : ∀ (x : Int), x = (if d = 0 then 49 else 48) → V Γ z 0 0 [(0, .int (iN c)), (1, .int (iN p)), (2, .int (iN d))] 54 [.int (iN x)] := by
        intro x hI54
        refine v_istore_n hG [(0, _), (1, _), (2, _), (3, _)] dX0_fits_54 (by decide) rfl ?_
        refine v_iload_n hG dX0_fits_55 1 rfl ?_
        have L65 : ∀ (y : Int), y = (if p = 3 then 3 else 2) → V Γ z 0 0 [(0, .int (iN c)), (1, .int (iN p)), (2, .int (iN d)), (3, .int (iN x))] 65 [.int (iN y)] := by
          intro y hI65
          have hx2 : 48 ≤ x ∧ x ≤ 49 := by
            rw [hI54]
            split <;> omega
          have hy2 : 2 ≤ y ∧ y ≤ 3 := by
            rw [hI65]
            split <;> omega
          refine v_istore hG [(0, _), (1, _), (2, _), (3, _), (4, _)] dX0_fits_65 (by decide) rfl ?_
          refine v_iload_n hG dX0_fits_67 0 rfl ?_
          refine v_iload_n hG dX0_fits_68 3 rfl ?_
          refine v_icmp_lt hG 88 (by omega) (by omega) dX0_fits_69 (by decide) (fun h69 => ?_) (fun h69 => ?_)
          · refine v_iconst hG dX0_fits_88 ?_
            exact v_zret hG hR (by first | exact Or.inl rfl | exact Or.inr rfl | omega) dX0_fits_89 ⟨rfl, by first
    | exact (ind_t (by unfold fitC; rw [if_pos (by omega)]; omega)).symm
    | exact (ind_f (by unfold fitC; rw [if_pos (by omega)]; omega)).symm
    | exact (ind_t (by unfold fitC; rw [if_neg (by omega), if_pos (by omega)]; omega)).symm
    | exact (ind_f (by unfold fitC; rw [if_neg (by omega), if_pos (by omega)]; omega)).symm
    | exact (ind_t (by unfold fitC; rw [if_neg (by omega), if_neg (by omega), ← hI54, ← hI65]; omega)).symm
    | exact (ind_f (by unfold fitC; rw [if_neg (by omega), if_neg (by omega), ← hI54, ← hI65]; omega)).symm⟩
          · refine v_iload_n hG dX0_fits_72 0 rfl ?_
            refine v_bipush hG dX0_fits_73 (by decide) ?_
            refine v_icmp_gt hG 88 (by omega) (by omega) dX0_fits_75 (by decide) (fun h75 => ?_) (fun h75 => ?_)
            · refine v_iconst hG dX0_fits_88 ?_
              exact v_zret hG hR (by first | exact Or.inl rfl | exact Or.inr rfl | omega) dX0_fits_89 ⟨rfl, by first
    | exact (ind_t (by unfold fitC; rw [if_pos (by omega)]; omega)).symm
    | exact (ind_f (by unfold fitC; rw [if_pos (by omega)]; omega)).symm
    | exact (ind_t (by unfold fitC; rw [if_neg (by omega), if_pos (by omega)]; omega)).symm
    | exact (ind_f (by unfold fitC; rw [if_neg (by omega), if_pos (by omega)]; omega)).symm
    | exact (ind_t (by unfold fitC; rw [if_neg (by omega), if_neg (by omega), ← hI54, ← hI65]; omega)).symm
    | exact (ind_f (by unfold fitC; rw [if_neg (by omega), if_neg (by omega), ← hI54, ← hI65]; omega)).symm⟩
            · refine v_iload_n hG dX0_fits_78 2 rfl ?_
              refine v_iload hG dX0_fits_79 4 rfl ?_
              refine v_icmp_ge hG 88 (by omega) (by omega) dX0_fits_81 (by decide) (fun h81 => ?_) (fun h81 => ?_)
              · refine v_iconst hG dX0_fits_88 ?_
                exact v_zret hG hR (by first | exact Or.inl rfl | exact Or.inr rfl | omega) dX0_fits_89 ⟨rfl, by first
    | exact (ind_t (by unfold fitC; rw [if_pos (by omega)]; omega)).symm
    | exact (ind_f (by unfold fitC; rw [if_pos (by omega)]; omega)).symm
    | exact (ind_t (by unfold fitC; rw [if_neg (by omega), if_pos (by omega)]; omega)).symm
    | exact (ind_f (by unfold fitC; rw [if_neg (by omega), if_pos (by omega)]; omega)).symm
    | exact (ind_t (by unfold fitC; rw [if_neg (by omega), if_neg (by omega), ← hI54, ← hI65]; omega)).symm
    | exact (ind_f (by unfold fitC; rw [if_neg (by omega), if_neg (by omega), ← hI54, ← hI65]; omega)).symm⟩
              · refine v_iconst hG dX0_fits_84 ?_
                refine v_goto hG 89 dX0_fits_85 (by decide) ?_
                exact v_zret hG hR (by first | exact Or.inl rfl | exact Or.inr rfl | omega) dX0_fits_89 ⟨rfl, by first
    | exact (ind_t (by unfold fitC; rw [if_pos (by omega)]; omega)).symm
    | exact (ind_f (by unfold fitC; rw [if_pos (by omega)]; omega)).symm
    | exact (ind_t (by unfold fitC; rw [if_neg (by omega), if_pos (by omega)]; omega)).symm
    | exact (ind_f (by unfold fitC; rw [if_neg (by omega), if_pos (by omega)]; omega)).symm
    | exact (ind_t (by unfold fitC; rw [if_neg (by omega), if_neg (by omega), ← hI54, ← hI65]; omega)).symm
    | exact (ind_f (by unfold fitC; rw [if_neg (by omega), if_neg (by omega), ← hI54, ← hI65]; omega)).symm⟩
        refine v_iconst hG dX0_fits_56 ?_
        refine v_icmp_ne hG 64 (by omega) (by omega) dX0_fits_57 (by decide) (fun h57 => ?_) (fun h57 => ?_)
        · refine v_iconst hG dX0_fits_64 ?_
          exact L65 _ (by first | (rw [if_pos (by omega)]) | (rw [if_neg (by omega)]))
        · refine v_iconst hG dX0_fits_60 ?_
          refine v_goto hG 65 dX0_fits_61 (by decide) ?_
          exact L65 _ (by first | (rw [if_pos (by omega)]) | (rw [if_neg (by omega)]))
      refine v_if_ne hG 52 (by omega) dX0_fits_44 (by decide) (fun h44 => ?_) (fun h44 => ?_)
      · refine v_bipush hG dX0_fits_52 (by decide) ?_
        exact L54 _ (by first | (rw [if_pos (by omega)]) | (rw [if_neg (by omega)]))
      · refine v_bipush hG dX0_fits_47 (by decide) ?_
        refine v_goto hG 54 dX0_fits_49 (by decide) ?_
        exact L54 _ (by first | (rw [if_pos (by omega)]) | (rw [if_neg (by omega)]))
    · refine v_iload_n hG dX0_fits_28 1 rfl ?_
      refine v_iconst hG dX0_fits_29 ?_
      refine v_icmp_eq hG 41 (by omega) (by omega) dX0_fits_30 (by decide) (fun h30 => ?_) (fun h30 => ?_)
      · refine v_iconst hG dX0_fits_41 ?_
        exact v_zret hG hR (by first | exact Or.inl rfl | exact Or.inr rfl | omega) dX0_fits_42 ⟨rfl, by first
    | exact (ind_t (by unfold fitC; rw [if_pos (by omega)]; omega)).symm
    | exact (ind_f (by unfold fitC; rw [if_pos (by omega)]; omega)).symm
    | exact (ind_t (by unfold fitC; rw [if_neg (by omega), if_pos (by omega)]; omega)).symm
    | exact (ind_f (by unfold fitC; rw [if_neg (by omega), if_pos (by omega)]; omega)).symm
    | exact (ind_t (by unfold fitC; rw [if_neg (by omega), if_neg (by omega), ← hI54, ← hI65]; omega)).symm
    | exact (ind_f (by unfold fitC; rw [if_neg (by omega), if_neg (by omega), ← hI54, ← hI65]; omega)).symm⟩
      · refine v_iload_n hG dX0_fits_33 2 rfl ?_
        refine v_if_le hG 41 (by omega) dX0_fits_34 (by decide) (fun h34 => ?_) (fun h34 => ?_)
        · refine v_iconst hG dX0_fits_41 ?_
          exact v_zret hG hR (by first | exact Or.inl rfl | exact Or.inr rfl | omega) dX0_fits_42 ⟨rfl, by first
    | exact (ind_t (by unfold fitC; rw [if_pos (by omega)]; omega)).symm
    | exact (ind_f (by unfold fitC; rw [if_pos (by omega)]; omega)).symm
    | exact (ind_t (by unfold fitC; rw [if_neg (by omega), if_pos (by omega)]; omega)).symm
    | exact (ind_f (by unfold fitC; rw [if_neg (by omega), if_pos (by omega)]; omega)).symm
    | exact (ind_t (by unfold fitC; rw [if_neg (by omega), if_neg (by omega), ← hI54, ← hI65]; omega)).symm
    | exact (ind_f (by unfold fitC; rw [if_neg (by omega), if_neg (by omega), ← hI54, ← hI65]; omega)).symm⟩
        · refine v_iconst hG dX0_fits_37 ?_
          refine v_goto hG 42 dX0_fits_38 (by decide) ?_
          exact v_zret hG hR (by first | exact Or.inl rfl | exact Or.inr rfl | omega) dX0_fits_42 ⟨rfl, by first
    | exact (ind_t (by unfold fitC; rw [if_pos (by omega)]; omega)).symm
    | exact (ind_f (by unfold fitC; rw [if_pos (by omega)]; omega)).symm
    | exact (ind_t (by unfold fitC; rw [if_neg (by omega), if_pos (by omega)]; omega)).symm
    | exact (ind_f (by unfold fitC; rw [if_neg (by omega), if_pos (by omega)]; omega)).symm
    | exact (ind_t (by unfold fitC; rw [if_neg (by omega), if_neg (by omega), ← hI54, ← hI65]; omega)).symm
    | exact (ind_f (by unfold fitC; rw [if_neg (by omega), if_neg (by omega), ← hI54, ← hI65]; omega)).symm⟩
  · refine v_iload_n hG dX0_fits_4 0 rfl ?_
    refine v_bipush hG dX0_fits_5 (by decide) ?_
    refine v_icmp_eq hG 16 (by omega) (by omega) dX0_fits_7 (by decide) (fun h7 => ?_) (fun h7 => ?_)
    · refine v_iconst hG dX0_fits_16 ?_
      refine v_goto hG 21 dX0_fits_17 (by decide) ?_
      exact v_zret hG hR (by first | exact Or.inl rfl | exact Or.inr rfl | omega) dX0_fits_21 ⟨rfl, by first
    | exact (ind_t (by unfold fitC; rw [if_pos (by omega)]; omega)).symm
    | exact (ind_f (by unfold fitC; rw [if_pos (by omega)]; omega)).symm
    | exact (ind_t (by unfold fitC; rw [if_neg (by omega), if_pos (by omega)]; omega)).symm
    | exact (ind_f (by unfold fitC; rw [if_neg (by omega), if_pos (by omega)]; omega)).symm
    | exact (ind_t (by unfold fitC; rw [if_neg (by omega), if_neg (by omega), ← hI54, ← hI65]; omega)).symm
    | exact (ind_f (by unfold fitC; rw [if_neg (by omega), if_neg (by omega), ← hI54, ← hI65]; omega)).symm⟩
    · refine v_iload_n hG dX0_fits_10 0 rfl ?_
      refine v_bipush hG dX0_fits_11 (by decide) ?_
      refine v_icmp_ne hG 20 (by omega) (by omega) dX0_fits_13 (by decide) (fun h13 => ?_) (fun h13 => ?_)
      · refine v_iconst hG dX0_fits_20 ?_
        exact v_zret hG hR (by first | exact Or.inl rfl | exact Or.inr rfl | omega) dX0_fits_21 ⟨rfl, by first
    | exact (ind_t (by unfold fitC; rw [if_pos (by omega)]; omega)).symm
    | exact (ind_f (by unfold fitC; rw [if_pos (by omega)]; omega)).symm
    | exact (ind_t (by unfold fitC; rw [if_neg (by omega), if_pos (by omega)]; omega)).symm
    | exact (ind_f (by unfold fitC; rw [if_neg (by omega), if_pos (by omega)]; omega)).symm
    | exact (ind_t (by unfold fitC; rw [if_neg (by omega), if_neg (by omega), ← hI54, ← hI65]; omega)).symm
    | exact (ind_f (by unfold fitC; rw [if_neg (by omega), if_neg (by omega), ← hI54, ← hI65]; omega)).symm⟩
      · refine v_iconst hG dX0_fits_16 ?_
        refine v_goto hG 21 dX0_fits_17 (by decide) ?_
        exact v_zret hG hR (by first | exact Or.inl rfl | exact Or.inr rfl | omega) dX0_fits_21 ⟨rfl, by first
    | exact (ind_t (by unfold fitC; rw [if_pos (by omega)]; omega)).symm
    | exact (ind_f (by unfold fitC; rw [if_pos (by omega)]; omega)).symm
    | exact (ind_t (by unfold fitC; rw [if_neg (by omega), if_pos (by omega)]; omega)).symm
    | exact (ind_f (by unfold fitC; rw [if_neg (by omega), if_pos (by omega)]; omega)).symm
    | exact (ind_t (by unfold fitC; rw [if_neg (by omega), if_neg (by omega), ← hI54, ← hI65]; omega)).symm
    | exact (ind_f (by unfold fitC; rw [if_neg (by omega), if_neg (by omega), ← hI54, ← hI65]; omega)).symm⟩

set_option maxHeartbeats 4000000 in
set_option maxRecDepth 100000 in
theorem c_X0_firstError {l : Launch} {D : va_G} {cA : Nat → ClassId} {r : Nat → Nat} {z : Zt}  (hr : Inj r) (h22k : kd 22 = 5) (hX : TX (z 23) (z 22 1)) : Ki l D cA r yX0_firstError wsX0_firstError 1 24 z [.ref (r 22)] (fun x z1 => z = z1 ∧ FE (z 23) (z 22 1) x) := by
  have iW0 : ∀ w ∈ u_ws RX0 TX0 2, w ∈ wsX0_firstError := by decide +kernel
  have f9 : Cond.fieldLink RX0 9 (TX0 0).1 (TX0 0).2.1 (TX0 0).2.2.1 ∈ wsX0_firstError := by decide +kernel
  have f15 : Cond.fieldLink RX0 15 (TX0 1).1 (TX0 1).2.1 (TX0 1).2.2.1 ∈ wsX0_firstError := by decide +kernel
  obtain ⟨hl0, hl8, hch⟩ := id hX
  refine Ki_of [(0, _)] hr (by decide) rfl rfl (Nat.le_of_ble_eq_true rfl) rfl (fun Γ hG hR => ?_)
  refine v_iconst hG dX0_firstError_0 ?_
  refine v_istore_n hG [(0, _), (1, _)] dX0_firstError_1 (by decide) rfl ?_
  refine v_iconst hG dX0_firstError_2 ?_
  refine v_istore_n hG [(0, _), (1, _), (2, _)] dX0_firstError_3 (by decide) rfl ?_
  refine v_iconst hG dX0_firstError_4 ?_
  refine v_istore_n hG [(0, _), (1, _), (2, _), (3, _)] dX0_firstError_5 (by decide) rfl ?_
  have L6 : ∀ (n : Nat), ∀ (x1 x2 x3 : Int), (0 ≤ x3 ∧ x3 ≤ z 22 1 ∧ x1 = (dt (z 23) x3.toNat).1 ∧ x2 = (dt (z 23) x3.toNat).2 ∧ ∀ j : Nat, (j : Int) < x3 → fitA (z 23) j) → (z 22 1 - x3 + 1).toNat ≤ n → V Γ z 0 0 [(0, .ref (r 22)), (1, .int (iN x1)), (2, .int (iN x2)), (3, .int (iN x3))] 6 [] := by
    intro n
    induction n with
    | zero =>
      intro x1 x2 x3 hI hm
      obtain ⟨i1, i2, i3v, i4, i5⟩ := hI
      exact absurd hm (by omega)
    | succ n ih6 =>
      intro x1 x2 x3 hI hm
      obtain ⟨i1, i2, i3v, i4, i5⟩ := hI
      have hdb := dt_bd (z 23) x3.toNat
      refine v_iload_n hG dX0_firstError_6 3 rfl ?_
      refine v_aload_n hG dX0_firstError_7 0 rfl ?_
      refine v_getf (ci := 0) (k := 1) hG iW0 f15 rfl (by decide) h22k (by decide) (cl_5 _ _ _ _) rfl dX0_firstError_8 ?_
      refine v_icmp_ge hG 62 (by omega) (by omega) dX0_firstError_11 (by decide) (fun h11 => ?_) (fun h11 => ?_)
      · refine v_iload_n hG dX0_firstError_62 1 rfl ?_
        refine v_iconst hG dX0_firstError_63 ?_
        refine v_icmp_ne hG 75 (by omega) (by omega) dX0_firstError_64 (by decide) (fun h64 => ?_) (fun h64 => ?_)
        · refine v_aload_n hG dX0_firstError_75 0 rfl ?_
          refine v_getf (ci := 0) (k := 1) hG iW0 f15 rfl (by decide) h22k (by decide) (cl_5 _ _ _ _) rfl dX0_firstError_76 ?_
          exact v_iret hG hR dX0_firstError_79 ⟨rfl, Or.inr ⟨fun j hj => i5 j (by omega), by rw [← show x3 = z 22 1 by omega, ← i3v, ← i4]; first | (rw [if_pos (by omega)]) | (rw [if_neg (by omega)])⟩⟩
        · refine v_iload_n hG dX0_firstError_67 2 rfl ?_
          refine v_if_le hG 75 (by omega) dX0_firstError_68 (by decide) (fun h68 => ?_) (fun h68 => ?_)
          · refine v_aload_n hG dX0_firstError_75 0 rfl ?_
            refine v_getf (ci := 0) (k := 1) hG iW0 f15 rfl (by decide) h22k (by decide) (cl_5 _ _ _ _) rfl dX0_firstError_76 ?_
            exact v_iret hG hR dX0_firstError_79 ⟨rfl, Or.inr ⟨fun j hj => i5 j (by omega), by rw [← show x3 = z 22 1 by omega, ← i3v, ← i4]; first | (rw [if_pos (by omega)]) | (rw [if_neg (by omega)])⟩⟩
          · refine v_iconst hG dX0_firstError_71 ?_
            refine v_goto hG 79 dX0_firstError_72 (by decide) ?_
            exact v_iret hG hR dX0_firstError_79 ⟨rfl, Or.inr ⟨fun j hj => i5 j (by omega), by rw [← show x3 = z 22 1 by omega, ← i3v, ← i4]; first | (rw [if_pos (by omega)]) | (rw [if_neg (by omega)])⟩⟩
      · have hb := hch x3.toNat (by omega)
        refine v_aload_n hG dX0_firstError_14 0 rfl ?_
        refine v_getf (ci := 0) (k := 0) hG iW0 f9 rfl (by decide) h22k (by decide) (cl_5 _ _ _ _) rfl dX0_firstError_15 ?_
        refine v_iload_n hG dX0_firstError_18 3 rfl ?_
        refine v_iald hG k_23 (by decide) (cl_180 _ _ _ _) (by decide) (by omega) dX0_firstError_19 ?_
        refine v_iload_n hG dX0_firstError_20 1 rfl ?_
        refine v_iload_n hG dX0_firstError_21 2 rfl ?_
        refine v_callSi (n := 3) hG (c_X0_fits hr (by omega) (by omega) (by omega)) gX0_firstError_X0_fits rfl (by decide +kernel) rfl (by decide) dX0_firstError_22 rfl (Nat.le_of_ble_eq_true rfl) (by decide) ?_
        intro v22 z22 hp22
        obtain ⟨rfl, rfl⟩ := hp22
        refine v_if_ne hG 30 (by have h8 := ind_bd (fitC (z 23 x3.toNat) x1 x2); omega) dX0_firstError_25 (by decide) (fun h25 => ?_) (fun h25 => ?_)
        · refine v_iload_n hG dX0_firstError_30 1 rfl ?_
          refine v_if_eq hG 45 (by omega) dX0_firstError_31 (by decide) (fun h31 => ?_) (fun h31 => ?_)
          · refine v_iinc hG [(0, _), (1, _), (2, _), (3, _)] dX0_firstError_45 1 rfl (by decide) rfl ?_
            refine v_iconst hG dX0_firstError_48 ?_
            refine v_istore_n hG [(0, _), (1, _), (2, _), (3, _)] dX0_firstError_49 (by decide) rfl ?_
            refine v_goto hG 56 dX0_firstError_50 (by decide) ?_
            refine v_iinc hG [(0, _), (1, _), (2, _), (3, _)] dX0_firstError_56 3 rfl (by decide) rfl ?_
            refine v_goto hG 6 dX0_firstError_59 (by decide) ?_
            refine ih6 _ _ _ ?_ (by omega)
            have hf9 : fitA (z 23) x3.toNat := Classical.byContradiction (fun q9 => by
              have h8 : ind (fitC (z 23 x3.toNat) x1 x2) = 0 := ind_f (by rw [i3v, i4]; exact q9)
              omega)
            have e9 : (x3 + 1).toNat = x3.toNat + 1 := by omega
            have hj9 : ∀ j : Nat, (j : Int) < x3 + 1 → fitA (z 23) j := fun j hj => by
              by_cases q9 : (j : Int) < x3
              · exact i5 j q9
              · have e8 : j = x3.toNat := by omega
                rw [e8]
                exact hf9
            first
              | (have h7 := dt_dot (f := z 23) (i := x3.toNat) (by omega); refine ⟨by omega, by omega, ?_, ?_, hj9⟩ <;> rw [e9] <;> omega)
              | (have h7 := dt_dig (f := z 23) (i := x3.toNat) (by omega); refine ⟨by omega, by omega, ?_, ?_, hj9⟩ <;> rw [e9] <;> omega)
          · refine v_aload_n hG dX0_firstError_34 0 rfl ?_
            refine v_getf (ci := 0) (k := 0) hG iW0 f9 rfl (by decide) h22k (by decide) (cl_5 _ _ _ _) rfl dX0_firstError_35 ?_
            refine v_iload_n hG dX0_firstError_38 3 rfl ?_
            refine v_iald hG k_23 (by decide) (cl_180 _ _ _ _) (by decide) (by omega) dX0_firstError_39 ?_
            refine v_bipush hG dX0_firstError_40 (by decide) ?_
            refine v_icmp_ne hG 53 (by omega) (by omega) dX0_firstError_42 (by decide) (fun h42 => ?_) (fun h42 => ?_)
            · refine v_iinc hG [(0, _), (1, _), (2, _), (3, _)] dX0_firstError_53 2 rfl (by decide) rfl ?_
              refine v_iinc hG [(0, _), (1, _), (2, _), (3, _)] dX0_firstError_56 3 rfl (by decide) rfl ?_
              refine v_goto hG 6 dX0_firstError_59 (by decide) ?_
              refine ih6 _ _ _ ?_ (by omega)
              have hf9 : fitA (z 23) x3.toNat := Classical.byContradiction (fun q9 => by
                have h8 : ind (fitC (z 23 x3.toNat) x1 x2) = 0 := ind_f (by rw [i3v, i4]; exact q9)
                omega)
              have e9 : (x3 + 1).toNat = x3.toNat + 1 := by omega
              have hj9 : ∀ j : Nat, (j : Int) < x3 + 1 → fitA (z 23) j := fun j hj => by
                by_cases q9 : (j : Int) < x3
                · exact i5 j q9
                · have e8 : j = x3.toNat := by omega
                  rw [e8]
                  exact hf9
              first
                | (have h7 := dt_dot (f := z 23) (i := x3.toNat) (by omega); refine ⟨by omega, by omega, ?_, ?_, hj9⟩ <;> rw [e9] <;> omega)
                | (have h7 := dt_dig (f := z 23) (i := x3.toNat) (by omega); refine ⟨by omega, by omega, ?_, ?_, hj9⟩ <;> rw [e9] <;> omega)
            · refine v_iinc hG [(0, _), (1, _), (2, _), (3, _)] dX0_firstError_45 1 rfl (by decide) rfl ?_
              refine v_iconst hG dX0_firstError_48 ?_
              refine v_istore_n hG [(0, _), (1, _), (2, _), (3, _)] dX0_firstError_49 (by decide) rfl ?_
              refine v_goto hG 56 dX0_firstError_50 (by decide) ?_
              refine v_iinc hG [(0, _), (1, _), (2, _), (3, _)] dX0_firstError_56 3 rfl (by decide) rfl ?_
              refine v_goto hG 6 dX0_firstError_59 (by decide) ?_
              refine ih6 _ _ _ ?_ (by omega)
              have hf9 : fitA (z 23) x3.toNat := Classical.byContradiction (fun q9 => by
                have h8 : ind (fitC (z 23 x3.toNat) x1 x2) = 0 := ind_f (by rw [i3v, i4]; exact q9)
                omega)
              have e9 : (x3 + 1).toNat = x3.toNat + 1 := by omega
              have hj9 : ∀ j : Nat, (j : Int) < x3 + 1 → fitA (z 23) j := fun j hj => by
                by_cases q9 : (j : Int) < x3
                · exact i5 j q9
                · have e8 : j = x3.toNat := by omega
                  rw [e8]
                  exact hf9
              first
                | (have h7 := dt_dot (f := z 23) (i := x3.toNat) (by omega); refine ⟨by omega, by omega, ?_, ?_, hj9⟩ <;> rw [e9] <;> omega)
                | (have h7 := dt_dig (f := z 23) (i := x3.toNat) (by omega); refine ⟨by omega, by omega, ?_, ?_, hj9⟩ <;> rw [e9] <;> omega)
        · refine v_iload_n hG dX0_firstError_28 3 rfl ?_
          exact v_iret hG hR dX0_firstError_29 ⟨rfl, Or.inl ⟨x3.toNat, by omega, by omega, by rw [fitA, ← i3v, ← i4]; exact ind_0.mp h25, fun j hj => i5 j (by omega)⟩⟩
  exact L6 _ _ _ _ ⟨by omega, by omega, rfl, rfl, fun j hj => by omega⟩ (Nat.le_refl _)

set_option maxHeartbeats 4000000 in
set_option maxRecDepth 100000 in
theorem c_X0_town {l : Launch} {D : va_G} {cA : Nat → ClassId} {r : Nat → Nat} {z : Zt}  (hr : Inj r) (h22k : kd 22 = 5) (hX : TX (z 23) (z 22 1)) : Ki l D cA r yX0_town wsX0_town 0 0 z [.ref (r 22)] (fun x z1 => z = z1 ∧ x = (if 0 < z 22 1 ∧ z 23 0 = 65 then 0 else 1)) := by
  have iW0 : ∀ w ∈ u_ws RX0 TX0 2, w ∈ wsX0_town := by decide +kernel
  have f9 : Cond.fieldLink RX0 9 (TX0 0).1 (TX0 0).2.1 (TX0 0).2.2.1 ∈ wsX0_town := by decide +kernel
  have f15 : Cond.fieldLink RX0 15 (TX0 1).1 (TX0 1).2.1 (TX0 1).2.2.1 ∈ wsX0_town := by decide +kernel
  obtain ⟨hl0, hl8, hch⟩ := id hX
  refine Ki_of [(0, _)] hr (by decide) rfl rfl (Nat.le_of_ble_eq_true rfl) rfl (fun Γ hG hR => ?_)
  refine v_aload_n hG dX0_town_0 0 rfl ?_
  refine v_getf (ci := 0) (k := 1) hG iW0 f15 rfl (by decide) h22k (by decide) (cl_5 _ _ _ _) rfl dX0_town_1 ?_
  refine v_if_le hG 22 (by omega) dX0_town_4 (by decide) (fun h4 => ?_) (fun h4 => ?_)
  · refine v_iconst hG dX0_town_22 ?_
    exact v_iret hG hR dX0_town_23 ⟨rfl, by first | (rw [if_pos (by omega)]) | (rw [if_neg (by omega)])⟩
  · have hb := hch 0 (by omega)
    have e0 : z 23 (0 : Int).toNat = z 23 0 := rfl
    refine v_aload_n hG dX0_town_7 0 rfl ?_
    refine v_getf (ci := 0) (k := 0) hG iW0 f9 rfl (by decide) h22k (by decide) (cl_5 _ _ _ _) rfl dX0_town_8 ?_
    refine v_iconst hG dX0_town_11 ?_
    refine v_iald hG k_23 (by decide) (cl_180 _ _ _ _) (by decide) (by omega) dX0_town_12 ?_
    refine v_bipush hG dX0_town_13 (by decide) ?_
    refine v_icmp_ne hG 22 (by omega) (by omega) dX0_town_15 (by decide) (fun h15 => ?_) (fun h15 => ?_)
    · refine v_iconst hG dX0_town_22 ?_
      exact v_iret hG hR dX0_town_23 ⟨rfl, by first | (rw [if_pos (by omega)]) | (rw [if_neg (by omega)])⟩
    · refine v_iconst hG dX0_town_18 ?_
      refine v_goto hG 23 dX0_town_19 (by decide) ?_
      exact v_iret hG hR dX0_town_23 ⟨rfl, by first | (rw [if_pos (by omega)]) | (rw [if_neg (by omega)])⟩

set_option maxHeartbeats 4000000 in
set_option maxRecDepth 100000 in
theorem c_X0_number {l : Launch} {D : va_G} {cA : Nat → ClassId} {r : Nat → Nat} {z : Zt} {w : Int} (hr : Inj r) (h22k : kd 22 = 5) (hX : TX (z 23) (z 22 1)) (hn1 : 1 ≤ z 22 1) (hw : 1 ≤ w ∧ w ≤ 3) : Ki l D cA r yX0_number wsX0_number 0 0 z [.ref (r 22), .int (iN w)] (fun x z1 => z = z1 ∧ x = nuN (z 23) w (z 22 1).toNat) := by
  have iW0 : ∀ w ∈ u_ws RX0 TX0 2, w ∈ wsX0_number := by decide +kernel
  have f9 : Cond.fieldLink RX0 9 (TX0 0).1 (TX0 0).2.1 (TX0 0).2.2.1 ∈ wsX0_number := by decide +kernel
  have f15 : Cond.fieldLink RX0 15 (TX0 1).1 (TX0 1).2.1 (TX0 1).2.2.1 ∈ wsX0_number := by decide +kernel
  obtain ⟨hl0, hl8, hch⟩ := id hX
  refine Ki_of [(0, _), (1, _)] hr (by decide) rfl rfl (Nat.le_of_ble_eq_true rfl) rfl (fun Γ hG hR => ?_)
  refine v_iconst hG dX0_number_0 ?_
  refine v_istore_n hG [(0, _), (1, _), (2, _)] dX0_number_1 (by decide) rfl ?_
  refine v_iconst hG dX0_number_2 ?_
  refine v_istore_n hG [(0, _), (1, _), (2, _), (3, _)] dX0_number_3 (by decide) rfl ?_
  refine v_iconst hG dX0_number_4 ?_
  refine v_istore hG [(0, _), (1, _), (2, _), (3, _), (4, _)] dX0_number_5 (by decide) rfl ?_
  have L7 : ∀ (n : Nat), ∀ (x2 x3 x4 : Int), (1 ≤ x4 ∧ x4 ≤ z 22 1 ∧ x2 = prt (z 23) x4.toNat ∧ x3 = nuN (z 23) w x4.toNat) → (z 22 1 - x4 + 1).toNat ≤ n → V Γ z 0 0 [(0, .ref (r 22)), (1, .int (iN w)), (2, .int (iN x2)), (3, .int (iN x3)), (4, .int (iN x4))] 7 [] := by
    intro n
    induction n with
    | zero =>
      intro x2 x3 x4 hI hm
      obtain ⟨i1, i2, i3v, i4⟩ := hI
      exact absurd hm (by omega)
    | succ n ih7 =>
      intro x2 x3 x4 hI hm
      obtain ⟨i1, i2, i3v, i4⟩ := hI
      have hpb := prt_bd (z 23) x4.toNat
      refine v_iload hG dX0_number_7 4 rfl ?_
      refine v_aload_n hG dX0_number_9 0 rfl ?_
      refine v_getf (ci := 0) (k := 1) hG iW0 f15 rfl (by decide) h22k (by decide) (cl_5 _ _ _ _) rfl dX0_number_10 ?_
      refine v_icmp_ge hG 61 (by omega) (by omega) dX0_number_13 (by decide) (fun h13 => ?_) (fun h13 => ?_)
      · refine v_iload_n hG dX0_number_61 3 rfl ?_
        exact v_iret hG hR dX0_number_62 ⟨rfl, by rw [i4, show x4 = z 22 1 by omega]⟩
      · have hb := hch x4.toNat (by omega)
        refine v_aload_n hG dX0_number_16 0 rfl ?_
        refine v_getf (ci := 0) (k := 0) hG iW0 f9 rfl (by decide) h22k (by decide) (cl_5 _ _ _ _) rfl dX0_number_17 ?_
        refine v_iload hG dX0_number_20 4 rfl ?_
        refine v_iald hG k_23 (by decide) (cl_180 _ _ _ _) (by decide) (by omega) dX0_number_22 ?_
        refine v_bipush hG dX0_number_23 (by decide) ?_
        refine v_icmp_ne hG 34 (by omega) (by omega) dX0_number_25 (by decide) (fun h25 => ?_) (fun h25 => ?_)
        · refine v_iload_n hG dX0_number_34 2 rfl ?_
          refine v_iload_n hG dX0_number_35 1 rfl ?_
          refine v_icmp_ne hG 55 (by omega) (by omega) dX0_number_36 (by decide) (fun h36 => ?_) (fun h36 => ?_)
          · refine v_iinc hG [(0, _), (1, _), (2, _), (3, _), (4, _)] dX0_number_55 4 rfl (by decide) rfl ?_
            refine v_goto hG 7 dX0_number_58 (by decide) ?_
            refine ih7 _ _ _ ?_ (by omega)
            have e9 : (x4 + 1).toNat = x4.toNat + 1 := by omega
            refine ⟨by omega, by omega, ?_, ?_⟩
            · rw [e9]
              simp only [prt]
              rw [if_neg (by omega)]
              first | (rw [if_pos (by omega)]; omega) | (rw [if_neg (by omega)]; omega)
            · rw [e9]
              simp only [nuN]
              rw [if_neg (by omega)]
              first | (rw [if_pos (by omega)]; omega) | (rw [if_neg (by omega), if_pos (by omega)]; omega) | (rw [if_neg (by omega), if_neg (by omega)]; omega)
          · refine v_iload_n hG dX0_number_39 3 rfl ?_
            refine v_bipush hG dX0_number_40 (by decide) ?_
            refine v_imul hG dX0_number_42 ?_
            refine v_aload_n hG dX0_number_43 0 rfl ?_
            refine v_getf (ci := 0) (k := 0) hG iW0 f9 rfl (by decide) h22k (by decide) (cl_5 _ _ _ _) rfl dX0_number_44 ?_
            refine v_iload hG dX0_number_47 4 rfl ?_
            refine v_iald hG k_23 (by decide) (cl_180 _ _ _ _) (by decide) (by omega) dX0_number_49 ?_
            refine v_iadd hG dX0_number_50 ?_
            refine v_bipush hG dX0_number_51 (by decide) ?_
            refine v_isub hG dX0_number_53 ?_
            refine v_istore_n hG [(0, _), (1, _), (2, _), (3, _), (4, _)] dX0_number_54 (by decide) rfl ?_
            refine v_iinc hG [(0, _), (1, _), (2, _), (3, _), (4, _)] dX0_number_55 4 rfl (by decide) rfl ?_
            refine v_goto hG 7 dX0_number_58 (by decide) ?_
            refine ih7 _ _ _ ?_ (by omega)
            have e9 : (x4 + 1).toNat = x4.toNat + 1 := by omega
            refine ⟨by omega, by omega, ?_, ?_⟩
            · rw [e9]
              simp only [prt]
              rw [if_neg (by omega)]
              first | (rw [if_pos (by omega)]; omega) | (rw [if_neg (by omega)]; omega)
            · rw [e9]
              simp only [nuN]
              rw [if_neg (by omega)]
              first | (rw [if_pos (by omega)]; omega) | (rw [if_neg (by omega), if_pos (by omega)]; omega) | (rw [if_neg (by omega), if_neg (by omega)]; omega)
        · refine v_iinc hG [(0, _), (1, _), (2, _), (3, _), (4, _)] dX0_number_28 2 rfl (by decide) rfl ?_
          refine v_goto hG 55 dX0_number_31 (by decide) ?_
          refine v_iinc hG [(0, _), (1, _), (2, _), (3, _), (4, _)] dX0_number_55 4 rfl (by decide) rfl ?_
          refine v_goto hG 7 dX0_number_58 (by decide) ?_
          refine ih7 _ _ _ ?_ (by omega)
          have e9 : (x4 + 1).toNat = x4.toNat + 1 := by omega
          refine ⟨by omega, by omega, ?_, ?_⟩
          · rw [e9]
            simp only [prt]
            rw [if_neg (by omega)]
            first | (rw [if_pos (by omega)]; omega) | (rw [if_neg (by omega)]; omega)
          · rw [e9]
            simp only [nuN]
            rw [if_neg (by omega)]
            first | (rw [if_pos (by omega)]; omega) | (rw [if_neg (by omega), if_pos (by omega)]; omega) | (rw [if_neg (by omega), if_neg (by omega)]; omega)
  exact L7 _ _ _ _ ⟨by omega, by omega, rfl, rfl⟩ (Nat.le_refl _)

