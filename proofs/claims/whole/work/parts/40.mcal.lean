set_option maxHeartbeats 4000000 in
set_option maxRecDepth 100000 in
theorem c_X5_in {l : Launch} {D : va_G} {cA : Nat → ClassId} {r : Nat → Nat} {z : Zt} {x lo hi : Int} (hr : Inj r) (hx : -2147483648 ≤ x ∧ x < 2147483648) (hl : -2147483648 ≤ lo ∧ lo < 2147483648) (hh : -2147483648 ≤ hi ∧ hi < 2147483648) : Ki l D cA r yX5_in wsX5_in 0 0 z [.int (iN x), .int (iN lo), .int (iN hi)] (fun v z1 => z = z1 ∧ v = ind (lo ≤ x ∧ x ≤ hi)) := by
  refine Ki_of [(0, _), (1, _), (2, _)] hr (by decide) rfl rfl (Nat.le_of_ble_eq_true rfl) rfl (fun Γ hG hR => ?_)
  refine v_iload_n hG dX5_in_0 0 rfl ?_
  refine v_iload_n hG dX5_in_1 1 rfl ?_
  refine v_icmp_lt hG 14 (by omega) (by omega) dX5_in_2 (by decide) (fun h2 => ?_) (fun h2 => ?_)
  · refine v_iconst hG dX5_in_14 ?_
    exact v_zret hG hR (by first | exact Or.inl rfl | exact Or.inr rfl | omega) dX5_in_15 ⟨rfl, by first | (rw [ind_t (by omega)]) | (rw [ind_f (by omega)])⟩
  · refine v_iload_n hG dX5_in_5 0 rfl ?_
    refine v_iload_n hG dX5_in_6 2 rfl ?_
    refine v_icmp_gt hG 14 (by omega) (by omega) dX5_in_7 (by decide) (fun h7 => ?_) (fun h7 => ?_)
    · refine v_iconst hG dX5_in_14 ?_
      exact v_zret hG hR (by first | exact Or.inl rfl | exact Or.inr rfl | omega) dX5_in_15 ⟨rfl, by first | (rw [ind_t (by omega)]) | (rw [ind_f (by omega)])⟩
    · refine v_iconst hG dX5_in_10 ?_
      refine v_goto hG 15 dX5_in_11 (by decide) ?_
      exact v_zret hG hR (by first | exact Or.inl rfl | exact Or.inr rfl | omega) dX5_in_15 ⟨rfl, by first | (rw [ind_t (by omega)]) | (rw [ind_f (by omega)])⟩

set_option maxHeartbeats 4000000 in
set_option maxRecDepth 100000 in
theorem c_X5_fails {l : Launch} {D : va_G} {cA : Nat → ClassId} {r : Nat → Nat} {z : Zt} {q : Int} (hr : Inj r) (h9 : kd 169 = 6) : Ki l D cA r yX5_fails wsX5_fails 0 0 z [.ref (r 169), .int (iN q)] (fun v z1 => zup z 169 5 q = z1 ∧ v = 0) := by
  have iW5 : ∀ w ∈ u_ws RX5 TX5 10, w ∈ wsX5_fails := by decide +kernel
  have f29 : Cond.fieldLink RX5 29 (TX5 5).1 (TX5 5).2.1 (TX5 5).2.2.1 ∈ wsX5_fails := by decide +kernel
  refine Ki_of [(0, _), (1, _)] hr (by decide) rfl rfl (Nat.le_of_ble_eq_true rfl) rfl (fun Γ hG hR => ?_)
  refine v_aload_n hG dX5_fails_0 0 rfl ?_
  refine v_iload_n hG dX5_fails_1 1 rfl ?_
  refine v_putf (ci := 5) (k := 5) hG iW5 tyX5_ok nmX5 f29 rfl (by decide) rfl rfl h9 (by decide) (cl_6 _ _ _ _) (Nat.le_of_ble_eq_true rfl) rfl dX5_fails_2 ?_
  refine v_iconst hG dX5_fails_5 ?_
  exact v_iret hG hR dX5_fails_6 ⟨rfl, rfl⟩

set_option maxHeartbeats 4000000 in
set_option maxRecDepth 100000 in
theorem c_X5_thrown {l : Launch} {D : va_G} {cA : Nat → ClassId} {r : Nat → Nat} {z : Zt}  (hr : Inj r) (h9 : kd 169 = 6) : Ki l D cA r yX5_thrown wsX5_thrown 0 0 z [.ref (r 169)] (fun v z1 => z = z1 ∧ v = z 169 5) := by
  have iW5 : ∀ w ∈ u_ws RX5 TX5 10, w ∈ wsX5_thrown := by decide +kernel
  have f29 : Cond.fieldLink RX5 29 (TX5 5).1 (TX5 5).2.1 (TX5 5).2.2.1 ∈ wsX5_thrown := by decide +kernel
  refine Ki_of [(0, _)] hr (by decide) rfl rfl (Nat.le_of_ble_eq_true rfl) rfl (fun Γ hG hR => ?_)
  refine v_aload_n hG dX5_thrown_0 0 rfl ?_
  refine v_getf (ci := 5) (k := 5) hG iW5 f29 rfl (by decide) h9 (by decide) (cl_6 _ _ _ _) rfl dX5_thrown_1 ?_
  exact v_iret hG hR dX5_thrown_4 ⟨rfl, rfl⟩

set_option maxHeartbeats 4000000 in
set_option maxRecDepth 100000 in
theorem c_X5_isTown {l : Launch} {D : va_G} {cA : Nat → ClassId} {r : Nat → Nat} {z : Zt} {x : Int} (hr : Inj r) (hx : -2147483648 ≤ x ∧ x < 2147483648) : Ki l D cA r yX5_isTown wsX5_isTown 1 22 z [.int (iN x)] (fun v z1 => z = z1 ∧ v = ind (0 ≤ x ∧ x ≤ 1)) := by
  refine Ki_of [(0, _)] hr (by decide) rfl rfl (Nat.le_of_ble_eq_true rfl) rfl (fun Γ hG hR => ?_)
  refine v_iload_n hG dX5_isTown_0 0 rfl ?_
  refine v_iconst hG dX5_isTown_1 ?_
  refine v_iconst hG dX5_isTown_2 ?_
  refine v_callSi (n := 3) hG (c_X5_in hr (by omega) (by omega) (by omega)) gX5_isTown_X5_in rfl (by decide +kernel) rfl (by decide) dX5_isTown_3 rfl (Nat.le_of_ble_eq_true rfl) (by decide) ?_
  intro v3 z3 hp3
  obtain ⟨rfl, rfl⟩ := hp3
  have hi3 := ind_bd
  exact v_zret hG hR (by have h8 := ind_bd (0 ≤ x ∧ x ≤ 1); omega) dX5_isTown_6 ⟨rfl, rfl⟩

set_option maxHeartbeats 4000000 in
set_option maxRecDepth 100000 in
theorem c_X5_isFeast {l : Launch} {D : va_G} {cA : Nat → ClassId} {r : Nat → Nat} {z : Zt} {x : Int} (hr : Inj r) (h9 : kd 169 = 6) (hx : -2147483648 ≤ x ∧ x < 2147483648) (h14 : 0 ≤ z 170 14 ∧ z 170 14 ≤ 10) : Ki l D cA r yX5_isFeast wsX5_isFeast 1 22 z [.ref (r 169), .int (iN x)] (fun v z1 => z = z1 ∧ v = ind (0 ≤ x ∧ x ≤ z 170 14 - 1)) := by
  have iW5 : ∀ w ∈ u_ws RX5 TX5 10, w ∈ wsX5_isFeast := by decide +kernel
  have f7 : Cond.fieldLink RX5 7 (TX5 0).1 (TX5 0).2.1 (TX5 0).2.2.1 ∈ wsX5_isFeast := by decide +kernel
  refine Ki_of [(0, _), (1, _)] hr (by decide) rfl rfl (Nat.le_of_ble_eq_true rfl) rfl (fun Γ hG hR => ?_)
  refine v_iload_n hG dX5_isFeast_0 1 rfl ?_
  refine v_iconst hG dX5_isFeast_1 ?_
  refine v_aload_n hG dX5_isFeast_2 0 rfl ?_
  refine v_getf (ci := 5) (k := 0) hG iW5 f7 rfl (by decide) h9 (by decide) (cl_6 _ _ _ _) rfl dX5_isFeast_3 ?_
  refine v_bipush hG dX5_isFeast_6 (by decide) ?_
  refine v_iald hG k_170 (by decide) (cl_162 _ _ _ _) (by decide) (by omega) dX5_isFeast_8 ?_
  have e14 : z 170 (14 : Int).toNat = z 170 14 := rfl
  rw [e14]
  refine v_iconst hG dX5_isFeast_9 ?_
  refine v_isub hG dX5_isFeast_10 ?_
  refine v_callSi (n := 3) hG (c_X5_in hr (by omega) (by omega) (by omega)) gX5_isFeast_X5_in rfl (by decide +kernel) rfl (by decide) dX5_isFeast_11 rfl (Nat.le_of_ble_eq_true rfl) (by decide) ?_
  intro v11 z11 hp11
  obtain ⟨rfl, rfl⟩ := hp11
  have hi11 := ind_bd
  exact v_zret hG hR (by have h8 := ind_bd (0 ≤ x ∧ x ≤ z 170 14 - 1); omega) dX5_isFeast_14 ⟨rfl, rfl⟩

set_option maxHeartbeats 4000000 in
set_option maxRecDepth 100000 in
theorem c_X5_gaps {l : Launch} {D : va_G} {cA : Nat → ClassId} {r : Nat → Nat} {z : Zt} {t : Int} (hr : Inj r) (h9 : kd 169 = 6) (ht : t = 0 ∨ t = 1) : Ki l D cA r yX5_gaps wsX5_gaps 0 0 z [.ref (r 169), .int (iN t)] (fun v z1 => z = z1 ∧ v = mN (z 170) t) := by
  have iW5 : ∀ w ∈ u_ws RX5 TX5 10, w ∈ wsX5_gaps := by decide +kernel
  have f7 : Cond.fieldLink RX5 7 (TX5 0).1 (TX5 0).2.1 (TX5 0).2.2.1 ∈ wsX5_gaps := by decide +kernel
  refine Ki_of [(0, _), (1, _)] hr (by decide) rfl rfl (Nat.le_of_ble_eq_true rfl) rfl (fun Γ hG hR => ?_)
  refine v_aload_n hG dX5_gaps_0 0 rfl ?_
  refine v_getf (ci := 5) (k := 0) hG iW5 f7 rfl (by decide) h9 (by decide) (cl_6 _ _ _ _) rfl dX5_gaps_1 ?_
  refine v_iconst hG dX5_gaps_4 ?_
  refine v_bipush hG dX5_gaps_5 (by decide) ?_
  refine v_iload_n hG dX5_gaps_7 1 rfl ?_
  refine v_imul hG dX5_gaps_8 ?_
  refine v_iadd hG dX5_gaps_9 ?_
  refine v_iald hG k_170 (by decide) (cl_162 _ _ _ _) (by decide) (by omega) dX5_gaps_10 ?_
  exact v_iret hG hR dX5_gaps_11 ⟨rfl, by rw [mN, show (0 : Int) + 7 * t = 7 * t by omega]⟩

set_option maxHeartbeats 4000000 in
set_option maxRecDepth 100000 in
theorem c_X5_gap {l : Launch} {D : va_G} {cA : Nat → ClassId} {r : Nat → Nat} {z : Zt} {t k w : Int} (hr : Inj r) (h9 : kd 169 = 6) (ht : t = 0 ∨ t = 1) (hk : 0 ≤ k ∧ k < 3) (hw : 0 ≤ w ∧ w ≤ 1) : Ki l D cA r yX5_gap wsX5_gap 0 0 z [.ref (r 169), .int (iN t), .int (iN k), .int (iN w)] (fun v z1 => z = z1 ∧ v = z 170 (7 * t + 1 + 2 * k + w).toNat) := by
  have iW5 : ∀ w ∈ u_ws RX5 TX5 10, w ∈ wsX5_gap := by decide +kernel
  have f7 : Cond.fieldLink RX5 7 (TX5 0).1 (TX5 0).2.1 (TX5 0).2.2.1 ∈ wsX5_gap := by decide +kernel
  refine Ki_of [(0, _), (1, _), (2, _), (3, _)] hr (by decide) rfl rfl (Nat.le_of_ble_eq_true rfl) rfl (fun Γ hG hR => ?_)
  refine v_aload_n hG dX5_gap_0 0 rfl ?_
  refine v_getf (ci := 5) (k := 0) hG iW5 f7 rfl (by decide) h9 (by decide) (cl_6 _ _ _ _) rfl dX5_gap_1 ?_
  refine v_iconst hG dX5_gap_4 ?_
  refine v_bipush hG dX5_gap_5 (by decide) ?_
  refine v_iload_n hG dX5_gap_7 1 rfl ?_
  refine v_imul hG dX5_gap_8 ?_
  refine v_iadd hG dX5_gap_9 ?_
  refine v_iconst hG dX5_gap_10 ?_
  refine v_iadd hG dX5_gap_11 ?_
  refine v_iconst hG dX5_gap_12 ?_
  refine v_iload_n hG dX5_gap_13 2 rfl ?_
  refine v_imul hG dX5_gap_14 ?_
  refine v_iadd hG dX5_gap_15 ?_
  refine v_iload_n hG dX5_gap_16 3 rfl ?_
  refine v_iadd hG dX5_gap_17 ?_
  refine v_iald hG k_170 (by decide) (cl_162 _ _ _ _) (by decide) (by omega) dX5_gap_18 ?_
  exact v_iret hG hR dX5_gap_19 ⟨rfl, by rw [show (0 : Int) + 7 * t + 1 + 2 * k + w = 7 * t + 1 + 2 * k + w by omega]⟩

set_option maxHeartbeats 4000000 in
set_option maxRecDepth 100000 in
theorem c_X5_feast {l : Launch} {D : va_G} {cA : Nat → ClassId} {r : Nat → Nat} {z : Zt} {f w : Int} (hr : Inj r) (h9 : kd 169 = 6) (hf : 0 ≤ f ∧ f < 10) (hw : 0 ≤ w ∧ w ≤ 3) : Ki l D cA r yX5_feast wsX5_feast 0 0 z [.ref (r 169), .int (iN f), .int (iN w)] (fun v z1 => z = z1 ∧ v = mF (z 170) f w) := by
  have iW5 : ∀ w ∈ u_ws RX5 TX5 10, w ∈ wsX5_feast := by decide +kernel
  have f7 : Cond.fieldLink RX5 7 (TX5 0).1 (TX5 0).2.1 (TX5 0).2.2.1 ∈ wsX5_feast := by decide +kernel
  refine Ki_of [(0, _), (1, _), (2, _)] hr (by decide) rfl rfl (Nat.le_of_ble_eq_true rfl) rfl (fun Γ hG hR => ?_)
  refine v_aload_n hG dX5_feast_0 0 rfl ?_
  refine v_getf (ci := 5) (k := 0) hG iW5 f7 rfl (by decide) h9 (by decide) (cl_6 _ _ _ _) rfl dX5_feast_1 ?_
  refine v_bipush hG dX5_feast_4 (by decide) ?_
  refine v_iconst hG dX5_feast_6 ?_
  refine v_iload_n hG dX5_feast_7 1 rfl ?_
  refine v_imul hG dX5_feast_8 ?_
  refine v_iadd hG dX5_feast_9 ?_
  refine v_iload_n hG dX5_feast_10 2 rfl ?_
  refine v_iadd hG dX5_feast_11 ?_
  refine v_iald hG k_170 (by decide) (cl_162 _ _ _ _) (by decide) (by omega) dX5_feast_12 ?_
  exact v_iret hG hR dX5_feast_13 ⟨rfl, rfl⟩

set_option maxHeartbeats 4000000 in
set_option maxRecDepth 100000 in
theorem c_X5_lengthOf {l : Launch} {D : va_G} {cA : Nat → ClassId} {r : Nat → Nat} {z : Zt} {t m : Int} (hr : Inj r) (ht : t = 0 ∨ t = 1) (hm : 0 ≤ m ∧ m ≤ 100) : Ki l D cA r yX5_lengthOf wsX5_lengthOf 0 0 z [.int (iN t), .int (iN m)] (fun v z1 => z = z1 ∧ v = mlen (1 - t) m) := by
  refine Ki_of [(0, _), (1, _)] hr (by decide) rfl rfl (Nat.le_of_ble_eq_true rfl) rfl (fun Γ hG hR => ?_)
  refine v_iload_n hG dX5_lengthOf_0 0 rfl ?_
  refine v_iconst hG dX5_lengthOf_1 ?_
  refine v_icmp_ne hG 10 (by omega) (by omega) dX5_lengthOf_2 (by decide) (fun h2 => ?_) (fun h2 => ?_)
  · refine v_iload_n hG dX5_lengthOf_10 1 rfl ?_
    refine v_iconst hG dX5_lengthOf_11 ?_
    refine v_irem hG (by omega) (by omega) dX5_lengthOf_12 ?_
    refine v_iconst hG dX5_lengthOf_13 ?_
    refine v_icmp_ne hG 22 (by omega) (by omega) dX5_lengthOf_14 (by decide) (fun h14 => ?_) (fun h14 => ?_)
    · refine v_bipush hG dX5_lengthOf_22 (by decide) ?_
      exact v_iret hG hR dX5_lengthOf_24 ⟨rfl, by unfold mlen; first | (rw [if_pos (by omega)]) | (rw [if_neg (by omega), if_pos (by omega)]) | (rw [if_neg (by omega), if_neg (by omega)])⟩
    · refine v_bipush hG dX5_lengthOf_17 (by decide) ?_
      refine v_goto hG 24 dX5_lengthOf_19 (by decide) ?_
      exact v_iret hG hR dX5_lengthOf_24 ⟨rfl, by unfold mlen; first | (rw [if_pos (by omega)]) | (rw [if_neg (by omega), if_pos (by omega)]) | (rw [if_neg (by omega), if_neg (by omega)])⟩
  · refine v_bipush hG dX5_lengthOf_5 (by decide) ?_
    refine v_goto hG 24 dX5_lengthOf_7 (by decide) ?_
    exact v_iret hG hR dX5_lengthOf_24 ⟨rfl, by unfold mlen; first | (rw [if_pos (by omega)]) | (rw [if_neg (by omega), if_pos (by omega)]) | (rw [if_neg (by omega), if_neg (by omega)])⟩

set_option maxHeartbeats 4000000 in
set_option maxRecDepth 100000 in
theorem c_X5_daysAhead {l : Launch} {D : va_G} {cA : Nat → ClassId} {r : Nat → Nat} {z : Zt} {t m : Int} (hr : Inj r) (ht : t = 0 ∨ t = 1) (hm : 1 ≤ m ∧ m ≤ 13) : Ki l D cA r yX5_daysAhead wsX5_daysAhead 1 21 z [.int (iN t), .int (iN m)] (fun v z1 => z = z1 ∧ v = mbef (1 - t) m) := by
  refine Ki_of [(0, _), (1, _)] hr (by decide) rfl rfl (Nat.le_of_ble_eq_true rfl) rfl (fun Γ hG hR => ?_)
  refine v_iconst hG dX5_daysAhead_0 ?_
  refine v_istore_n hG [(0, _), (1, _), (2, _)] dX5_daysAhead_1 (by decide) rfl ?_
  refine v_iconst hG dX5_daysAhead_2 ?_
  refine v_istore_n hG [(0, _), (1, _), (2, _), (3, _)] dX5_daysAhead_3 (by decide) rfl ?_
  have L4 : ∀ (n : Nat), ∀ (x2 x3 : Int), (1 ≤ x3 ∧ x3 ≤ m ∧ x2 = mbef (1 - t) x3) → (m - x3 + 1).toNat ≤ n → V Γ z 0 0 [(0, .int (iN t)), (1, .int (iN m)), (2, .int (iN x2)), (3, .int (iN x3))] 4 [] := by
    intro n
    induction n with
    | zero =>
      intro x2 x3 hI hm
      obtain ⟨i1, i2, i3v⟩ := hI
      exact absurd hm (by omega)
    | succ n ih4 =>
      intro x2 x3 hI hm
      obtain ⟨i1, i2, i3v⟩ := hI
      refine v_iload_n hG dX5_daysAhead_4 3 rfl ?_
      refine v_iload_n hG dX5_daysAhead_5 1 rfl ?_
      refine v_icmp_ge hG 23 (by omega) (by omega) dX5_daysAhead_6 (by decide) (fun h6 => ?_) (fun h6 => ?_)
      · refine v_iload_n hG dX5_daysAhead_23 2 rfl ?_
        exact v_iret hG hR dX5_daysAhead_24 ⟨rfl, by rw [i3v, show x3 = m by omega]⟩
      · refine v_iload_n hG dX5_daysAhead_9 2 rfl ?_
        refine v_iload_n hG dX5_daysAhead_10 0 rfl ?_
        refine v_iload_n hG dX5_daysAhead_11 3 rfl ?_
        refine v_callSi (n := 2) hG (c_X5_lengthOf hr (by omega) (by omega)) gX5_daysAhead_X5_lengthOf rfl (by decide +kernel) rfl (by decide) dX5_daysAhead_12 rfl (Nat.le_of_ble_eq_true rfl) (by decide) ?_
        intro v12 z12 hp12
        obtain ⟨rfl, rfl⟩ := hp12
        refine v_iadd hG dX5_daysAhead_15 ?_
        refine v_istore_n hG [(0, _), (1, _), (2, _), (3, _)] dX5_daysAhead_16 (by decide) rfl ?_
        refine v_iinc hG [(0, _), (1, _), (2, _), (3, _)] dX5_daysAhead_17 3 rfl (by decide) rfl ?_
        refine v_goto hG 4 dX5_daysAhead_20 (by decide) ?_
        exact ih4 _ _ ⟨by omega, by omega, by rw [i3v, mbef_s (by omega)]⟩ (by omega)
  exact L4 _ _ _ ⟨by omega, by omega, (mbef_1 _).symm⟩ (Nat.le_refl _)

set_option maxHeartbeats 4000000 in
set_option maxRecDepth 100000 in
theorem c_X5_yearLength {l : Launch} {D : va_G} {cA : Nat → ClassId} {r : Nat → Nat} {z : Zt} {t : Int} (hr : Inj r) (ht : t = 0 ∨ t = 1) : Ki l D cA r yX5_yearLength wsX5_yearLength 2 44 z [.int (iN t)] (fun v z1 => z = z1 ∧ v = yl (1 - t)) := by
  refine Ki_of [(0, _)] hr (by decide) rfl rfl (Nat.le_of_ble_eq_true rfl) rfl (fun Γ hG hR => ?_)
  refine v_iload_n hG dX5_yearLength_0 0 rfl ?_
  refine v_bipush hG dX5_yearLength_1 (by decide) ?_
  refine v_callSi (n := 2) hG (c_X5_daysAhead hr (by omega) (by omega)) gX5_yearLength_X5_daysAhead rfl (by decide +kernel) rfl (by decide) dX5_yearLength_3 rfl (Nat.le_of_ble_eq_true rfl) (by decide) ?_
  intro v3 z3 hp3
  obtain ⟨rfl, rfl⟩ := hp3
  exact v_iret hG hR dX5_yearLength_6 ⟨rfl, mbef_13 _⟩

set_option maxHeartbeats 4000000 in
set_option maxRecDepth 100000 in
theorem c_X5_calendar {l : Launch} {D : va_G} {cA : Nat → ClassId} {r : Nat → Nat} {z : Zt} {t d : Int} (hr : Inj r) (h9 : kd 169 = 6) (ht : t = 0 ∨ t = 1) (hM : MG (z 170)) (hd : -2147483648 ≤ d ∧ d < 2147483648) : Ki l D cA r yX5_calendar wsX5_calendar 1 23 z [.ref (r 169), .int (iN t), .int (iN d)] (fun v z1 => z = z1 ∧ v = calM (z 170) t d) := by
  obtain ⟨hn0, hn3, hk, hsr⟩ := id (hM t ht)
  refine Ki_of [(0, _), (1, _), (2, _)] hr (by decide) rfl rfl (Nat.le_of_ble_eq_true rfl) rfl (fun Γ hG hR => ?_)
  refine v_iload_n hG dX5_calendar_0 2 rfl ?_
  refine v_istore_n hG [(0, _), (1, _), (2, _), (3, _)] dX5_calendar_1 (by decide) rfl ?_
  refine v_iconst hG dX5_calendar_2 ?_
  refine v_istore hG [(0, _), (1, _), (2, _), (3, _), (4, _)] dX5_calendar_3 (by decide) rfl ?_
  have L5 : ∀ (n : Nat), ∀ (x3 x4 : Int), (0 ≤ x4 ∧ x4 ≤ mN (z 170) t ∧ x3 = calN (mD (z 170) t) (mL (z 170) t) d x4.toNat) → (mN (z 170) t - x4 + 1).toNat ≤ n → V Γ z 0 0 [(0, .ref (r 169)), (1, .int (iN t)), (2, .int (iN d)), (3, .int (iN x3)), (4, .int (iN x4))] 5 [] := by
    intro n
    induction n with
    | zero =>
      intro x3 x4 hI hm
      obtain ⟨i1, i2, i3v⟩ := hI
      exact absurd hm (by omega)
    | succ n ih5 =>
      intro x3 x4 hI hm
      obtain ⟨i1, i2, i3v⟩ := hI
      have eD : z 170 (7 * t + 1 + 2 * x4 + 0).toNat = mD (z 170) t x4.toNat := by
        unfold mD
        rw [show 7 * t + 1 + 2 * x4 + 0 = 7 * t + 1 + 2 * (x4.toNat : Int) by omega]
      have eL : z 170 (7 * t + 1 + 2 * x4 + 1).toNat = mL (z 170) t x4.toNat := by
        unfold mL
        rw [show 7 * t + 1 + 2 * x4 + 1 = 7 * t + 2 + 2 * (x4.toNat : Int) by omega]
      refine v_iload hG dX5_calendar_5 4 rfl ?_
      refine v_aload_n hG dX5_calendar_7 0 rfl ?_
      refine v_iload_n hG dX5_calendar_8 1 rfl ?_
      refine v_callVi (n := 1) (ci := 5) hG (c_X5_gaps hr h9 (by omega)) gX5_calendar_X5_gaps rfl (by decide +kernel) rfl (by decide) h9 (by decide) (cl_6 _ _ _ _) rfl dX5_calendar_9 rfl (Nat.le_of_ble_eq_true rfl) (by decide) ?_
      intro v9 z9 hp9
      obtain ⟨rfl, rfl⟩ := hp9
      refine v_icmp_ge hG 48 (by omega) (by omega) dX5_calendar_12 (by decide) (fun h12 => ?_) (fun h12 => ?_)
      · refine v_iload_n hG dX5_calendar_48 3 rfl ?_
        exact v_iret hG hR dX5_calendar_49 ⟨rfl, by rw [i3v, calM, show x4 = mN (z 170) t by omega]⟩
      · have hb := hk x4.toNat (by omega)
        refine v_iload_n hG dX5_calendar_15 3 rfl ?_
        refine v_iload_n hG dX5_calendar_16 2 rfl ?_
        refine v_aload_n hG dX5_calendar_17 0 rfl ?_
        refine v_iload_n hG dX5_calendar_18 1 rfl ?_
        refine v_iload hG dX5_calendar_19 4 rfl ?_
        refine v_iconst hG dX5_calendar_21 ?_
        refine v_callVi (n := 3) (ci := 5) hG (c_X5_gap hr h9 (by omega) (by omega) (by omega)) gX5_calendar_X5_gap rfl (by decide +kernel) rfl (by decide) h9 (by decide) (cl_6 _ _ _ _) rfl dX5_calendar_22 rfl (Nat.le_of_ble_eq_true rfl) (by decide) ?_
        intro v22 z22 hp22
        obtain ⟨rfl, rfl⟩ := hp22
        refine v_icmp_le hG 39 (by omega) (by omega) dX5_calendar_25 (by decide) (fun h25 => ?_) (fun h25 => ?_)
        · refine v_iconst hG dX5_calendar_39 ?_
          refine v_iadd hG dX5_calendar_40 ?_
          refine v_istore_n hG [(0, _), (1, _), (2, _), (3, _), (4, _)] dX5_calendar_41 (by decide) rfl ?_
          refine v_iinc hG [(0, _), (1, _), (2, _), (3, _), (4, _)] dX5_calendar_42 4 rfl (by decide) rfl ?_
          refine v_goto hG 5 dX5_calendar_45 (by decide) ?_
          exact ih5 _ _ (by refine ⟨by omega, by omega, ?_⟩; rw [show (x4 + 1).toNat = x4.toNat + 1 by omega]; simp only [calN]; split <;> omega) (by omega)
        · refine v_aload_n hG dX5_calendar_28 0 rfl ?_
          refine v_iload_n hG dX5_calendar_29 1 rfl ?_
          refine v_iload hG dX5_calendar_30 4 rfl ?_
          refine v_iconst hG dX5_calendar_32 ?_
          refine v_callVi (n := 3) (ci := 5) hG (c_X5_gap hr h9 (by omega) (by omega) (by omega)) gX5_calendar_X5_gap rfl (by decide +kernel) rfl (by decide) h9 (by decide) (cl_6 _ _ _ _) rfl dX5_calendar_33 rfl (Nat.le_of_ble_eq_true rfl) (by decide) ?_
          intro v33 z33 hp33
          obtain ⟨rfl, rfl⟩ := hp33
          refine v_goto hG 40 dX5_calendar_36 (by decide) ?_
          refine v_iadd hG dX5_calendar_40 ?_
          refine v_istore_n hG [(0, _), (1, _), (2, _), (3, _), (4, _)] dX5_calendar_41 (by decide) rfl ?_
          refine v_iinc hG [(0, _), (1, _), (2, _), (3, _), (4, _)] dX5_calendar_42 4 rfl (by decide) rfl ?_
          refine v_goto hG 5 dX5_calendar_45 (by decide) ?_
          exact ih5 _ _ (by refine ⟨by omega, by omega, ?_⟩; rw [show (x4 + 1).toNat = x4.toNat + 1 by omega]; simp only [calN]; split <;> omega) (by omega)
  exact L5 _ _ _ ⟨by omega, by omega, rfl⟩ (Nat.le_refl _)

set_option maxHeartbeats 4000000 in
set_option maxRecDepth 100000 in
theorem c_X5_firstDay {l : Launch} {D : va_G} {cA : Nat → ClassId} {r : Nat → Nat} {z : Zt} {t d : Int} (hr : Inj r) (h9 : kd 169 = 6) (ht : t = 0 ∨ t = 1) (hM : MG (z 170)) (hd : 0 ≤ d ∧ d ≤ 1000000) : Ki l D cA r yX5_firstDay wsX5_firstDay 1 23 z [.ref (r 169), .int (iN t), .int (iN d)] (fun v z1 => z = z1 ∧ v = fdM (z 170) t d) := by
  obtain ⟨hn0, hn3, hk, hsr⟩ := id (hM t ht)
  have hg := hM t ht
  refine Ki_of [(0, _), (1, _), (2, _)] hr (by decide) rfl rfl (Nat.le_of_ble_eq_true rfl) rfl (fun Γ hG hR => ?_)
  refine v_iload_n hG dX5_firstDay_0 2 rfl ?_
  refine v_istore_n hG [(0, _), (1, _), (2, _), (3, _)] dX5_firstDay_1 (by decide) rfl ?_
  refine v_iconst hG dX5_firstDay_2 ?_
  refine v_istore hG [(0, _), (1, _), (2, _), (3, _), (4, _)] dX5_firstDay_3 (by decide) rfl ?_
  refine v_iconst hG dX5_firstDay_5 ?_
  refine v_istore hG [(0, _), (1, _), (2, _), (3, _), (4, _), (5, _)] dX5_firstDay_6 (by decide) rfl ?_
  have L8 : ∀ (n : Nat), ∀ (x3 x4 x5 : Int), (0 ≤ x5 ∧ x5 ≤ mN (z 170) t ∧ x3 = fdN (mD (z 170) t) (mL (z 170) t) d x5.toNat ∧ (0 ≤ x4 ∧ x4 ≤ 40 * x5) ∧ (x3 = d - x4 ∨ (x5 < mN (z 170) t → x3 ≤ mD (z 170) t x5.toNat))) → (mN (z 170) t - x5 + 1).toNat ≤ n → V Γ z 0 0 [(0, .ref (r 169)), (1, .int (iN t)), (2, .int (iN d)), (3, .int (iN x3)), (4, .int (iN x4)), (5, .int (iN x5))] 8 [] := by
    intro n
    induction n with
    | zero =>
      intro x3 x4 x5 hI hm
      obtain ⟨i1, i2, i3v, i4, i5⟩ := hI
      exact absurd hm (by omega)
    | succ n ih8 =>
      intro x3 x4 x5 hI hm
      obtain ⟨i1, i2, i3v, i4, i5⟩ := hI
      have hfb := fdN_bd hg hd.1 x5.toNat (by omega)
      have eD : z 170 (7 * t + 1 + 2 * x5 + 0).toNat = mD (z 170) t x5.toNat := by
        unfold mD
        rw [show 7 * t + 1 + 2 * x5 + 0 = 7 * t + 1 + 2 * (x5.toNat : Int) by omega]
      have eL : z 170 (7 * t + 1 + 2 * x5 + 1).toNat = mL (z 170) t x5.toNat := by
        unfold mL
        rw [show 7 * t + 1 + 2 * x5 + 1 = 7 * t + 2 + 2 * (x5.toNat : Int) by omega]
      refine v_iload hG dX5_firstDay_8 5 rfl ?_
      refine v_aload_n hG dX5_firstDay_10 0 rfl ?_
      refine v_iload_n hG dX5_firstDay_11 1 rfl ?_
      refine v_callVi (n := 1) (ci := 5) hG (c_X5_gaps hr h9 (by omega)) gX5_firstDay_X5_gaps rfl (by decide +kernel) rfl (by decide) h9 (by decide) (cl_6 _ _ _ _) rfl dX5_firstDay_12 rfl (Nat.le_of_ble_eq_true rfl) (by decide) ?_
      intro v12 z12 hp12
      obtain ⟨rfl, rfl⟩ := hp12
      refine v_icmp_ge hG 74 (by omega) (by omega) dX5_firstDay_15 (by decide) (fun h15 => ?_) (fun h15 => ?_)
      · refine v_iload_n hG dX5_firstDay_74 3 rfl ?_
        exact v_iret hG hR dX5_firstDay_75 ⟨rfl, by rw [i3v, fdM, show x5 = mN (z 170) t by omega]⟩
      · have hb := hk x5.toNat (by omega)
        refine v_aload_n hG dX5_firstDay_18 0 rfl ?_
        refine v_iload_n hG dX5_firstDay_19 1 rfl ?_
        refine v_iload hG dX5_firstDay_20 5 rfl ?_
        refine v_iconst hG dX5_firstDay_22 ?_
        refine v_callVi (n := 3) (ci := 5) hG (c_X5_gap hr h9 (by omega) (by omega) (by omega)) gX5_firstDay_X5_gap rfl (by decide +kernel) rfl (by decide) h9 (by decide) (cl_6 _ _ _ _) rfl dX5_firstDay_23 rfl (Nat.le_of_ble_eq_true rfl) (by decide) ?_
        intro v23 z23 hp23
        obtain ⟨rfl, rfl⟩ := hp23
        refine v_istore hG [(0, _), (1, _), (2, _), (3, _), (4, _), (5, _), (6, _)] dX5_firstDay_26 (by decide) rfl ?_
        refine v_iload_n hG dX5_firstDay_28 3 rfl ?_
        refine v_iload hG dX5_firstDay_29 6 rfl ?_
        refine v_icmp_le hG 68 (by omega) (by omega) dX5_firstDay_31 (by decide) (fun h31 => ?_) (fun h31 => ?_)
        · refine v_iinc hG [(0, _), (1, _), (2, _), (3, _), (4, _), (5, _), (6, _)] dX5_firstDay_68 5 rfl (by decide) rfl ?_
          refine v_goto hG 8 dX5_firstDay_71 (by decide) ?_
          refine v_sub hG [(0, _), (1, _), (2, _), (3, _), (4, _), (5, _)] [0, 1, 2, 3, 4, 5] rfl ?_
          refine ih8 _ _ _ ?_ (by omega)
          have hs9 : x5 + 1 < mN (z 170) t → mD (z 170) t x5.toNat < mD (z 170) t (x5 + 1).toNat := fun q => by
            rw [show (x5 + 1).toNat = x5.toNat + 1 by omega]
            exact hsr _ (by omega)
          have e9 : fdN (mD (z 170) t) (mL (z 170) t) d (x5 + 1).toNat = (if mD (z 170) t x5.toNat < fdN (mD (z 170) t) (mL (z 170) t) d x5.toNat then (if mD (z 170) t x5.toNat + 1 < fdN (mD (z 170) t) (mL (z 170) t) d x5.toNat - mL (z 170) t x5.toNat then fdN (mD (z 170) t) (mL (z 170) t) d x5.toNat - mL (z 170) t x5.toNat else mD (z 170) t x5.toNat + 1) else fdN (mD (z 170) t) (mL (z 170) t) d x5.toNat) := by
            rw [show (x5 + 1).toNat = x5.toNat + 1 by omega]
            rfl
          refine ⟨by omega, by omega, ?_, by omega, by omega⟩
          rw [e9]
          split
          · split <;> omega
          · omega
        · refine v_iload hG dX5_firstDay_34 4 rfl ?_
          refine v_aload_n hG dX5_firstDay_36 0 rfl ?_
          refine v_iload_n hG dX5_firstDay_37 1 rfl ?_
          refine v_iload hG dX5_firstDay_38 5 rfl ?_
          refine v_iconst hG dX5_firstDay_40 ?_
          refine v_callVi (n := 3) (ci := 5) hG (c_X5_gap hr h9 (by omega) (by omega) (by omega)) gX5_firstDay_X5_gap rfl (by decide +kernel) rfl (by decide) h9 (by decide) (cl_6 _ _ _ _) rfl dX5_firstDay_41 rfl (Nat.le_of_ble_eq_true rfl) (by decide) ?_
          intro v41 z41 hp41
          obtain ⟨rfl, rfl⟩ := hp41
          refine v_iadd hG dX5_firstDay_44 ?_
          refine v_istore hG [(0, _), (1, _), (2, _), (3, _), (4, _), (5, _), (6, _)] dX5_firstDay_45 (by decide) rfl ?_
          refine v_iload_n hG dX5_firstDay_47 2 rfl ?_
          refine v_iload hG dX5_firstDay_48 4 rfl ?_
          refine v_isub hG dX5_firstDay_50 ?_
          refine v_iload hG dX5_firstDay_51 6 rfl ?_
          refine v_icmp_le hG 63 (by omega) (by omega) dX5_firstDay_53 (by decide) (fun h53 => ?_) (fun h53 => ?_)
          · refine v_iload hG dX5_firstDay_63 6 rfl ?_
            refine v_iconst hG dX5_firstDay_65 ?_
            refine v_iadd hG dX5_firstDay_66 ?_
            refine v_istore_n hG [(0, _), (1, _), (2, _), (3, _), (4, _), (5, _), (6, _)] dX5_firstDay_67 (by decide) rfl ?_
            refine v_iinc hG [(0, _), (1, _), (2, _), (3, _), (4, _), (5, _), (6, _)] dX5_firstDay_68 5 rfl (by decide) rfl ?_
            refine v_goto hG 8 dX5_firstDay_71 (by decide) ?_
            refine v_sub hG [(0, _), (1, _), (2, _), (3, _), (4, _), (5, _)] [0, 1, 2, 3, 4, 5] rfl ?_
            refine ih8 _ _ _ ?_ (by omega)
            have hs9 : x5 + 1 < mN (z 170) t → mD (z 170) t x5.toNat < mD (z 170) t (x5 + 1).toNat := fun q => by
              rw [show (x5 + 1).toNat = x5.toNat + 1 by omega]
              exact hsr _ (by omega)
            have e9 : fdN (mD (z 170) t) (mL (z 170) t) d (x5 + 1).toNat = (if mD (z 170) t x5.toNat < fdN (mD (z 170) t) (mL (z 170) t) d x5.toNat then (if mD (z 170) t x5.toNat + 1 < fdN (mD (z 170) t) (mL (z 170) t) d x5.toNat - mL (z 170) t x5.toNat then fdN (mD (z 170) t) (mL (z 170) t) d x5.toNat - mL (z 170) t x5.toNat else mD (z 170) t x5.toNat + 1) else fdN (mD (z 170) t) (mL (z 170) t) d x5.toNat) := by
              rw [show (x5 + 1).toNat = x5.toNat + 1 by omega]
              rfl
            refine ⟨by omega, by omega, ?_, by omega, by omega⟩
            rw [e9]
            split
            · split <;> omega
            · omega
          · refine v_iload_n hG dX5_firstDay_56 2 rfl ?_
            refine v_iload hG dX5_firstDay_57 4 rfl ?_
            refine v_isub hG dX5_firstDay_59 ?_
            refine v_goto hG 67 dX5_firstDay_60 (by decide) ?_
            refine v_istore_n hG [(0, _), (1, _), (2, _), (3, _), (4, _), (5, _), (6, _)] dX5_firstDay_67 (by decide) rfl ?_
            refine v_iinc hG [(0, _), (1, _), (2, _), (3, _), (4, _), (5, _), (6, _)] dX5_firstDay_68 5 rfl (by decide) rfl ?_
            refine v_goto hG 8 dX5_firstDay_71 (by decide) ?_
            refine v_sub hG [(0, _), (1, _), (2, _), (3, _), (4, _), (5, _)] [0, 1, 2, 3, 4, 5] rfl ?_
            refine ih8 _ _ _ ?_ (by omega)
            have hs9 : x5 + 1 < mN (z 170) t → mD (z 170) t x5.toNat < mD (z 170) t (x5 + 1).toNat := fun q => by
              rw [show (x5 + 1).toNat = x5.toNat + 1 by omega]
              exact hsr _ (by omega)
            have e9 : fdN (mD (z 170) t) (mL (z 170) t) d (x5 + 1).toNat = (if mD (z 170) t x5.toNat < fdN (mD (z 170) t) (mL (z 170) t) d x5.toNat then (if mD (z 170) t x5.toNat + 1 < fdN (mD (z 170) t) (mL (z 170) t) d x5.toNat - mL (z 170) t x5.toNat then fdN (mD (z 170) t) (mL (z 170) t) d x5.toNat - mL (z 170) t x5.toNat else mD (z 170) t x5.toNat + 1) else fdN (mD (z 170) t) (mL (z 170) t) d x5.toNat) := by
              rw [show (x5 + 1).toNat = x5.toNat + 1 by omega]
              rfl
            refine ⟨by omega, by omega, ?_, by omega, by omega⟩
            rw [e9]
            split
            · split <;> omega
            · omega
  exact L8 _ _ _ _ ⟨by omega, by omega, rfl, by omega, Or.inl (by omega)⟩ (Nat.le_refl _)

set_option maxHeartbeats 4000000 in
set_option maxRecDepth 100000 in
theorem c_X5_yearAt {l : Launch} {D : va_G} {cA : Nat → ClassId} {r : Nat → Nat} {z : Zt} {t d : Int} (hr : Inj r) (h9 : kd 169 = 6) (ht : t = 0 ∨ t = 1) (hM : MG (z 170)) (hd : 0 ≤ d ∧ d ≤ 1000000) : Ki l D cA r yX5_yearAt wsX5_yearAt 3 64 z [.ref (r 169), .int (iN t), .int (iN d)] (fun v z1 => z = z1 ∧ v = 1 + calM (z 170) t d / yl (1 - t)) := by
  have hcb := calM_bd hM ht d
  have hyl := yl_bd (1 - t)
  refine Ki_of [(0, _), (1, _), (2, _)] hr (by decide) rfl rfl (Nat.le_of_ble_eq_true rfl) rfl (fun Γ hG hR => ?_)
  refine v_aload_n hG dX5_yearAt_0 0 rfl ?_
  refine v_iload_n hG dX5_yearAt_1 1 rfl ?_
  refine v_iload_n hG dX5_yearAt_2 2 rfl ?_
  refine v_callVi (n := 2) (ci := 5) hG (c_X5_calendar hr h9 (by omega) hM (by omega)) gX5_yearAt_X5_calendar rfl (by decide +kernel) rfl (by decide) h9 (by decide) (cl_6 _ _ _ _) rfl dX5_yearAt_3 rfl (Nat.le_of_ble_eq_true rfl) (by decide) ?_
  intro v3 z3 hp3
  obtain ⟨rfl, rfl⟩ := hp3
  refine v_iload_n hG dX5_yearAt_6 1 rfl ?_
  refine v_callSi (n := 1) hG (c_X5_yearLength hr (by omega)) gX5_yearAt_X5_yearLength rfl (by decide +kernel) rfl (by decide) dX5_yearAt_7 rfl (Nat.le_of_ble_eq_true rfl) (by decide) ?_
  intro v7 z7 hp7
  obtain ⟨rfl, rfl⟩ := hp7
  refine v_idiv hG (by omega) (by omega) dX5_yearAt_10 ?_
  refine v_iconst hG dX5_yearAt_11 ?_
  refine v_iadd hG dX5_yearAt_12 ?_
  exact v_iret hG hR dX5_yearAt_13 ⟨rfl, by omega⟩

set_option maxHeartbeats 4000000 in
set_option maxRecDepth 100000 in
theorem c_X5_monthAt {l : Launch} {D : va_G} {cA : Nat → ClassId} {r : Nat → Nat} {z : Zt} {t d : Int} (hr : Inj r) (h9 : kd 169 = 6) (ht : t = 0 ∨ t = 1) (hM : MG (z 170)) (hd : 0 ≤ d ∧ d ≤ 1000000) : Ki l D cA r yX5_monthAt wsX5_monthAt 3 64 z [.ref (r 169), .int (iN t), .int (iN d)] (fun v z1 => z = z1 ∧ isMon (1 - t) (calM (z 170) t d % yl (1 - t)) v) := by
  have hcb := calM_bd hM ht d
  have hyl := yl_bd (1 - t)
  have hy0 := Int.emod_nonneg (calM (z 170) t d) (show yl (1 - t) ≠ 0 by omega)
  have hy1 := Int.emod_lt_of_pos (calM (z 170) t d) (show 0 < yl (1 - t) by omega)
  have h13 := mbef_13 (1 - t)
  have hm1 := mbef_1 (1 - t)
  refine Ki_of [(0, _), (1, _), (2, _)] hr (by decide) rfl rfl (Nat.le_of_ble_eq_true rfl) rfl (fun Γ hG hR => ?_)
  refine v_aload_n hG dX5_monthAt_0 0 rfl ?_
  refine v_iload_n hG dX5_monthAt_1 1 rfl ?_
  refine v_iload_n hG dX5_monthAt_2 2 rfl ?_
  refine v_callVi (n := 2) (ci := 5) hG (c_X5_calendar hr h9 (by omega) hM (by omega)) gX5_monthAt_X5_calendar rfl (by decide +kernel) rfl (by decide) h9 (by decide) (cl_6 _ _ _ _) rfl dX5_monthAt_3 rfl (Nat.le_of_ble_eq_true rfl) (by decide) ?_
  intro v3 z3 hp3
  obtain ⟨rfl, rfl⟩ := hp3
  refine v_iload_n hG dX5_monthAt_6 1 rfl ?_
  refine v_callSi (n := 1) hG (c_X5_yearLength hr (by omega)) gX5_monthAt_X5_yearLength rfl (by decide +kernel) rfl (by decide) dX5_monthAt_7 rfl (Nat.le_of_ble_eq_true rfl) (by decide) ?_
  intro v7 z7 hp7
  obtain ⟨rfl, rfl⟩ := hp7
  refine v_irem hG (by omega) (by omega) dX5_monthAt_10 ?_
  refine v_istore_n hG [(0, _), (1, _), (2, _), (3, _)] dX5_monthAt_11 (by decide) rfl ?_
  refine v_iconst hG dX5_monthAt_12 ?_
  refine v_istore hG [(0, _), (1, _), (2, _), (3, _), (4, _)] dX5_monthAt_13 (by decide) rfl ?_
  have L15 : ∀ (n : Nat), ∀ (x4 : Int), (1 ≤ x4 ∧ x4 ≤ 12 ∧ mbef (1 - t) x4 ≤ calM (z 170) t d % yl (1 - t)) → (13 - x4).toNat ≤ n → V Γ z 0 0 [(0, .ref (r 169)), (1, .int (iN t)), (2, .int (iN d)), (3, .int (iN (calM (z 170) t d % yl (1 - t)))), (4, .int (iN x4))] 15 [] := by
    intro n
    induction n with
    | zero =>
      intro x4 hI hm
      obtain ⟨i1, i2, i3v⟩ := hI
      exact absurd hm (by omega)
    | succ n ih15 =>
      intro x4 hI hm
      obtain ⟨i1, i2, i3v⟩ := hI
      have hmb := mbef_bd (a := 1 - t) (m := x4 + 1) (by omega)
      have h12 : x4 = 12 → mbef (1 - t) (x4 + 1) = yl (1 - t) := fun q => by rw [q]; exact h13
      refine v_iload_n hG dX5_monthAt_15 3 rfl ?_
      refine v_iload_n hG dX5_monthAt_16 1 rfl ?_
      refine v_iload hG dX5_monthAt_17 4 rfl ?_
      refine v_iconst hG dX5_monthAt_19 ?_
      refine v_iadd hG dX5_monthAt_20 ?_
      refine v_callSi (n := 2) hG (c_X5_daysAhead hr (by omega) (by omega)) gX5_monthAt_X5_daysAhead rfl (by decide +kernel) rfl (by decide) dX5_monthAt_21 rfl (Nat.le_of_ble_eq_true rfl) (by decide) ?_
      intro v21 z21 hp21
      obtain ⟨rfl, rfl⟩ := hp21
      refine v_icmp_lt hG 33 (by omega) (by omega) dX5_monthAt_24 (by decide) (fun h24 => ?_) (fun h24 => ?_)
      · refine v_iload hG dX5_monthAt_33 4 rfl ?_
        exact v_iret hG hR dX5_monthAt_35 ⟨rfl, i1, i2, i3v, by omega⟩
      · refine v_iinc hG [(0, _), (1, _), (2, _), (3, _), (4, _)] dX5_monthAt_27 4 rfl (by decide) rfl ?_
        refine v_goto hG 15 dX5_monthAt_30 (by decide) ?_
        exact ih15 _ ⟨by omega, by omega, by omega⟩ (by omega)
  exact L15 _ _ ⟨by omega, by omega, by omega⟩ (Nat.le_refl _)

set_option maxHeartbeats 4000000 in
set_option maxRecDepth 100000 in
theorem c_X5_dayAt {l : Launch} {D : va_G} {cA : Nat → ClassId} {r : Nat → Nat} {z : Zt} {t d : Int} (hr : Inj r) (h9 : kd 169 = 6) (ht : t = 0 ∨ t = 1) (hM : MG (z 170)) (hd : 0 ≤ d ∧ d ≤ 1000000) : Ki l D cA r yX5_dayAt wsX5_dayAt 4 88 z [.ref (r 169), .int (iN t), .int (iN d)] (fun v z1 => z = z1 ∧ ∃ mm : Int, isMon (1 - t) (calM (z 170) t d % yl (1 - t)) mm ∧ v = calM (z 170) t d % yl (1 - t) - mbef (1 - t) mm + 1) := by
  have hcb := calM_bd hM ht d
  have hyl := yl_bd (1 - t)
  refine Ki_of [(0, _), (1, _), (2, _)] hr (by decide) rfl rfl (Nat.le_of_ble_eq_true rfl) rfl (fun Γ hG hR => ?_)
  refine v_aload_n hG dX5_dayAt_0 0 rfl ?_
  refine v_iload_n hG dX5_dayAt_1 1 rfl ?_
  refine v_iload_n hG dX5_dayAt_2 2 rfl ?_
  refine v_callVi (n := 2) (ci := 5) hG (c_X5_calendar hr h9 (by omega) hM (by omega)) gX5_dayAt_X5_calendar rfl (by decide +kernel) rfl (by decide) h9 (by decide) (cl_6 _ _ _ _) rfl dX5_dayAt_3 rfl (Nat.le_of_ble_eq_true rfl) (by decide) ?_
  intro v3 z3 hp3
  obtain ⟨rfl, rfl⟩ := hp3
  refine v_iload_n hG dX5_dayAt_6 1 rfl ?_
  refine v_callSi (n := 1) hG (c_X5_yearLength hr (by omega)) gX5_dayAt_X5_yearLength rfl (by decide +kernel) rfl (by decide) dX5_dayAt_7 rfl (Nat.le_of_ble_eq_true rfl) (by decide) ?_
  intro v7 z7 hp7
  obtain ⟨rfl, rfl⟩ := hp7
  refine v_irem hG (by omega) (by omega) dX5_dayAt_10 ?_
  refine v_iload_n hG dX5_dayAt_11 1 rfl ?_
  refine v_aload_n hG dX5_dayAt_12 0 rfl ?_
  refine v_iload_n hG dX5_dayAt_13 1 rfl ?_
  refine v_iload_n hG dX5_dayAt_14 2 rfl ?_
  refine v_callVi (n := 2) (ci := 5) hG (c_X5_monthAt hr h9 (by omega) hM (by omega)) gX5_dayAt_X5_monthAt rfl (by decide +kernel) rfl (by decide) h9 (by decide) (cl_6 _ _ _ _) rfl dX5_dayAt_15 rfl (Nat.le_of_ble_eq_true rfl) (by decide) ?_
  intro v15 z15 hp15
  obtain ⟨rfl, hx15⟩ := hp15
  have ha15 := hx15.1
  have hb15 := hx15.2.1
  refine v_callSi (n := 2) hG (c_X5_daysAhead hr (by omega) (by omega)) gX5_dayAt_X5_daysAhead rfl (by decide +kernel) rfl (by decide) dX5_dayAt_18 rfl (Nat.le_of_ble_eq_true rfl) (by decide) ?_
  intro v18 z18 hp18
  obtain ⟨rfl, rfl⟩ := hp18
  refine v_isub hG dX5_dayAt_21 ?_
  refine v_iconst hG dX5_dayAt_22 ?_
  refine v_iadd hG dX5_dayAt_23 ?_
  exact v_iret hG hR dX5_dayAt_24 ⟨rfl, _, ‹isMon _ _ _›, rfl⟩

set_option maxHeartbeats 4000000 in
set_option maxRecDepth 100000 in
theorem c_X5_dayWith {l : Launch} {D : va_G} {cA : Nat → ClassId} {r : Nat → Nat} {z : Zt} {t y m q : Int} (hr : Inj r) (h9 : kd 169 = 6) (ht : t = 0 ∨ t = 1) (hM : MG (z 170)) (hy : 1 ≤ y ∧ y ≤ 1000) (hm : 1 ≤ m ∧ m ≤ 100) (hq : 1 ≤ q ∧ q ≤ 99) : Ki l D cA r yX5_dayWith wsX5_dayWith 3 64 z [.ref (r 169), .int (iN t), .int (iN y), .int (iN m), .int (iN q)] (fun v z1 => z = z1 ∧ v = (if 12 < m ∨ mlen (1 - t) m < q then -1 else if calM (z 170) t (fdM (z 170) t (dof (1 - t) y m q)) = dof (1 - t) y m q then fdM (z 170) t (dof (1 - t) y m q) else -1)) := by
  have hml := mlen_bd (1 - t) m
  have hi4 := ind_bd (1 ≤ m ∧ m ≤ 12)
  refine Ki_of [(0, _), (1, _), (2, _), (3, _), (4, _)] hr (by decide) rfl rfl (Nat.le_of_ble_eq_true rfl) rfl (fun Γ hG hR => ?_)
  refine v_iload_n hG dX5_dayWith_0 3 rfl ?_
  refine v_iconst hG dX5_dayWith_1 ?_
  refine v_bipush hG dX5_dayWith_2 (by decide) ?_
  refine v_callSi (n := 3) hG (c_X5_in hr (by omega) (by omega) (by omega)) gX5_dayWith_X5_in rfl (by decide +kernel) rfl (by decide) dX5_dayWith_4 rfl (Nat.le_of_ble_eq_true rfl) (by decide) ?_
  intro v4 z4 hp4
  obtain ⟨rfl, rfl⟩ := hp4
  have hi4 := ind_bd
  refine v_if_eq hG 20 (by omega) dX5_dayWith_7 (by decide) (fun h7 => ?_) (fun h7 => ?_)
  · have hm13 : 12 < m ∨ mlen (1 - t) m < q := by
      first
        | exact Or.inr (by omega)
        | exact Or.inl (by have := ind_0.mp h7; omega)
    refine v_iconst hG dX5_dayWith_20 ?_
    exact v_iret hG hR dX5_dayWith_21 ⟨rfl, by first | (rw [if_pos hm13]) | (rw [if_neg (by omega), if_pos (by omega)]) | (rw [if_neg (by omega), if_neg (by omega)])⟩
  · have hm12 : 1 ≤ m ∧ m ≤ 12 := Classical.byContradiction (fun q9 => h7 (ind_f q9))
    refine v_iload hG dX5_dayWith_10 4 rfl ?_
    refine v_iload_n hG dX5_dayWith_12 1 rfl ?_
    refine v_iload_n hG dX5_dayWith_13 3 rfl ?_
    refine v_callSi (n := 2) hG (c_X5_lengthOf hr (by omega) (by omega)) gX5_dayWith_X5_lengthOf rfl (by decide +kernel) rfl (by decide) dX5_dayWith_14 rfl (Nat.le_of_ble_eq_true rfl) (by decide) ?_
    intro v14 z14 hp14
    obtain ⟨rfl, rfl⟩ := hp14
    refine v_icmp_le hG 22 (by omega) (by omega) dX5_dayWith_17 (by decide) (fun h17 => ?_) (fun h17 => ?_)
    · have hdb := dof_bd (a := 1 - t) (y := y) (m := m) (d := q) (by omega) (by omega) (by omega)
      have hfb := fdM_bd hM ht (d := dof (1 - t) y m q) hdb.1
      have hcb := calM_bd hM ht (fdM (z 170) t (dof (1 - t) y m q))
      refine v_iload_n hG dX5_dayWith_22 2 rfl ?_
      refine v_iconst hG dX5_dayWith_23 ?_
      refine v_isub hG dX5_dayWith_24 ?_
      refine v_iload_n hG dX5_dayWith_25 1 rfl ?_
      refine v_callSi (n := 1) hG (c_X5_yearLength hr (by omega)) gX5_dayWith_X5_yearLength rfl (by decide +kernel) rfl (by decide) dX5_dayWith_26 rfl (Nat.le_of_ble_eq_true rfl) (by decide) ?_
      intro v26 z26 hp26
      obtain ⟨rfl, rfl⟩ := hp26
      refine v_imul hG dX5_dayWith_29 ?_
      refine v_iload_n hG dX5_dayWith_30 1 rfl ?_
      refine v_iload_n hG dX5_dayWith_31 3 rfl ?_
      refine v_callSi (n := 2) hG (c_X5_daysAhead hr (by omega) (by omega)) gX5_dayWith_X5_daysAhead rfl (by decide +kernel) rfl (by decide) dX5_dayWith_32 rfl (Nat.le_of_ble_eq_true rfl) (by decide) ?_
      intro v32 z32 hp32
      obtain ⟨rfl, rfl⟩ := hp32
      refine v_iadd hG dX5_dayWith_35 ?_
      refine v_iload hG dX5_dayWith_36 4 rfl ?_
      refine v_iadd hG dX5_dayWith_38 ?_
      refine v_iconst hG dX5_dayWith_39 ?_
      refine v_isub hG dX5_dayWith_40 ?_
      refine v_eqi hG (y := iN (dof (1 - t) y m q)) rfl ?_
      refine v_istore hG [(0, _), (1, _), (2, _), (3, _), (4, _), (5, _)] dX5_dayWith_41 (by decide) rfl ?_
      refine v_aload_n hG dX5_dayWith_43 0 rfl ?_
      refine v_iload_n hG dX5_dayWith_44 1 rfl ?_
      refine v_iload hG dX5_dayWith_45 5 rfl ?_
      refine v_callVi (n := 2) (ci := 5) hG (c_X5_firstDay hr h9 (by omega) hM (by omega)) gX5_dayWith_X5_firstDay rfl (by decide +kernel) rfl (by decide) h9 (by decide) (cl_6 _ _ _ _) rfl dX5_dayWith_47 rfl (Nat.le_of_ble_eq_true rfl) (by decide) ?_
      intro v47 z47 hp47
      obtain ⟨rfl, rfl⟩ := hp47
      refine v_istore hG [(0, _), (1, _), (2, _), (3, _), (4, _), (5, _), (6, _)] dX5_dayWith_50 (by decide) rfl ?_
      refine v_aload_n hG dX5_dayWith_52 0 rfl ?_
      refine v_iload_n hG dX5_dayWith_53 1 rfl ?_
      refine v_iload hG dX5_dayWith_54 6 rfl ?_
      refine v_callVi (n := 2) (ci := 5) hG (c_X5_calendar hr h9 (by omega) hM (by omega)) gX5_dayWith_X5_calendar rfl (by decide +kernel) rfl (by decide) h9 (by decide) (cl_6 _ _ _ _) rfl dX5_dayWith_56 rfl (Nat.le_of_ble_eq_true rfl) (by decide) ?_
      intro v56 z56 hp56
      obtain ⟨rfl, rfl⟩ := hp56
      refine v_iload hG dX5_dayWith_59 5 rfl ?_
      refine v_icmp_ne hG 69 (by omega) (by omega) dX5_dayWith_61 (by decide) (fun h61 => ?_) (fun h61 => ?_)
      · refine v_iconst hG dX5_dayWith_69 ?_
        exact v_iret hG hR dX5_dayWith_70 ⟨rfl, by first | (rw [if_pos hm13]) | (rw [if_neg (by omega), if_pos (by omega)]) | (rw [if_neg (by omega), if_neg (by omega)])⟩
      · refine v_iload hG dX5_dayWith_64 6 rfl ?_
        refine v_goto hG 70 dX5_dayWith_66 (by decide) ?_
        exact v_iret hG hR dX5_dayWith_70 ⟨rfl, by first | (rw [if_pos hm13]) | (rw [if_neg (by omega), if_pos (by omega)]) | (rw [if_neg (by omega), if_neg (by omega)])⟩
    · have hm13 : 12 < m ∨ mlen (1 - t) m < q := by
        first
          | exact Or.inr (by omega)
          | exact Or.inl (by have := ind_0.mp h7; omega)
      refine v_iconst hG dX5_dayWith_20 ?_
      exact v_iret hG hR dX5_dayWith_21 ⟨rfl, by first | (rw [if_pos hm13]) | (rw [if_neg (by omega), if_pos (by omega)]) | (rw [if_neg (by omega), if_neg (by omega)])⟩

