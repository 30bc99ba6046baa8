def alE (r : Nat → Nat) (cA : Nat → ClassId) (E : Nat → va_E) (a b : Nat) : Nat → va_E := fun i => if i = 19 then .inl (cA 4, 6, .inr (.inr (.inr (.inr (fun j => if j < a then some (r (25 + 18 * j)) else none))))) else if i = 20 then .inl (cA 4, 2, .inr (.inr (.inr (.inr (fun j => if j < b then some (r (133 + 18 * j)) else none))))) else if i < 25 + 18 * a + 18 * b then Ez r cA z0 i else E i
theorem alE_19 {r : Nat → Nat} {cA : Nat → ClassId} {E : Nat → va_E} {a b : Nat} : alE r cA E a b 19 = .inl (cA 4, 6, .inr (.inr (.inr (.inr (fun j => if j < a then some (r (25 + 18 * j)) else none))))) := if_pos rfl
theorem alE_20 {r : Nat → Nat} {cA : Nat → ClassId} {E : Nat → va_E} {a b : Nat} : alE r cA E a b 20 = .inl (cA 4, 2, .inr (.inr (.inr (.inr (fun j => if j < b then some (r (133 + 18 * j)) else none))))) := rfl
theorem alE_i {r : Nat → Nat} {cA : Nat → ClassId} {E : Nat → va_E} {a b i : Nat} (h1 : i ≠ 19) (h2 : i ≠ 20) (h : i < 25 + 18 * a + 18 * b) : alE r cA E a b i = Ez r cA z0 i := by
  unfold alE
  rw [if_neg h1, if_neg h2, if_pos h]
theorem alE_o {r : Nat → Nat} {cA : Nat → ClassId} {E : Nat → va_E} {a b i : Nat} (h : ¬ i < 25 + 18 * a + 18 * b) : alE r cA E a b i = E i := by
  unfold alE
  rw [if_neg (by omega), if_neg (by omega), if_neg h]
theorem alE_s {r : Nat → Nat} {cA : Nat → ClassId} {E : Nat → va_E} {k i : Nat} : eqE (va_up (mixE r cA (va_up (alE r cA E k 0) (25 + 18 * k) (.inr (2, frs 2))) (25 + 18 * k) 18) 19 (.inl (cA 4, 6, .inr (.inr (.inr (.inr (va_up (fun j => if j < k then some (r (25 + 18 * j)) else none) k (some (r (25 + 18 * k)))))))))  i) (alE r cA E (k + 1) 0 i) := by
  by_cases q7 : i = 19
  · subst q7
    rw [va_up_s, alE_19]
    refine eqE.refs (fun j _ => ?_)
    unfold va_up
    by_cases q : j = k
    · rw [if_pos q, if_pos (by omega), q]
    · rw [if_neg q]
      show (if j < k then some (r (25 + 18 * j)) else none) = _
      by_cases q2 : j < k
      · rw [if_pos q2, if_pos (by omega)]
      · rw [if_neg q2, if_neg (by omega)]
  · rw [va_up_o q7]
    by_cases q8 : i = 20
    · rw [mixE_o (by omega), va_up_o (by omega), q8, alE_20, alE_20]
      exact eqE.rf _
    · by_cases q : 25 + 18 * k ≤ i ∧ i < 25 + 18 * k + 18
      · rw [mixE_i q, alE_i q7 q8 (by omega)]
        exact eqE.rf _
      · rw [mixE_o q, va_up_o (by omega)]
        by_cases q2 : i < 25 + 18 * k + 18 * 0
        · rw [alE_i q7 q8 q2, alE_i q7 q8 (by omega)]
          exact eqE.rf _
        · rw [alE_o q2, alE_o (by omega)]
          exact eqE.rf _
theorem alE_t {r : Nat → Nat} {cA : Nat → ClassId} {E : Nat → va_E} {k i : Nat} : eqE (va_up (mixE r cA (va_up (alE r cA E 6 k) (133 + 18 * k) (.inr (2, frs 2))) (133 + 18 * k) 18) 20 (.inl (cA 4, 2, .inr (.inr (.inr (.inr (va_up (fun j => if j < k then some (r (133 + 18 * j)) else none) k (some (r (133 + 18 * k)))))))))  i) (alE r cA E 6 (k + 1) i) := by
  by_cases q7 : i = 20
  · subst q7
    rw [va_up_s, alE_20]
    refine eqE.refs (fun j _ => ?_)
    unfold va_up
    by_cases q : j = k
    · rw [if_pos q, if_pos (by omega), q]
    · rw [if_neg q]
      show (if j < k then some (r (133 + 18 * j)) else none) = _
      by_cases q2 : j < k
      · rw [if_pos q2, if_pos (by omega)]
      · rw [if_neg q2, if_neg (by omega)]
  · rw [va_up_o q7]
    by_cases q8 : i = 19
    · rw [mixE_o (by omega), va_up_o (by omega), q8, alE_19, alE_19]
      exact eqE.rf _
    · by_cases q : 133 + 18 * k ≤ i ∧ i < 133 + 18 * k + 18
      · rw [mixE_i q, alE_i q8 q7 (by omega)]
        exact eqE.rf _
      · rw [mixE_o q, va_up_o (by omega)]
        by_cases q2 : i < 25 + 18 * 6 + 18 * k
        · rw [alE_i q8 q7 q2, alE_i q8 q7 (by omega)]
          exact eqE.rf _
        · rw [alE_o q2, alE_o (by omega)]
          exact eqE.rf _
theorem kd_st {k : Nat} (h : k < 8) : kd (25 + 18 * k) = 2 := by
  rcases (show k = 0 ∨ k = 1 ∨ k = 2 ∨ k = 3 ∨ k = 4 ∨ k = 5 ∨ k = 6 ∨ k = 7 by omega) with rfl | rfl | rfl | rfl | rfl | rfl | rfl | rfl <;> rfl
theorem kd_st2 {k : Nat} (h : k < 2) : kd (133 + 18 * k) = 2 := by
  have := kd_st (k := 6 + k) (by omega)
  rw [show 25 + 18 * (6 + k) = 133 + 18 * k by omega] at this
  exact this
theorem Ez_1 {r : Nat → Nat} {cA : Nat → ClassId} : Ez r cA z0 0 = .inr (4, [.ref (r 1), .ref (r 19), .int (iN 0), .ref (r 20), .ref (r 21), .ref (r 22), .ref (r 24)]) := rfl
theorem Ez_36 {r : Nat → Nat} {cA : Nat → ClassId} : Ez r cA z0 19 = .inl (cA 4, 6, .inr (.inr (.inr (.inr (fun j => some (r (25 + 18 * (j : Int)).toNat)))))) := rfl
theorem Ez_32 {r : Nat → Nat} {cA : Nat → ClassId} : Ez r cA z0 20 = .inl (cA 4, 2, .inr (.inr (.inr (.inr (fun j => some (r (133 + 18 * (j : Int)).toNat)))))) := rfl
set_option maxHeartbeats 4000000 in
set_option maxRecDepth 100000 in
theorem c_X4_init {l : Launch} {D : va_G} {cA : Nat → ClassId} {r : Nat → Nat} {E : Nat → va_E}  (hr : Sq r) (hE : E 0 = .inr (4, frs 4)) : KG l D cA r yX4_init wsX4_init 3 61 168 1221 1 E [.ref (r 0)] 169 (mixE r cA E 0 169) := by
  have iW0 : ∀ w ∈ u_ws RX0 TX0 2, w ∈ wsX4_init := by decide +kernel
  have iW2 : ∀ w ∈ u_ws RX2 TX2 9, w ∈ wsX4_init := by decide +kernel
  have iW4 : ∀ w ∈ u_ws RX4 TX4 7, w ∈ wsX4_init := by decide +kernel
  have f10 : Cond.fieldLink RX4 10 (TX4 0).1 (TX4 0).2.1 (TX4 0).2.2.1 ∈ wsX4_init := by decide +kernel
  have f16 : Cond.fieldLink RX4 16 (TX4 1).1 (TX4 1).2.1 (TX4 1).2.2.1 ∈ wsX4_init := by decide +kernel
  have f20 : Cond.fieldLink RX4 20 (TX4 2).1 (TX4 2).2.1 (TX4 2).2.2.1 ∈ wsX4_init := by decide +kernel
  have f24 : Cond.fieldLink RX4 24 (TX4 3).1 (TX4 3).2.1 (TX4 3).2.2.1 ∈ wsX4_init := by decide +kernel
  have f27 : Cond.fieldLink RX4 27 (TX4 4).1 (TX4 4).2.1 (TX4 4).2.2.1 ∈ wsX4_init := by decide +kernel
  have f34 : Cond.fieldLink RX4 34 (TX4 5).1 (TX4 5).2.1 (TX4 5).2.2.1 ∈ wsX4_init := by decide +kernel
  have f38 : Cond.fieldLink RX4 38 (TX4 6).1 (TX4 6).2.1 (TX4 6).2.2.1 ∈ wsX4_init := by decide +kernel
  have hNN : NN = 172 := rfl
  refine KG_of [(0, _)] hr (by decide) rfl rfl rfl (Nat.le_of_ble_eq_true rfl) rfl (fun Γ hG hNm hR => ?_)
  have L93 : ∀ (m : Nat) (k : Nat), k ≤ 2 → 2 - k + 1 ≤ m → VG Γ (133 + 18 * k) (alE r cA E 6 k) (132 + 18 * k) (1059 + 81 * k) [(0, .ref (r 0)), (1, .int (iN (k : Int)))] 93 [] := by
    intro m
    induction m with
    | zero => intro k _ h; exact absurd h (by omega)
    | succ m ih =>
      intro k hk10 hm
      refine g_iload_n hG dX4_init_93 1 rfl ?_
      refine g_iconst hG dX4_init_94 ?_
      refine g_icmp_ge hG 117 (by omega) (by omega) dX4_init_95 (by decide) (fun h72 => ?_) (fun h72 => ?_)
      · have e10 : k = 2 := by omega
        subst e10
        refine g_E hG (mixE r cA E 0 169) ?_ ?_
        · intro i hi
          by_cases q1 : i = 19
          · rw [q1, alE_19, mixE_i (by omega), Ez_36]
            exact eqE.refs (fun j hj => by rw [if_pos hj, show (25 + 18 * (j : Int)).toNat = 25 + 18 * j by omega])
          · by_cases q2 : i = 20
            · rw [q2, alE_20, mixE_i (by omega), Ez_32]
              exact eqE.refs (fun j hj => by rw [if_pos hj, show (133 + 18 * (j : Int)).toNat = 133 + 18 * j by omega])
            · rw [alE_i q1 q2 (by omega), mixE_i (by omega)]
              exact eqE.rf _
        exact g_vret hG hR dX4_init_117
      · refine g_aload_n hG dX4_init_98 0 rfl ?_
        refine g_getf (ci := 4) (k := 3) hG iW4 f24 rfl (by decide) (by omega) ((alE_i (by omega) (by omega) (by omega)).trans Ez_1) rfl dX4_init_99 ?_
        refine g_iload_n hG dX4_init_102 1 rfl ?_
        refine g_new (ci := 2) (fs := frs 2) hG iW2 tyX2_ok (by decide +kernel) (by decide +kernel) (by decide +kernel) rfl frs_2 (by first | (exact Nat.le_of_ble_eq_true rfl) | (show _ ≤ (168 : Nat); omega)) (by first | (exact Nat.le_of_ble_eq_true rfl) | (show _ ≤ (1221 : Nat); omega)) dX4_init_103 ?_
        refine g_dup hG dX4_init_106 rfl ?_
        refine g_callI (k := 0) hG (c_X2_init (s := 133 + 18 * k) (n := 133 + 18 * k + 1) hr rfl (by omega) (kd_st2 (by omega)) (va_up_s _ _ _)) gX4_init_X2_init rfl (by decide +kernel) (by decide +kernel) (by decide +kernel) rfl (by decide) rfl ⟨Nat.le_of_ble_eq_true rfl, Nat.le_of_ble_eq_true rfl⟩ dX4_init_107 rfl (Nat.le_of_ble_eq_true rfl) ⟨by first | (exact Nat.le_of_ble_eq_true rfl) | (show _ ≤ (168 : Nat); omega), by first | (exact Nat.le_of_ble_eq_true rfl) | (show _ ≤ (1221 : Nat); omega)⟩ ?_
        refine g_aastS hG (by omega) (by omega) (by omega) ((mixE_o (by omega)).trans ((va_up_o (by omega)).trans alE_20)) ((mixE_i (by omega)).trans (Ez_2 (kd_st2 (by omega)))) rfl (by decide) (by omega) dX4_init_110 ?_
        refine g_iinc hG [(0, _), (1, _)] dX4_init_111 1 rfl (by decide) rfl ?_
        refine g_goto hG 93 dX4_init_114 (by decide) ?_
        refine g_E hG (alE r cA E 6 (k + 1)) (fun i _ => ?_) ?_
        · exact alE_t
        · exact ih (k + 1) (by omega) (by omega)
  have L66 : ∀ (m : Nat) (k : Nat), k ≤ 6 → 6 - k + 1 ≤ m → VG Γ (25 + 18 * k) (alE r cA E k 0) (24 + 18 * k) (573 + 81 * k) [(0, .ref (r 0)), (1, .int (iN (k : Int)))] 66 [] := by
    intro m
    induction m with
    | zero => intro k _ h; exact absurd h (by omega)
    | succ m ih =>
      intro k hk10 hm
      refine g_iload_n hG dX4_init_66 1 rfl ?_
      refine g_bipush hG dX4_init_67 (by decide) ?_
      refine g_icmp_ge hG 91 (by omega) (by omega) dX4_init_69 (by decide) (fun h72 => ?_) (fun h72 => ?_)
      · have e10 : k = 6 := by omega
        subst e10
        refine g_iconst hG dX4_init_91 ?_
        refine g_istore_n hG [(0, _), (1, _)] dX4_init_92 (by decide) rfl ?_
        exact L93 3 0 (by omega) (by omega)
      · refine g_aload_n hG dX4_init_72 0 rfl ?_
        refine g_getf (ci := 4) (k := 1) hG iW4 f16 rfl (by decide) (by omega) ((alE_i (by omega) (by omega) (by omega)).trans Ez_1) rfl dX4_init_73 ?_
        refine g_iload_n hG dX4_init_76 1 rfl ?_
        refine g_new (ci := 2) (fs := frs 2) hG iW2 tyX2_ok (by decide +kernel) (by decide +kernel) (by decide +kernel) rfl frs_2 (by first | (exact Nat.le_of_ble_eq_true rfl) | (show _ ≤ (168 : Nat); omega)) (by first | (exact Nat.le_of_ble_eq_true rfl) | (show _ ≤ (1221 : Nat); omega)) dX4_init_77 ?_
        refine g_dup hG dX4_init_80 rfl ?_
        refine g_callI (k := 0) hG (c_X2_init (s := 25 + 18 * k) (n := 25 + 18 * k + 1) hr rfl (by omega) (kd_st (by omega)) (va_up_s _ _ _)) gX4_init_X2_init rfl (by decide +kernel) (by decide +kernel) (by decide +kernel) rfl (by decide) rfl ⟨Nat.le_of_ble_eq_true rfl, Nat.le_of_ble_eq_true rfl⟩ dX4_init_81 rfl (Nat.le_of_ble_eq_true rfl) ⟨by first | (exact Nat.le_of_ble_eq_true rfl) | (show _ ≤ (168 : Nat); omega), by first | (exact Nat.le_of_ble_eq_true rfl) | (show _ ≤ (1221 : Nat); omega)⟩ ?_
        refine g_aastS hG (by omega) (by omega) (by omega) ((mixE_o (by omega)).trans ((va_up_o (by omega)).trans alE_19)) ((mixE_i (by omega)).trans (Ez_2 (kd_st (by omega)))) rfl (by decide) (by omega) dX4_init_84 ?_
        refine g_iinc hG [(0, _), (1, _)] dX4_init_85 1 rfl (by decide) rfl ?_
        refine g_goto hG 66 dX4_init_88 (by decide) ?_
        refine g_E hG (alE r cA E (k + 1) 0) (fun i _ => ?_) ?_
        · exact alE_s
        · exact ih (k + 1) (by omega) (by omega)
  refine g_aload_n hG dX4_init_0 0 rfl ?_
  refine g_obj hG (by decide +kernel) (by decide +kernel) (by decide +kernel) (Nat.le_of_ble_eq_true rfl) (Nat.le_of_ble_eq_true rfl) dX4_init_1 ?_
  refine g_aload_n hG dX4_init_4 0 rfl ?_
  refine g_new (ci := 2) (fs := frs 2) hG iW2 tyX2_ok (by decide +kernel) (by decide +kernel) (by decide +kernel) rfl frs_2 (by first | (exact Nat.le_of_ble_eq_true rfl) | (show _ ≤ (168 : Nat); omega)) (by first | (exact Nat.le_of_ble_eq_true rfl) | (show _ ≤ (1221 : Nat); omega)) dX4_init_5 ?_
  refine g_dup hG dX4_init_8 rfl ?_
  refine g_callI (k := 0) hG (c_X2_init (s := 1) (n := 2) hr rfl (by omega) rfl rfl) gX4_init_X2_init rfl (by decide +kernel) (by decide +kernel) (by decide +kernel) rfl (by decide) rfl ⟨Nat.le_of_ble_eq_true rfl, Nat.le_of_ble_eq_true rfl⟩ dX4_init_9 rfl (Nat.le_of_ble_eq_true rfl) ⟨by first | (exact Nat.le_of_ble_eq_true rfl) | (show _ ≤ (168 : Nat); omega), by first | (exact Nat.le_of_ble_eq_true rfl) | (show _ ≤ (1221 : Nat); omega)⟩ ?_
  refine g_putF (ci := 4) (k := 0) hG iW4 tyX4_ok nmX4 f10 rfl (by decide) rfl hNm rfl rfl rfl rfl (by omega) (by omega) (by first | exact hE | exact va_up_s _ _ _ | exact (va_up_o (by decide)).trans (va_up_s _ _ _) | exact (mixE_o (by decide)).trans ((va_up_o (by decide)).trans (va_up_s _ _ _))) (Nat.le_of_ble_eq_true rfl) dX4_init_12 ?_
  refine g_aload_n hG dX4_init_15 0 rfl ?_
  refine g_bipush hG dX4_init_16 (by decide) ?_
  refine g_newqS hG (by decide +kernel) (by decide) (by first | (exact Nat.le_of_ble_eq_true rfl) | (show _ ≤ (168 : Nat); omega)) (by first | (exact Nat.le_of_ble_eq_true rfl) | (show _ ≤ (1221 : Nat); omega)) dX4_init_18 ?_
  refine g_putF (ci := 4) (k := 1) hG iW4 tyX4_ok nmX4 f16 rfl (by decide) rfl hNm rfl rfl rfl rfl (by omega) (by omega) (by first | exact hE | exact va_up_s _ _ _ | exact (va_up_o (by decide)).trans (va_up_s _ _ _) | exact (mixE_o (by decide)).trans ((va_up_o (by decide)).trans (va_up_s _ _ _))) (Nat.le_of_ble_eq_true rfl) dX4_init_21 ?_
  refine g_aload_n hG dX4_init_24 0 rfl ?_
  refine g_iconst hG dX4_init_25 ?_
  refine g_put (ci := 4) (k := 2) hG iW4 tyX4_ok nmX4 f20 rfl (by decide) rfl  rfl rfl rfl (by omega) (by omega) (by first | exact hE | exact va_up_s _ _ _ | exact (va_up_o (by decide)).trans (va_up_s _ _ _) | exact (mixE_o (by decide)).trans ((va_up_o (by decide)).trans (va_up_s _ _ _))) (Nat.le_of_ble_eq_true rfl) dX4_init_26 ?_
  refine g_aload_n hG dX4_init_29 0 rfl ?_
  refine g_iconst hG dX4_init_30 ?_
  refine g_newqS hG (by decide +kernel) (by decide) (by first | (exact Nat.le_of_ble_eq_true rfl) | (show _ ≤ (168 : Nat); omega)) (by first | (exact Nat.le_of_ble_eq_true rfl) | (show _ ≤ (1221 : Nat); omega)) dX4_init_31 ?_
  refine g_putF (ci := 4) (k := 3) hG iW4 tyX4_ok nmX4 f24 rfl (by decide) rfl hNm rfl rfl rfl rfl (by omega) (by omega) (by first | exact hE | exact va_up_s _ _ _ | exact (va_up_o (by decide)).trans (va_up_s _ _ _) | exact (mixE_o (by decide)).trans ((va_up_o (by decide)).trans (va_up_s _ _ _))) (Nat.le_of_ble_eq_true rfl) dX4_init_34 ?_
  refine g_aload_n hG dX4_init_37 0 rfl ?_
  refine g_iconst hG dX4_init_38 ?_
  refine g_newaZ hG (by decide +kernel) (by decide) (by first | (exact Nat.le_of_ble_eq_true rfl) | (show _ ≤ (168 : Nat); omega)) (by first | (exact Nat.le_of_ble_eq_true rfl) | (show _ ≤ (1221 : Nat); omega)) dX4_init_39 ?_
  refine g_putF (ci := 4) (k := 4) hG iW4 tyX4_ok nmX4 f27 rfl (by decide) rfl hNm rfl rfl rfl rfl (by omega) (by omega) (by first | exact hE | exact va_up_s _ _ _ | exact (va_up_o (by decide)).trans (va_up_s _ _ _) | exact (mixE_o (by decide)).trans ((va_up_o (by decide)).trans (va_up_s _ _ _))) (Nat.le_of_ble_eq_true rfl) dX4_init_41 ?_
  refine g_aload_n hG dX4_init_44 0 rfl ?_
  refine g_new (ci := 0) (fs := frs 0) hG iW0 tyX0_ok (by decide +kernel) (by decide +kernel) (by decide +kernel) rfl frs_0 (by first | (exact Nat.le_of_ble_eq_true rfl) | (show _ ≤ (168 : Nat); omega)) (by first | (exact Nat.le_of_ble_eq_true rfl) | (show _ ≤ (1221 : Nat); omega)) dX4_init_45 ?_
  refine g_dup hG dX4_init_48 rfl ?_
  refine g_callIN (k := 0) hG (c_X0_init (t := 22) (n := 23) hr rfl rfl rfl) gX4_init_X0_init_n33 rfl (by decide +kernel) hG.gk.2.1 (by decide +kernel) rfl (by decide) rfl ⟨Nat.le_of_ble_eq_true rfl, Nat.le_of_ble_eq_true rfl⟩ dX4_init_49 rfl (Nat.le_of_ble_eq_true rfl) ⟨by first | (exact Nat.le_of_ble_eq_true rfl) | (show _ ≤ (168 : Nat); omega), by first | (exact Nat.le_of_ble_eq_true rfl) | (show _ ≤ (1221 : Nat); omega)⟩ ?_
  refine g_putF (ci := 4) (k := 5) hG iW4 tyX4_ok nmX4 f34 rfl (by decide) rfl hNm rfl rfl rfl rfl (by omega) (by omega) (by first | exact hE | exact va_up_s _ _ _ | exact (va_up_o (by decide)).trans (va_up_s _ _ _) | exact (mixE_o (by decide)).trans ((va_up_o (by decide)).trans (va_up_s _ _ _))) (Nat.le_of_ble_eq_true rfl) dX4_init_52 ?_
  refine g_aload_n hG dX4_init_55 0 rfl ?_
  refine g_sipush hG dX4_init_56 (by decide) ?_
  refine g_newaI hG (by decide +kernel) (by decide) (by first | (exact Nat.le_of_ble_eq_true rfl) | (show _ ≤ (168 : Nat); omega)) (by first | (exact Nat.le_of_ble_eq_true rfl) | (show _ ≤ (1221 : Nat); omega)) dX4_init_59 ?_
  refine g_putF (ci := 4) (k := 6) hG iW4 tyX4_ok nmX4 f38 rfl (by decide) rfl hNm rfl rfl rfl rfl (by omega) (by omega) (by first | exact hE | exact va_up_s _ _ _ | exact (va_up_o (by decide)).trans (va_up_s _ _ _) | exact (mixE_o (by decide)).trans ((va_up_o (by decide)).trans (va_up_s _ _ _))) (Nat.le_of_ble_eq_true rfl) dX4_init_61 ?_
  refine g_iconst hG dX4_init_64 ?_
  refine g_istore_n hG [(0, _), (1, _)] dX4_init_65 (by decide) rfl ?_
  refine g_E hG (alE r cA E 0 0) ?_ ?_
  · intro i hi
    by_cases q1 : i = 19
    · rw [q1]
      exact eqE.refs (fun j _ => rfl)
    · by_cases q2 : i = 20
      · rw [q2]
        exact eqE.refs (fun j _ => rfl)
      · by_cases q3 : i = 0
        · rw [q3]
          exact eqE.rf _
        · rw [alE_i q1 q2 (by omega)]
          by_cases q4 : i = 24
          · rw [q4, Ez_arr (K := 500) rfl (by decide)]
            exact eqE.rf _
          · by_cases q5 : i = 22 ∨ i = 23
            · rw [va_up_o q3, va_up_o q4, va_up_o q3, mixE_i (by omega)]
              exact eqE.rf _
            · by_cases q6 : i = 21
              · rw [q6, Ez_20 rfl]
                exact eqE.rf _
              · rw [va_up_o q3, va_up_o q4, va_up_o q3, mixE_o (by omega), va_up_o (by omega), va_up_o q3, va_up_o q6, va_up_o q3, va_up_o q2, va_up_o q3, va_up_o q3, va_up_o q1, va_up_o q3, mixE_i (by omega)]
                exact eqE.rf _
  · exact L66 7 0 (by omega) (by omega)
