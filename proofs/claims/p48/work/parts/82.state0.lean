/-- a state whose first k feasts are made -/
def stE (r : Nat → Nat) (cA : Nat → ClassId) (E : Nat → va_E) (s k : Nat) : Nat → va_E := fun i => if i = s + 7 then .inl (cA 3, 10, .inr (.inr (.inr (.inr (fun j => if j < k then some (r (s + 8 + j)) else none))))) else if s ≤ i ∧ i < s + 8 + k then Ez r cA z0 i else E i
theorem stE_7 {r : Nat → Nat} {cA : Nat → ClassId} {E : Nat → va_E} {s k : Nat} : stE r cA E s k (s + 7) = .inl (cA 3, 10, .inr (.inr (.inr (.inr (fun j => if j < k then some (r (s + 8 + j)) else none))))) := if_pos rfl
theorem stE_i {r : Nat → Nat} {cA : Nat → ClassId} {E : Nat → va_E} {s k i : Nat} (h7 : i ≠ s + 7) (h : s ≤ i ∧ i < s + 8 + k) : stE r cA E s k i = Ez r cA z0 i := by
  unfold stE
  rw [if_neg h7, if_pos h]
theorem stE_o {r : Nat → Nat} {cA : Nat → ClassId} {E : Nat → va_E} {s k i : Nat} (h : ¬ (s ≤ i ∧ i < s + 8 + k)) : stE r cA E s k i = E i := by
  unfold stE
  rw [if_neg (by omega), if_neg h]
theorem stE_s {r : Nat → Nat} {cA : Nat → ClassId} {E : Nat → va_E} {s k i : Nat} : eqE (va_up (mixE r cA (va_up (stE r cA E s k) (s + 8 + k) (.inr (1, frs 1))) (s + 8 + k) 1) (s + 7) (.inl (cA 3, 10, .inr (.inr (.inr (.inr (va_up (fun j => if j < k then some (r (s + 8 + j)) else none) k (some (r (s + 8 + k)))))))))  i) (stE r cA E s (k + 1) i) := by
  by_cases q7 : i = s + 7
  · subst q7
    rw [va_up_s, stE_7]
    refine eqE.refs (fun j _ => ?_)
    unfold va_up
    by_cases q : j = k
    · rw [if_pos q, if_pos (by omega), q]
    · rw [if_neg q]
      show (if j < k then some (r (s + 8 + j)) else none) = _
      by_cases q2 : j < k
      · rw [if_pos q2, if_pos (by omega)]
      · rw [if_neg q2, if_neg (by omega)]
  · rw [va_up_o q7]
    by_cases q : i = s + 8 + k
    · rw [mixE_i (by omega), stE_i q7 (by omega)]
      exact eqE.rf _
    · rw [mixE_o (by omega), va_up_o q]
      by_cases q2 : s ≤ i ∧ i < s + 8 + k
      · rw [stE_i q7 q2, stE_i q7 (by omega)]
        exact eqE.rf _
      · rw [stE_o q2, stE_o (by omega)]
        exact eqE.rf _
set_option maxHeartbeats 4000000 in
set_option maxRecDepth 100000 in
theorem c_X2_init {l : Launch} {D : va_G} {cA : Nat → ClassId} {r : Nat → Nat} {E : Nat → va_E} {s n : Nat} (hr : Sq r) (hn : n = s + 1) (hnn : s + 18 ≤ NN) (hk : kd s = 2) (hE : E s = .inr (2, frs 2)) : KG l D cA r yX2_init wsX2_init 2 40 17 72 n E [.ref (r s)] (s + 18) (mixE r cA E s 18) := by
  have iW1 : ∀ w ∈ u_ws RX1 TX1 4, w ∈ wsX2_init := by decide +kernel
  have iW2 : ∀ w ∈ u_ws RX2 TX2 9, w ∈ wsX2_init := by decide +kernel
  have iW3 : ∀ w ∈ u_ws RX3 TX3 5, w ∈ wsX2_init := by decide +kernel
  have f14 : Cond.fieldLink RX2 14 (TX2 0).1 (TX2 0).2.1 (TX2 0).2.2.1 ∈ wsX2_init := by decide +kernel
  have f20 : Cond.fieldLink RX2 20 (TX2 1).1 (TX2 1).2.1 (TX2 1).2.2.1 ∈ wsX2_init := by decide +kernel
  have f25 : Cond.fieldLink RX2 25 (TX2 2).1 (TX2 2).2.1 (TX2 2).2.2.1 ∈ wsX2_init := by decide +kernel
  have f29 : Cond.fieldLink RX2 29 (TX2 3).1 (TX2 3).2.1 (TX2 3).2.2.1 ∈ wsX2_init := by decide +kernel
  have f33 : Cond.fieldLink RX2 33 (TX2 4).1 (TX2 4).2.1 (TX2 4).2.2.1 ∈ wsX2_init := by decide +kernel
  have f36 : Cond.fieldLink RX2 36 (TX2 5).1 (TX2 5).2.1 (TX2 5).2.2.1 ∈ wsX2_init := by decide +kernel
  have f39 : Cond.fieldLink RX2 39 (TX2 6).1 (TX2 6).2.1 (TX2 6).2.2.1 ∈ wsX2_init := by decide +kernel
  have f42 : Cond.fieldLink RX2 42 (TX2 7).1 (TX2 7).2.1 (TX2 7).2.2.1 ∈ wsX2_init := by decide +kernel
  have f45 : Cond.fieldLink RX2 45 (TX2 8).1 (TX2 8).2.1 (TX2 8).2.2.1 ∈ wsX2_init := by decide +kernel
  obtain ⟨kA, kB, kF, k3⟩ := kS_dis hk
  subst hn
  refine KG_of [(0, _)] hr (by decide) rfl rfl rfl (Nat.le_of_ble_eq_true rfl) rfl (fun Γ hG hNm hR => ?_)
  have L69 : ∀ (m : Nat) (k : Nat), k ≤ 10 → 10 - k + 1 ≤ m → VG Γ (s + 8 + k) (stE r cA E s k) (7 + k) (32 + 4 * k) [(0, .ref (r s)), (1, .int (iN (k : Int)))] 69 [] := by
    intro m
    induction m with
    | zero => intro k _ h; exact absurd h (by omega)
    | succ m ih =>
      intro k hk10 hm
      refine g_iload_n hG dX2_init_69 1 rfl ?_
      refine g_bipush hG dX2_init_70 (by decide) ?_
      refine g_icmp_ge hG 94 (by omega) (by omega) dX2_init_72 (by decide) (fun h72 => ?_) (fun h72 => ?_)
      · have e10 : k = 10 := by omega
        subst e10
        refine g_E hG (mixE r cA E s 18) ?_ ?_
        · intro i hi
          by_cases q7 : i = s + 7
          · rw [q7, stE_7, mixE_i (by omega), Ez_40 kF]
            exact eqE.refs (fun j hj => by rw [if_pos hj, show s + 7 + 1 + j = s + 8 + j by omega])
          · by_cases q : s ≤ i ∧ i < s + 18
            · rw [stE_i q7 (by omega), mixE_i (by omega)]
              exact eqE.rf _
            · rw [stE_o (by omega), mixE_o (by omega)]
              exact eqE.rf _
        exact g_vret hG hR dX2_init_94
      · refine g_aload_n hG dX2_init_75 0 rfl ?_
        refine g_getf (ci := 2) (k := 2) hG iW2 f25 rfl (by decide) (by omega) ((stE_i (by omega) (by omega)).trans (Ez_2 hk)) rfl dX2_init_76 ?_
        refine g_iload_n hG dX2_init_79 1 rfl ?_
        refine g_new (ci := 1) (fs := frs 1) hG iW1 tyX1_ok (by decide +kernel) (by decide +kernel) (by decide +kernel) rfl frs_1 (by first | (exact Nat.le_of_ble_eq_true rfl) | (show _ ≤ (17 : Nat); omega)) (by first | (exact Nat.le_of_ble_eq_true rfl) | (show _ ≤ (72 : Nat); omega)) dX2_init_80 ?_
        refine g_dup hG dX2_init_83 rfl ?_
        refine g_callIN (k := 0) hG (c_X1_init (t := s + 8 + k) (n := s + 8 + k + 1) hr (by omega) (by omega) (by have h9 := kS_f hk (k := k) (by omega); exact h9) (va_up_s _ _ _)) gX2_init_X1_init_n48 rfl (by decide +kernel) hG.gk.1 (by decide +kernel) rfl (by decide) rfl ⟨Nat.le_of_ble_eq_true rfl, Nat.le_of_ble_eq_true rfl⟩ dX2_init_84 rfl (Nat.le_of_ble_eq_true rfl) ⟨by first | (exact Nat.le_of_ble_eq_true rfl) | (show _ ≤ (17 : Nat); omega), by first | (exact Nat.le_of_ble_eq_true rfl) | (show _ ≤ (72 : Nat); omega)⟩ ?_
        refine g_aastF hG (by omega) (by omega) (by omega) ((mixE_o (by omega)).trans ((va_up_o (by omega)).trans stE_7)) ((mixE_i (by omega)).trans (Ez_4 (by have h9 := kS_f hk (k := k) (by omega); exact h9))) rfl (by decide) (by omega) dX2_init_87 ?_
        refine g_iinc hG [(0, _), (1, _)] dX2_init_88 1 rfl (by decide) rfl ?_
        refine g_goto hG 69 dX2_init_91 (by decide) ?_
        refine g_E hG (stE r cA E s (k + 1)) (fun i _ => ?_) ?_
        · exact stE_s
        · exact ih (k + 1) (by omega) (by omega)
  refine g_aload_n hG dX2_init_0 0 rfl ?_
  refine g_obj hG (by decide +kernel) (by decide +kernel) (by decide +kernel) (Nat.le_of_ble_eq_true rfl) (Nat.le_of_ble_eq_true rfl) dX2_init_1 ?_
  refine g_aload_n hG dX2_init_4 0 rfl ?_
  refine g_new (ci := 3) (fs := frs 3) hG iW3 tyX3_ok (by decide +kernel) (by decide +kernel) (by decide +kernel) rfl frs_3 (by first | (exact Nat.le_of_ble_eq_true rfl) | (show _ ≤ (17 : Nat); omega)) (by first | (exact Nat.le_of_ble_eq_true rfl) | (show _ ≤ (72 : Nat); omega)) dX2_init_5 ?_
  refine g_dup hG dX2_init_8 rfl ?_
  refine g_iconst hG dX2_init_9 ?_
  refine g_callI (k := 1) hG (c_X3_init (t := s + 1) (q := 0) hr (by omega) (by omega) kA (Or.inl ⟨rfl, hk⟩) (va_up_s _ _ _)) gX2_init_X3_init rfl (by decide +kernel) (by decide +kernel) (by decide +kernel) rfl (by decide) rfl ⟨Nat.le_of_ble_eq_true rfl, Nat.le_of_ble_eq_true rfl⟩ dX2_init_10 rfl (Nat.le_of_ble_eq_true rfl) ⟨by first | (exact Nat.le_of_ble_eq_true rfl) | (show _ ≤ (17 : Nat); omega), by first | (exact Nat.le_of_ble_eq_true rfl) | (show _ ≤ (72 : Nat); omega)⟩ ?_
  refine g_putF (ci := 2) (k := 0) hG iW2 tyX2_ok nmX2 f14 rfl (by decide) rfl hNm rfl rfl rfl rfl (by omega) (by omega) (by first | exact va_up_s _ _ _ | exact (va_up_o (by omega)).trans (va_up_s _ _ _) | exact (mixE_o (by omega)).trans ((va_up_o (by omega)).trans hE) | exact (mixE_o (by omega)).trans ((va_up_o (by omega)).trans (va_up_s _ _ _))) (Nat.le_of_ble_eq_true rfl) dX2_init_13 ?_
  refine g_aload_n hG dX2_init_16 0 rfl ?_
  refine g_new (ci := 3) (fs := frs 3) hG iW3 tyX3_ok (by decide +kernel) (by decide +kernel) (by decide +kernel) rfl frs_3 (by first | (exact Nat.le_of_ble_eq_true rfl) | (show _ ≤ (17 : Nat); omega)) (by first | (exact Nat.le_of_ble_eq_true rfl) | (show _ ≤ (72 : Nat); omega)) dX2_init_17 ?_
  refine g_dup hG dX2_init_20 rfl ?_
  refine g_iconst hG dX2_init_21 ?_
  refine g_callI (k := 1) hG (c_X3_init (t := s + 4) (q := 1) hr (by omega) (by omega) kB (Or.inr ⟨rfl, by rw [show s + 4 - 1 = s + 3 by omega, k3]; decide⟩) (va_up_s _ _ _)) gX2_init_X3_init rfl (by decide +kernel) (by decide +kernel) (by decide +kernel) rfl (by decide) rfl ⟨Nat.le_of_ble_eq_true rfl, Nat.le_of_ble_eq_true rfl⟩ dX2_init_22 rfl (Nat.le_of_ble_eq_true rfl) ⟨by first | (exact Nat.le_of_ble_eq_true rfl) | (show _ ≤ (17 : Nat); omega), by first | (exact Nat.le_of_ble_eq_true rfl) | (show _ ≤ (72 : Nat); omega)⟩ ?_
  refine g_putF (ci := 2) (k := 1) hG iW2 tyX2_ok nmX2 f20 rfl (by decide) rfl hNm rfl rfl rfl rfl (by omega) (by omega) (by first | exact va_up_s _ _ _ | exact (va_up_o (by omega)).trans (va_up_s _ _ _) | exact (mixE_o (by omega)).trans ((va_up_o (by omega)).trans hE) | exact (mixE_o (by omega)).trans ((va_up_o (by omega)).trans (va_up_s _ _ _))) (Nat.le_of_ble_eq_true rfl) dX2_init_25 ?_
  refine g_aload_n hG dX2_init_28 0 rfl ?_
  refine g_bipush hG dX2_init_29 (by decide) ?_
  refine g_newqF hG (by decide +kernel) (by decide) (by first | (exact Nat.le_of_ble_eq_true rfl) | (show _ ≤ (17 : Nat); omega)) (by first | (exact Nat.le_of_ble_eq_true rfl) | (show _ ≤ (72 : Nat); omega)) dX2_init_31 ?_
  refine g_putF (ci := 2) (k := 2) hG iW2 tyX2_ok nmX2 f25 rfl (by decide) rfl hNm rfl rfl rfl rfl (by omega) (by omega) (by first | exact va_up_s _ _ _ | exact (va_up_o (by omega)).trans (va_up_s _ _ _) | exact (mixE_o (by omega)).trans ((va_up_o (by omega)).trans hE) | exact (mixE_o (by omega)).trans ((va_up_o (by omega)).trans (va_up_s _ _ _))) (Nat.le_of_ble_eq_true rfl) dX2_init_34 ?_
  refine g_aload_n hG dX2_init_37 0 rfl ?_
  refine g_iconst hG dX2_init_38 ?_
  refine g_put (ci := 2) (k := 3) hG iW2 tyX2_ok nmX2 f29 rfl (by decide) rfl  rfl rfl rfl (by omega) (by omega) (by first | exact va_up_s _ _ _ | exact (va_up_o (by omega)).trans (va_up_s _ _ _) | exact (mixE_o (by omega)).trans ((va_up_o (by omega)).trans hE) | exact (mixE_o (by omega)).trans ((va_up_o (by omega)).trans (va_up_s _ _ _))) (Nat.le_of_ble_eq_true rfl) dX2_init_39 ?_
  refine g_aload_n hG dX2_init_42 0 rfl ?_
  refine g_iconst hG dX2_init_43 ?_
  refine g_put (ci := 2) (k := 4) hG iW2 tyX2_ok nmX2 f33 rfl (by decide) rfl  rfl rfl rfl (by omega) (by omega) (by first | exact va_up_s _ _ _ | exact (va_up_o (by omega)).trans (va_up_s _ _ _) | exact (mixE_o (by omega)).trans ((va_up_o (by omega)).trans hE) | exact (mixE_o (by omega)).trans ((va_up_o (by omega)).trans (va_up_s _ _ _))) (Nat.le_of_ble_eq_true rfl) dX2_init_44 ?_
  refine g_aload_n hG dX2_init_47 0 rfl ?_
  refine g_iconst hG dX2_init_48 ?_
  refine g_put (ci := 2) (k := 5) hG iW2 tyX2_ok nmX2 f36 rfl (by decide) rfl  rfl rfl rfl (by omega) (by omega) (by first | exact va_up_s _ _ _ | exact (va_up_o (by omega)).trans (va_up_s _ _ _) | exact (mixE_o (by omega)).trans ((va_up_o (by omega)).trans hE) | exact (mixE_o (by omega)).trans ((va_up_o (by omega)).trans (va_up_s _ _ _))) (Nat.le_of_ble_eq_true rfl) dX2_init_49 ?_
  refine g_aload_n hG dX2_init_52 0 rfl ?_
  refine g_iconst hG dX2_init_53 ?_
  refine g_put (ci := 2) (k := 6) hG iW2 tyX2_ok nmX2 f39 rfl (by decide) rfl  rfl rfl rfl (by omega) (by omega) (by first | exact va_up_s _ _ _ | exact (va_up_o (by omega)).trans (va_up_s _ _ _) | exact (mixE_o (by omega)).trans ((va_up_o (by omega)).trans hE) | exact (mixE_o (by omega)).trans ((va_up_o (by omega)).trans (va_up_s _ _ _))) (Nat.le_of_ble_eq_true rfl) dX2_init_54 ?_
  refine g_aload_n hG dX2_init_57 0 rfl ?_
  refine g_iconst hG dX2_init_58 ?_
  refine g_put (ci := 2) (k := 7) hG iW2 tyX2_ok nmX2 f42 rfl (by decide) rfl  rfl rfl rfl (by omega) (by omega) (by first | exact va_up_s _ _ _ | exact (va_up_o (by omega)).trans (va_up_s _ _ _) | exact (mixE_o (by omega)).trans ((va_up_o (by omega)).trans hE) | exact (mixE_o (by omega)).trans ((va_up_o (by omega)).trans (va_up_s _ _ _))) (Nat.le_of_ble_eq_true rfl) dX2_init_59 ?_
  refine g_aload_n hG dX2_init_62 0 rfl ?_
  refine g_iconst hG dX2_init_63 ?_
  refine g_put (ci := 2) (k := 8) hG iW2 tyX2_ok nmX2 f45 rfl (by decide) rfl  rfl rfl rfl (by omega) (by omega) (by first | exact va_up_s _ _ _ | exact (va_up_o (by omega)).trans (va_up_s _ _ _) | exact (mixE_o (by omega)).trans ((va_up_o (by omega)).trans hE) | exact (mixE_o (by omega)).trans ((va_up_o (by omega)).trans (va_up_s _ _ _))) (Nat.le_of_ble_eq_true rfl) dX2_init_64 ?_
  refine g_iconst hG dX2_init_67 ?_
  refine g_istore_n hG [(0, _), (1, _)] dX2_init_68 (by decide) rfl ?_
  refine g_E hG (stE r cA E s 0) ?_ ?_
  · intro i hi
    by_cases q7 : i = s + 7
    · rw [q7, stE_7]
      refine Eq.mp (congrArg (fun w => eqE w _) (va_up_o (E := _) (i := s) (by omega)).symm) ?_
      first
        | (simp only [va_up_o (show s + 7 ≠ s by omega), va_up_s]; exact eqE.refs (fun j _ => by rw [if_neg (by omega)]))
    · by_cases q0 : i = s
      · rw [q0, stE_i (by omega) (by omega), Ez_2 hk, va_up_s]
        exact eqE.rf _
      · by_cases qB : s + 4 ≤ i ∧ i < s + 7
        · rw [stE_i q7 (by omega), va_up_o q0, va_up_o q0, va_up_o q0, va_up_o q0, va_up_o q0, va_up_o q0, va_up_o q0, va_up_o q7, va_up_o q0, mixE_i (by omega)]
          exact eqE.rf _
        · by_cases qA : s + 1 ≤ i ∧ i < s + 4
          · rw [stE_i q7 (by omega), va_up_o q0, va_up_o q0, va_up_o q0, va_up_o q0, va_up_o q0, va_up_o q0, va_up_o q0, va_up_o q7, va_up_o q0, mixE_o (by omega), va_up_o (by omega), va_up_o q0, mixE_i (by omega)]
            exact eqE.rf _
          · rw [stE_o (by omega), va_up_o q0, va_up_o q0, va_up_o q0, va_up_o q0, va_up_o q0, va_up_o q0, va_up_o q0, va_up_o q7, va_up_o q0, mixE_o (by omega), va_up_o (by omega), va_up_o q0, mixE_o (by omega), va_up_o (by omega)]
            exact eqE.rf _
  · exact L69 11 0 (by omega) (by omega)
