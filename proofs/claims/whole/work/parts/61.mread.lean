set_option maxHeartbeats 4000000 in
set_option maxRecDepth 100000 in
theorem c_X5_record {l : Launch} {D : va_G} {cA : Nat → ClassId} {r : Nat → Nat} {z : Zt}  (hr : Inj r) (k9a : kd 169 = 6) (hst : 0 ≤ z 169 2 ∧ z 169 2 ≤ 6) : Kv l D cA r yX5_record wsX5_record 0 0 z [.ref (r 169)] (fun z1 => recM z = z1) := by
  have iW5 : ∀ w ∈ u_ws RX5 TX5 10, w ∈ wsX5_record := by decide +kernel
  have f7 : Cond.fieldLink RX5 7 (TX5 0).1 (TX5 0).2.1 (TX5 0).2.2.1 ∈ wsX5_record := by decide +kernel
  have f13 : Cond.fieldLink RX5 13 (TX5 1).1 (TX5 1).2.1 (TX5 1).2.2.1 ∈ wsX5_record := by decide +kernel
  have f37 : Cond.fieldLink RX5 37 (TX5 2).1 (TX5 2).2.1 (TX5 2).2.2.1 ∈ wsX5_record := by decide +kernel
  refine Kv_of [(0, _)] hr (by decide) rfl rfl (Nat.le_of_ble_eq_true rfl) rfl (fun Γ hG hR => ?_)
  have L49 : ∀ (z2 : Zt), z2 = mr0 z → V Γ z2 0 0 [(0, .ref (r 169))] 49 [] := by
    intro z2 hI
    refine v_iconst hG dX5_record_49 ?_
    refine v_istore_n hG [(0, _), (1, _)] dX5_record_50 (by decide) rfl ?_
    have L51 : ∀ (n : Nat), ∀ (x1 : Int) (z1 : Zt), (0 ≤ x1 ∧ x1 ≤ 62 ∧ z1 = zset (mr0 z) 171 (fcp (mr0 z 171) (z 170) (62 * (mr0 z 169 2).toNat) 0 x1.toNat)) → (62 - x1 + 1).toNat ≤ n → V Γ z1 0 0 [(0, .ref (r 169)), (1, .int (iN x1))] 51 [] := by
      intro n
      induction n with
      | zero =>
        intro x1 z1 hI hm
        obtain ⟨i1, i2, i3v⟩ := hI
        exact absurd hm (by omega)
      | succ n ih51 =>
        intro x1 z1 hI hm
        obtain ⟨i1, i2, i3v⟩ := hI
        have hb2 := mr0_2 hst
        have e2 : z1 169 2 = mr0 z 169 2 := by rw [i3v]; rfl
        have e170 : z1 170 = z 170 := by
          rw [i3v]
          exact mr0_o (by decide) (by decide)
        refine v_iload_n hG dX5_record_51 1 rfl ?_
        refine v_bipush hG dX5_record_52 (by decide) ?_
        refine v_icmp_ge hG 83 (by omega) (by omega) dX5_record_54 (by decide) (fun h54 => ?_) (fun h54 => ?_)
        · refine v_aload_n hG dX5_record_83 0 rfl ?_
          refine v_dup hG dX5_record_84 rfl ?_
          refine v_getf (ci := 5) (k := 2) hG iW5 f37 rfl (by decide) k9a (by decide) (cl_6 _ _ _ _) rfl dX5_record_85 ?_
          refine v_iconst hG dX5_record_88 ?_
          refine v_iadd hG dX5_record_89 ?_
          refine v_putf (ci := 5) (k := 2) hG iW5 tyX5_ok nmX5 f37 rfl (by decide) rfl rfl k9a (by decide) (cl_6 _ _ _ _) (Nat.le_of_ble_eq_true rfl) rfl dX5_record_90 ?_
          exact v_vret hG hR dX5_record_93 (by
  have e6 : x1.toNat = 62 := by omega
  rw [e6] at i3v
  rw [e2, i3v]
  rfl)
        · refine v_aload_n hG dX5_record_57 0 rfl ?_
          refine v_getf (ci := 5) (k := 1) hG iW5 f13 rfl (by decide) k9a (by decide) (cl_6 _ _ _ _) rfl dX5_record_58 ?_
          refine v_bipush hG dX5_record_61 (by decide) ?_
          refine v_aload_n hG dX5_record_63 0 rfl ?_
          refine v_getf (ci := 5) (k := 2) hG iW5 f37 rfl (by decide) k9a (by decide) (cl_6 _ _ _ _) rfl dX5_record_64 ?_
          refine v_imul hG dX5_record_67 ?_
          refine v_iload_n hG dX5_record_68 1 rfl ?_
          refine v_iadd hG dX5_record_69 ?_
          refine v_aload_n hG dX5_record_70 0 rfl ?_
          refine v_getf (ci := 5) (k := 0) hG iW5 f7 rfl (by decide) k9a (by decide) (cl_6 _ _ _ _) rfl dX5_record_71 ?_
          refine v_iload_n hG dX5_record_74 1 rfl ?_
          refine v_iald hG k_170 (by decide) (cl_162 _ _ _ _) (by decide) (by omega) dX5_record_75 ?_
          refine v_iast hG k_171 (by decide) (cl_472 _ _ _) (by decide) (by omega) dX5_record_76 ?_
          refine v_iinc hG [(0, _), (1, _)] dX5_record_77 1 rfl (by decide) rfl ?_
          refine v_goto hG 51 dX5_record_80 (by decide) ?_
          refine ih51 _ _ ?_ (by omega)
          refine ⟨by omega, by omega, ?_⟩
          rw [e2, e170, i3v, zup_zset, show (62 * mr0 z 169 2 + x1).toNat = 62 * (mr0 z 169 2).toNat + x1.toNat by omega, show (x1 + 1).toNat = x1.toNat + 1 by omega]
          congr 1
          have h9 := fcp_s (mr0 z 171) (z 170) (62 * (mr0 z 169 2).toNat) 0 x1.toNat
          rw [Nat.zero_add] at h9
          exact h9
    exact L51 _ _ _ ⟨by omega, by omega, by rw [show (0 : Int).toNat = 0 from rfl, fcp_0, zset_same, hI]⟩ (Nat.le_refl _)
  refine v_aload_n hG dX5_record_0 0 rfl ?_
  refine v_getf (ci := 5) (k := 2) hG iW5 f37 rfl (by decide) k9a (by decide) (cl_6 _ _ _ _) rfl dX5_record_1 ?_
  refine v_bipush hG dX5_record_4 (by decide) ?_
  refine v_icmp_ne hG 49 (by omega) (by omega) dX5_record_6 (by decide) (fun h6 => ?_) (fun h6 => ?_)
  · exact L49 _ (by unfold mr0; rw [if_neg (by omega)])
  · refine v_iconst hG dX5_record_9 ?_
    refine v_istore_n hG [(0, _), (1, _)] dX5_record_10 (by decide) rfl ?_
    have L11 : ∀ (n : Nat), ∀ (x1 : Int) (z1 : Zt), (0 ≤ x1 ∧ x1 ≤ 310 ∧ z1 = zset z 171 (fun p => if (p : Int) < x1 then z 171 (p + 62) else z 171 p)) → (310 - x1 + 1).toNat ≤ n → V Γ z1 0 0 [(0, .ref (r 169)), (1, .int (iN x1))] 11 [] := by
      intro n
      induction n with
      | zero =>
        intro x1 z1 hI hm
        obtain ⟨i1, i2, i3v⟩ := hI
        exact absurd hm (by omega)
      | succ n ih11 =>
        intro x1 z1 hI hm
        obtain ⟨i1, i2, i3v⟩ := hI
        refine v_iload_n hG dX5_record_11 1 rfl ?_
        refine v_sipush hG dX5_record_12 (by decide) ?_
        refine v_icmp_ge hG 39 (by omega) (by omega) dX5_record_15 (by decide) (fun h15 => ?_) (fun h15 => ?_)
        · refine v_aload_n hG dX5_record_39 0 rfl ?_
          refine v_dup hG dX5_record_40 rfl ?_
          refine v_getf (ci := 5) (k := 2) hG iW5 f37 rfl (by decide) k9a (by decide) (cl_6 _ _ _ _) rfl dX5_record_41 ?_
          refine v_iconst hG dX5_record_44 ?_
          refine v_isub hG dX5_record_45 ?_
          refine v_putf (ci := 5) (k := 2) hG iW5 tyX5_ok nmX5 f37 rfl (by decide) rfl rfl k9a (by decide) (cl_6 _ _ _ _) (Nat.le_of_ble_eq_true rfl) rfl dX5_record_46 ?_
          refine v_sub hG [(0, _)] [0] rfl ?_
          refine L49 _ ?_
          unfold mr0
          rw [if_pos (by omega)]
          have e2 : z1 169 2 = z 169 2 := by rw [i3v]; rfl
          rw [e2, show z 169 2 - 1 = 5 by omega, i3v]
          congr 1
          congr 1
          funext p
          by_cases q8 : p < 310
          · rw [if_pos q8, if_pos (by omega)]
          · rw [if_neg q8, if_neg (by omega)]
        · refine v_aload_n hG dX5_record_18 0 rfl ?_
          refine v_getf (ci := 5) (k := 1) hG iW5 f13 rfl (by decide) k9a (by decide) (cl_6 _ _ _ _) rfl dX5_record_19 ?_
          refine v_iload_n hG dX5_record_22 1 rfl ?_
          refine v_aload_n hG dX5_record_23 0 rfl ?_
          refine v_getf (ci := 5) (k := 1) hG iW5 f13 rfl (by decide) k9a (by decide) (cl_6 _ _ _ _) rfl dX5_record_24 ?_
          refine v_iload_n hG dX5_record_27 1 rfl ?_
          refine v_bipush hG dX5_record_28 (by decide) ?_
          refine v_iadd hG dX5_record_30 ?_
          refine v_iald hG k_171 (by decide) (cl_472 _ _ _ _) (by decide) (by omega) dX5_record_31 ?_
          refine v_iast hG k_171 (by decide) (cl_472 _ _ _) (by decide) (by omega) dX5_record_32 ?_
          refine v_iinc hG [(0, _), (1, _)] dX5_record_33 1 rfl (by decide) rfl ?_
          refine v_goto hG 11 dX5_record_36 (by decide) ?_
          refine ih11 _ _ ?_ (by omega)
          refine ⟨by omega, by omega, ?_⟩
          have e9 : z1 171 (x1 + 62).toNat = z 171 (x1.toNat + 62) := by
            rw [i3v, zset_at, if_neg (by omega), show (x1 + 62).toNat = x1.toNat + 62 by omega]
          rw [e9, i3v, zup_zset]
          congr 1
          funext p
          by_cases q9 : p = x1.toNat
          · rw [if_pos q9, if_pos (by omega), q9]
          · rw [if_neg q9]
            by_cases q8 : (p : Int) < x1
            · rw [if_pos q8, if_pos (by omega)]
            · rw [if_neg q8, if_neg (by omega)]
    exact L11 _ _ _ ⟨by omega, by omega, by rw [show (fun p : Nat => if (p : Int) < 0 then z 171 (p + 62) else z 171 p) = z 171 from funext (fun p => if_neg (by omega)), zset_same]⟩ (Nat.le_refl _)

set_option maxHeartbeats 4000000 in
set_option maxRecDepth 100000 in
theorem c_X5_feastCount {l : Launch} {D : va_G} {cA : Nat → ClassId} {r : Nat → Nat} {z : Zt} {w : Zt}  (hr : Inj r) (k9a : kd 169 = 6) (hw : w = zup z 169 5 0) : Ki l D cA r yX5_feastCount wsX5_feastCount 0 0 z [.ref (r 169)] (fun v z1 => (w = z1 ∧ v = w 170 14)) := by
  have iW5 : ∀ w ∈ u_ws RX5 TX5 10, w ∈ wsX5_feastCount := by decide +kernel
  have f7 : Cond.fieldLink RX5 7 (TX5 0).1 (TX5 0).2.1 (TX5 0).2.2.1 ∈ wsX5_feastCount := by decide +kernel
  have f29 : Cond.fieldLink RX5 29 (TX5 5).1 (TX5 5).2.1 (TX5 5).2.2.1 ∈ wsX5_feastCount := by decide +kernel
  refine Ki_of [(0, _)] hr (by decide) rfl rfl (Nat.le_of_ble_eq_true rfl) rfl (fun Γ hG hR => ?_)
  refine v_aload_n hG dX5_feastCount_0 0 rfl ?_
  refine v_iconst hG dX5_feastCount_1 ?_
  refine v_putf (ci := 5) (k := 5) hG iW5 tyX5_ok nmX5 f29 rfl (by decide) rfl rfl k9a (by decide) (cl_6 _ _ _ _) (Nat.le_of_ble_eq_true rfl) rfl dX5_feastCount_2 ?_
  rw [← hw]
  refine v_aload_n hG dX5_feastCount_5 0 rfl ?_
  refine v_getf (ci := 5) (k := 0) hG iW5 f7 rfl (by decide) k9a (by decide) (cl_6 _ _ _ _) rfl dX5_feastCount_6 ?_
  refine v_bipush hG dX5_feastCount_9 (by decide) ?_
  refine v_iald hG k_170 (by decide) (cl_162 _ _ _ _) (by decide) (by omega) dX5_feastCount_11 ?_
  exact v_iret hG hR dX5_feastCount_12 ⟨rfl, rfl⟩

set_option maxHeartbeats 4000000 in
set_option maxRecDepth 100000 in
theorem c_X5_shift {l : Launch} {D : va_G} {cA : Nat → ClassId} {r : Nat → Nat} {z : Zt} {w : Zt}  (hr : Inj r) (k9a : kd 169 = 6) (hw : w = zup z 169 5 0) : Ki l D cA r yX5_shift wsX5_shift 0 0 z [.ref (r 169)] (fun v z1 => (w = z1 ∧ v = w 170 55)) := by
  have iW5 : ∀ w ∈ u_ws RX5 TX5 10, w ∈ wsX5_shift := by decide +kernel
  have f7 : Cond.fieldLink RX5 7 (TX5 0).1 (TX5 0).2.1 (TX5 0).2.2.1 ∈ wsX5_shift := by decide +kernel
  have f29 : Cond.fieldLink RX5 29 (TX5 5).1 (TX5 5).2.1 (TX5 5).2.2.1 ∈ wsX5_shift := by decide +kernel
  refine Ki_of [(0, _)] hr (by decide) rfl rfl (Nat.le_of_ble_eq_true rfl) rfl (fun Γ hG hR => ?_)
  refine v_aload_n hG dX5_shift_0 0 rfl ?_
  refine v_iconst hG dX5_shift_1 ?_
  refine v_putf (ci := 5) (k := 5) hG iW5 tyX5_ok nmX5 f29 rfl (by decide) rfl rfl k9a (by decide) (cl_6 _ _ _ _) (Nat.le_of_ble_eq_true rfl) rfl dX5_shift_2 ?_
  rw [← hw]
  refine v_aload_n hG dX5_shift_5 0 rfl ?_
  refine v_getf (ci := 5) (k := 0) hG iW5 f7 rfl (by decide) k9a (by decide) (cl_6 _ _ _ _) rfl dX5_shift_6 ?_
  refine v_bipush hG dX5_shift_9 (by decide) ?_
  refine v_iald hG k_170 (by decide) (cl_162 _ _ _ _) (by decide) (by omega) dX5_shift_11 ?_
  exact v_iret hG hR dX5_shift_12 ⟨rfl, rfl⟩

set_option maxHeartbeats 4000000 in
set_option maxRecDepth 100000 in
theorem c_X5_copiesPerDay {l : Launch} {D : va_G} {cA : Nat → ClassId} {r : Nat → Nat} {z : Zt} {w : Zt}  (hr : Inj r) (k9a : kd 169 = 6) (hw : w = zup z 169 5 0) : Ki l D cA r yX5_copiesPerDay wsX5_copiesPerDay 0 0 z [.ref (r 169)] (fun v z1 => (w = z1 ∧ v = w 170 56)) := by
  have iW5 : ∀ w ∈ u_ws RX5 TX5 10, w ∈ wsX5_copiesPerDay := by decide +kernel
  have f7 : Cond.fieldLink RX5 7 (TX5 0).1 (TX5 0).2.1 (TX5 0).2.2.1 ∈ wsX5_copiesPerDay := by decide +kernel
  have f29 : Cond.fieldLink RX5 29 (TX5 5).1 (TX5 5).2.1 (TX5 5).2.2.1 ∈ wsX5_copiesPerDay := by decide +kernel
  refine Ki_of [(0, _)] hr (by decide) rfl rfl (Nat.le_of_ble_eq_true rfl) rfl (fun Γ hG hR => ?_)
  refine v_aload_n hG dX5_copiesPerDay_0 0 rfl ?_
  refine v_iconst hG dX5_copiesPerDay_1 ?_
  refine v_putf (ci := 5) (k := 5) hG iW5 tyX5_ok nmX5 f29 rfl (by decide) rfl rfl k9a (by decide) (cl_6 _ _ _ _) (Nat.le_of_ble_eq_true rfl) rfl dX5_copiesPerDay_2 ?_
  rw [← hw]
  refine v_aload_n hG dX5_copiesPerDay_5 0 rfl ?_
  refine v_getf (ci := 5) (k := 0) hG iW5 f7 rfl (by decide) k9a (by decide) (cl_6 _ _ _ _) rfl dX5_copiesPerDay_6 ?_
  refine v_bipush hG dX5_copiesPerDay_9 (by decide) ?_
  refine v_iald hG k_170 (by decide) (cl_162 _ _ _ _) (by decide) (by omega) dX5_copiesPerDay_11 ?_
  exact v_iret hG hR dX5_copiesPerDay_12 ⟨rfl, rfl⟩

set_option maxHeartbeats 4000000 in
set_option maxRecDepth 100000 in
theorem c_X5_today {l : Launch} {D : va_G} {cA : Nat → ClassId} {r : Nat → Nat} {z : Zt} {w : Zt}  (hr : Inj r) (k9a : kd 169 = 6) (hw : w = zup z 169 5 0) : Ki l D cA r yX5_today wsX5_today 0 0 z [.ref (r 169)] (fun v z1 => (w = z1 ∧ v = w 170 57)) := by
  have iW5 : ∀ w ∈ u_ws RX5 TX5 10, w ∈ wsX5_today := by decide +kernel
  have f7 : Cond.fieldLink RX5 7 (TX5 0).1 (TX5 0).2.1 (TX5 0).2.2.1 ∈ wsX5_today := by decide +kernel
  have f29 : Cond.fieldLink RX5 29 (TX5 5).1 (TX5 5).2.1 (TX5 5).2.2.1 ∈ wsX5_today := by decide +kernel
  refine Ki_of [(0, _)] hr (by decide) rfl rfl (Nat.le_of_ble_eq_true rfl) rfl (fun Γ hG hR => ?_)
  refine v_aload_n hG dX5_today_0 0 rfl ?_
  refine v_iconst hG dX5_today_1 ?_
  refine v_putf (ci := 5) (k := 5) hG iW5 tyX5_ok nmX5 f29 rfl (by decide) rfl rfl k9a (by decide) (cl_6 _ _ _ _) (Nat.le_of_ble_eq_true rfl) rfl dX5_today_2 ?_
  rw [← hw]
  refine v_aload_n hG dX5_today_5 0 rfl ?_
  refine v_getf (ci := 5) (k := 0) hG iW5 f7 rfl (by decide) k9a (by decide) (cl_6 _ _ _ _) rfl dX5_today_6 ?_
  refine v_bipush hG dX5_today_9 (by decide) ?_
  refine v_iald hG k_170 (by decide) (cl_162 _ _ _ _) (by decide) (by omega) dX5_today_11 ?_
  exact v_iret hG hR dX5_today_12 ⟨rfl, rfl⟩

set_option maxHeartbeats 4000000 in
set_option maxRecDepth 100000 in
theorem c_X5_quarrelCount {l : Launch} {D : va_G} {cA : Nat → ClassId} {r : Nat → Nat} {z : Zt} {w : Zt}  (hr : Inj r) (k9a : kd 169 = 6) (hw : w = zup z 169 5 0) : Ki l D cA r yX5_quarrelCount wsX5_quarrelCount 0 0 z [.ref (r 169)] (fun v z1 => (w = z1 ∧ v = w 170 60)) := by
  have iW5 : ∀ w ∈ u_ws RX5 TX5 10, w ∈ wsX5_quarrelCount := by decide +kernel
  have f7 : Cond.fieldLink RX5 7 (TX5 0).1 (TX5 0).2.1 (TX5 0).2.2.1 ∈ wsX5_quarrelCount := by decide +kernel
  have f29 : Cond.fieldLink RX5 29 (TX5 5).1 (TX5 5).2.1 (TX5 5).2.2.1 ∈ wsX5_quarrelCount := by decide +kernel
  refine Ki_of [(0, _)] hr (by decide) rfl rfl (Nat.le_of_ble_eq_true rfl) rfl (fun Γ hG hR => ?_)
  refine v_aload_n hG dX5_quarrelCount_0 0 rfl ?_
  refine v_iconst hG dX5_quarrelCount_1 ?_
  refine v_putf (ci := 5) (k := 5) hG iW5 tyX5_ok nmX5 f29 rfl (by decide) rfl rfl k9a (by decide) (cl_6 _ _ _ _) (Nat.le_of_ble_eq_true rfl) rfl dX5_quarrelCount_2 ?_
  rw [← hw]
  refine v_aload_n hG dX5_quarrelCount_5 0 rfl ?_
  refine v_getf (ci := 5) (k := 0) hG iW5 f7 rfl (by decide) k9a (by decide) (cl_6 _ _ _ _) rfl dX5_quarrelCount_6 ?_
  refine v_bipush hG dX5_quarrelCount_9 (by decide) ?_
  refine v_iald hG k_170 (by decide) (cl_162 _ _ _ _) (by decide) (by omega) dX5_quarrelCount_11 ?_
  exact v_iret hG hR dX5_quarrelCount_12 ⟨rfl, rfl⟩

set_option maxHeartbeats 4000000 in
set_option maxRecDepth 100000 in
theorem c_X5_copiesMade {l : Launch} {D : va_G} {cA : Nat → ClassId} {r : Nat → Nat} {z : Zt} {w : Zt}  (hr : Inj r) (k9a : kd 169 = 6) (hw : w = zup z 169 5 0) : Ki l D cA r yX5_copiesMade wsX5_copiesMade 0 0 z [.ref (r 169)] (fun v z1 => (w = z1 ∧ v = w 170 61)) := by
  have iW5 : ∀ w ∈ u_ws RX5 TX5 10, w ∈ wsX5_copiesMade := by decide +kernel
  have f7 : Cond.fieldLink RX5 7 (TX5 0).1 (TX5 0).2.1 (TX5 0).2.2.1 ∈ wsX5_copiesMade := by decide +kernel
  have f29 : Cond.fieldLink RX5 29 (TX5 5).1 (TX5 5).2.1 (TX5 5).2.2.1 ∈ wsX5_copiesMade := by decide +kernel
  refine Ki_of [(0, _)] hr (by decide) rfl rfl (Nat.le_of_ble_eq_true rfl) rfl (fun Γ hG hR => ?_)
  refine v_aload_n hG dX5_copiesMade_0 0 rfl ?_
  refine v_iconst hG dX5_copiesMade_1 ?_
  refine v_putf (ci := 5) (k := 5) hG iW5 tyX5_ok nmX5 f29 rfl (by decide) rfl rfl k9a (by decide) (cl_6 _ _ _ _) (Nat.le_of_ble_eq_true rfl) rfl dX5_copiesMade_2 ?_
  rw [← hw]
  refine v_aload_n hG dX5_copiesMade_5 0 rfl ?_
  refine v_getf (ci := 5) (k := 0) hG iW5 f7 rfl (by decide) k9a (by decide) (cl_6 _ _ _ _) rfl dX5_copiesMade_6 ?_
  refine v_bipush hG dX5_copiesMade_9 (by decide) ?_
  refine v_iald hG k_170 (by decide) (cl_162 _ _ _ _) (by decide) (by omega) dX5_copiesMade_11 ?_
  exact v_iret hG hR dX5_copiesMade_12 ⟨rfl, rfl⟩

set_option maxHeartbeats 4000000 in
set_option maxRecDepth 100000 in
theorem c_X5_undoCount {l : Launch} {D : va_G} {cA : Nat → ClassId} {r : Nat → Nat} {z : Zt} {w : Zt}  (hr : Inj r) (k9a : kd 169 = 6) (hw : w = zup z 169 5 0) : Ki l D cA r yX5_undoCount wsX5_undoCount 0 0 z [.ref (r 169)] (fun v z1 => (w = z1 ∧ v = w 169 2)) := by
  have iW5 : ∀ w ∈ u_ws RX5 TX5 10, w ∈ wsX5_undoCount := by decide +kernel
  have f29 : Cond.fieldLink RX5 29 (TX5 5).1 (TX5 5).2.1 (TX5 5).2.2.1 ∈ wsX5_undoCount := by decide +kernel
  have f37 : Cond.fieldLink RX5 37 (TX5 2).1 (TX5 2).2.1 (TX5 2).2.2.1 ∈ wsX5_undoCount := by decide +kernel
  refine Ki_of [(0, _)] hr (by decide) rfl rfl (Nat.le_of_ble_eq_true rfl) rfl (fun Γ hG hR => ?_)
  refine v_aload_n hG dX5_undoCount_0 0 rfl ?_
  refine v_iconst hG dX5_undoCount_1 ?_
  refine v_putf (ci := 5) (k := 5) hG iW5 tyX5_ok nmX5 f29 rfl (by decide) rfl rfl k9a (by decide) (cl_6 _ _ _ _) (Nat.le_of_ble_eq_true rfl) rfl dX5_undoCount_2 ?_
  rw [← hw]
  refine v_aload_n hG dX5_undoCount_5 0 rfl ?_
  refine v_getf (ci := 5) (k := 2) hG iW5 f37 rfl (by decide) k9a (by decide) (cl_6 _ _ _ _) rfl dX5_undoCount_6 ?_
  exact v_iret hG hR dX5_undoCount_9 ⟨rfl, rfl⟩

set_option maxHeartbeats 4000000 in
set_option maxRecDepth 100000 in
theorem c_X5_textLength {l : Launch} {D : va_G} {cA : Nat → ClassId} {r : Nat → Nat} {z : Zt} {w : Zt}  (hr : Inj r) (k9a : kd 169 = 6) (hw : w = zup z 169 5 0) : Ki l D cA r yX5_textLength wsX5_textLength 0 0 z [.ref (r 169)] (fun v z1 => (w = z1 ∧ v = w 169 7)) := by
  have iW5 : ∀ w ∈ u_ws RX5 TX5 10, w ∈ wsX5_textLength := by decide +kernel
  have f29 : Cond.fieldLink RX5 29 (TX5 5).1 (TX5 5).2.1 (TX5 5).2.2.1 ∈ wsX5_textLength := by decide +kernel
  have f117 : Cond.fieldLink RX5 117 (TX5 7).1 (TX5 7).2.1 (TX5 7).2.2.1 ∈ wsX5_textLength := by decide +kernel
  refine Ki_of [(0, _)] hr (by decide) rfl rfl (Nat.le_of_ble_eq_true rfl) rfl (fun Γ hG hR => ?_)
  refine v_aload_n hG dX5_textLength_0 0 rfl ?_
  refine v_iconst hG dX5_textLength_1 ?_
  refine v_putf (ci := 5) (k := 5) hG iW5 tyX5_ok nmX5 f29 rfl (by decide) rfl rfl k9a (by decide) (cl_6 _ _ _ _) (Nat.le_of_ble_eq_true rfl) rfl dX5_textLength_2 ?_
  rw [← hw]
  refine v_aload_n hG dX5_textLength_5 0 rfl ?_
  refine v_getf (ci := 5) (k := 7) hG iW5 f117 rfl (by decide) k9a (by decide) (cl_6 _ _ _ _) rfl dX5_textLength_6 ?_
  exact v_iret hG hR dX5_textLength_9 ⟨rfl, rfl⟩

set_option maxHeartbeats 4000000 in
set_option maxRecDepth 100000 in
theorem c_X5_clearText {l : Launch} {D : va_G} {cA : Nat → ClassId} {r : Nat → Nat} {z : Zt} {w : Zt}  (hr : Inj r) (k9a : kd 169 = 6) (hw : w = zup z 169 5 0) : Ki l D cA r yX5_clearText wsX5_clearText 0 0 z [.ref (r 169)] (fun v z1 => (zup w 169 7 0 = z1 ∧ v = w 169 7)) := by
  have iW5 : ∀ w ∈ u_ws RX5 TX5 10, w ∈ wsX5_clearText := by decide +kernel
  have f29 : Cond.fieldLink RX5 29 (TX5 5).1 (TX5 5).2.1 (TX5 5).2.2.1 ∈ wsX5_clearText := by decide +kernel
  have f117 : Cond.fieldLink RX5 117 (TX5 7).1 (TX5 7).2.1 (TX5 7).2.2.1 ∈ wsX5_clearText := by decide +kernel
  refine Ki_of [(0, _)] hr (by decide) rfl rfl (Nat.le_of_ble_eq_true rfl) rfl (fun Γ hG hR => ?_)
  refine v_aload_n hG dX5_clearText_0 0 rfl ?_
  refine v_iconst hG dX5_clearText_1 ?_
  refine v_putf (ci := 5) (k := 5) hG iW5 tyX5_ok nmX5 f29 rfl (by decide) rfl rfl k9a (by decide) (cl_6 _ _ _ _) (Nat.le_of_ble_eq_true rfl) rfl dX5_clearText_2 ?_
  rw [← hw]
  refine v_aload_n hG dX5_clearText_5 0 rfl ?_
  refine v_getf (ci := 5) (k := 7) hG iW5 f117 rfl (by decide) k9a (by decide) (cl_6 _ _ _ _) rfl dX5_clearText_6 ?_
  refine v_istore_n hG [(0, _), (1, _)] dX5_clearText_9 (by decide) rfl ?_
  refine v_aload_n hG dX5_clearText_10 0 rfl ?_
  refine v_iconst hG dX5_clearText_11 ?_
  refine v_putf (ci := 5) (k := 7) hG iW5 tyX5_ok nmX5 f117 rfl (by decide) rfl rfl k9a (by decide) (cl_6 _ _ _ _) (Nat.le_of_ble_eq_true rfl) rfl dX5_clearText_12 ?_
  refine v_iload_n hG dX5_clearText_15 1 rfl ?_
  exact v_iret hG hR dX5_clearText_16 ⟨rfl, rfl⟩

set_option maxHeartbeats 4000000 in
set_option maxRecDepth 100000 in
theorem c_X5_gapCount {l : Launch} {D : va_G} {cA : Nat → ClassId} {r : Nat → Nat} {z : Zt} {w : Zt} {t : Int} (hr : Inj r) (k9a : kd 169 = 6) (hw : w = zup z 169 5 0) (hM : MI (w 170)) (hr_t : -2147483648 ≤ t ∧ t < 2147483648) : Ki l D cA r yX5_gapCount wsX5_gapCount 2 42 z [.ref (r 169), .int (iN t)] (fun v z1 => (w = z1 ∧ (0 ≤ t ∧ t ≤ 1) ∧ v = mN (w 170) t) ∨ (zup w 169 5 1 = z1 ∧ ¬ (0 ≤ t ∧ t ≤ 1))) := by
  have iW5 : ∀ w ∈ u_ws RX5 TX5 10, w ∈ wsX5_gapCount := by decide +kernel
  have f29 : Cond.fieldLink RX5 29 (TX5 5).1 (TX5 5).2.1 (TX5 5).2.2.1 ∈ wsX5_gapCount := by decide +kernel
  obtain ⟨hG1, h14, hFe, h55, h56, h57⟩ := id hM
  refine Ki_of [(0, _), (1, _)] hr (by decide) rfl rfl (Nat.le_of_ble_eq_true rfl) rfl (fun Γ hG hR => ?_)
  refine v_aload_n hG dX5_gapCount_0 0 rfl ?_
  refine v_iconst hG dX5_gapCount_1 ?_
  refine v_putf (ci := 5) (k := 5) hG iW5 tyX5_ok nmX5 f29 rfl (by decide) rfl rfl k9a (by decide) (cl_6 _ _ _ _) (Nat.le_of_ble_eq_true rfl) rfl dX5_gapCount_2 ?_
  rw [← hw]
  refine v_iload_n hG dX5_gapCount_5 1 rfl ?_
  refine v_callSi (n := 1) hG (c_X5_isTown hr (by omega)) gX5_gapCount_X5_isTown rfl (by decide +kernel) rfl (by decide) dX5_gapCount_6 rfl (Nat.le_of_ble_eq_true rfl) (by decide) ?_
  intro v6 z6 hp6
  obtain ⟨rfl, hv6⟩ := hp6
  have hb6 := ind_v hv6
  refine v_if_eq hG 20 (by omega) dX5_gapCount_9 (by decide) (fun h9 => ?_) (fun h9 => ?_)
  · refine v_aload_n hG dX5_gapCount_20 0 rfl ?_
    refine v_iconst hG dX5_gapCount_21 ?_
    refine v_callVi (n := 1) (ci := 5) hG (c_X5_fails hr k9a) gX5_gapCount_X5_fails rfl (by decide +kernel) rfl (by decide) k9a (by decide) (cl_6 _ _ _ _) rfl dX5_gapCount_22 rfl (Nat.le_of_ble_eq_true rfl) (by decide) ?_
    intro v22 z22 hp22
    obtain ⟨rfl, rfl⟩ := hp22
    exact v_iret hG hR dX5_gapCount_25 (by first | exact Or.inl (⟨rfl, by omega, rfl⟩) | exact Or.inr (⟨rfl, by omega⟩))
  · refine v_aload_n hG dX5_gapCount_12 0 rfl ?_
    refine v_iload_n hG dX5_gapCount_13 1 rfl ?_
    refine v_callVi (n := 1) (ci := 5) hG (c_X5_gaps hr k9a (by omega)) gX5_gapCount_X5_gaps rfl (by decide +kernel) rfl (by decide) k9a (by decide) (cl_6 _ _ _ _) rfl dX5_gapCount_14 rfl (Nat.le_of_ble_eq_true rfl) (by decide) ?_
    intro v14 z14 hp14
    obtain ⟨rfl, rfl⟩ := hp14
    refine v_goto hG 25 dX5_gapCount_17 (by decide) ?_
    exact v_iret hG hR dX5_gapCount_25 (by first | exact Or.inl (⟨rfl, by omega, rfl⟩) | exact Or.inr (⟨rfl, by omega⟩))

set_option maxHeartbeats 4000000 in
set_option maxRecDepth 100000 in
theorem c_X5_feastsKept {l : Launch} {D : va_G} {cA : Nat → ClassId} {r : Nat → Nat} {z : Zt} {w : Zt} {t : Int} (hr : Inj r) (k9a : kd 169 = 6) (hw : w = zup z 169 5 0) (hM : MI (w 170)) (hr_t : -2147483648 ≤ t ∧ t < 2147483648) : Ki l D cA r yX5_feastsKept wsX5_feastsKept 2 42 z [.ref (r 169), .int (iN t)] (fun v z1 => (w = z1 ∧ (0 ≤ t ∧ t ≤ 1) ∧ v = w 170 (58 + t).toNat) ∨ (zup w 169 5 1 = z1 ∧ ¬ (0 ≤ t ∧ t ≤ 1))) := by
  have iW5 : ∀ w ∈ u_ws RX5 TX5 10, w ∈ wsX5_feastsKept := by decide +kernel
  have f7 : Cond.fieldLink RX5 7 (TX5 0).1 (TX5 0).2.1 (TX5 0).2.2.1 ∈ wsX5_feastsKept := by decide +kernel
  have f29 : Cond.fieldLink RX5 29 (TX5 5).1 (TX5 5).2.1 (TX5 5).2.2.1 ∈ wsX5_feastsKept := by decide +kernel
  obtain ⟨hG1, h14, hFe, h55, h56, h57⟩ := id hM
  refine Ki_of [(0, _), (1, _)] hr (by decide) rfl rfl (Nat.le_of_ble_eq_true rfl) rfl (fun Γ hG hR => ?_)
  refine v_aload_n hG dX5_feastsKept_0 0 rfl ?_
  refine v_iconst hG dX5_feastsKept_1 ?_
  refine v_putf (ci := 5) (k := 5) hG iW5 tyX5_ok nmX5 f29 rfl (by decide) rfl rfl k9a (by decide) (cl_6 _ _ _ _) (Nat.le_of_ble_eq_true rfl) rfl dX5_feastsKept_2 ?_
  rw [← hw]
  refine v_iload_n hG dX5_feastsKept_5 1 rfl ?_
  refine v_callSi (n := 1) hG (c_X5_isTown hr (by omega)) gX5_feastsKept_X5_isTown rfl (by decide +kernel) rfl (by decide) dX5_feastsKept_6 rfl (Nat.le_of_ble_eq_true rfl) (by decide) ?_
  intro v6 z6 hp6
  obtain ⟨rfl, hv6⟩ := hp6
  have hb6 := ind_v hv6
  refine v_if_eq hG 24 (by omega) dX5_feastsKept_9 (by decide) (fun h9 => ?_) (fun h9 => ?_)
  · refine v_aload_n hG dX5_feastsKept_24 0 rfl ?_
    refine v_iconst hG dX5_feastsKept_25 ?_
    refine v_callVi (n := 1) (ci := 5) hG (c_X5_fails hr k9a) gX5_feastsKept_X5_fails rfl (by decide +kernel) rfl (by decide) k9a (by decide) (cl_6 _ _ _ _) rfl dX5_feastsKept_26 rfl (Nat.le_of_ble_eq_true rfl) (by decide) ?_
    intro v26 z26 hp26
    obtain ⟨rfl, rfl⟩ := hp26
    exact v_iret hG hR dX5_feastsKept_29 (by first | exact Or.inl (⟨rfl, by omega, rfl⟩) | exact Or.inr (⟨rfl, by omega⟩))
  · refine v_aload_n hG dX5_feastsKept_12 0 rfl ?_
    refine v_getf (ci := 5) (k := 0) hG iW5 f7 rfl (by decide) k9a (by decide) (cl_6 _ _ _ _) rfl dX5_feastsKept_13 ?_
    refine v_bipush hG dX5_feastsKept_16 (by decide) ?_
    refine v_iload_n hG dX5_feastsKept_18 1 rfl ?_
    refine v_iadd hG dX5_feastsKept_19 ?_
    refine v_iald hG k_170 (by decide) (cl_162 _ _ _ _) (by decide) (by omega) dX5_feastsKept_20 ?_
    refine v_goto hG 29 dX5_feastsKept_21 (by decide) ?_
    exact v_iret hG hR dX5_feastsKept_29 (by first | exact Or.inl (⟨rfl, by omega, rfl⟩) | exact Or.inr (⟨rfl, by omega⟩))

set_option maxHeartbeats 4000000 in
set_option maxRecDepth 100000 in
theorem c_X5_gapDay {l : Launch} {D : va_G} {cA : Nat → ClassId} {r : Nat → Nat} {z : Zt} {w : Zt} {t g : Int} (hr : Inj r) (k9a : kd 169 = 6) (hw : w = zup z 169 5 0) (hM : MI (w 170)) (hr_t : -2147483648 ≤ t ∧ t < 2147483648) (hr_g : -2147483648 ≤ g ∧ g < 2147483648) : Ki l D cA r yX5_gapDay wsX5_gapDay 2 42 z [.ref (r 169), .int (iN t), .int (iN g)] (fun v z1 => (w = z1 ∧ (0 ≤ t ∧ t ≤ 1) ∧ (0 ≤ g ∧ g < mN (w 170) t) ∧ v = mD (w 170) t g.toNat) ∨ (zup w 169 5 1 = z1 ∧ (¬ (0 ≤ t ∧ t ≤ 1) ∨ ¬ (0 ≤ g ∧ g < mN (w 170) t)))) := by
  have iW5 : ∀ w ∈ u_ws RX5 TX5 10, w ∈ wsX5_gapDay := by decide +kernel
  have f29 : Cond.fieldLink RX5 29 (TX5 5).1 (TX5 5).2.1 (TX5 5).2.2.1 ∈ wsX5_gapDay := by decide +kernel
  obtain ⟨hG1, h14, hFe, h55, h56, h57⟩ := id hM
  have hGt : (0 ≤ t ∧ t ≤ 1) → 0 ≤ mN (w 170) t ∧ mN (w 170) t ≤ 3 := fun q9 => ⟨(hG1 t (by omega)).1, (hG1 t (by omega)).2.1⟩
  refine Ki_of [(0, _), (1, _), (2, _)] hr (by decide) rfl rfl (Nat.le_of_ble_eq_true rfl) rfl (fun Γ hG hR => ?_)
  refine v_aload_n hG dX5_gapDay_0 0 rfl ?_
  refine v_iconst hG dX5_gapDay_1 ?_
  refine v_putf (ci := 5) (k := 5) hG iW5 tyX5_ok nmX5 f29 rfl (by decide) rfl rfl k9a (by decide) (cl_6 _ _ _ _) (Nat.le_of_ble_eq_true rfl) rfl dX5_gapDay_2 ?_
  rw [← hw]
  refine v_iload_n hG dX5_gapDay_5 1 rfl ?_
  refine v_callSi (n := 1) hG (c_X5_isTown hr (by omega)) gX5_gapDay_X5_isTown rfl (by decide +kernel) rfl (by decide) dX5_gapDay_6 rfl (Nat.le_of_ble_eq_true rfl) (by decide) ?_
  intro v6 z6 hp6
  obtain ⟨rfl, hv6⟩ := hp6
  have hb6 := ind_v hv6
  refine v_if_eq hG 37 (by omega) dX5_gapDay_9 (by decide) (fun h9 => ?_) (fun h9 => ?_)
  · refine v_aload_n hG dX5_gapDay_37 0 rfl ?_
    refine v_iconst hG dX5_gapDay_38 ?_
    refine v_callVi (n := 1) (ci := 5) hG (c_X5_fails hr k9a) gX5_gapDay_X5_fails rfl (by decide +kernel) rfl (by decide) k9a (by decide) (cl_6 _ _ _ _) rfl dX5_gapDay_39 rfl (Nat.le_of_ble_eq_true rfl) (by decide) ?_
    intro v39 z39 hp39
    obtain ⟨rfl, rfl⟩ := hp39
    exact v_iret hG hR dX5_gapDay_42 (by first | exact Or.inl (⟨rfl, by omega, by omega, by unfold mD; exact congrArg (w 170) (by omega)⟩) | exact Or.inr (⟨rfl, by omega⟩))
  · refine v_iload_n hG dX5_gapDay_12 2 rfl ?_
    refine v_iconst hG dX5_gapDay_13 ?_
    refine v_aload_n hG dX5_gapDay_14 0 rfl ?_
    refine v_iload_n hG dX5_gapDay_15 1 rfl ?_
    refine v_callVi (n := 1) (ci := 5) hG (c_X5_gaps hr k9a (by omega)) gX5_gapDay_X5_gaps rfl (by decide +kernel) rfl (by decide) k9a (by decide) (cl_6 _ _ _ _) rfl dX5_gapDay_16 rfl (Nat.le_of_ble_eq_true rfl) (by decide) ?_
    intro v16 z16 hp16
    obtain ⟨rfl, rfl⟩ := hp16
    have hgt := hGt (by omega)
    refine v_iconst hG dX5_gapDay_19 ?_
    refine v_isub hG dX5_gapDay_20 ?_
    refine v_callSi (n := 3) hG (c_X5_in hr (by omega) (by omega) (by omega)) gX5_gapDay_X5_in rfl (by decide +kernel) rfl (by decide) dX5_gapDay_21 rfl (Nat.le_of_ble_eq_true rfl) (by decide) ?_
    intro v21 z21 hp21
    obtain ⟨rfl, hv21⟩ := hp21
    have hb21 := ind_v hv21
    refine v_if_eq hG 37 (by omega) dX5_gapDay_24 (by decide) (fun h24 => ?_) (fun h24 => ?_)
    · refine v_aload_n hG dX5_gapDay_37 0 rfl ?_
      refine v_iconst hG dX5_gapDay_38 ?_
      refine v_callVi (n := 1) (ci := 5) hG (c_X5_fails hr k9a) gX5_gapDay_X5_fails rfl (by decide +kernel) rfl (by decide) k9a (by decide) (cl_6 _ _ _ _) rfl dX5_gapDay_39 rfl (Nat.le_of_ble_eq_true rfl) (by decide) ?_
      intro v39 z39 hp39
      obtain ⟨rfl, rfl⟩ := hp39
      exact v_iret hG hR dX5_gapDay_42 (by first | exact Or.inl (⟨rfl, by omega, by omega, by unfold mD; exact congrArg (w 170) (by omega)⟩) | exact Or.inr (⟨rfl, by omega⟩))
    · refine v_aload_n hG dX5_gapDay_27 0 rfl ?_
      refine v_iload_n hG dX5_gapDay_28 1 rfl ?_
      refine v_iload_n hG dX5_gapDay_29 2 rfl ?_
      refine v_iconst hG dX5_gapDay_30 ?_
      refine v_callVi (n := 3) (ci := 5) hG (c_X5_gap hr k9a (by omega) (by omega) (by omega)) gX5_gapDay_X5_gap rfl (by decide +kernel) rfl (by decide) k9a (by decide) (cl_6 _ _ _ _) rfl dX5_gapDay_31 rfl (Nat.le_of_ble_eq_true rfl) (by decide) ?_
      intro v31 z31 hp31
      obtain ⟨rfl, rfl⟩ := hp31
      refine v_goto hG 42 dX5_gapDay_34 (by decide) ?_
      exact v_iret hG hR dX5_gapDay_42 (by first | exact Or.inl (⟨rfl, by omega, by omega, by unfold mD; exact congrArg (w 170) (by omega)⟩) | exact Or.inr (⟨rfl, by omega⟩))

set_option maxHeartbeats 4000000 in
set_option maxRecDepth 100000 in
theorem c_X5_gapLength {l : Launch} {D : va_G} {cA : Nat → ClassId} {r : Nat → Nat} {z : Zt} {w : Zt} {t g : Int} (hr : Inj r) (k9a : kd 169 = 6) (hw : w = zup z 169 5 0) (hM : MI (w 170)) (hr_t : -2147483648 ≤ t ∧ t < 2147483648) (hr_g : -2147483648 ≤ g ∧ g < 2147483648) : Ki l D cA r yX5_gapLength wsX5_gapLength 2 42 z [.ref (r 169), .int (iN t), .int (iN g)] (fun v z1 => (w = z1 ∧ (0 ≤ t ∧ t ≤ 1) ∧ (0 ≤ g ∧ g < mN (w 170) t) ∧ v = mL (w 170) t g.toNat) ∨ (zup w 169 5 1 = z1 ∧ (¬ (0 ≤ t ∧ t ≤ 1) ∨ ¬ (0 ≤ g ∧ g < mN (w 170) t)))) := by
  have iW5 : ∀ w ∈ u_ws RX5 TX5 10, w ∈ wsX5_gapLength := by decide +kernel
  have f29 : Cond.fieldLink RX5 29 (TX5 5).1 (TX5 5).2.1 (TX5 5).2.2.1 ∈ wsX5_gapLength := by decide +kernel
  obtain ⟨hG1, h14, hFe, h55, h56, h57⟩ := id hM
  have hGt : (0 ≤ t ∧ t ≤ 1) → 0 ≤ mN (w 170) t ∧ mN (w 170) t ≤ 3 := fun q9 => ⟨(hG1 t (by omega)).1, (hG1 t (by omega)).2.1⟩
  refine Ki_of [(0, _), (1, _), (2, _)] hr (by decide) rfl rfl (Nat.le_of_ble_eq_true rfl) rfl (fun Γ hG hR => ?_)
  refine v_aload_n hG dX5_gapLength_0 0 rfl ?_
  refine v_iconst hG dX5_gapLength_1 ?_
  refine v_putf (ci := 5) (k := 5) hG iW5 tyX5_ok nmX5 f29 rfl (by decide) rfl rfl k9a (by decide) (cl_6 _ _ _ _) (Nat.le_of_ble_eq_true rfl) rfl dX5_gapLength_2 ?_
  rw [← hw]
  refine v_iload_n hG dX5_gapLength_5 1 rfl ?_
  refine v_callSi (n := 1) hG (c_X5_isTown hr (by omega)) gX5_gapLength_X5_isTown rfl (by decide +kernel) rfl (by decide) dX5_gapLength_6 rfl (Nat.le_of_ble_eq_true rfl) (by decide) ?_
  intro v6 z6 hp6
  obtain ⟨rfl, hv6⟩ := hp6
  have hb6 := ind_v hv6
  refine v_if_eq hG 37 (by omega) dX5_gapLength_9 (by decide) (fun h9 => ?_) (fun h9 => ?_)
  · refine v_aload_n hG dX5_gapLength_37 0 rfl ?_
    refine v_iconst hG dX5_gapLength_38 ?_
    refine v_callVi (n := 1) (ci := 5) hG (c_X5_fails hr k9a) gX5_gapLength_X5_fails rfl (by decide +kernel) rfl (by decide) k9a (by decide) (cl_6 _ _ _ _) rfl dX5_gapLength_39 rfl (Nat.le_of_ble_eq_true rfl) (by decide) ?_
    intro v39 z39 hp39
    obtain ⟨rfl, rfl⟩ := hp39
    exact v_iret hG hR dX5_gapLength_42 (by first | exact Or.inl (⟨rfl, by omega, by omega, by unfold mL; exact congrArg (w 170) (by omega)⟩) | exact Or.inr (⟨rfl, by omega⟩))
  · refine v_iload_n hG dX5_gapLength_12 2 rfl ?_
    refine v_iconst hG dX5_gapLength_13 ?_
    refine v_aload_n hG dX5_gapLength_14 0 rfl ?_
    refine v_iload_n hG dX5_gapLength_15 1 rfl ?_
    refine v_callVi (n := 1) (ci := 5) hG (c_X5_gaps hr k9a (by omega)) gX5_gapLength_X5_gaps rfl (by decide +kernel) rfl (by decide) k9a (by decide) (cl_6 _ _ _ _) rfl dX5_gapLength_16 rfl (Nat.le_of_ble_eq_true rfl) (by decide) ?_
    intro v16 z16 hp16
    obtain ⟨rfl, rfl⟩ := hp16
    have hgt := hGt (by omega)
    refine v_iconst hG dX5_gapLength_19 ?_
    refine v_isub hG dX5_gapLength_20 ?_
    refine v_callSi (n := 3) hG (c_X5_in hr (by omega) (by omega) (by omega)) gX5_gapLength_X5_in rfl (by decide +kernel) rfl (by decide) dX5_gapLength_21 rfl (Nat.le_of_ble_eq_true rfl) (by decide) ?_
    intro v21 z21 hp21
    obtain ⟨rfl, hv21⟩ := hp21
    have hb21 := ind_v hv21
    refine v_if_eq hG 37 (by omega) dX5_gapLength_24 (by decide) (fun h24 => ?_) (fun h24 => ?_)
    · refine v_aload_n hG dX5_gapLength_37 0 rfl ?_
      refine v_iconst hG dX5_gapLength_38 ?_
      refine v_callVi (n := 1) (ci := 5) hG (c_X5_fails hr k9a) gX5_gapLength_X5_fails rfl (by decide +kernel) rfl (by decide) k9a (by decide) (cl_6 _ _ _ _) rfl dX5_gapLength_39 rfl (Nat.le_of_ble_eq_true rfl) (by decide) ?_
      intro v39 z39 hp39
      obtain ⟨rfl, rfl⟩ := hp39
      exact v_iret hG hR dX5_gapLength_42 (by first | exact Or.inl (⟨rfl, by omega, by omega, by unfold mL; exact congrArg (w 170) (by omega)⟩) | exact Or.inr (⟨rfl, by omega⟩))
    · refine v_aload_n hG dX5_gapLength_27 0 rfl ?_
      refine v_iload_n hG dX5_gapLength_28 1 rfl ?_
      refine v_iload_n hG dX5_gapLength_29 2 rfl ?_
      refine v_iconst hG dX5_gapLength_30 ?_
      refine v_callVi (n := 3) (ci := 5) hG (c_X5_gap hr k9a (by omega) (by omega) (by omega)) gX5_gapLength_X5_gap rfl (by decide +kernel) rfl (by decide) k9a (by decide) (cl_6 _ _ _ _) rfl dX5_gapLength_31 rfl (Nat.le_of_ble_eq_true rfl) (by decide) ?_
      intro v31 z31 hp31
      obtain ⟨rfl, rfl⟩ := hp31
      refine v_goto hG 42 dX5_gapLength_34 (by decide) ?_
      exact v_iret hG hR dX5_gapLength_42 (by first | exact Or.inl (⟨rfl, by omega, by omega, by unfold mL; exact congrArg (w 170) (by omega)⟩) | exact Or.inr (⟨rfl, by omega⟩))

set_option maxHeartbeats 4000000 in
set_option maxRecDepth 100000 in
theorem c_X5_monthLength {l : Launch} {D : va_G} {cA : Nat → ClassId} {r : Nat → Nat} {z : Zt} {w : Zt} {t m : Int} (hr : Inj r) (k9a : kd 169 = 6) (hw : w = zup z 169 5 0) (hM : MI (w 170)) (hr_t : -2147483648 ≤ t ∧ t < 2147483648) (hr_m : -2147483648 ≤ m ∧ m < 2147483648) : Ki l D cA r yX5_monthLength wsX5_monthLength 2 42 z [.ref (r 169), .int (iN t), .int (iN m)] (fun v z1 => (w = z1 ∧ (0 ≤ t ∧ t ≤ 1) ∧ (1 ≤ m ∧ m ≤ 12) ∧ v = mlen (1 - t) m) ∨ (zup w 169 5 1 = z1 ∧ ¬ (0 ≤ t ∧ t ≤ 1)) ∨ (zup w 169 5 2 = z1 ∧ (0 ≤ t ∧ t ≤ 1) ∧ ¬ (1 ≤ m ∧ m ≤ 12))) := by
  have iW5 : ∀ w ∈ u_ws RX5 TX5 10, w ∈ wsX5_monthLength := by decide +kernel
  have f29 : Cond.fieldLink RX5 29 (TX5 5).1 (TX5 5).2.1 (TX5 5).2.2.1 ∈ wsX5_monthLength := by decide +kernel
  obtain ⟨hG1, h14, hFe, h55, h56, h57⟩ := id hM
  refine Ki_of [(0, _), (1, _), (2, _)] hr (by decide) rfl rfl (Nat.le_of_ble_eq_true rfl) rfl (fun Γ hG hR => ?_)
  refine v_aload_n hG dX5_monthLength_0 0 rfl ?_
  refine v_iconst hG dX5_monthLength_1 ?_
  refine v_putf (ci := 5) (k := 5) hG iW5 tyX5_ok nmX5 f29 rfl (by decide) rfl rfl k9a (by decide) (cl_6 _ _ _ _) (Nat.le_of_ble_eq_true rfl) rfl dX5_monthLength_2 ?_
  rw [← hw]
  refine v_iload_n hG dX5_monthLength_5 1 rfl ?_
  refine v_callSi (n := 1) hG (c_X5_isTown hr (by omega)) gX5_monthLength_X5_isTown rfl (by decide +kernel) rfl (by decide) dX5_monthLength_6 rfl (Nat.le_of_ble_eq_true rfl) (by decide) ?_
  intro v6 z6 hp6
  obtain ⟨rfl, hv6⟩ := hp6
  have hb6 := ind_v hv6
  refine v_if_ne hG 18 (by omega) dX5_monthLength_9 (by decide) (fun h9 => ?_) (fun h9 => ?_)
  · refine v_iload_n hG dX5_monthLength_18 2 rfl ?_
    refine v_iconst hG dX5_monthLength_19 ?_
    refine v_bipush hG dX5_monthLength_20 (by decide) ?_
    refine v_callSi (n := 3) hG (c_X5_in hr (by omega) (by omega) (by omega)) gX5_monthLength_X5_in rfl (by decide +kernel) rfl (by decide) dX5_monthLength_22 rfl (Nat.le_of_ble_eq_true rfl) (by decide) ?_
    intro v22 z22 hp22
    obtain ⟨rfl, hv22⟩ := hp22
    have hb22 := ind_v hv22
    refine v_if_eq hG 36 (by omega) dX5_monthLength_25 (by decide) (fun h25 => ?_) (fun h25 => ?_)
    · refine v_aload_n hG dX5_monthLength_36 0 rfl ?_
      refine v_iconst hG dX5_monthLength_37 ?_
      refine v_callVi (n := 1) (ci := 5) hG (c_X5_fails hr k9a) gX5_monthLength_X5_fails rfl (by decide +kernel) rfl (by decide) k9a (by decide) (cl_6 _ _ _ _) rfl dX5_monthLength_38 rfl (Nat.le_of_ble_eq_true rfl) (by decide) ?_
      intro v38 z38 hp38
      obtain ⟨rfl, rfl⟩ := hp38
      exact v_iret hG hR dX5_monthLength_41 (by first | exact Or.inl (⟨rfl, by omega, by omega, rfl⟩) | exact Or.inr (Or.inl (⟨rfl, by omega⟩)) | exact Or.inr (Or.inr (⟨rfl, by omega⟩)))
    · refine v_iload_n hG dX5_monthLength_28 1 rfl ?_
      refine v_iload_n hG dX5_monthLength_29 2 rfl ?_
      refine v_callSi (n := 2) hG (c_X5_lengthOf hr (by omega) (by omega)) gX5_monthLength_X5_lengthOf rfl (by decide +kernel) rfl (by decide) dX5_monthLength_30 rfl (Nat.le_of_ble_eq_true rfl) (by decide) ?_
      intro v30 z30 hp30
      obtain ⟨rfl, rfl⟩ := hp30
      refine v_goto hG 41 dX5_monthLength_33 (by decide) ?_
      exact v_iret hG hR dX5_monthLength_41 (by first | exact Or.inl (⟨rfl, by omega, by omega, rfl⟩) | exact Or.inr (Or.inl (⟨rfl, by omega⟩)) | exact Or.inr (Or.inr (⟨rfl, by omega⟩)))
  · refine v_aload_n hG dX5_monthLength_12 0 rfl ?_
    refine v_iconst hG dX5_monthLength_13 ?_
    refine v_callVi (n := 1) (ci := 5) hG (c_X5_fails hr k9a) gX5_monthLength_X5_fails rfl (by decide +kernel) rfl (by decide) k9a (by decide) (cl_6 _ _ _ _) rfl dX5_monthLength_14 rfl (Nat.le_of_ble_eq_true rfl) (by decide) ?_
    intro v14 z14 hp14
    obtain ⟨rfl, rfl⟩ := hp14
    exact v_iret hG hR dX5_monthLength_17 (by first | exact Or.inl (⟨rfl, by omega, by omega, rfl⟩) | exact Or.inr (Or.inl (⟨rfl, by omega⟩)) | exact Or.inr (Or.inr (⟨rfl, by omega⟩)))

set_option maxHeartbeats 4000000 in
set_option maxRecDepth 100000 in
theorem c_X5_dayOfMonth {l : Launch} {D : va_G} {cA : Nat → ClassId} {r : Nat → Nat} {z : Zt} {w : Zt} {t d : Int} (hr : Inj r) (k9a : kd 169 = 6) (hw : w = zup z 169 5 0) (hM : MI (w 170)) (hr_t : -2147483648 ≤ t ∧ t < 2147483648) (hr_d : -2147483648 ≤ d ∧ d < 2147483648) : Ki l D cA r yX5_dayOfMonth wsX5_dayOfMonth 5 110 z [.ref (r 169), .int (iN t), .int (iN d)] (fun v z1 => (w = z1 ∧ (0 ≤ t ∧ t ≤ 1) ∧ (0 ≤ d ∧ d ≤ 20000) ∧ ∃ mm : Int, isMon (1 - t) (calM (w 170) t d % yl (1 - t)) mm ∧ v = calM (w 170) t d % yl (1 - t) - mbef (1 - t) mm + 1) ∨ (zup w 169 5 1 = z1 ∧ ¬ (0 ≤ t ∧ t ≤ 1)) ∨ (zup w 169 5 2 = z1 ∧ (0 ≤ t ∧ t ≤ 1) ∧ ¬ (0 ≤ d ∧ d ≤ 20000))) := by
  have iW5 : ∀ w ∈ u_ws RX5 TX5 10, w ∈ wsX5_dayOfMonth := by decide +kernel
  have f29 : Cond.fieldLink RX5 29 (TX5 5).1 (TX5 5).2.1 (TX5 5).2.2.1 ∈ wsX5_dayOfMonth := by decide +kernel
  obtain ⟨hG1, h14, hFe, h55, h56, h57⟩ := id hM
  refine Ki_of [(0, _), (1, _), (2, _)] hr (by decide) rfl rfl (Nat.le_of_ble_eq_true rfl) rfl (fun Γ hG hR => ?_)
  refine v_aload_n hG dX5_dayOfMonth_0 0 rfl ?_
  refine v_iconst hG dX5_dayOfMonth_1 ?_
  refine v_putf (ci := 5) (k := 5) hG iW5 tyX5_ok nmX5 f29 rfl (by decide) rfl rfl k9a (by decide) (cl_6 _ _ _ _) (Nat.le_of_ble_eq_true rfl) rfl dX5_dayOfMonth_2 ?_
  rw [← hw]
  refine v_iload_n hG dX5_dayOfMonth_5 1 rfl ?_
  refine v_callSi (n := 1) hG (c_X5_isTown hr (by omega)) gX5_dayOfMonth_X5_isTown rfl (by decide +kernel) rfl (by decide) dX5_dayOfMonth_6 rfl (Nat.le_of_ble_eq_true rfl) (by decide) ?_
  intro v6 z6 hp6
  obtain ⟨rfl, hv6⟩ := hp6
  have hb6 := ind_v hv6
  refine v_if_ne hG 18 (by omega) dX5_dayOfMonth_9 (by decide) (fun h9 => ?_) (fun h9 => ?_)
  · refine v_iload_n hG dX5_dayOfMonth_18 2 rfl ?_
    refine v_iconst hG dX5_dayOfMonth_19 ?_
    refine v_sipush hG dX5_dayOfMonth_20 (by decide) ?_
    refine v_callSi (n := 3) hG (c_X5_in hr (by omega) (by omega) (by omega)) gX5_dayOfMonth_X5_in rfl (by decide +kernel) rfl (by decide) dX5_dayOfMonth_23 rfl (Nat.le_of_ble_eq_true rfl) (by decide) ?_
    intro v23 z23 hp23
    obtain ⟨rfl, hv23⟩ := hp23
    have hb23 := ind_v hv23
    refine v_if_eq hG 38 (by omega) dX5_dayOfMonth_26 (by decide) (fun h26 => ?_) (fun h26 => ?_)
    · refine v_aload_n hG dX5_dayOfMonth_38 0 rfl ?_
      refine v_iconst hG dX5_dayOfMonth_39 ?_
      refine v_callVi (n := 1) (ci := 5) hG (c_X5_fails hr k9a) gX5_dayOfMonth_X5_fails rfl (by decide +kernel) rfl (by decide) k9a (by decide) (cl_6 _ _ _ _) rfl dX5_dayOfMonth_40 rfl (Nat.le_of_ble_eq_true rfl) (by decide) ?_
      intro v40 z40 hp40
      obtain ⟨rfl, rfl⟩ := hp40
      exact v_iret hG hR dX5_dayOfMonth_43 (by first | exact Or.inl (⟨rfl, by omega, by omega, _, ‹isMon _ _ _›, rfl⟩) | exact Or.inr (Or.inl (⟨rfl, by omega⟩)) | exact Or.inr (Or.inr (⟨rfl, by omega⟩)))
    · refine v_aload_n hG dX5_dayOfMonth_29 0 rfl ?_
      refine v_iload_n hG dX5_dayOfMonth_30 1 rfl ?_
      refine v_iload_n hG dX5_dayOfMonth_31 2 rfl ?_
      refine v_callVi (n := 2) (ci := 5) hG (c_X5_dayAt hr k9a (by omega) hG1 (by omega)) gX5_dayOfMonth_X5_dayAt rfl (by decide +kernel) rfl (by decide) k9a (by decide) (cl_6 _ _ _ _) rfl dX5_dayOfMonth_32 rfl (Nat.le_of_ble_eq_true rfl) (by decide) ?_
      intro v32 z32 hp32
      obtain ⟨rfl, mm32, hm32, rfl⟩ := hp32
      refine v_goto hG 43 dX5_dayOfMonth_35 (by decide) ?_
      exact v_iret hG hR dX5_dayOfMonth_43 (by first | exact Or.inl (⟨rfl, by omega, by omega, _, ‹isMon _ _ _›, rfl⟩) | exact Or.inr (Or.inl (⟨rfl, by omega⟩)) | exact Or.inr (Or.inr (⟨rfl, by omega⟩)))
  · refine v_aload_n hG dX5_dayOfMonth_12 0 rfl ?_
    refine v_iconst hG dX5_dayOfMonth_13 ?_
    refine v_callVi (n := 1) (ci := 5) hG (c_X5_fails hr k9a) gX5_dayOfMonth_X5_fails rfl (by decide +kernel) rfl (by decide) k9a (by decide) (cl_6 _ _ _ _) rfl dX5_dayOfMonth_14 rfl (Nat.le_of_ble_eq_true rfl) (by decide) ?_
    intro v14 z14 hp14
    obtain ⟨rfl, rfl⟩ := hp14
    exact v_iret hG hR dX5_dayOfMonth_17 (by first | exact Or.inl (⟨rfl, by omega, by omega, _, ‹isMon _ _ _›, rfl⟩) | exact Or.inr (Or.inl (⟨rfl, by omega⟩)) | exact Or.inr (Or.inr (⟨rfl, by omega⟩)))

set_option maxHeartbeats 4000000 in
set_option maxRecDepth 100000 in
theorem c_X5_monthOf {l : Launch} {D : va_G} {cA : Nat → ClassId} {r : Nat → Nat} {z : Zt} {w : Zt} {t d : Int} (hr : Inj r) (k9a : kd 169 = 6) (hw : w = zup z 169 5 0) (hM : MI (w 170)) (hr_t : -2147483648 ≤ t ∧ t < 2147483648) (hr_d : -2147483648 ≤ d ∧ d < 2147483648) : Ki l D cA r yX5_monthOf wsX5_monthOf 4 88 z [.ref (r 169), .int (iN t), .int (iN d)] (fun v z1 => (w = z1 ∧ (0 ≤ t ∧ t ≤ 1) ∧ (0 ≤ d ∧ d ≤ 20000) ∧ isMon (1 - t) (calM (w 170) t d % yl (1 - t)) v) ∨ (zup w 169 5 1 = z1 ∧ ¬ (0 ≤ t ∧ t ≤ 1)) ∨ (zup w 169 5 2 = z1 ∧ (0 ≤ t ∧ t ≤ 1) ∧ ¬ (0 ≤ d ∧ d ≤ 20000))) := by
  have iW5 : ∀ w ∈ u_ws RX5 TX5 10, w ∈ wsX5_monthOf := by decide +kernel
  have f29 : Cond.fieldLink RX5 29 (TX5 5).1 (TX5 5).2.1 (TX5 5).2.2.1 ∈ wsX5_monthOf := by decide +kernel
  obtain ⟨hG1, h14, hFe, h55, h56, h57⟩ := id hM
  refine Ki_of [(0, _), (1, _), (2, _)] hr (by decide) rfl rfl (Nat.le_of_ble_eq_true rfl) rfl (fun Γ hG hR => ?_)
  refine v_aload_n hG dX5_monthOf_0 0 rfl ?_
  refine v_iconst hG dX5_monthOf_1 ?_
  refine v_putf (ci := 5) (k := 5) hG iW5 tyX5_ok nmX5 f29 rfl (by decide) rfl rfl k9a (by decide) (cl_6 _ _ _ _) (Nat.le_of_ble_eq_true rfl) rfl dX5_monthOf_2 ?_
  rw [← hw]
  refine v_iload_n hG dX5_monthOf_5 1 rfl ?_
  refine v_callSi (n := 1) hG (c_X5_isTown hr (by omega)) gX5_monthOf_X5_isTown rfl (by decide +kernel) rfl (by decide) dX5_monthOf_6 rfl (Nat.le_of_ble_eq_true rfl) (by decide) ?_
  intro v6 z6 hp6
  obtain ⟨rfl, hv6⟩ := hp6
  have hb6 := ind_v hv6
  refine v_if_ne hG 18 (by omega) dX5_monthOf_9 (by decide) (fun h9 => ?_) (fun h9 => ?_)
  · refine v_iload_n hG dX5_monthOf_18 2 rfl ?_
    refine v_iconst hG dX5_monthOf_19 ?_
    refine v_sipush hG dX5_monthOf_20 (by decide) ?_
    refine v_callSi (n := 3) hG (c_X5_in hr (by omega) (by omega) (by omega)) gX5_monthOf_X5_in rfl (by decide +kernel) rfl (by decide) dX5_monthOf_23 rfl (Nat.le_of_ble_eq_true rfl) (by decide) ?_
    intro v23 z23 hp23
    obtain ⟨rfl, hv23⟩ := hp23
    have hb23 := ind_v hv23
    refine v_if_eq hG 38 (by omega) dX5_monthOf_26 (by decide) (fun h26 => ?_) (fun h26 => ?_)
    · refine v_aload_n hG dX5_monthOf_38 0 rfl ?_
      refine v_iconst hG dX5_monthOf_39 ?_
      refine v_callVi (n := 1) (ci := 5) hG (c_X5_fails hr k9a) gX5_monthOf_X5_fails rfl (by decide +kernel) rfl (by decide) k9a (by decide) (cl_6 _ _ _ _) rfl dX5_monthOf_40 rfl (Nat.le_of_ble_eq_true rfl) (by decide) ?_
      intro v40 z40 hp40
      obtain ⟨rfl, rfl⟩ := hp40
      exact v_iret hG hR dX5_monthOf_43 (by first | exact Or.inl (⟨rfl, by omega, by omega, ‹isMon _ _ _›⟩) | exact Or.inr (Or.inl (⟨rfl, by omega⟩)) | exact Or.inr (Or.inr (⟨rfl, by omega⟩)))
    · refine v_aload_n hG dX5_monthOf_29 0 rfl ?_
      refine v_iload_n hG dX5_monthOf_30 1 rfl ?_
      refine v_iload_n hG dX5_monthOf_31 2 rfl ?_
      refine v_callVi (n := 2) (ci := 5) hG (c_X5_monthAt hr k9a (by omega) hG1 (by omega)) gX5_monthOf_X5_monthAt rfl (by decide +kernel) rfl (by decide) k9a (by decide) (cl_6 _ _ _ _) rfl dX5_monthOf_32 rfl (Nat.le_of_ble_eq_true rfl) (by decide) ?_
      intro v32 z32 hp32
      obtain ⟨rfl, hx32⟩ := hp32
      have ha32 := hx32.1
      have hb32 := hx32.2.1
      refine v_goto hG 43 dX5_monthOf_35 (by decide) ?_
      exact v_iret hG hR dX5_monthOf_43 (by first | exact Or.inl (⟨rfl, by omega, by omega, ‹isMon _ _ _›⟩) | exact Or.inr (Or.inl (⟨rfl, by omega⟩)) | exact Or.inr (Or.inr (⟨rfl, by omega⟩)))
  · refine v_aload_n hG dX5_monthOf_12 0 rfl ?_
    refine v_iconst hG dX5_monthOf_13 ?_
    refine v_callVi (n := 1) (ci := 5) hG (c_X5_fails hr k9a) gX5_monthOf_X5_fails rfl (by decide +kernel) rfl (by decide) k9a (by decide) (cl_6 _ _ _ _) rfl dX5_monthOf_14 rfl (Nat.le_of_ble_eq_true rfl) (by decide) ?_
    intro v14 z14 hp14
    obtain ⟨rfl, rfl⟩ := hp14
    exact v_iret hG hR dX5_monthOf_17 (by first | exact Or.inl (⟨rfl, by omega, by omega, ‹isMon _ _ _›⟩) | exact Or.inr (Or.inl (⟨rfl, by omega⟩)) | exact Or.inr (Or.inr (⟨rfl, by omega⟩)))

set_option maxHeartbeats 4000000 in
set_option maxRecDepth 100000 in
theorem c_X5_yearOf {l : Launch} {D : va_G} {cA : Nat → ClassId} {r : Nat → Nat} {z : Zt} {w : Zt} {t d : Int} (hr : Inj r) (k9a : kd 169 = 6) (hw : w = zup z 169 5 0) (hM : MI (w 170)) (hr_t : -2147483648 ≤ t ∧ t < 2147483648) (hr_d : -2147483648 ≤ d ∧ d < 2147483648) : Ki l D cA r yX5_yearOf wsX5_yearOf 4 86 z [.ref (r 169), .int (iN t), .int (iN d)] (fun v z1 => (w = z1 ∧ (0 ≤ t ∧ t ≤ 1) ∧ (0 ≤ d ∧ d ≤ 20000) ∧ v = 1 + calM (w 170) t d / yl (1 - t)) ∨ (zup w 169 5 1 = z1 ∧ ¬ (0 ≤ t ∧ t ≤ 1)) ∨ (zup w 169 5 2 = z1 ∧ (0 ≤ t ∧ t ≤ 1) ∧ ¬ (0 ≤ d ∧ d ≤ 20000))) := by
  have iW5 : ∀ w ∈ u_ws RX5 TX5 10, w ∈ wsX5_yearOf := by decide +kernel
  have f29 : Cond.fieldLink RX5 29 (TX5 5).1 (TX5 5).2.1 (TX5 5).2.2.1 ∈ wsX5_yearOf := by decide +kernel
  obtain ⟨hG1, h14, hFe, h55, h56, h57⟩ := id hM
  refine Ki_of [(0, _), (1, _), (2, _)] hr (by decide) rfl rfl (Nat.le_of_ble_eq_true rfl) rfl (fun Γ hG hR => ?_)
  refine v_aload_n hG dX5_yearOf_0 0 rfl ?_
  refine v_iconst hG dX5_yearOf_1 ?_
  refine v_putf (ci := 5) (k := 5) hG iW5 tyX5_ok nmX5 f29 rfl (by decide) rfl rfl k9a (by decide) (cl_6 _ _ _ _) (Nat.le_of_ble_eq_true rfl) rfl dX5_yearOf_2 ?_
  rw [← hw]
  refine v_iload_n hG dX5_yearOf_5 1 rfl ?_
  refine v_callSi (n := 1) hG (c_X5_isTown hr (by omega)) gX5_yearOf_X5_isTown rfl (by decide +kernel) rfl (by decide) dX5_yearOf_6 rfl (Nat.le_of_ble_eq_true rfl) (by decide) ?_
  intro v6 z6 hp6
  obtain ⟨rfl, hv6⟩ := hp6
  have hb6 := ind_v hv6
  refine v_if_ne hG 18 (by omega) dX5_yearOf_9 (by decide) (fun h9 => ?_) (fun h9 => ?_)
  · refine v_iload_n hG dX5_yearOf_18 2 rfl ?_
    refine v_iconst hG dX5_yearOf_19 ?_
    refine v_sipush hG dX5_yearOf_20 (by decide) ?_
    refine v_callSi (n := 3) hG (c_X5_in hr (by omega) (by omega) (by omega)) gX5_yearOf_X5_in rfl (by decide +kernel) rfl (by decide) dX5_yearOf_23 rfl (Nat.le_of_ble_eq_true rfl) (by decide) ?_
    intro v23 z23 hp23
    obtain ⟨rfl, hv23⟩ := hp23
    have hb23 := ind_v hv23
    refine v_if_eq hG 38 (by omega) dX5_yearOf_26 (by decide) (fun h26 => ?_) (fun h26 => ?_)
    · refine v_aload_n hG dX5_yearOf_38 0 rfl ?_
      refine v_iconst hG dX5_yearOf_39 ?_
      refine v_callVi (n := 1) (ci := 5) hG (c_X5_fails hr k9a) gX5_yearOf_X5_fails rfl (by decide +kernel) rfl (by decide) k9a (by decide) (cl_6 _ _ _ _) rfl dX5_yearOf_40 rfl (Nat.le_of_ble_eq_true rfl) (by decide) ?_
      intro v40 z40 hp40
      obtain ⟨rfl, rfl⟩ := hp40
      exact v_iret hG hR dX5_yearOf_43 (by first | exact Or.inl (⟨rfl, by omega, by omega, rfl⟩) | exact Or.inr (Or.inl (⟨rfl, by omega⟩)) | exact Or.inr (Or.inr (⟨rfl, by omega⟩)))
    · refine v_aload_n hG dX5_yearOf_29 0 rfl ?_
      refine v_iload_n hG dX5_yearOf_30 1 rfl ?_
      refine v_iload_n hG dX5_yearOf_31 2 rfl ?_
      refine v_callVi (n := 2) (ci := 5) hG (c_X5_yearAt hr k9a (by omega) hG1 (by omega)) gX5_yearOf_X5_yearAt rfl (by decide +kernel) rfl (by decide) k9a (by decide) (cl_6 _ _ _ _) rfl dX5_yearOf_32 rfl (Nat.le_of_ble_eq_true rfl) (by decide) ?_
      intro v32 z32 hp32
      obtain ⟨rfl, rfl⟩ := hp32
      refine v_goto hG 43 dX5_yearOf_35 (by decide) ?_
      exact v_iret hG hR dX5_yearOf_43 (by first | exact Or.inl (⟨rfl, by omega, by omega, rfl⟩) | exact Or.inr (Or.inl (⟨rfl, by omega⟩)) | exact Or.inr (Or.inr (⟨rfl, by omega⟩)))
  · refine v_aload_n hG dX5_yearOf_12 0 rfl ?_
    refine v_iconst hG dX5_yearOf_13 ?_
    refine v_callVi (n := 1) (ci := 5) hG (c_X5_fails hr k9a) gX5_yearOf_X5_fails rfl (by decide +kernel) rfl (by decide) k9a (by decide) (cl_6 _ _ _ _) rfl dX5_yearOf_14 rfl (Nat.le_of_ble_eq_true rfl) (by decide) ?_
    intro v14 z14 hp14
    obtain ⟨rfl, rfl⟩ := hp14
    exact v_iret hG hR dX5_yearOf_17 (by first | exact Or.inl (⟨rfl, by omega, by omega, rfl⟩) | exact Or.inr (Or.inl (⟨rfl, by omega⟩)) | exact Or.inr (Or.inr (⟨rfl, by omega⟩)))

set_option maxHeartbeats 4000000 in
set_option maxRecDepth 100000 in
theorem c_X5_weekday {l : Launch} {D : va_G} {cA : Nat → ClassId} {r : Nat → Nat} {z : Zt} {w : Zt} {d : Int} (hr : Inj r) (k9a : kd 169 = 6) (hw : w = zup z 169 5 0) (hr_d : -2147483648 ≤ d ∧ d < 2147483648) : Ki l D cA r yX5_weekday wsX5_weekday 1 22 z [.ref (r 169), .int (iN d)] (fun v z1 => (w = z1 ∧ (0 ≤ d ∧ d ≤ 20000) ∧ v = d % 7) ∨ (zup w 169 5 1 = z1 ∧ ¬ (0 ≤ d ∧ d ≤ 20000))) := by
  have iW5 : ∀ w ∈ u_ws RX5 TX5 10, w ∈ wsX5_weekday := by decide +kernel
  have f29 : Cond.fieldLink RX5 29 (TX5 5).1 (TX5 5).2.1 (TX5 5).2.2.1 ∈ wsX5_weekday := by decide +kernel
  refine Ki_of [(0, _), (1, _)] hr (by decide) rfl rfl (Nat.le_of_ble_eq_true rfl) rfl (fun Γ hG hR => ?_)
  refine v_aload_n hG dX5_weekday_0 0 rfl ?_
  refine v_iconst hG dX5_weekday_1 ?_
  refine v_putf (ci := 5) (k := 5) hG iW5 tyX5_ok nmX5 f29 rfl (by decide) rfl rfl k9a (by decide) (cl_6 _ _ _ _) (Nat.le_of_ble_eq_true rfl) rfl dX5_weekday_2 ?_
  rw [← hw]
  refine v_iload_n hG dX5_weekday_5 1 rfl ?_
  refine v_iconst hG dX5_weekday_6 ?_
  refine v_sipush hG dX5_weekday_7 (by decide) ?_
  refine v_callSi (n := 3) hG (c_X5_in hr (by omega) (by omega) (by omega)) gX5_weekday_X5_in rfl (by decide +kernel) rfl (by decide) dX5_weekday_10 rfl (Nat.le_of_ble_eq_true rfl) (by decide) ?_
  intro v10 z10 hp10
  obtain ⟨rfl, hv10⟩ := hp10
  have hb10 := ind_v hv10
  refine v_if_eq hG 23 (by omega) dX5_weekday_13 (by decide) (fun h13 => ?_) (fun h13 => ?_)
  · refine v_aload_n hG dX5_weekday_23 0 rfl ?_
    refine v_iconst hG dX5_weekday_24 ?_
    refine v_callVi (n := 1) (ci := 5) hG (c_X5_fails hr k9a) gX5_weekday_X5_fails rfl (by decide +kernel) rfl (by decide) k9a (by decide) (cl_6 _ _ _ _) rfl dX5_weekday_25 rfl (Nat.le_of_ble_eq_true rfl) (by decide) ?_
    intro v25 z25 hp25
    obtain ⟨rfl, rfl⟩ := hp25
    exact v_iret hG hR dX5_weekday_28 (by first | exact Or.inl (⟨rfl, by omega, rfl⟩) | exact Or.inr (⟨rfl, by omega⟩))
  · refine v_iload_n hG dX5_weekday_16 1 rfl ?_
    refine v_bipush hG dX5_weekday_17 (by decide) ?_
    refine v_irem hG (by omega) (by omega) dX5_weekday_19 ?_
    refine v_goto hG 28 dX5_weekday_20 (by decide) ?_
    exact v_iret hG hR dX5_weekday_28 (by first | exact Or.inl (⟨rfl, by omega, rfl⟩) | exact Or.inr (⟨rfl, by omega⟩))

set_option maxHeartbeats 4000000 in
set_option maxRecDepth 100000 in
theorem c_X5_dayOfDate {l : Launch} {D : va_G} {cA : Nat → ClassId} {r : Nat → Nat} {z : Zt} {w : Zt} {t y m q : Int} (hr : Inj r) (k9a : kd 169 = 6) (hw : w = zup z 169 5 0) (hM : MI (w 170)) (hr_t : -2147483648 ≤ t ∧ t < 2147483648) (hr_y : -2147483648 ≤ y ∧ y < 2147483648) (hr_m : -2147483648 ≤ m ∧ m < 2147483648) (hr_q : -2147483648 ≤ q ∧ q < 2147483648) : Ki l D cA r yX5_dayOfDate wsX5_dayOfDate 4 90 z [.ref (r 169), .int (iN t), .int (iN y), .int (iN m), .int (iN q)] (fun v z1 => (w = z1 ∧ (0 ≤ t ∧ t ≤ 1) ∧ ((1 ≤ y ∧ y ≤ 60) ∧ (1 ≤ m ∧ m ≤ 12) ∧ (1 ≤ q ∧ q ≤ 31)) ∧ v = (if 12 < m ∨ mlen (1 - t) m < q then -1 else if calM (w 170) t (fdM (w 170) t (dof (1 - t) y m q)) = dof (1 - t) y m q then fdM (w 170) t (dof (1 - t) y m q) else -1)) ∨ (zup w 169 5 1 = z1 ∧ ¬ (0 ≤ t ∧ t ≤ 1)) ∨ (zup w 169 5 2 = z1 ∧ (0 ≤ t ∧ t ≤ 1) ∧ ¬ ((1 ≤ y ∧ y ≤ 60) ∧ (1 ≤ m ∧ m ≤ 12) ∧ (1 ≤ q ∧ q ≤ 31)))) := by
  have iW5 : ∀ w ∈ u_ws RX5 TX5 10, w ∈ wsX5_dayOfDate := by decide +kernel
  have f29 : Cond.fieldLink RX5 29 (TX5 5).1 (TX5 5).2.1 (TX5 5).2.2.1 ∈ wsX5_dayOfDate := by decide +kernel
  obtain ⟨hG1, h14, hFe, h55, h56, h57⟩ := id hM
  refine Ki_of [(0, _), (1, _), (2, _), (3, _), (4, _)] hr (by decide) rfl rfl (Nat.le_of_ble_eq_true rfl) rfl (fun Γ hG hR => ?_)
  refine v_aload_n hG dX5_dayOfDate_0 0 rfl ?_
  refine v_iconst hG dX5_dayOfDate_1 ?_
  refine v_putf (ci := 5) (k := 5) hG iW5 tyX5_ok nmX5 f29 rfl (by decide) rfl rfl k9a (by decide) (cl_6 _ _ _ _) (Nat.le_of_ble_eq_true rfl) rfl dX5_dayOfDate_2 ?_
  rw [← hw]
  refine v_iload_n hG dX5_dayOfDate_5 1 rfl ?_
  refine v_callSi (n := 1) hG (c_X5_isTown hr (by omega)) gX5_dayOfDate_X5_isTown rfl (by decide +kernel) rfl (by decide) dX5_dayOfDate_6 rfl (Nat.le_of_ble_eq_true rfl) (by decide) ?_
  intro v6 z6 hp6
  obtain ⟨rfl, hv6⟩ := hp6
  have hb6 := ind_v hv6
  refine v_if_ne hG 18 (by omega) dX5_dayOfDate_9 (by decide) (fun h9 => ?_) (fun h9 => ?_)
  · refine v_iload_n hG dX5_dayOfDate_18 2 rfl ?_
    refine v_iconst hG dX5_dayOfDate_19 ?_
    refine v_bipush hG dX5_dayOfDate_20 (by decide) ?_
    refine v_callSi (n := 3) hG (c_X5_in hr (by omega) (by omega) (by omega)) gX5_dayOfDate_X5_in rfl (by decide +kernel) rfl (by decide) dX5_dayOfDate_22 rfl (Nat.le_of_ble_eq_true rfl) (by decide) ?_
    intro v22 z22 hp22
    obtain ⟨rfl, hv22⟩ := hp22
    have hb22 := ind_v hv22
    refine v_if_eq hG 49 (by omega) dX5_dayOfDate_25 (by decide) (fun h25 => ?_) (fun h25 => ?_)
    · refine v_aload_n hG dX5_dayOfDate_49 0 rfl ?_
      refine v_iconst hG dX5_dayOfDate_50 ?_
      refine v_callVi (n := 1) (ci := 5) hG (c_X5_fails hr k9a) gX5_dayOfDate_X5_fails rfl (by decide +kernel) rfl (by decide) k9a (by decide) (cl_6 _ _ _ _) rfl dX5_dayOfDate_51 rfl (Nat.le_of_ble_eq_true rfl) (by decide) ?_
      intro v51 z51 hp51
      obtain ⟨rfl, rfl⟩ := hp51
      exact v_iret hG hR dX5_dayOfDate_54 (by first | exact Or.inl (⟨rfl, by omega, by omega, rfl⟩) | exact Or.inr (Or.inl (⟨rfl, by omega⟩)) | exact Or.inr (Or.inr (⟨rfl, by omega⟩)))
    · refine v_iload_n hG dX5_dayOfDate_28 3 rfl ?_
      refine v_iconst hG dX5_dayOfDate_29 ?_
      refine v_bipush hG dX5_dayOfDate_30 (by decide) ?_
      refine v_callSi (n := 3) hG (c_X5_in hr (by omega) (by omega) (by omega)) gX5_dayOfDate_X5_in rfl (by decide +kernel) rfl (by decide) dX5_dayOfDate_32 rfl (Nat.le_of_ble_eq_true rfl) (by decide) ?_
      intro v32 z32 hp32
      obtain ⟨rfl, hv32⟩ := hp32
      have hb32 := ind_v hv32
      refine v_if_eq hG 49 (by omega) dX5_dayOfDate_35 (by decide) (fun h35 => ?_) (fun h35 => ?_)
      · refine v_aload_n hG dX5_dayOfDate_49 0 rfl ?_
        refine v_iconst hG dX5_dayOfDate_50 ?_
        refine v_callVi (n := 1) (ci := 5) hG (c_X5_fails hr k9a) gX5_dayOfDate_X5_fails rfl (by decide +kernel) rfl (by decide) k9a (by decide) (cl_6 _ _ _ _) rfl dX5_dayOfDate_51 rfl (Nat.le_of_ble_eq_true rfl) (by decide) ?_
        intro v51 z51 hp51
        obtain ⟨rfl, rfl⟩ := hp51
        exact v_iret hG hR dX5_dayOfDate_54 (by first | exact Or.inl (⟨rfl, by omega, by omega, rfl⟩) | exact Or.inr (Or.inl (⟨rfl, by omega⟩)) | exact Or.inr (Or.inr (⟨rfl, by omega⟩)))
      · refine v_iload hG dX5_dayOfDate_38 4 rfl ?_
        refine v_iconst hG dX5_dayOfDate_40 ?_
        refine v_bipush hG dX5_dayOfDate_41 (by decide) ?_
        refine v_callSi (n := 3) hG (c_X5_in hr (by omega) (by omega) (by omega)) gX5_dayOfDate_X5_in rfl (by decide +kernel) rfl (by decide) dX5_dayOfDate_43 rfl (Nat.le_of_ble_eq_true rfl) (by decide) ?_
        intro v43 z43 hp43
        obtain ⟨rfl, hv43⟩ := hp43
        have hb43 := ind_v hv43
        refine v_if_ne hG 55 (by omega) dX5_dayOfDate_46 (by decide) (fun h46 => ?_) (fun h46 => ?_)
        · refine v_aload_n hG dX5_dayOfDate_55 0 rfl ?_
          refine v_iload_n hG dX5_dayOfDate_56 1 rfl ?_
          refine v_iload_n hG dX5_dayOfDate_57 2 rfl ?_
          refine v_iload_n hG dX5_dayOfDate_58 3 rfl ?_
          refine v_iload hG dX5_dayOfDate_59 4 rfl ?_
          refine v_callVi (n := 4) (ci := 5) hG (c_X5_dayWith hr k9a (by omega) hG1 (by omega) (by omega) (by omega)) gX5_dayOfDate_X5_dayWith rfl (by decide +kernel) rfl (by decide) k9a (by decide) (cl_6 _ _ _ _) rfl dX5_dayOfDate_61 rfl (Nat.le_of_ble_eq_true rfl) (by decide) ?_
          intro v61 z61 hp61
          obtain ⟨rfl, rfl⟩ := hp61
          exact v_iret hG hR dX5_dayOfDate_64 (by first | exact Or.inl (⟨rfl, by omega, by omega, rfl⟩) | exact Or.inr (Or.inl (⟨rfl, by omega⟩)) | exact Or.inr (Or.inr (⟨rfl, by omega⟩)))
        · refine v_aload_n hG dX5_dayOfDate_49 0 rfl ?_
          refine v_iconst hG dX5_dayOfDate_50 ?_
          refine v_callVi (n := 1) (ci := 5) hG (c_X5_fails hr k9a) gX5_dayOfDate_X5_fails rfl (by decide +kernel) rfl (by decide) k9a (by decide) (cl_6 _ _ _ _) rfl dX5_dayOfDate_51 rfl (Nat.le_of_ble_eq_true rfl) (by decide) ?_
          intro v51 z51 hp51
          obtain ⟨rfl, rfl⟩ := hp51
          exact v_iret hG hR dX5_dayOfDate_54 (by first | exact Or.inl (⟨rfl, by omega, by omega, rfl⟩) | exact Or.inr (Or.inl (⟨rfl, by omega⟩)) | exact Or.inr (Or.inr (⟨rfl, by omega⟩)))
  · refine v_aload_n hG dX5_dayOfDate_12 0 rfl ?_
    refine v_iconst hG dX5_dayOfDate_13 ?_
    refine v_callVi (n := 1) (ci := 5) hG (c_X5_fails hr k9a) gX5_dayOfDate_X5_fails rfl (by decide +kernel) rfl (by decide) k9a (by decide) (cl_6 _ _ _ _) rfl dX5_dayOfDate_14 rfl (Nat.le_of_ble_eq_true rfl) (by decide) ?_
    intro v14 z14 hp14
    obtain ⟨rfl, rfl⟩ := hp14
    exact v_iret hG hR dX5_dayOfDate_17 (by first | exact Or.inl (⟨rfl, by omega, by omega, rfl⟩) | exact Or.inr (Or.inl (⟨rfl, by omega⟩)) | exact Or.inr (Or.inr (⟨rfl, by omega⟩)))

set_option maxHeartbeats 4000000 in
set_option maxRecDepth 100000 in
theorem c_X5_feastTown {l : Launch} {D : va_G} {cA : Nat → ClassId} {r : Nat → Nat} {z : Zt} {w : Zt} {f : Int} (hr : Inj r) (k9a : kd 169 = 6) (hw : w = zup z 169 5 0) (hM : MI (w 170)) (hr_f : -2147483648 ≤ f ∧ f < 2147483648) : Ki l D cA r yX5_feastTown wsX5_feastTown 2 43 z [.ref (r 169), .int (iN f)] (fun v z1 => (w = z1 ∧ (0 ≤ f ∧ f < w 170 14) ∧ v = mF (w 170) f 0) ∨ (zup w 169 5 1 = z1 ∧ ¬ (0 ≤ f ∧ f < w 170 14))) := by
  have iW5 : ∀ w ∈ u_ws RX5 TX5 10, w ∈ wsX5_feastTown := by decide +kernel
  have f29 : Cond.fieldLink RX5 29 (TX5 5).1 (TX5 5).2.1 (TX5 5).2.2.1 ∈ wsX5_feastTown := by decide +kernel
  obtain ⟨hG1, h14, hFe, h55, h56, h57⟩ := id hM
  refine Ki_of [(0, _), (1, _)] hr (by decide) rfl rfl (Nat.le_of_ble_eq_true rfl) rfl (fun Γ hG hR => ?_)
  refine v_aload_n hG dX5_feastTown_0 0 rfl ?_
  refine v_iconst hG dX5_feastTown_1 ?_
  refine v_putf (ci := 5) (k := 5) hG iW5 tyX5_ok nmX5 f29 rfl (by decide) rfl rfl k9a (by decide) (cl_6 _ _ _ _) (Nat.le_of_ble_eq_true rfl) rfl dX5_feastTown_2 ?_
  rw [← hw]
  refine v_aload_n hG dX5_feastTown_5 0 rfl ?_
  refine v_iload_n hG dX5_feastTown_6 1 rfl ?_
  refine v_callVi (n := 1) (ci := 5) hG (c_X5_isFeast hr k9a (by omega) (by omega)) gX5_feastTown_X5_isFeast rfl (by decide +kernel) rfl (by decide) k9a (by decide) (cl_6 _ _ _ _) rfl dX5_feastTown_7 rfl (Nat.le_of_ble_eq_true rfl) (by decide) ?_
  intro v7 z7 hp7
  obtain ⟨rfl, hv7⟩ := hp7
  have hb7 := ind_v hv7
  refine v_if_eq hG 22 (by omega) dX5_feastTown_10 (by decide) (fun h10 => ?_) (fun h10 => ?_)
  · refine v_aload_n hG dX5_feastTown_22 0 rfl ?_
    refine v_iconst hG dX5_feastTown_23 ?_
    refine v_callVi (n := 1) (ci := 5) hG (c_X5_fails hr k9a) gX5_feastTown_X5_fails rfl (by decide +kernel) rfl (by decide) k9a (by decide) (cl_6 _ _ _ _) rfl dX5_feastTown_24 rfl (Nat.le_of_ble_eq_true rfl) (by decide) ?_
    intro v24 z24 hp24
    obtain ⟨rfl, rfl⟩ := hp24
    exact v_iret hG hR dX5_feastTown_27 (by first | exact Or.inl (⟨rfl, by omega, rfl⟩) | exact Or.inr (⟨rfl, by omega⟩))
  · refine v_aload_n hG dX5_feastTown_13 0 rfl ?_
    refine v_iload_n hG dX5_feastTown_14 1 rfl ?_
    refine v_iconst hG dX5_feastTown_15 ?_
    refine v_callVi (n := 2) (ci := 5) hG (c_X5_feast hr k9a (by omega) (by omega)) gX5_feastTown_X5_feast rfl (by decide +kernel) rfl (by decide) k9a (by decide) (cl_6 _ _ _ _) rfl dX5_feastTown_16 rfl (Nat.le_of_ble_eq_true rfl) (by decide) ?_
    intro v16 z16 hp16
    obtain ⟨rfl, rfl⟩ := hp16
    refine v_goto hG 27 dX5_feastTown_19 (by decide) ?_
    exact v_iret hG hR dX5_feastTown_27 (by first | exact Or.inl (⟨rfl, by omega, rfl⟩) | exact Or.inr (⟨rfl, by omega⟩))

set_option maxHeartbeats 4000000 in
set_option maxRecDepth 100000 in
theorem c_X5_barredWeekday {l : Launch} {D : va_G} {cA : Nat → ClassId} {r : Nat → Nat} {z : Zt} {w : Zt} {f : Int} (hr : Inj r) (k9a : kd 169 = 6) (hw : w = zup z 169 5 0) (hM : MI (w 170)) (hr_f : -2147483648 ≤ f ∧ f < 2147483648) : Ki l D cA r yX5_barredWeekday wsX5_barredWeekday 2 43 z [.ref (r 169), .int (iN f)] (fun v z1 => (w = z1 ∧ (0 ≤ f ∧ f < w 170 14) ∧ v = mF (w 170) f 3) ∨ (zup w 169 5 1 = z1 ∧ ¬ (0 ≤ f ∧ f < w 170 14))) := by
  have iW5 : ∀ w ∈ u_ws RX5 TX5 10, w ∈ wsX5_barredWeekday := by decide +kernel
  have f29 : Cond.fieldLink RX5 29 (TX5 5).1 (TX5 5).2.1 (TX5 5).2.2.1 ∈ wsX5_barredWeekday := by decide +kernel
  obtain ⟨hG1, h14, hFe, h55, h56, h57⟩ := id hM
  refine Ki_of [(0, _), (1, _)] hr (by decide) rfl rfl (Nat.le_of_ble_eq_true rfl) rfl (fun Γ hG hR => ?_)
  refine v_aload_n hG dX5_barredWeekday_0 0 rfl ?_
  refine v_iconst hG dX5_barredWeekday_1 ?_
  refine v_putf (ci := 5) (k := 5) hG iW5 tyX5_ok nmX5 f29 rfl (by decide) rfl rfl k9a (by decide) (cl_6 _ _ _ _) (Nat.le_of_ble_eq_true rfl) rfl dX5_barredWeekday_2 ?_
  rw [← hw]
  refine v_aload_n hG dX5_barredWeekday_5 0 rfl ?_
  refine v_iload_n hG dX5_barredWeekday_6 1 rfl ?_
  refine v_callVi (n := 1) (ci := 5) hG (c_X5_isFeast hr k9a (by omega) (by omega)) gX5_barredWeekday_X5_isFeast rfl (by decide +kernel) rfl (by decide) k9a (by decide) (cl_6 _ _ _ _) rfl dX5_barredWeekday_7 rfl (Nat.le_of_ble_eq_true rfl) (by decide) ?_
  intro v7 z7 hp7
  obtain ⟨rfl, hv7⟩ := hp7
  have hb7 := ind_v hv7
  refine v_if_eq hG 22 (by omega) dX5_barredWeekday_10 (by decide) (fun h10 => ?_) (fun h10 => ?_)
  · refine v_aload_n hG dX5_barredWeekday_22 0 rfl ?_
    refine v_iconst hG dX5_barredWeekday_23 ?_
    refine v_callVi (n := 1) (ci := 5) hG (c_X5_fails hr k9a) gX5_barredWeekday_X5_fails rfl (by decide +kernel) rfl (by decide) k9a (by decide) (cl_6 _ _ _ _) rfl dX5_barredWeekday_24 rfl (Nat.le_of_ble_eq_true rfl) (by decide) ?_
    intro v24 z24 hp24
    obtain ⟨rfl, rfl⟩ := hp24
    exact v_iret hG hR dX5_barredWeekday_27 (by first | exact Or.inl (⟨rfl, by omega, rfl⟩) | exact Or.inr (⟨rfl, by omega⟩))
  · refine v_aload_n hG dX5_barredWeekday_13 0 rfl ?_
    refine v_iload_n hG dX5_barredWeekday_14 1 rfl ?_
    refine v_iconst hG dX5_barredWeekday_15 ?_
    refine v_callVi (n := 2) (ci := 5) hG (c_X5_feast hr k9a (by omega) (by omega)) gX5_barredWeekday_X5_feast rfl (by decide +kernel) rfl (by decide) k9a (by decide) (cl_6 _ _ _ _) rfl dX5_barredWeekday_16 rfl (Nat.le_of_ble_eq_true rfl) (by decide) ?_
    intro v16 z16 hp16
    obtain ⟨rfl, rfl⟩ := hp16
    refine v_goto hG 27 dX5_barredWeekday_19 (by decide) ?_
    exact v_iret hG hR dX5_barredWeekday_27 (by first | exact Or.inl (⟨rfl, by omega, rfl⟩) | exact Or.inr (⟨rfl, by omega⟩))

set_option maxHeartbeats 4000000 in
set_option maxRecDepth 100000 in
theorem c_X5_dayDue {l : Launch} {D : va_G} {cA : Nat → ClassId} {r : Nat → Nat} {z : Zt} {w : Zt} {f y : Int} (hr : Inj r) (k9a : kd 169 = 6) (hw : w = zup z 169 5 0) (hM : MI (w 170)) (hr_f : -2147483648 ≤ f ∧ f < 2147483648) (hr_y : -2147483648 ≤ y ∧ y < 2147483648) : Ki l D cA r yX5_dayDue wsX5_dayDue 4 93 z [.ref (r 169), .int (iN f), .int (iN y)] (fun v z1 => (w = z1 ∧ (0 ≤ f ∧ f < w 170 14) ∧ (1 ≤ y ∧ y ≤ 60) ∧ v = dM (w 170) f y) ∨ (zup w 169 5 1 = z1 ∧ ¬ (0 ≤ f ∧ f < w 170 14)) ∨ (zup w 169 5 2 = z1 ∧ (0 ≤ f ∧ f < w 170 14) ∧ ¬ (1 ≤ y ∧ y ≤ 60))) := by
  have iW5 : ∀ w ∈ u_ws RX5 TX5 10, w ∈ wsX5_dayDue := by decide +kernel
  have f29 : Cond.fieldLink RX5 29 (TX5 5).1 (TX5 5).2.1 (TX5 5).2.2.1 ∈ wsX5_dayDue := by decide +kernel
  obtain ⟨hG1, h14, hFe, h55, h56, h57⟩ := id hM
  refine Ki_of [(0, _), (1, _), (2, _)] hr (by decide) rfl rfl (Nat.le_of_ble_eq_true rfl) rfl (fun Γ hG hR => ?_)
  refine v_aload_n hG dX5_dayDue_0 0 rfl ?_
  refine v_iconst hG dX5_dayDue_1 ?_
  refine v_putf (ci := 5) (k := 5) hG iW5 tyX5_ok nmX5 f29 rfl (by decide) rfl rfl k9a (by decide) (cl_6 _ _ _ _) (Nat.le_of_ble_eq_true rfl) rfl dX5_dayDue_2 ?_
  rw [← hw]
  refine v_aload_n hG dX5_dayDue_5 0 rfl ?_
  refine v_iload_n hG dX5_dayDue_6 1 rfl ?_
  refine v_callVi (n := 1) (ci := 5) hG (c_X5_isFeast hr k9a (by omega) (by omega)) gX5_dayDue_X5_isFeast rfl (by decide +kernel) rfl (by decide) k9a (by decide) (cl_6 _ _ _ _) rfl dX5_dayDue_7 rfl (Nat.le_of_ble_eq_true rfl) (by decide) ?_
  intro v7 z7 hp7
  obtain ⟨rfl, hv7⟩ := hp7
  have hb7 := ind_v hv7
  refine v_if_ne hG 19 (by omega) dX5_dayDue_10 (by decide) (fun h10 => ?_) (fun h10 => ?_)
  · refine v_iload_n hG dX5_dayDue_19 2 rfl ?_
    refine v_iconst hG dX5_dayDue_20 ?_
    refine v_bipush hG dX5_dayDue_21 (by decide) ?_
    refine v_callSi (n := 3) hG (c_X5_in hr (by omega) (by omega) (by omega)) gX5_dayDue_X5_in rfl (by decide +kernel) rfl (by decide) dX5_dayDue_23 rfl (Nat.le_of_ble_eq_true rfl) (by decide) ?_
    intro v23 z23 hp23
    obtain ⟨rfl, hv23⟩ := hp23
    have hb23 := ind_v hv23
    refine v_if_eq hG 38 (by omega) dX5_dayDue_26 (by decide) (fun h26 => ?_) (fun h26 => ?_)
    · refine v_aload_n hG dX5_dayDue_38 0 rfl ?_
      refine v_iconst hG dX5_dayDue_39 ?_
      refine v_callVi (n := 1) (ci := 5) hG (c_X5_fails hr k9a) gX5_dayDue_X5_fails rfl (by decide +kernel) rfl (by decide) k9a (by decide) (cl_6 _ _ _ _) rfl dX5_dayDue_40 rfl (Nat.le_of_ble_eq_true rfl) (by decide) ?_
      intro v40 z40 hp40
      obtain ⟨rfl, rfl⟩ := hp40
      exact v_iret hG hR dX5_dayDue_43 (by first | exact Or.inl (⟨rfl, by omega, by omega, rfl⟩) | exact Or.inr (Or.inl (⟨rfl, by omega⟩)) | exact Or.inr (Or.inr (⟨rfl, by omega⟩)))
    · refine v_aload_n hG dX5_dayDue_29 0 rfl ?_
      refine v_iload_n hG dX5_dayDue_30 1 rfl ?_
      refine v_iload_n hG dX5_dayDue_31 2 rfl ?_
      refine v_callVi (n := 2) (ci := 5) hG (c_X5_due hr k9a hM (by omega) (by omega)) gX5_dayDue_X5_due rfl (by decide +kernel) rfl (by decide) k9a (by decide) (cl_6 _ _ _ _) rfl dX5_dayDue_32 rfl (Nat.le_of_ble_eq_true rfl) (by decide) ?_
      intro v32 z32 hp32
      obtain ⟨rfl, rfl⟩ := hp32
      refine v_goto hG 43 dX5_dayDue_35 (by decide) ?_
      exact v_iret hG hR dX5_dayDue_43 (by first | exact Or.inl (⟨rfl, by omega, by omega, rfl⟩) | exact Or.inr (Or.inl (⟨rfl, by omega⟩)) | exact Or.inr (Or.inr (⟨rfl, by omega⟩)))
  · refine v_aload_n hG dX5_dayDue_13 0 rfl ?_
    refine v_iconst hG dX5_dayDue_14 ?_
    refine v_callVi (n := 1) (ci := 5) hG (c_X5_fails hr k9a) gX5_dayDue_X5_fails rfl (by decide +kernel) rfl (by decide) k9a (by decide) (cl_6 _ _ _ _) rfl dX5_dayDue_15 rfl (Nat.le_of_ble_eq_true rfl) (by decide) ?_
    intro v15 z15 hp15
    obtain ⟨rfl, rfl⟩ := hp15
    exact v_iret hG hR dX5_dayDue_18 (by first | exact Or.inl (⟨rfl, by omega, by omega, rfl⟩) | exact Or.inr (Or.inl (⟨rfl, by omega⟩)) | exact Or.inr (Or.inr (⟨rfl, by omega⟩)))

set_option maxHeartbeats 4000000 in
set_option maxRecDepth 100000 in
theorem c_X5_dayKept {l : Launch} {D : va_G} {cA : Nat → ClassId} {r : Nat → Nat} {z : Zt} {w : Zt} {f y : Int} (hr : Inj r) (k9a : kd 169 = 6) (hw : w = zup z 169 5 0) (hM : MI (w 170)) (hr_f : -2147483648 ≤ f ∧ f < 2147483648) (hr_y : -2147483648 ≤ y ∧ y < 2147483648) : Ki l D cA r yX5_dayKept wsX5_dayKept 5 117 z [.ref (r 169), .int (iN f), .int (iN y)] (fun v z1 => (w = z1 ∧ (0 ≤ f ∧ f < w 170 14) ∧ (1 ≤ y ∧ y ≤ 60) ∧ v = kM (w 170) f y) ∨ (zup w 169 5 1 = z1 ∧ ¬ (0 ≤ f ∧ f < w 170 14)) ∨ (zup w 169 5 2 = z1 ∧ (0 ≤ f ∧ f < w 170 14) ∧ ¬ (1 ≤ y ∧ y ≤ 60))) := by
  have iW5 : ∀ w ∈ u_ws RX5 TX5 10, w ∈ wsX5_dayKept := by decide +kernel
  have f29 : Cond.fieldLink RX5 29 (TX5 5).1 (TX5 5).2.1 (TX5 5).2.2.1 ∈ wsX5_dayKept := by decide +kernel
  obtain ⟨hG1, h14, hFe, h55, h56, h57⟩ := id hM
  refine Ki_of [(0, _), (1, _), (2, _)] hr (by decide) rfl rfl (Nat.le_of_ble_eq_true rfl) rfl (fun Γ hG hR => ?_)
  refine v_aload_n hG dX5_dayKept_0 0 rfl ?_
  refine v_iconst hG dX5_dayKept_1 ?_
  refine v_putf (ci := 5) (k := 5) hG iW5 tyX5_ok nmX5 f29 rfl (by decide) rfl rfl k9a (by decide) (cl_6 _ _ _ _) (Nat.le_of_ble_eq_true rfl) rfl dX5_dayKept_2 ?_
  rw [← hw]
  refine v_aload_n hG dX5_dayKept_5 0 rfl ?_
  refine v_iload_n hG dX5_dayKept_6 1 rfl ?_
  refine v_callVi (n := 1) (ci := 5) hG (c_X5_isFeast hr k9a (by omega) (by omega)) gX5_dayKept_X5_isFeast rfl (by decide +kernel) rfl (by decide) k9a (by decide) (cl_6 _ _ _ _) rfl dX5_dayKept_7 rfl (Nat.le_of_ble_eq_true rfl) (by decide) ?_
  intro v7 z7 hp7
  obtain ⟨rfl, hv7⟩ := hp7
  have hb7 := ind_v hv7
  refine v_if_ne hG 19 (by omega) dX5_dayKept_10 (by decide) (fun h10 => ?_) (fun h10 => ?_)
  · refine v_iload_n hG dX5_dayKept_19 2 rfl ?_
    refine v_iconst hG dX5_dayKept_20 ?_
    refine v_bipush hG dX5_dayKept_21 (by decide) ?_
    refine v_callSi (n := 3) hG (c_X5_in hr (by omega) (by omega) (by omega)) gX5_dayKept_X5_in rfl (by decide +kernel) rfl (by decide) dX5_dayKept_23 rfl (Nat.le_of_ble_eq_true rfl) (by decide) ?_
    intro v23 z23 hp23
    obtain ⟨rfl, hv23⟩ := hp23
    have hb23 := ind_v hv23
    refine v_if_eq hG 38 (by omega) dX5_dayKept_26 (by decide) (fun h26 => ?_) (fun h26 => ?_)
    · refine v_aload_n hG dX5_dayKept_38 0 rfl ?_
      refine v_iconst hG dX5_dayKept_39 ?_
      refine v_callVi (n := 1) (ci := 5) hG (c_X5_fails hr k9a) gX5_dayKept_X5_fails rfl (by decide +kernel) rfl (by decide) k9a (by decide) (cl_6 _ _ _ _) rfl dX5_dayKept_40 rfl (Nat.le_of_ble_eq_true rfl) (by decide) ?_
      intro v40 z40 hp40
      obtain ⟨rfl, rfl⟩ := hp40
      exact v_iret hG hR dX5_dayKept_43 (by first | exact Or.inl (⟨rfl, by omega, by omega, rfl⟩) | exact Or.inr (Or.inl (⟨rfl, by omega⟩)) | exact Or.inr (Or.inr (⟨rfl, by omega⟩)))
    · refine v_aload_n hG dX5_dayKept_29 0 rfl ?_
      refine v_iload_n hG dX5_dayKept_30 1 rfl ?_
      refine v_iload_n hG dX5_dayKept_31 2 rfl ?_
      refine v_callVi (n := 2) (ci := 5) hG (c_X5_kept hr k9a hM (by omega) (by omega)) gX5_dayKept_X5_kept rfl (by decide +kernel) rfl (by decide) k9a (by decide) (cl_6 _ _ _ _) rfl dX5_dayKept_32 rfl (Nat.le_of_ble_eq_true rfl) (by decide) ?_
      intro v32 z32 hp32
      obtain ⟨rfl, rfl⟩ := hp32
      refine v_goto hG 43 dX5_dayKept_35 (by decide) ?_
      exact v_iret hG hR dX5_dayKept_43 (by first | exact Or.inl (⟨rfl, by omega, by omega, rfl⟩) | exact Or.inr (Or.inl (⟨rfl, by omega⟩)) | exact Or.inr (Or.inr (⟨rfl, by omega⟩)))
  · refine v_aload_n hG dX5_dayKept_13 0 rfl ?_
    refine v_iconst hG dX5_dayKept_14 ?_
    refine v_callVi (n := 1) (ci := 5) hG (c_X5_fails hr k9a) gX5_dayKept_X5_fails rfl (by decide +kernel) rfl (by decide) k9a (by decide) (cl_6 _ _ _ _) rfl dX5_dayKept_15 rfl (Nat.le_of_ble_eq_true rfl) (by decide) ?_
    intro v15 z15 hp15
    obtain ⟨rfl, rfl⟩ := hp15
    exact v_iret hG hR dX5_dayKept_18 (by first | exact Or.inl (⟨rfl, by omega, by omega, rfl⟩) | exact Or.inr (Or.inl (⟨rfl, by omega⟩)) | exact Or.inr (Or.inr (⟨rfl, by omega⟩)))

set_option maxHeartbeats 4000000 in
set_option maxRecDepth 100000 in
theorem c_X5_isKept {l : Launch} {D : va_G} {cA : Nat → ClassId} {r : Nat → Nat} {z : Zt} {w : Zt} {f d : Int} (hr : Inj r) (k9a : kd 169 = 6) (hw : w = zup z 169 5 0) (hM : MI (w 170)) (hr_f : -2147483648 ≤ f ∧ f < 2147483648) (hr_d : -2147483648 ≤ d ∧ d < 2147483648) : Ki l D cA r yX5_isKept wsX5_isKept 6 140 z [.ref (r 169), .int (iN f), .int (iN d)] (fun v z1 => (w = z1 ∧ (0 ≤ f ∧ f < w 170 14) ∧ (0 ≤ d ∧ d ≤ 20000) ∧ v = ind (onM (w 170) f d)) ∨ (zup w 169 5 1 = z1 ∧ ¬ (0 ≤ f ∧ f < w 170 14)) ∨ (zup w 169 5 2 = z1 ∧ (0 ≤ f ∧ f < w 170 14) ∧ ¬ (0 ≤ d ∧ d ≤ 20000))) := by
  have iW5 : ∀ w ∈ u_ws RX5 TX5 10, w ∈ wsX5_isKept := by decide +kernel
  have f29 : Cond.fieldLink RX5 29 (TX5 5).1 (TX5 5).2.1 (TX5 5).2.2.1 ∈ wsX5_isKept := by decide +kernel
  obtain ⟨hG1, h14, hFe, h55, h56, h57⟩ := id hM
  refine Ki_of [(0, _), (1, _), (2, _)] hr (by decide) rfl rfl (Nat.le_of_ble_eq_true rfl) rfl (fun Γ hG hR => ?_)
  refine v_aload_n hG dX5_isKept_0 0 rfl ?_
  refine v_iconst hG dX5_isKept_1 ?_
  refine v_putf (ci := 5) (k := 5) hG iW5 tyX5_ok nmX5 f29 rfl (by decide) rfl rfl k9a (by decide) (cl_6 _ _ _ _) (Nat.le_of_ble_eq_true rfl) rfl dX5_isKept_2 ?_
  rw [← hw]
  refine v_aload_n hG dX5_isKept_5 0 rfl ?_
  refine v_iload_n hG dX5_isKept_6 1 rfl ?_
  refine v_callVi (n := 1) (ci := 5) hG (c_X5_isFeast hr k9a (by omega) (by omega)) gX5_isKept_X5_isFeast rfl (by decide +kernel) rfl (by decide) k9a (by decide) (cl_6 _ _ _ _) rfl dX5_isKept_7 rfl (Nat.le_of_ble_eq_true rfl) (by decide) ?_
  intro v7 z7 hp7
  obtain ⟨rfl, hv7⟩ := hp7
  have hb7 := ind_v hv7
  refine v_if_ne hG 27 (by omega) dX5_isKept_10 (by decide) (fun h10 => ?_) (fun h10 => ?_)
  · refine v_iload_n hG dX5_isKept_27 2 rfl ?_
    refine v_iconst hG dX5_isKept_28 ?_
    refine v_sipush hG dX5_isKept_29 (by decide) ?_
    refine v_callSi (n := 3) hG (c_X5_in hr (by omega) (by omega) (by omega)) gX5_isKept_X5_in rfl (by decide +kernel) rfl (by decide) dX5_isKept_32 rfl (Nat.le_of_ble_eq_true rfl) (by decide) ?_
    intro v32 z32 hp32
    obtain ⟨rfl, hv32⟩ := hp32
    have hb32 := ind_v hv32
    refine v_if_eq hG 47 (by omega) dX5_isKept_35 (by decide) (fun h35 => ?_) (fun h35 => ?_)
    · refine v_aload_n hG dX5_isKept_47 0 rfl ?_
      refine v_iconst hG dX5_isKept_48 ?_
      refine v_callVi (n := 1) (ci := 5) hG (c_X5_fails hr k9a) gX5_isKept_X5_fails rfl (by decide +kernel) rfl (by decide) k9a (by decide) (cl_6 _ _ _ _) rfl dX5_isKept_49 rfl (Nat.le_of_ble_eq_true rfl) (by decide) ?_
      intro v49 z49 hp49
      obtain ⟨rfl, rfl⟩ := hp49
      refine v_if_eq hG 59 (by omega) dX5_isKept_52 (by decide) (fun h52 => ?_) (fun h52 => ?_)
      · refine v_iconst hG dX5_isKept_59 ?_
        exact v_zret hG hR (by omega) dX5_isKept_60 (by first | exact Or.inl (⟨rfl, by omega, by omega, hv41⟩) | exact Or.inr (Or.inl (⟨rfl, by omega⟩)) | exact Or.inr (Or.inr (⟨rfl, by omega⟩)))
      · exfalso; omega
    · refine v_aload_n hG dX5_isKept_38 0 rfl ?_
      refine v_iload_n hG dX5_isKept_39 1 rfl ?_
      refine v_iload_n hG dX5_isKept_40 2 rfl ?_
      refine v_callVi (n := 2) (ci := 5) hG (c_X5_isOn hr k9a hM (by omega) (by omega)) gX5_isKept_X5_isOn rfl (by decide +kernel) rfl (by decide) k9a (by decide) (cl_6 _ _ _ _) rfl dX5_isKept_41 rfl (Nat.le_of_ble_eq_true rfl) (by decide) ?_
      intro v41 z41 hp41
      obtain ⟨rfl, hv41⟩ := hp41
      have hb41 := (ind_v hv41).1
      refine v_goto hG 60 dX5_isKept_44 (by decide) ?_
      exact v_zret hG hR (by omega) dX5_isKept_60 (by first | exact Or.inl (⟨rfl, by omega, by omega, hv41⟩) | exact Or.inr (Or.inl (⟨rfl, by omega⟩)) | exact Or.inr (Or.inr (⟨rfl, by omega⟩)))
  · refine v_aload_n hG dX5_isKept_13 0 rfl ?_
    refine v_iconst hG dX5_isKept_14 ?_
    refine v_callVi (n := 1) (ci := 5) hG (c_X5_fails hr k9a) gX5_isKept_X5_fails rfl (by decide +kernel) rfl (by decide) k9a (by decide) (cl_6 _ _ _ _) rfl dX5_isKept_15 rfl (Nat.le_of_ble_eq_true rfl) (by decide) ?_
    intro v15 z15 hp15
    obtain ⟨rfl, rfl⟩ := hp15
    refine v_if_eq hG 25 (by omega) dX5_isKept_18 (by decide) (fun h18 => ?_) (fun h18 => ?_)
    · refine v_iconst hG dX5_isKept_25 ?_
      exact v_zret hG hR (by first | exact Or.inl rfl | exact Or.inr rfl | omega) dX5_isKept_26 (by first | exact Or.inl (⟨rfl, by omega, by omega, hv41⟩) | exact Or.inr (Or.inl (⟨rfl, by omega⟩)) | exact Or.inr (Or.inr (⟨rfl, by omega⟩)))
    · exfalso; omega

set_option maxHeartbeats 4000000 in
set_option maxRecDepth 100000 in
theorem c_X5_feastsOn {l : Launch} {D : va_G} {cA : Nat → ClassId} {r : Nat → Nat} {z : Zt} {w : Zt} {d : Int} (hr : Inj r) (k9a : kd 169 = 6) (hw : w = zup z 169 5 0) (hM : MI (w 170)) (hr_d : -2147483648 ≤ d ∧ d < 2147483648) : Ki l D cA r yX5_feastsOn wsX5_feastsOn 7 163 z [.ref (r 169), .int (iN d)] (fun v z1 => (w = z1 ∧ (0 ≤ d ∧ d ≤ 20000) ∧ isSet (fun j => (j : Int) < w 170 14 ∧ onM (w 170) j d) v) ∨ (zup w 169 5 1 = z1 ∧ ¬ (0 ≤ d ∧ d ≤ 20000))) := by
  have iW5 : ∀ w ∈ u_ws RX5 TX5 10, w ∈ wsX5_feastsOn := by decide +kernel
  have f29 : Cond.fieldLink RX5 29 (TX5 5).1 (TX5 5).2.1 (TX5 5).2.2.1 ∈ wsX5_feastsOn := by decide +kernel
  obtain ⟨hG1, h14, hFe, h55, h56, h57⟩ := id hM
  refine Ki_of [(0, _), (1, _)] hr (by decide) rfl rfl (Nat.le_of_ble_eq_true rfl) rfl (fun Γ hG hR => ?_)
  refine v_aload_n hG dX5_feastsOn_0 0 rfl ?_
  refine v_iconst hG dX5_feastsOn_1 ?_
  refine v_putf (ci := 5) (k := 5) hG iW5 tyX5_ok nmX5 f29 rfl (by decide) rfl rfl k9a (by decide) (cl_6 _ _ _ _) (Nat.le_of_ble_eq_true rfl) rfl dX5_feastsOn_2 ?_
  rw [← hw]
  refine v_iload_n hG dX5_feastsOn_5 1 rfl ?_
  refine v_iconst hG dX5_feastsOn_6 ?_
  refine v_sipush hG dX5_feastsOn_7 (by decide) ?_
  refine v_callSi (n := 3) hG (c_X5_in hr (by omega) (by omega) (by omega)) gX5_feastsOn_X5_in rfl (by decide +kernel) rfl (by decide) dX5_feastsOn_10 rfl (Nat.le_of_ble_eq_true rfl) (by decide) ?_
  intro v10 z10 hp10
  obtain ⟨rfl, hv10⟩ := hp10
  have hb10 := ind_v hv10
  refine v_if_eq hG 24 (by omega) dX5_feastsOn_13 (by decide) (fun h13 => ?_) (fun h13 => ?_)
  · refine v_aload_n hG dX5_feastsOn_24 0 rfl ?_
    refine v_iconst hG dX5_feastsOn_25 ?_
    refine v_callVi (n := 1) (ci := 5) hG (c_X5_fails hr k9a) gX5_feastsOn_X5_fails rfl (by decide +kernel) rfl (by decide) k9a (by decide) (cl_6 _ _ _ _) rfl dX5_feastsOn_26 rfl (Nat.le_of_ble_eq_true rfl) (by decide) ?_
    intro v26 z26 hp26
    obtain ⟨rfl, rfl⟩ := hp26
    exact v_iret hG hR dX5_feastsOn_29 (by first | exact Or.inl (⟨rfl, by omega, ‹isSet _ _›⟩) | exact Or.inr (⟨rfl, by omega⟩))
  · refine v_aload_n hG dX5_feastsOn_16 0 rfl ?_
    refine v_iload_n hG dX5_feastsOn_17 1 rfl ?_
    refine v_callVi (n := 1) (ci := 5) hG (c_X5_setOn hr k9a hM (by omega)) gX5_feastsOn_X5_setOn rfl (by decide +kernel) rfl (by decide) k9a (by decide) (cl_6 _ _ _ _) rfl dX5_feastsOn_18 rfl (Nat.le_of_ble_eq_true rfl) (by decide) ?_
    intro v18 z18 hp18
    obtain ⟨rfl, hx18⟩ := hp18
    refine v_goto hG 29 dX5_feastsOn_21 (by decide) ?_
    exact v_iret hG hR dX5_feastsOn_29 (by first | exact Or.inl (⟨rfl, by omega, ‹isSet _ _›⟩) | exact Or.inr (⟨rfl, by omega⟩))

set_option maxHeartbeats 4000000 in
set_option maxRecDepth 100000 in
theorem c_X5_isQuarrel {l : Launch} {D : va_G} {cA : Nat → ClassId} {r : Nat → Nat} {z : Zt} {w : Zt} {d : Int} (hr : Inj r) (k9a : kd 169 = 6) (hw : w = zup z 169 5 0) (hM : MI (w 170)) (hr_d : -2147483648 ≤ d ∧ d < 2147483648) : Ki l D cA r yX5_isQuarrel wsX5_isQuarrel 8 185 z [.ref (r 169), .int (iN d)] (fun v z1 => (w = z1 ∧ (0 ≤ d ∧ d ≤ 20000) ∧ v = ind (quM (w 170) d)) ∨ (zup w 169 5 1 = z1 ∧ ¬ (0 ≤ d ∧ d ≤ 20000))) := by
  have iW5 : ∀ w ∈ u_ws RX5 TX5 10, w ∈ wsX5_isQuarrel := by decide +kernel
  have f29 : Cond.fieldLink RX5 29 (TX5 5).1 (TX5 5).2.1 (TX5 5).2.2.1 ∈ wsX5_isQuarrel := by decide +kernel
  obtain ⟨hG1, h14, hFe, h55, h56, h57⟩ := id hM
  refine Ki_of [(0, _), (1, _)] hr (by decide) rfl rfl (Nat.le_of_ble_eq_true rfl) rfl (fun Γ hG hR => ?_)
  refine v_aload_n hG dX5_isQuarrel_0 0 rfl ?_
  refine v_iconst hG dX5_isQuarrel_1 ?_
  refine v_putf (ci := 5) (k := 5) hG iW5 tyX5_ok nmX5 f29 rfl (by decide) rfl rfl k9a (by decide) (cl_6 _ _ _ _) (Nat.le_of_ble_eq_true rfl) rfl dX5_isQuarrel_2 ?_
  rw [← hw]
  refine v_iload_n hG dX5_isQuarrel_5 1 rfl ?_
  refine v_iconst hG dX5_isQuarrel_6 ?_
  refine v_sipush hG dX5_isQuarrel_7 (by decide) ?_
  refine v_callSi (n := 3) hG (c_X5_in hr (by omega) (by omega) (by omega)) gX5_isQuarrel_X5_in rfl (by decide +kernel) rfl (by decide) dX5_isQuarrel_10 rfl (Nat.le_of_ble_eq_true rfl) (by decide) ?_
  intro v10 z10 hp10
  obtain ⟨rfl, hv10⟩ := hp10
  have hb10 := ind_v hv10
  refine v_if_eq hG 24 (by omega) dX5_isQuarrel_13 (by decide) (fun h13 => ?_) (fun h13 => ?_)
  · refine v_aload_n hG dX5_isQuarrel_24 0 rfl ?_
    refine v_iconst hG dX5_isQuarrel_25 ?_
    refine v_callVi (n := 1) (ci := 5) hG (c_X5_fails hr k9a) gX5_isQuarrel_X5_fails rfl (by decide +kernel) rfl (by decide) k9a (by decide) (cl_6 _ _ _ _) rfl dX5_isQuarrel_26 rfl (Nat.le_of_ble_eq_true rfl) (by decide) ?_
    intro v26 z26 hp26
    obtain ⟨rfl, rfl⟩ := hp26
    refine v_if_eq hG 36 (by omega) dX5_isQuarrel_29 (by decide) (fun h29 => ?_) (fun h29 => ?_)
    · refine v_iconst hG dX5_isQuarrel_36 ?_
      exact v_zret hG hR (by first | exact Or.inl rfl | exact Or.inr rfl | omega) dX5_isQuarrel_37 (by first | exact Or.inl (⟨rfl, by omega, hv18⟩) | exact Or.inr (⟨rfl, by omega⟩))
    · exfalso; omega
  · refine v_aload_n hG dX5_isQuarrel_16 0 rfl ?_
    refine v_iload_n hG dX5_isQuarrel_17 1 rfl ?_
    refine v_callVi (n := 1) (ci := 5) hG (c_X5_quarrels hr k9a hM (by omega)) gX5_isQuarrel_X5_quarrels rfl (by decide +kernel) rfl (by decide) k9a (by decide) (cl_6 _ _ _ _) rfl dX5_isQuarrel_18 rfl (Nat.le_of_ble_eq_true rfl) (by decide) ?_
    intro v18 z18 hp18
    obtain ⟨rfl, hv18⟩ := hp18
    have hb18 := (ind_v hv18).1
    refine v_goto hG 37 dX5_isQuarrel_21 (by decide) ?_
    exact v_zret hG hR (by first | exact Or.inl rfl | exact Or.inr rfl | omega) dX5_isQuarrel_37 (by first | exact Or.inl (⟨rfl, by omega, hv18⟩) | exact Or.inr (⟨rfl, by omega⟩))

set_option maxHeartbeats 4000000 in
set_option maxRecDepth 100000 in
theorem c_X5_quarrelsWithin {l : Launch} {D : va_G} {cA : Nat → ClassId} {r : Nat → Nat} {z : Zt} {w : Zt} {q : Int} (hr : Inj r) (k9a : kd 169 = 6) (hw : w = zup z 169 5 0) (hM : MI (w 170)) (hr_q : -2147483648 ≤ q ∧ q < 2147483648) : Ki l D cA r yX5_quarrelsWithin wsX5_quarrelsWithin 9 208 z [.ref (r 169), .int (iN q)] (fun v z1 => (w = z1 ∧ (1 ≤ q ∧ q ≤ 400) ∧ v = cntP (fun i => quM (w 170) (w 170 57 + i)) q.toNat) ∨ (zup w 169 5 1 = z1 ∧ ¬ (1 ≤ q ∧ q ≤ 400))) := by
  have iW5 : ∀ w ∈ u_ws RX5 TX5 10, w ∈ wsX5_quarrelsWithin := by decide +kernel
  have f29 : Cond.fieldLink RX5 29 (TX5 5).1 (TX5 5).2.1 (TX5 5).2.2.1 ∈ wsX5_quarrelsWithin := by decide +kernel
  obtain ⟨hG1, h14, hFe, h55, h56, h57⟩ := id hM
  refine Ki_of [(0, _), (1, _)] hr (by decide) rfl rfl (Nat.le_of_ble_eq_true rfl) rfl (fun Γ hG hR => ?_)
  refine v_aload_n hG dX5_quarrelsWithin_0 0 rfl ?_
  refine v_iconst hG dX5_quarrelsWithin_1 ?_
  refine v_putf (ci := 5) (k := 5) hG iW5 tyX5_ok nmX5 f29 rfl (by decide) rfl rfl k9a (by decide) (cl_6 _ _ _ _) (Nat.le_of_ble_eq_true rfl) rfl dX5_quarrelsWithin_2 ?_
  rw [← hw]
  refine v_iload_n hG dX5_quarrelsWithin_5 1 rfl ?_
  refine v_iconst hG dX5_quarrelsWithin_6 ?_
  refine v_sipush hG dX5_quarrelsWithin_7 (by decide) ?_
  refine v_callSi (n := 3) hG (c_X5_in hr (by omega) (by omega) (by omega)) gX5_quarrelsWithin_X5_in rfl (by decide +kernel) rfl (by decide) dX5_quarrelsWithin_10 rfl (Nat.le_of_ble_eq_true rfl) (by decide) ?_
  intro v10 z10 hp10
  obtain ⟨rfl, hv10⟩ := hp10
  have hb10 := ind_v hv10
  refine v_if_eq hG 24 (by omega) dX5_quarrelsWithin_13 (by decide) (fun h13 => ?_) (fun h13 => ?_)
  · refine v_aload_n hG dX5_quarrelsWithin_24 0 rfl ?_
    refine v_iconst hG dX5_quarrelsWithin_25 ?_
    refine v_callVi (n := 1) (ci := 5) hG (c_X5_fails hr k9a) gX5_quarrelsWithin_X5_fails rfl (by decide +kernel) rfl (by decide) k9a (by decide) (cl_6 _ _ _ _) rfl dX5_quarrelsWithin_26 rfl (Nat.le_of_ble_eq_true rfl) (by decide) ?_
    intro v26 z26 hp26
    obtain ⟨rfl, rfl⟩ := hp26
    exact v_iret hG hR dX5_quarrelsWithin_29 (by first | exact Or.inl (⟨rfl, by omega, rfl⟩) | exact Or.inr (⟨rfl, by omega⟩))
  · refine v_aload_n hG dX5_quarrelsWithin_16 0 rfl ?_
    refine v_iload_n hG dX5_quarrelsWithin_17 1 rfl ?_
    refine v_callVi (n := 1) (ci := 5) hG (c_X5_quarrelsIn hr k9a hM (by omega)) gX5_quarrelsWithin_X5_quarrelsIn rfl (by decide +kernel) rfl (by decide) k9a (by decide) (cl_6 _ _ _ _) rfl dX5_quarrelsWithin_18 rfl (Nat.le_of_ble_eq_true rfl) (by decide) ?_
    intro v18 z18 hp18
    obtain ⟨rfl, rfl⟩ := hp18
    refine v_goto hG 29 dX5_quarrelsWithin_21 (by decide) ?_
    exact v_iret hG hR dX5_quarrelsWithin_29 (by first | exact Or.inl (⟨rfl, by omega, rfl⟩) | exact Or.inr (⟨rfl, by omega⟩))

set_option maxHeartbeats 4000000 in
set_option maxRecDepth 100000 in
theorem c_X5_textCharacter {l : Launch} {D : va_G} {cA : Nat → ClassId} {r : Nat → Nat} {z : Zt} {w : Zt} {i : Int} (hr : Inj r) (k9a : kd 169 = 6) (hw : w = zup z 169 5 0) (hX : TX (w 174) (w 169 7)) (hr_i : -2147483648 ≤ i ∧ i < 2147483648) : Ki l D cA r yX5_textCharacter wsX5_textCharacter 1 22 z [.ref (r 169), .int (iN i)] (fun v z1 => (w = z1 ∧ (0 ≤ i ∧ i < w 169 7) ∧ v = w 174 i.toNat) ∨ (zup w 169 5 1 = z1 ∧ ¬ (0 ≤ i ∧ i < w 169 7))) := by
  have iW5 : ∀ w ∈ u_ws RX5 TX5 10, w ∈ wsX5_textCharacter := by decide +kernel
  have f23 : Cond.fieldLink RX5 23 (TX5 6).1 (TX5 6).2.1 (TX5 6).2.2.1 ∈ wsX5_textCharacter := by decide +kernel
  have f29 : Cond.fieldLink RX5 29 (TX5 5).1 (TX5 5).2.1 (TX5 5).2.2.1 ∈ wsX5_textCharacter := by decide +kernel
  have f117 : Cond.fieldLink RX5 117 (TX5 7).1 (TX5 7).2.1 (TX5 7).2.2.1 ∈ wsX5_textCharacter := by decide +kernel
  obtain ⟨hl0, hl8, hch⟩ := id hX
  refine Ki_of [(0, _), (1, _)] hr (by decide) rfl rfl (Nat.le_of_ble_eq_true rfl) rfl (fun Γ hG hR => ?_)
  refine v_aload_n hG dX5_textCharacter_0 0 rfl ?_
  refine v_iconst hG dX5_textCharacter_1 ?_
  refine v_putf (ci := 5) (k := 5) hG iW5 tyX5_ok nmX5 f29 rfl (by decide) rfl rfl k9a (by decide) (cl_6 _ _ _ _) (Nat.le_of_ble_eq_true rfl) rfl dX5_textCharacter_2 ?_
  rw [← hw]
  refine v_iload_n hG dX5_textCharacter_5 1 rfl ?_
  refine v_iconst hG dX5_textCharacter_6 ?_
  refine v_aload_n hG dX5_textCharacter_7 0 rfl ?_
  refine v_getf (ci := 5) (k := 7) hG iW5 f117 rfl (by decide) k9a (by decide) (cl_6 _ _ _ _) rfl dX5_textCharacter_8 ?_
  refine v_iconst hG dX5_textCharacter_11 ?_
  refine v_isub hG dX5_textCharacter_12 ?_
  refine v_callSi (n := 3) hG (c_X5_in hr (by omega) (by omega) (by omega)) gX5_textCharacter_X5_in rfl (by decide +kernel) rfl (by decide) dX5_textCharacter_13 rfl (Nat.le_of_ble_eq_true rfl) (by decide) ?_
  intro v13 z13 hp13
  obtain ⟨rfl, hv13⟩ := hp13
  have hb13 := ind_v hv13
  refine v_if_eq hG 28 (by omega) dX5_textCharacter_16 (by decide) (fun h16 => ?_) (fun h16 => ?_)
  · refine v_aload_n hG dX5_textCharacter_28 0 rfl ?_
    refine v_iconst hG dX5_textCharacter_29 ?_
    refine v_callVi (n := 1) (ci := 5) hG (c_X5_fails hr k9a) gX5_textCharacter_X5_fails rfl (by decide +kernel) rfl (by decide) k9a (by decide) (cl_6 _ _ _ _) rfl dX5_textCharacter_30 rfl (Nat.le_of_ble_eq_true rfl) (by decide) ?_
    intro v30 z30 hp30
    obtain ⟨rfl, rfl⟩ := hp30
    exact v_iret hG hR dX5_textCharacter_33 (by first | exact Or.inl (⟨rfl, by omega, rfl⟩) | exact Or.inr (⟨rfl, by omega⟩))
  · refine v_aload_n hG dX5_textCharacter_19 0 rfl ?_
    refine v_getf (ci := 5) (k := 6) hG iW5 f23 rfl (by decide) k9a (by decide) (cl_6 _ _ _ _) rfl dX5_textCharacter_20 ?_
    refine v_iload_n hG dX5_textCharacter_23 1 rfl ?_
    refine v_iald hG k_174 (by decide) (cl_180 _ _ _ _) (by decide) (by omega) dX5_textCharacter_24 ?_
    refine v_goto hG 33 dX5_textCharacter_25 (by decide) ?_
    exact v_iret hG hR dX5_textCharacter_33 (by first | exact Or.inl (⟨rfl, by omega, rfl⟩) | exact Or.inr (⟨rfl, by omega⟩))

