set_option maxHeartbeats 4000000 in
set_option maxRecDepth 100000 in
theorem c_X5_nextDay {l : Launch} {D : va_G} {cA : Nat → ClassId} {r : Nat → Nat} {z : Zt} {w : Zt} {f : Int} (hr : Inj r) (k9a : kd 169 = 6) (hw : w = zup z 169 5 0) (hM : MI (w 170)) (hr_f : -2147483648 ≤ f ∧ f < 2147483648) : Ki l D cA r yX5_nextDay wsX5_nextDay 6 140 z [.ref (r 169), .int (iN f)] (fun v z1 => (w = z1 ∧ (0 ≤ f ∧ f < w 170 14) ∧ FD (onM (w 170) f) (w 170 57) (w 170 57 + 799) v) ∨ (zup w 169 5 1 = z1 ∧ ¬ (0 ≤ f ∧ f < w 170 14))) := by
  have iW5 : ∀ w ∈ u_ws RX5 TX5 10, w ∈ wsX5_nextDay := by decide +kernel
  have f7 : Cond.fieldLink RX5 7 (TX5 0).1 (TX5 0).2.1 (TX5 0).2.2.1 ∈ wsX5_nextDay := by decide +kernel
  have f29 : Cond.fieldLink RX5 29 (TX5 5).1 (TX5 5).2.1 (TX5 5).2.2.1 ∈ wsX5_nextDay := by decide +kernel
  obtain ⟨hG1, h14, hFe, h55, h56, h57⟩ := id hM
  refine Ki_of [(0, _), (1, _)] hr (by decide) rfl rfl (Nat.le_of_ble_eq_true rfl) rfl (fun Γ hG hR => ?_)
  refine v_aload_n hG dX5_nextDay_0 0 rfl ?_
  refine v_iconst hG dX5_nextDay_1 ?_
  refine v_putf (ci := 5) (k := 5) hG iW5 tyX5_ok nmX5 f29 rfl (by decide) rfl rfl k9a (by decide) (cl_6 _ _ _ _) (Nat.le_of_ble_eq_true rfl) rfl dX5_nextDay_2 ?_
  rw [← hw]
  refine v_aload_n hG dX5_nextDay_5 0 rfl ?_
  refine v_iload_n hG dX5_nextDay_6 1 rfl ?_
  refine v_callVi (n := 1) (ci := 5) hG (c_X5_isFeast hr k9a (by omega) (by omega)) gX5_nextDay_X5_isFeast rfl (by decide +kernel) rfl (by decide) k9a (by decide) (cl_6 _ _ _ _) rfl dX5_nextDay_7 rfl (Nat.le_of_ble_eq_true rfl) (by decide) ?_
  intro v7 z7 hp7
  obtain ⟨rfl, hv7⟩ := hp7
  have hb7 := ind_v hv7
  refine v_if_ne hG 19 (by omega) dX5_nextDay_10 (by decide) (fun h10 => ?_) (fun h10 => ?_)
  · refine v_aload_n hG dX5_nextDay_19 0 rfl ?_
    refine v_getf (ci := 5) (k := 0) hG iW5 f7 rfl (by decide) k9a (by decide) (cl_6 _ _ _ _) rfl dX5_nextDay_20 ?_
    refine v_bipush hG dX5_nextDay_23 (by decide) ?_
    refine v_iald hG k_170 (by decide) (cl_162 _ _ _ _) (by decide) (by omega) dX5_nextDay_25 ?_
    rw [show w 170 (57 : Int).toNat = w 170 57 from rfl]
    refine v_istore_n hG [(0, _), (1, _), (2, _)] dX5_nextDay_26 (by decide) rfl ?_
    have L27 : ∀ (n : Nat), ∀ (x2 : Int), ((0 ≤ f ∧ f < w 170 14) ∧ w 170 57 ≤ x2 ∧ x2 ≤ w 170 57 + 800 ∧ ∀ d, w 170 57 ≤ d → d < x2 → ¬ onM (w 170) f d) → (w 170 57 + 800 - x2 + 1).toNat ≤ n → V Γ w 0 0 [(0, .ref (r 169)), (1, .int (iN f)), (2, .int (iN x2))] 27 [] := by
      intro n
      induction n with
      | zero =>
        intro x2 hI hm
        obtain ⟨i0, i1, i2, i3v⟩ := hI
        exact absurd hm (by omega)
      | succ n ih27 =>
        intro x2 hI hm
        obtain ⟨i0, i1, i2, i3v⟩ := hI
        refine v_iload_n hG dX5_nextDay_27 2 rfl ?_
        refine v_aload_n hG dX5_nextDay_28 0 rfl ?_
        refine v_getf (ci := 5) (k := 0) hG iW5 f7 rfl (by decide) k9a (by decide) (cl_6 _ _ _ _) rfl dX5_nextDay_29 ?_
        refine v_bipush hG dX5_nextDay_32 (by decide) ?_
        refine v_iald hG k_170 (by decide) (cl_162 _ _ _ _) (by decide) (by omega) dX5_nextDay_34 ?_
        rw [show w 170 (57 : Int).toNat = w 170 57 from rfl]
        refine v_sipush hG dX5_nextDay_35 (by decide) ?_
        refine v_iadd hG dX5_nextDay_38 ?_
        refine v_icmp_ge hG 59 (by omega) (by omega) dX5_nextDay_39 (by decide) (fun h39 => ?_) (fun h39 => ?_)
        · refine v_iconst hG dX5_nextDay_59 ?_
          exact v_iret hG hR dX5_nextDay_60 (by first | exact Or.inr ⟨rfl, by omega⟩ | exact Or.inl ⟨rfl, i0, Or.inr ⟨by omega, by omega, ind_y hv45 h48, i3v⟩⟩ | exact Or.inl ⟨rfl, i0, Or.inl ⟨rfl, fun d a b => i3v d a (by omega)⟩⟩)
        · refine v_aload_n hG dX5_nextDay_42 0 rfl ?_
          refine v_iload_n hG dX5_nextDay_43 1 rfl ?_
          refine v_iload_n hG dX5_nextDay_44 2 rfl ?_
          refine v_callVi (n := 2) (ci := 5) hG (c_X5_isOn hr k9a hM i0 (by omega)) gX5_nextDay_X5_isOn rfl (by decide +kernel) rfl (by decide) k9a (by decide) (cl_6 _ _ _ _) rfl dX5_nextDay_45 rfl (Nat.le_of_ble_eq_true rfl) (by decide) ?_
          intro v45 z45 hp45
          obtain ⟨rfl, hv45⟩ := hp45
          have hb45 := (ind_v hv45).1
          refine v_if_eq hG 53 (by omega) dX5_nextDay_48 (by decide) (fun h48 => ?_) (fun h48 => ?_)
          · refine v_iinc hG [(0, _), (1, _), (2, _)] dX5_nextDay_53 2 rfl (by decide) rfl ?_
            refine v_goto hG 27 dX5_nextDay_56 (by decide) ?_
            refine ih27 _ ?_ (by omega)
            refine ⟨i0, by omega, by omega, fun d a b => ?_⟩
            by_cases q9 : d < x2
            · exact i3v d a q9
            · have e9 : d = x2 := by omega
              rw [e9]
              exact ind_n hv45 h48
          · refine v_iload_n hG dX5_nextDay_51 2 rfl ?_
            exact v_iret hG hR dX5_nextDay_52 (by first | exact Or.inr ⟨rfl, by omega⟩ | exact Or.inl ⟨rfl, i0, Or.inr ⟨by omega, by omega, ind_y hv45 h48, i3v⟩⟩ | exact Or.inl ⟨rfl, i0, Or.inl ⟨rfl, fun d a b => i3v d a (by omega)⟩⟩)
    exact L27 _ _ ⟨by omega, by omega, by omega, fun d a b => by omega⟩ (Nat.le_refl _)
  · refine v_aload_n hG dX5_nextDay_13 0 rfl ?_
    refine v_iconst hG dX5_nextDay_14 ?_
    refine v_callVi (n := 1) (ci := 5) hG (c_X5_fails hr k9a) gX5_nextDay_X5_fails rfl (by decide +kernel) rfl (by decide) k9a (by decide) (cl_6 _ _ _ _) rfl dX5_nextDay_15 rfl (Nat.le_of_ble_eq_true rfl) (by decide) ?_
    intro v15 z15 hp15
    obtain ⟨rfl, rfl⟩ := hp15
    exact v_iret hG hR dX5_nextDay_18 (by first | exact Or.inr ⟨rfl, by omega⟩ | exact Or.inl ⟨rfl, i0, Or.inr ⟨by omega, by omega, ind_y hv45 h48, i3v⟩⟩ | exact Or.inl ⟨rfl, i0, Or.inl ⟨rfl, fun d a b => i3v d a (by omega)⟩⟩)

set_option maxHeartbeats 4000000 in
set_option maxRecDepth 100000 in
theorem c_X5_daysUntilMeeting {l : Launch} {D : va_G} {cA : Nat → ClassId} {r : Nat → Nat} {z : Zt} {w : Zt} {f g : Int} (hr : Inj r) (k9a : kd 169 = 6) (hw : w = zup z 169 5 0) (hM : MI (w 170)) (hr_f : -2147483648 ≤ f ∧ f < 2147483648) (hr_g : -2147483648 ≤ g ∧ g < 2147483648) : Ki l D cA r yX5_daysUntilMeeting wsX5_daysUntilMeeting 6 140 z [.ref (r 169), .int (iN f), .int (iN g)] (fun v z1 => (w = z1 ∧ (0 ≤ f ∧ f < w 170 14) ∧ (0 ≤ g ∧ g < w 170 14) ∧ f ≠ g ∧ ∃ d, FD (fun d => onM (w 170) f d ∧ onM (w 170) g d) (w 170 57) (w 170 57 + 2000) d ∧ v = (if d = -1 then -1 else d - w 170 57)) ∨ (zup w 169 5 1 = z1 ∧ (¬ (0 ≤ f ∧ f < w 170 14) ∨ ¬ (0 ≤ g ∧ g < w 170 14))) ∨ (zup w 169 5 2 = z1 ∧ (0 ≤ f ∧ f < w 170 14) ∧ (0 ≤ g ∧ g < w 170 14) ∧ f = g)) := by
  have iW5 : ∀ w ∈ u_ws RX5 TX5 10, w ∈ wsX5_daysUntilMeeting := by decide +kernel
  have f7 : Cond.fieldLink RX5 7 (TX5 0).1 (TX5 0).2.1 (TX5 0).2.2.1 ∈ wsX5_daysUntilMeeting := by decide +kernel
  have f29 : Cond.fieldLink RX5 29 (TX5 5).1 (TX5 5).2.1 (TX5 5).2.2.1 ∈ wsX5_daysUntilMeeting := by decide +kernel
  obtain ⟨hG1, h14, hFe, h55, h56, h57⟩ := id hM
  refine Ki_of [(0, _), (1, _), (2, _)] hr (by decide) rfl rfl (Nat.le_of_ble_eq_true rfl) rfl (fun Γ hG hR => ?_)
  refine v_aload_n hG dX5_daysUntilMeeting_0 0 rfl ?_
  refine v_iconst hG dX5_daysUntilMeeting_1 ?_
  refine v_putf (ci := 5) (k := 5) hG iW5 tyX5_ok nmX5 f29 rfl (by decide) rfl rfl k9a (by decide) (cl_6 _ _ _ _) (Nat.le_of_ble_eq_true rfl) rfl dX5_daysUntilMeeting_2 ?_
  rw [← hw]
  refine v_aload_n hG dX5_daysUntilMeeting_5 0 rfl ?_
  refine v_iload_n hG dX5_daysUntilMeeting_6 1 rfl ?_
  refine v_callVi (n := 1) (ci := 5) hG (c_X5_isFeast hr k9a (by omega) (by omega)) gX5_daysUntilMeeting_X5_isFeast rfl (by decide +kernel) rfl (by decide) k9a (by decide) (cl_6 _ _ _ _) rfl dX5_daysUntilMeeting_7 rfl (Nat.le_of_ble_eq_true rfl) (by decide) ?_
  intro v7 z7 hp7
  obtain ⟨rfl, hv7⟩ := hp7
  have hb7 := ind_v hv7
  refine v_if_eq hG 21 (by omega) dX5_daysUntilMeeting_10 (by decide) (fun h10 => ?_) (fun h10 => ?_)
  · refine v_aload_n hG dX5_daysUntilMeeting_21 0 rfl ?_
    refine v_iconst hG dX5_daysUntilMeeting_22 ?_
    refine v_callVi (n := 1) (ci := 5) hG (c_X5_fails hr k9a) gX5_daysUntilMeeting_X5_fails rfl (by decide +kernel) rfl (by decide) k9a (by decide) (cl_6 _ _ _ _) rfl dX5_daysUntilMeeting_23 rfl (Nat.le_of_ble_eq_true rfl) (by decide) ?_
    intro v23 z23 hp23
    obtain ⟨rfl, rfl⟩ := hp23
    exact v_iret hG hR dX5_daysUntilMeeting_26 (by first
  | exact Or.inr (Or.inl ⟨rfl, by omega⟩)
  | exact Or.inr (Or.inr ⟨rfl, by omega⟩)
  | exact Or.inl ⟨rfl, i0, j0, n0, w 170 57 + x3, Or.inr ⟨by omega, by omega, ⟨ind_y hv58 h61, ind_y hv75 h78⟩, i3v⟩, by rw [if_neg (by omega)]; omega⟩
  | exact Or.inl ⟨rfl, i0, j0, n0, -1, Or.inl ⟨rfl, fun d a b => i3v d a (by omega)⟩, by rw [if_pos rfl]⟩)
  · refine v_aload_n hG dX5_daysUntilMeeting_13 0 rfl ?_
    refine v_iload_n hG dX5_daysUntilMeeting_14 2 rfl ?_
    refine v_callVi (n := 1) (ci := 5) hG (c_X5_isFeast hr k9a (by omega) (by omega)) gX5_daysUntilMeeting_X5_isFeast rfl (by decide +kernel) rfl (by decide) k9a (by decide) (cl_6 _ _ _ _) rfl dX5_daysUntilMeeting_15 rfl (Nat.le_of_ble_eq_true rfl) (by decide) ?_
    intro v15 z15 hp15
    obtain ⟨rfl, hv15⟩ := hp15
    have hb15 := ind_v hv15
    refine v_if_ne hG 27 (by omega) dX5_daysUntilMeeting_18 (by decide) (fun h18 => ?_) (fun h18 => ?_)
    · refine v_iload_n hG dX5_daysUntilMeeting_27 1 rfl ?_
      refine v_iload_n hG dX5_daysUntilMeeting_28 2 rfl ?_
      refine v_icmp_ne hG 38 (by omega) (by omega) dX5_daysUntilMeeting_29 (by decide) (fun h29 => ?_) (fun h29 => ?_)
      · refine v_iconst hG dX5_daysUntilMeeting_38 ?_
        refine v_istore_n hG [(0, _), (1, _), (2, _), (3, _)] dX5_daysUntilMeeting_39 (by decide) rfl ?_
        have L40 : ∀ (n : Nat), ∀ (x3 : Int), ((0 ≤ f ∧ f < w 170 14) ∧ (0 ≤ g ∧ g < w 170 14) ∧ f ≠ g ∧ 0 ≤ x3 ∧ x3 ≤ 2001 ∧ ∀ d, w 170 57 ≤ d → d < w 170 57 + x3 → ¬ (onM (w 170) f d ∧ onM (w 170) g d)) → (2001 - x3 + 1).toNat ≤ n → V Γ w 0 0 [(0, .ref (r 169)), (1, .int (iN f)), (2, .int (iN g)), (3, .int (iN x3))] 40 [] := by
          intro n
          induction n with
          | zero =>
            intro x3 hI hm
            obtain ⟨i0, j0, n0, i1, i2, i3v⟩ := hI
            exact absurd hm (by omega)
          | succ n ih40 =>
            intro x3 hI hm
            obtain ⟨i0, j0, n0, i1, i2, i3v⟩ := hI
            refine v_iload_n hG dX5_daysUntilMeeting_40 3 rfl ?_
            refine v_sipush hG dX5_daysUntilMeeting_41 (by decide) ?_
            refine v_icmp_gt hG 89 (by omega) (by omega) dX5_daysUntilMeeting_44 (by decide) (fun h44 => ?_) (fun h44 => ?_)
            · refine v_iconst hG dX5_daysUntilMeeting_89 ?_
              exact v_iret hG hR dX5_daysUntilMeeting_90 (by first
  | exact Or.inr (Or.inl ⟨rfl, by omega⟩)
  | exact Or.inr (Or.inr ⟨rfl, by omega⟩)
  | exact Or.inl ⟨rfl, i0, j0, n0, w 170 57 + x3, Or.inr ⟨by omega, by omega, ⟨ind_y hv58 h61, ind_y hv75 h78⟩, i3v⟩, by rw [if_neg (by omega)]; omega⟩
  | exact Or.inl ⟨rfl, i0, j0, n0, -1, Or.inl ⟨rfl, fun d a b => i3v d a (by omega)⟩, by rw [if_pos rfl]⟩)
            · refine v_aload_n hG dX5_daysUntilMeeting_47 0 rfl ?_
              refine v_iload_n hG dX5_daysUntilMeeting_48 1 rfl ?_
              refine v_aload_n hG dX5_daysUntilMeeting_49 0 rfl ?_
              refine v_getf (ci := 5) (k := 0) hG iW5 f7 rfl (by decide) k9a (by decide) (cl_6 _ _ _ _) rfl dX5_daysUntilMeeting_50 ?_
              refine v_bipush hG dX5_daysUntilMeeting_53 (by decide) ?_
              refine v_iald hG k_170 (by decide) (cl_162 _ _ _ _) (by decide) (by omega) dX5_daysUntilMeeting_55 ?_
              rw [show w 170 (57 : Int).toNat = w 170 57 from rfl]
              refine v_iload_n hG dX5_daysUntilMeeting_56 3 rfl ?_
              refine v_iadd hG dX5_daysUntilMeeting_57 ?_
              refine v_callVi (n := 2) (ci := 5) hG (c_X5_isOn hr k9a hM i0 (by omega)) gX5_daysUntilMeeting_X5_isOn rfl (by decide +kernel) rfl (by decide) k9a (by decide) (cl_6 _ _ _ _) rfl dX5_daysUntilMeeting_58 rfl (Nat.le_of_ble_eq_true rfl) (by decide) ?_
              intro v58 z58 hp58
              obtain ⟨rfl, hv58⟩ := hp58
              have hb58 := (ind_v hv58).1
              refine v_if_eq hG 83 (by omega) dX5_daysUntilMeeting_61 (by decide) (fun h61 => ?_) (fun h61 => ?_)
              · refine v_iinc hG [(0, _), (1, _), (2, _), (3, _)] dX5_daysUntilMeeting_83 3 rfl (by decide) rfl ?_
                refine v_goto hG 40 dX5_daysUntilMeeting_86 (by decide) ?_
                refine ih40 _ ?_ (by omega)
                refine ⟨i0, j0, n0, by omega, by omega, fun d a b => ?_⟩
                by_cases q9 : d < w 170 57 + x3
                · exact i3v d a q9
                · have e9 : d = w 170 57 + x3 := by omega
                  rw [e9]
                  first
                    | exact fun q8 => ind_n hv58 h61 q8.1
                    | exact fun q8 => ind_n hv75 h78 q8.2
              · refine v_aload_n hG dX5_daysUntilMeeting_64 0 rfl ?_
                refine v_iload_n hG dX5_daysUntilMeeting_65 2 rfl ?_
                refine v_aload_n hG dX5_daysUntilMeeting_66 0 rfl ?_
                refine v_getf (ci := 5) (k := 0) hG iW5 f7 rfl (by decide) k9a (by decide) (cl_6 _ _ _ _) rfl dX5_daysUntilMeeting_67 ?_
                refine v_bipush hG dX5_daysUntilMeeting_70 (by decide) ?_
                refine v_iald hG k_170 (by decide) (cl_162 _ _ _ _) (by decide) (by omega) dX5_daysUntilMeeting_72 ?_
                rw [show w 170 (57 : Int).toNat = w 170 57 from rfl]
                refine v_iload_n hG dX5_daysUntilMeeting_73 3 rfl ?_
                refine v_iadd hG dX5_daysUntilMeeting_74 ?_
                refine v_callVi (n := 2) (ci := 5) hG (c_X5_isOn hr k9a hM j0 (by omega)) gX5_daysUntilMeeting_X5_isOn rfl (by decide +kernel) rfl (by decide) k9a (by decide) (cl_6 _ _ _ _) rfl dX5_daysUntilMeeting_75 rfl (Nat.le_of_ble_eq_true rfl) (by decide) ?_
                intro v75 z75 hp75
                obtain ⟨rfl, hv75⟩ := hp75
                have hb75 := (ind_v hv75).1
                refine v_if_eq hG 83 (by omega) dX5_daysUntilMeeting_78 (by decide) (fun h78 => ?_) (fun h78 => ?_)
                · refine v_iinc hG [(0, _), (1, _), (2, _), (3, _)] dX5_daysUntilMeeting_83 3 rfl (by decide) rfl ?_
                  refine v_goto hG 40 dX5_daysUntilMeeting_86 (by decide) ?_
                  refine ih40 _ ?_ (by omega)
                  refine ⟨i0, j0, n0, by omega, by omega, fun d a b => ?_⟩
                  by_cases q9 : d < w 170 57 + x3
                  · exact i3v d a q9
                  · have e9 : d = w 170 57 + x3 := by omega
                    rw [e9]
                    first
                      | exact fun q8 => ind_n hv58 h61 q8.1
                      | exact fun q8 => ind_n hv75 h78 q8.2
                · refine v_iload_n hG dX5_daysUntilMeeting_81 3 rfl ?_
                  exact v_iret hG hR dX5_daysUntilMeeting_82 (by first
  | exact Or.inr (Or.inl ⟨rfl, by omega⟩)
  | exact Or.inr (Or.inr ⟨rfl, by omega⟩)
  | exact Or.inl ⟨rfl, i0, j0, n0, w 170 57 + x3, Or.inr ⟨by omega, by omega, ⟨ind_y hv58 h61, ind_y hv75 h78⟩, i3v⟩, by rw [if_neg (by omega)]; omega⟩
  | exact Or.inl ⟨rfl, i0, j0, n0, -1, Or.inl ⟨rfl, fun d a b => i3v d a (by omega)⟩, by rw [if_pos rfl]⟩)
        exact L40 _ _ ⟨by omega, by omega, by omega, by omega, by omega, fun d a b => by omega⟩ (Nat.le_refl _)
      · refine v_aload_n hG dX5_daysUntilMeeting_32 0 rfl ?_
        refine v_iconst hG dX5_daysUntilMeeting_33 ?_
        refine v_callVi (n := 1) (ci := 5) hG (c_X5_fails hr k9a) gX5_daysUntilMeeting_X5_fails rfl (by decide +kernel) rfl (by decide) k9a (by decide) (cl_6 _ _ _ _) rfl dX5_daysUntilMeeting_34 rfl (Nat.le_of_ble_eq_true rfl) (by decide) ?_
        intro v34 z34 hp34
        obtain ⟨rfl, rfl⟩ := hp34
        exact v_iret hG hR dX5_daysUntilMeeting_37 (by first
  | exact Or.inr (Or.inl ⟨rfl, by omega⟩)
  | exact Or.inr (Or.inr ⟨rfl, by omega⟩)
  | exact Or.inl ⟨rfl, i0, j0, n0, w 170 57 + x3, Or.inr ⟨by omega, by omega, ⟨ind_y hv58 h61, ind_y hv75 h78⟩, i3v⟩, by rw [if_neg (by omega)]; omega⟩
  | exact Or.inl ⟨rfl, i0, j0, n0, -1, Or.inl ⟨rfl, fun d a b => i3v d a (by omega)⟩, by rw [if_pos rfl]⟩)
    · refine v_aload_n hG dX5_daysUntilMeeting_21 0 rfl ?_
      refine v_iconst hG dX5_daysUntilMeeting_22 ?_
      refine v_callVi (n := 1) (ci := 5) hG (c_X5_fails hr k9a) gX5_daysUntilMeeting_X5_fails rfl (by decide +kernel) rfl (by decide) k9a (by decide) (cl_6 _ _ _ _) rfl dX5_daysUntilMeeting_23 rfl (Nat.le_of_ble_eq_true rfl) (by decide) ?_
      intro v23 z23 hp23
      obtain ⟨rfl, rfl⟩ := hp23
      exact v_iret hG hR dX5_daysUntilMeeting_26 (by first
  | exact Or.inr (Or.inl ⟨rfl, by omega⟩)
  | exact Or.inr (Or.inr ⟨rfl, by omega⟩)
  | exact Or.inl ⟨rfl, i0, j0, n0, w 170 57 + x3, Or.inr ⟨by omega, by omega, ⟨ind_y hv58 h61, ind_y hv75 h78⟩, i3v⟩, by rw [if_neg (by omega)]; omega⟩
  | exact Or.inl ⟨rfl, i0, j0, n0, -1, Or.inl ⟨rfl, fun d a b => i3v d a (by omega)⟩, by rw [if_pos rfl]⟩)

