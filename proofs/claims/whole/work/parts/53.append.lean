set_option maxHeartbeats 4000000 in
set_option maxRecDepth 100000 in
theorem c_X4_codeAt {l : Launch} {D : va_G} {cA : Nat → ClassId} {r : Nat → Nat} {z : Zt} {u : Nat} {p : Int} (hr : Inj r) (hn : u < 2 ^ 64) (hp : 0 ≤ p ∧ p < 8) : Ki l D cA r yX4_codeAt wsX4_codeAt 0 0 z [.long (lN u), .int (iN p)] (fun x z1 => z = z1 ∧ x = bt8 u p.toNat) := by
  refine Ki_of [(0, _), (2, _)] hr (by decide) rfl rfl (Nat.le_of_ble_eq_true rfl) rfl (fun Γ hG hR => ?_)
  refine v_lload_n hG dX4_codeAt_0 0 rfl ?_
  refine v_bipush hG dX4_codeAt_1 (by decide) ?_
  refine v_iload_n hG dX4_codeAt_3 1 rfl ?_
  refine v_imul hG dX4_codeAt_4 ?_
  refine v_lushrN hG hn (by omega) dX4_codeAt_5 ?_
  refine v_ldc2 (v := lN 255) hG (by decide +kernel) dX4_codeAt_6 ?_
  refine v_land255 hG (Nat.lt_of_le_of_lt (Nat.div_le_self _ _) hn) dX4_codeAt_9 ?_
  refine v_l2iN hG dX4_codeAt_10 ?_
  exact v_iret hG hR dX4_codeAt_11 ⟨rfl, by unfold bt8; rw [show (8 * p).toNat = 8 * p.toNat by omega]⟩

set_option maxHeartbeats 4000000 in
set_option maxRecDepth 100000 in
theorem c_X4_charactersIn {l : Launch} {D : va_G} {cA : Nat → ClassId} {r : Nat → Nat} {z : Zt} {u : Nat} (hr : Inj r) (hn : u < 2 ^ 64) : Ki l D cA r yX4_charactersIn wsX4_charactersIn 1 22 z [.long (lN u)] (fun x z1 => z = z1 ∧ ((x = 0 ∧ ∀ c, ¬ goodC u c) ∨ ∃ c : Nat, goodC u c ∧ x = c)) := by
  refine Ki_of [(0, _)] hr (by decide) rfl rfl (Nat.le_of_ble_eq_true rfl) rfl (fun Γ hG hR => ?_)
  refine v_iconst hG dX4_charactersIn_0 ?_
  refine v_istore_n hG [(0, _), (2, _)] dX4_charactersIn_1 (by decide) rfl ?_
  have L2 : ∀ (n : Nat), ∀ (x2 : Int), (0 ≤ x2 ∧ x2 ≤ 8 ∧ (∀ p : Nat, (p : Int) < x2 → 33 ≤ bt8 u p ∧ bt8 u p ≤ 126)) → (8 - x2 + 1).toNat ≤ n → V Γ z 0 0 [(0, .long (lN u)), (2, .int (iN x2))] 2 [] := by
    intro n
    induction n with
    | zero =>
      intro x2 hI hm
      obtain ⟨i1, i2, i3v⟩ := hI
      exact absurd hm (by omega)
    | succ n ih2 =>
      intro x2 hI hm
      obtain ⟨i1, i2, i3v⟩ := hI
      have hbb := bt8_bd u x2.toNat
      refine v_iload_n hG dX4_charactersIn_2 1 rfl ?_
      refine v_bipush hG dX4_charactersIn_3 (by decide) ?_
      refine v_icmp_ge hG 42 (by omega) (by omega) dX4_charactersIn_5 (by decide) (fun h5 => ?_) (fun h5 => ?_)
      · have e8 : (8 * x2).toNat = 8 * x2.toNat := by omega
        refine v_iload_n hG dX4_charactersIn_42 1 rfl ?_
        refine v_bipush hG dX4_charactersIn_43 (by decide) ?_
        refine v_icmp_ge hG 61 (by omega) (by omega) dX4_charactersIn_45 (by decide) (fun h45 => ?_) (fun h45 => ?_)
        · refine v_iload_n hG dX4_charactersIn_61 1 rfl ?_
          exact v_iret hG hR dX4_charactersIn_62 ⟨rfl, by
  have hz : u / 2 ^ (8 * x2.toNat) = 0 := by
    first
      | exact n8_0 hn (by omega)
      | (have q8 := ‹lcr (lN (u / 2 ^ (8 * x2).toNat)) _ = 0›; have q9 : u / 2 ^ (8 * x2).toNat = 0 := lN_inj (b := 0) (Nat.lt_of_le_of_lt (Nat.div_le_self _ _) hn) (by decide) (lcr_0.mp q8); rw [e8] at q9; exact q9)
  by_cases q7 : x2 = 0
  · exact Or.inl ⟨q7, goodC_no0 (by rw [q7] at hz; exact (bt8_0 (c := 0) hz (Nat.le_refl 0)).2)⟩
  · exact Or.inr ⟨x2.toNat, ⟨by omega, by omega, fun p hp => i3v p (by omega), hz⟩, by omega⟩⟩
        · refine v_lload_n hG dX4_charactersIn_48 0 rfl ?_
          refine v_bipush hG dX4_charactersIn_49 (by decide) ?_
          refine v_iload_n hG dX4_charactersIn_51 1 rfl ?_
          refine v_imul hG dX4_charactersIn_52 ?_
          refine v_lushrN hG hn (by omega) dX4_charactersIn_53 ?_
          refine v_lconst hG dX4_charactersIn_54 ?_
          refine v_lcmp hG dX4_charactersIn_55 ?_
          refine v_if_eq hG 61 (lcr_rg _ _) dX4_charactersIn_56 (by decide) (fun h56 => ?_) (fun h56 => ?_)
          · refine v_iload_n hG dX4_charactersIn_61 1 rfl ?_
            exact v_iret hG hR dX4_charactersIn_62 ⟨rfl, by
  have hz : u / 2 ^ (8 * x2.toNat) = 0 := by
    first
      | exact n8_0 hn (by omega)
      | (have q8 := ‹lcr (lN (u / 2 ^ (8 * x2).toNat)) _ = 0›; have q9 : u / 2 ^ (8 * x2).toNat = 0 := lN_inj (b := 0) (Nat.lt_of_le_of_lt (Nat.div_le_self _ _) hn) (by decide) (lcr_0.mp q8); rw [e8] at q9; exact q9)
  by_cases q7 : x2 = 0
  · exact Or.inl ⟨q7, goodC_no0 (by rw [q7] at hz; exact (bt8_0 (c := 0) hz (Nat.le_refl 0)).2)⟩
  · exact Or.inr ⟨x2.toNat, ⟨by omega, by omega, fun p hp => i3v p (by omega), hz⟩, by omega⟩⟩
          · have hne : u / 2 ^ (8 * x2.toNat) ≠ 0 := fun q9 => h56 (lcr_0.mpr (by rw [e8, q9]; rfl))
            refine v_iconst hG dX4_charactersIn_59 ?_
            exact v_iret hG hR dX4_charactersIn_60 ⟨rfl, Or.inl ⟨rfl, goodC_no (k := x2.toNat) (by omega) hne⟩⟩
      · refine v_lload_n hG dX4_charactersIn_8 0 rfl ?_
        refine v_iload_n hG dX4_charactersIn_9 1 rfl ?_
        refine v_callSi (n := 2) hG (c_X4_codeAt hr hn (by omega)) gX4_charactersIn_X4_codeAt rfl (by decide +kernel) rfl (by decide) dX4_charactersIn_10 rfl (Nat.le_of_ble_eq_true rfl) (by decide) ?_
        intro v10 z10 hp10
        obtain ⟨rfl, rfl⟩ := hp10
        refine v_if_eq hG 42 (by omega) dX4_charactersIn_13 (by decide) (fun h13 => ?_) (fun h13 => ?_)
        · have e8 : (8 * x2).toNat = 8 * x2.toNat := by omega
          refine v_iload_n hG dX4_charactersIn_42 1 rfl ?_
          refine v_bipush hG dX4_charactersIn_43 (by decide) ?_
          refine v_icmp_ge hG 61 (by omega) (by omega) dX4_charactersIn_45 (by decide) (fun h45 => ?_) (fun h45 => ?_)
          · refine v_iload_n hG dX4_charactersIn_61 1 rfl ?_
            exact v_iret hG hR dX4_charactersIn_62 ⟨rfl, by
  have hz : u / 2 ^ (8 * x2.toNat) = 0 := by
    first
      | exact n8_0 hn (by omega)
      | (have q8 := ‹lcr (lN (u / 2 ^ (8 * x2).toNat)) _ = 0›; have q9 : u / 2 ^ (8 * x2).toNat = 0 := lN_inj (b := 0) (Nat.lt_of_le_of_lt (Nat.div_le_self _ _) hn) (by decide) (lcr_0.mp q8); rw [e8] at q9; exact q9)
  by_cases q7 : x2 = 0
  · exact Or.inl ⟨q7, goodC_no0 (by rw [q7] at hz; exact (bt8_0 (c := 0) hz (Nat.le_refl 0)).2)⟩
  · exact Or.inr ⟨x2.toNat, ⟨by omega, by omega, fun p hp => i3v p (by omega), hz⟩, by omega⟩⟩
          · refine v_lload_n hG dX4_charactersIn_48 0 rfl ?_
            refine v_bipush hG dX4_charactersIn_49 (by decide) ?_
            refine v_iload_n hG dX4_charactersIn_51 1 rfl ?_
            refine v_imul hG dX4_charactersIn_52 ?_
            refine v_lushrN hG hn (by omega) dX4_charactersIn_53 ?_
            refine v_lconst hG dX4_charactersIn_54 ?_
            refine v_lcmp hG dX4_charactersIn_55 ?_
            refine v_if_eq hG 61 (lcr_rg _ _) dX4_charactersIn_56 (by decide) (fun h56 => ?_) (fun h56 => ?_)
            · refine v_iload_n hG dX4_charactersIn_61 1 rfl ?_
              exact v_iret hG hR dX4_charactersIn_62 ⟨rfl, by
  have hz : u / 2 ^ (8 * x2.toNat) = 0 := by
    first
      | exact n8_0 hn (by omega)
      | (have q8 := ‹lcr (lN (u / 2 ^ (8 * x2).toNat)) _ = 0›; have q9 : u / 2 ^ (8 * x2).toNat = 0 := lN_inj (b := 0) (Nat.lt_of_le_of_lt (Nat.div_le_self _ _) hn) (by decide) (lcr_0.mp q8); rw [e8] at q9; exact q9)
  by_cases q7 : x2 = 0
  · exact Or.inl ⟨q7, goodC_no0 (by rw [q7] at hz; exact (bt8_0 (c := 0) hz (Nat.le_refl 0)).2)⟩
  · exact Or.inr ⟨x2.toNat, ⟨by omega, by omega, fun p hp => i3v p (by omega), hz⟩, by omega⟩⟩
            · have hne : u / 2 ^ (8 * x2.toNat) ≠ 0 := fun q9 => h56 (lcr_0.mpr (by rw [e8, q9]; rfl))
              refine v_iconst hG dX4_charactersIn_59 ?_
              exact v_iret hG hR dX4_charactersIn_60 ⟨rfl, Or.inl ⟨rfl, goodC_no (k := x2.toNat) (by omega) hne⟩⟩
        · refine v_lload_n hG dX4_charactersIn_16 0 rfl ?_
          refine v_iload_n hG dX4_charactersIn_17 1 rfl ?_
          refine v_callSi (n := 2) hG (c_X4_codeAt hr hn (by omega)) gX4_charactersIn_X4_codeAt rfl (by decide +kernel) rfl (by decide) dX4_charactersIn_18 rfl (Nat.le_of_ble_eq_true rfl) (by decide) ?_
          intro v18 z18 hp18
          obtain ⟨rfl, rfl⟩ := hp18
          refine v_istore_n hG [(0, _), (2, _), (3, _)] dX4_charactersIn_21 (by decide) rfl ?_
          refine v_iload_n hG dX4_charactersIn_22 2 rfl ?_
          refine v_bipush hG dX4_charactersIn_23 (by decide) ?_
          refine v_icmp_lt hG 34 (by omega) (by omega) dX4_charactersIn_25 (by decide) (fun h25 => ?_) (fun h25 => ?_)
          · refine v_iconst hG dX4_charactersIn_34 ?_
            exact v_iret hG hR dX4_charactersIn_35 ⟨rfl, Or.inl ⟨rfl, goodC_no (k := x2.toNat) (by omega) (bt8_ne (by omega))⟩⟩
          · refine v_iload_n hG dX4_charactersIn_28 2 rfl ?_
            refine v_bipush hG dX4_charactersIn_29 (by decide) ?_
            refine v_icmp_le hG 36 (by omega) (by omega) dX4_charactersIn_31 (by decide) (fun h31 => ?_) (fun h31 => ?_)
            · refine v_iinc hG [(0, _), (2, _), (3, _)] dX4_charactersIn_36 1 rfl (by decide) rfl ?_
              refine v_goto hG 2 dX4_charactersIn_39 (by decide) ?_
              refine v_sub hG [(0, _), (2, _)] [0, 1] rfl ?_
              refine ih2 _ ?_ (by omega)
              refine ⟨by omega, by omega, fun p hp => ?_⟩
              by_cases q9 : (p : Int) < x2
              · exact i3v p q9
              · have e9 : p = x2.toNat := by omega
                rw [e9]
                omega
            · refine v_iconst hG dX4_charactersIn_34 ?_
              exact v_iret hG hR dX4_charactersIn_35 ⟨rfl, Or.inl ⟨rfl, goodC_no (k := x2.toNat) (by omega) (bt8_ne (by omega))⟩⟩
  exact L2 _ _ ⟨by omega, by omega, fun p hp => by omega⟩ (Nat.le_refl _)

set_option maxHeartbeats 4000000 in
set_option maxRecDepth 100000 in
theorem c_X4_appendText {l : Launch} {D : va_G} {cA : Nat → ClassId} {r : Nat → Nat} {z : Zt} {u : Nat} (hr : Inj r) (hst : l.stackTraces = false) (h0 : kd 0 = 1) (hn : u < 2 ^ 64) (hX : TX (z 23) (z 22 1)) : Xi l D cA r yX4_appendText wsX4_appendText 6 90 1 z [.ref (r 0), .long (lN u)] (fun x z1 => ∃ c : Nat, goodC u c ∧ z 22 1 + c ≤ 80 ∧ apG 23 22 1 z u c c = z1 ∧ x = z 22 1 + c) (fun E z1 => z = z1 ∧ ((E = xIA ∧ ∀ c, ¬ goodC u c) ∨ (E = xIS ∧ ∃ c : Nat, goodC u c ∧ 80 < z 22 1 + c))) := by
  have iW0 : ∀ w ∈ u_ws RX0 TX0 2, w ∈ wsX4_appendText := by decide +kernel
  have iW4 : ∀ w ∈ u_ws RX4 TX4 7, w ∈ wsX4_appendText := by decide +kernel
  have f34 : Cond.fieldLink RX4 34 (TX4 5).1 (TX4 5).2.1 (TX4 5).2.2.1 ∈ wsX4_appendText := by decide +kernel
  have f184 : Cond.fieldLinkNest RX4 184 (TX0 1).1 (TX0 1).2.1 (TX0 1).2.2.1 "TwoTownAlmanac" ∈ nwF := by decide +kernel
  obtain ⟨hl0, hl8, hch⟩ := id hX
  refine Xi_of [(0, _), (1, _)] hr hst (by decide) rfl rfl (Nat.le_of_ble_eq_true rfl) rfl (fun Γ hG hR => ?_)
  refine v_lload_n hG dX4_appendText_0 1 rfl ?_
  refine v_callSi (n := 1) hG (c_X4_charactersIn hr hn) gX4_appendText_X4_charactersIn rfl (by decide +kernel) rfl (by decide) dX4_appendText_1 rfl (Nat.le_of_ble_eq_true rfl) (by decide) ?_
  intro v1 z1 hp1
  obtain ⟨rfl, hx1⟩ := hp1
  have hv1 : 0 ≤ v1 ∧ v1 ≤ 8 := by
    rcases hx1 with q9 | ⟨c9, q8, q9⟩
    · omega
    · have := q8.2.1
      omega
  have hgd : v1 ≠ 0 → goodC u v1.toNat := fun q7 => by
    rcases hx1 with q9 | ⟨c9, q8, q9⟩
    · exact absurd q9.1 q7
    · rw [q9]
      exact q8
  refine v_istore_n hG [(0, _), (1, _), (3, _)] dX4_appendText_4 (by decide) rfl ?_
  refine v_iload_n hG dX4_appendText_5 2 rfl ?_
  refine v_if_ne hG 19 (by omega) dX4_appendText_6 (by decide) (fun h6 => ?_) (fun h6 => ?_)
  · refine v_aload_n hG dX4_appendText_19 0 rfl ?_
    refine v_getf (ci := 4) (k := 5) hG iW4 f34 rfl (by decide) h0 (by decide) (cl_1 _ _ _ _) rfl dX4_appendText_20 ?_
    refine v_getfN (ci := 0) (k := 1) hG iW0 f184 rfl (by decide) k_22 (by decide) (cl_5 _ _ _ _) rfl dX4_appendText_23 ?_
    refine v_iload_n hG dX4_appendText_26 2 rfl ?_
    refine v_iadd hG dX4_appendText_27 ?_
    refine v_bipush hG dX4_appendText_28 (by decide) ?_
    refine v_icmp_le hG 43 (by omega) (by omega) dX4_appendText_30 (by decide) (fun h30 => ?_) (fun h30 => ?_)
    · refine v_iload_n hG dX4_appendText_43 2 rfl ?_
      refine v_iconst hG dX4_appendText_44 ?_
      refine v_isub hG dX4_appendText_45 ?_
      refine v_istore hG [(0, _), (1, _), (3, _), (4, _)] dX4_appendText_46 (by decide) rfl ?_
      have L48 : ∀ (n : Nat), ∀ (x4 : Int) (z1 : Zt), (-1 ≤ x4 ∧ x4 < v1 ∧ z1 = apG 23 22 1 z u v1.toNat (v1 - 1 - x4).toNat) → (x4 + 2).toNat ≤ n → V Γ z1 0 0 [(0, .ref (r 0)), (1, .long (lN u)), (3, .int (iN v1)), (4, .int (iN x4))] 48 [] := by
        intro n
        induction n with
        | zero =>
          intro x4 z1 hI hm
          obtain ⟨i1, i2, i3v⟩ := hI
          exact absurd hm (by omega)
        | succ n ih48 =>
          intro x4 z1 hI hm
          obtain ⟨i1, i2, i3v⟩ := hI
          subst i3v
          refine v_iload hG dX4_appendText_48 3 rfl ?_
          refine v_if_lt hG 72 (by omega) dX4_appendText_50 (by decide) (fun h50 => ?_) (fun h50 => ?_)
          · refine v_aload_n hG dX4_appendText_72 0 rfl ?_
            refine v_getf (ci := 4) (k := 5) hG iW4 f34 rfl (by decide) h0 (by decide) (cl_1 _ _ _ _) rfl dX4_appendText_73 ?_
            refine v_getfN (ci := 0) (k := 1) hG iW0 f184 rfl (by decide) k_22 (by decide) (cl_5 _ _ _ _) rfl dX4_appendText_76 ?_
            rw [apG_L]
            exact x_iret hG hR (by decide) dX4_appendText_79 ⟨v1.toNat, hgd h6, by omega, by rw [show (v1 - 1 - x4).toNat = v1.toNat by omega], by omega⟩
          · refine v_aload_n hG dX4_appendText_53 0 rfl ?_
            refine v_getf (ci := 4) (k := 5) hG iW4 f34 rfl (by decide) h0 (by decide) (cl_1 _ _ _ _) rfl dX4_appendText_54 ?_
            refine v_lload_n hG dX4_appendText_57 1 rfl ?_
            refine v_iload hG dX4_appendText_58 3 rfl ?_
            refine v_callSi (n := 2) hG (c_X4_codeAt hr hn (by omega)) gX4_appendText_X4_codeAt rfl (by decide +kernel) rfl (by decide) dX4_appendText_60 rfl (Nat.le_of_ble_eq_true rfl) (by decide) ?_
            intro v60 z60 hp60
            obtain ⟨rfl, rfl⟩ := hp60
            refine v_callVv (n := 1) (ci := 0) hG (c_X0_put hr k_22 (by rw [apG_L]; omega)) gX4_appendText_X0_put rfl (by decide +kernel) rfl (by decide) k_22 (by decide) (cl_5 _ _ _ _) rfl dX4_appendText_63 rfl (Nat.le_of_ble_eq_true rfl) (by decide) ?_
            intro z63 hp63
            obtain rfl := hp63
            refine v_iinc hG [(0, _), (1, _), (3, _), (4, _)] dX4_appendText_66 3 rfl (by decide) rfl ?_
            refine v_goto hG 48 dX4_appendText_69 (by decide) ?_
            refine ih48 _ _ ?_ (by omega)
            refine ⟨by omega, by omega, ?_⟩
            have h9 := apG_s (A := 23) (L := 22) (k := 1) (z := z) (n := u) (c := v1.toNat) (m := (v1 - 1 - x4).toNat) (by decide) hl0 (by omega)
            rw [show v1.toNat - 1 - (v1 - 1 - x4).toNat = x4.toNat by omega, show (v1 - 1 - x4).toNat + 1 = (v1 - 1 - (x4 + -1)).toNat by omega] at h9
            exact h9
      exact L48 _ _ _ ⟨by omega, by omega, by rw [show (v1 - 1 - (v1 - 1)).toNat = 0 by omega, apG_0]⟩ (Nat.le_refl _)
    · exact x_throw (text := "the text would be too long") (ik := 66) hG hR x_fit70 x_names (by decide +kernel) (by decide +kernel) (by decide +kernel) (by decide +kernel) x_no70 x_ok70 dX4_appendText_33 dX4_appendText_36 dX4_appendText_37 dX4_appendText_39 dX4_appendText_42 (by decide) (Nat.le_of_ble_eq_true rfl) ⟨rfl, rfl⟩ (by decide) ⟨rfl, Or.inr ⟨rfl, v1.toNat, hgd h6, by omega⟩⟩
  · exact x_throw (text := "the number holds no proper characters") (ik := 56) hG hR x_fit60 x_names (by decide +kernel) (by decide +kernel) (by decide +kernel) (by decide +kernel) x_no60 x_ok60 dX4_appendText_9 dX4_appendText_12 dX4_appendText_13 dX4_appendText_15 dX4_appendText_18 (by decide) (Nat.le_of_ble_eq_true rfl) ⟨rfl, rfl⟩ (by decide) ⟨rfl, Or.inl ⟨rfl, by rcases hx1 with q9 | ⟨c9, q8, q9⟩; exact q9.2; exact absurd q8.1 (by omega)⟩⟩

