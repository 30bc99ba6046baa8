set_option maxHeartbeats 4000000 in
set_option maxRecDepth 100000 in
theorem c_L_addGap {l : Launch} {D : va_G} {cA : Nat → ClassId} {r : Nat → Nat} {z : Zt} {t a q : Int} (hr : Inj r) (hst : l.stackTraces = false) (h0 : kd 0 = 1) (hS : SI z 1)  (hP : PI z) (hA : AI z) (ht : -2147483648 ≤ t ∧ t < 2147483648) (ha : -2147483648 ≤ a ∧ a < 2147483648) (hq : -2147483648 ≤ q ∧ q < 2147483648) : Kw l D cA r yL_addGap wsL_addGap 9 156 4 z [.ref (r 0), .int (iN t), .int (iN a), .int (iN q), .ref (r 176)] (fun v z1 => (v = 0 ∧ ∃ (x : Int) (z2 : Zt), (fun x z1 => lvZ (recZ z) (tid t) a q = z1 ∧ (0 ≤ t ∧ t ≤ 1) ∧ ((0 ≤ a ∧ a ≤ 9999) ∧ (1 ≤ q ∧ q ≤ 40) ∧ (if z (tid t) 3 = 0 then -1 else z (tid t + 1) (z (tid t) 3 - 1).toNat) < a) ∧ z (tid t) 3 < 3 ∧ x = z (tid t) 3 + 1) x z2 ∧ zup z2 176 0 (jl x) = z1) ∨ (v = 1 ∧ (fun E z1 => z = z1 ∧ ((E = xIO ∧ ¬ (0 ≤ t ∧ t ≤ 1)) ∨ (E = xIA ∧ (0 ≤ t ∧ t ≤ 1) ∧ ¬ ((0 ≤ a ∧ a ≤ 9999) ∧ (1 ≤ q ∧ q ≤ 40) ∧ (if z (tid t) 3 = 0 then -1 else z (tid t + 1) (z (tid t) 3 - 1).toNat) < a)) ∨ (E = xIS ∧ (0 ≤ t ∧ t ≤ 1) ∧ ((0 ≤ a ∧ a ≤ 9999) ∧ (1 ≤ q ∧ q ≤ 40) ∧ (if z (tid t) 3 = 0 then -1 else z (tid t + 1) (z (tid t) 3 - 1).toNat) < a) ∧ 3 ≤ z (tid t) 3))) xIO z1) ∨ (v = 2 ∧ (fun E z1 => z = z1 ∧ ((E = xIO ∧ ¬ (0 ≤ t ∧ t ≤ 1)) ∨ (E = xIA ∧ (0 ≤ t ∧ t ≤ 1) ∧ ¬ ((0 ≤ a ∧ a ≤ 9999) ∧ (1 ≤ q ∧ q ≤ 40) ∧ (if z (tid t) 3 = 0 then -1 else z (tid t + 1) (z (tid t) 3 - 1).toNat) < a)) ∨ (E = xIS ∧ (0 ≤ t ∧ t ≤ 1) ∧ ((0 ≤ a ∧ a ≤ 9999) ∧ (1 ≤ q ∧ q ≤ 40) ∧ (if z (tid t) 3 = 0 then -1 else z (tid t + 1) (z (tid t) 3 - 1).toNat) < a) ∧ 3 ≤ z (tid t) 3))) xIA z1) ∨ (v = 3 ∧ (fun E z1 => z = z1 ∧ ((E = xIO ∧ ¬ (0 ≤ t ∧ t ≤ 1)) ∨ (E = xIA ∧ (0 ≤ t ∧ t ≤ 1) ∧ ¬ ((0 ≤ a ∧ a ≤ 9999) ∧ (1 ≤ q ∧ q ≤ 40) ∧ (if z (tid t) 3 = 0 then -1 else z (tid t + 1) (z (tid t) 3 - 1).toNat) < a)) ∨ (E = xIS ∧ (0 ≤ t ∧ t ≤ 1) ∧ ((0 ≤ a ∧ a ≤ 9999) ∧ (1 ≤ q ∧ q ≤ 40) ∧ (if z (tid t) 3 = 0 then -1 else z (tid t + 1) (z (tid t) 3 - 1).toNat) < a) ∧ 3 ≤ z (tid t) 3))) xIS z1)) := by
  refine Kw_of [(0, _), (1, _), (2, _), (3, _), (4, _)] hr (by decide) rfl rfl (Nat.le_of_ble_eq_true rfl) rfl (fun Γ hG hR => ?_)
  refine v_aload hG dL_addGap_0 4 rfl ?_
  refine v_iconst hG dL_addGap_2 ?_
  refine v_aload_n hG dL_addGap_3 0 rfl ?_
  refine v_iload_n hG dL_addGap_4 1 rfl ?_
  refine v_iload_n hG dL_addGap_5 2 rfl ?_
  refine v_iload_n hG dL_addGap_6 3 rfl ?_
  refine w_callV (n := 3) (ci := 4) hG hR (c_X4_addGap hr hst h0 hS hP hA ht ha hq) gL_addGap_X4_addGap rfl (by decide +kernel) rfl ⟨Nat.le_of_ble_eq_true rfl, Nat.le_of_ble_eq_true rfl⟩ h0 (by decide) (cl_1 _ _ _ _) rfl dL_addGap_7 rfl (Nat.le_of_ble_eq_true rfl) ⟨rfl, rfl⟩ ⟨Nat.le_of_ble_eq_true rfl, Nat.le_of_ble_eq_true rfl⟩ ?_ ?_
  · intro E z1 hx
    have hE : E = xIO ∨ E = xIA ∨ E = xIS := hx.2.elim (fun h => Or.inl h.1) (fun h => h.elim (fun h => Or.inr (Or.inl h.1)) (fun h => Or.inr (Or.inr h.1)))
    rcases hE with rfl | rfl | rfl
    · refine ⟨15, ⟨[], (0, 12, 15, 13), [(0, 12, 19, 15), (0, 12, 23, 17)], rfl, fun _ h => absurd h List.not_mem_nil, ⟨by decide, by decide⟩, rfl, by decide, by decide +kernel, by decide +kernel, by decide +kernel⟩, fun q => ?_⟩
      refine v_astore hG [(0, _), (1, _), (2, _), (3, _), (4, _), (5, _)] dL_addGap_15 (by decide) rfl ?_
      refine v_iconst hG dL_addGap_17 ?_
      exact w_iret hG hR ⟨Nat.le_of_ble_eq_true rfl, Nat.le_of_ble_eq_true rfl⟩ dL_addGap_18 (Or.inr (Or.inl (⟨rfl, hx⟩)))
    · refine ⟨19, ⟨[(0, 12, 15, 13)], (0, 12, 19, 15), [(0, 12, 23, 17)], rfl, by
        intro q hq
        rcases List.mem_cons.mp hq with rfl | hq
        · exact ⟨by decide, by decide +kernel, by decide +kernel, by decide +kernel⟩
        exact absurd hq List.not_mem_nil, ⟨by decide, by decide⟩, rfl, by decide, by decide +kernel, by decide +kernel, by decide +kernel⟩, fun q => ?_⟩
      refine v_astore hG [(0, _), (1, _), (2, _), (3, _), (4, _), (5, _)] dL_addGap_19 (by decide) rfl ?_
      refine v_iconst hG dL_addGap_21 ?_
      exact w_iret hG hR ⟨Nat.le_of_ble_eq_true rfl, Nat.le_of_ble_eq_true rfl⟩ dL_addGap_22 (Or.inr (Or.inr (Or.inl (⟨rfl, hx⟩))))
    · refine ⟨23, ⟨[(0, 12, 15, 13), (0, 12, 19, 15)], (0, 12, 23, 17), [], rfl, by
        intro q hq
        rcases List.mem_cons.mp hq with rfl | hq
        · exact ⟨by decide, by decide +kernel, by decide +kernel, by decide +kernel⟩
        rcases List.mem_cons.mp hq with rfl | hq
        · exact ⟨by decide, by decide +kernel, by decide +kernel, by decide +kernel⟩
        exact absurd hq List.not_mem_nil, ⟨by decide, by decide⟩, rfl, by decide, by decide +kernel, by decide +kernel, by decide +kernel⟩, fun q => ?_⟩
      refine v_astore hG [(0, _), (1, _), (2, _), (3, _), (4, _), (5, _)] dL_addGap_23 (by decide) rfl ?_
      refine v_iconst hG dL_addGap_25 ?_
      exact w_iret hG hR ⟨Nat.le_of_ble_eq_true rfl, Nat.le_of_ble_eq_true rfl⟩ dL_addGap_26 (Or.inr (Or.inr (Or.inr (⟨rfl, hx⟩))))
  · intro x z2 hp
    refine v_i2l hG dL_addGap_10 ?_
    refine v_lastore hG dL_addGap_11 ?_
    refine v_goto hG 27 dL_addGap_12 (by decide) ?_
    refine v_iconst hG dL_addGap_27 ?_
    exact w_iret hG hR ⟨Nat.le_of_ble_eq_true rfl, Nat.le_of_ble_eq_true rfl⟩ dL_addGap_28 (Or.inl (⟨rfl, x, z2, hp, rfl⟩))

set_option maxHeartbeats 4000000 in
set_option maxRecDepth 100000 in
theorem c_L_gapCount {l : Launch} {D : va_G} {cA : Nat → ClassId} {r : Nat → Nat} {z : Zt} {t : Int} (hr : Inj r) (hst : l.stackTraces = false) (h0 : kd 0 = 1) (ht : -2147483648 ≤ t ∧ t < 2147483648) : Kw l D cA r yL_gapCount wsL_gapCount 9 153 1 z [.ref (r 0), .int (iN t), .ref (r 176)] (fun v z1 => (v = 0 ∧ ∃ (x : Int) (z2 : Zt), (fun x z1 => z = z1 ∧ (0 ≤ t ∧ t ≤ 1) ∧ x = z (tid t) 3) x z2 ∧ zup z2 176 0 (jl x) = z1) ∨ (v = 1 ∧ (fun E z1 => z = z1 ∧ E = xIO ∧ ¬ (0 ≤ t ∧ t ≤ 1)) xIO z1)) := by
  refine Kw_of [(0, _), (1, _), (2, _)] hr (by decide) rfl rfl (Nat.le_of_ble_eq_true rfl) rfl (fun Γ hG hR => ?_)
  refine v_aload_n hG dL_gapCount_0 2 rfl ?_
  refine v_iconst hG dL_gapCount_1 ?_
  refine v_aload_n hG dL_gapCount_2 0 rfl ?_
  refine v_iload_n hG dL_gapCount_3 1 rfl ?_
  refine w_callV (n := 1) (ci := 4) hG hR (c_X4_gapCount hr hst h0 ht) gL_gapCount_X4_gapCount rfl (by decide +kernel) rfl ⟨Nat.le_of_ble_eq_true rfl, Nat.le_of_ble_eq_true rfl⟩ h0 (by decide) (cl_1 _ _ _ _) rfl dL_gapCount_4 rfl (Nat.le_of_ble_eq_true rfl) ⟨rfl, rfl⟩ ⟨Nat.le_of_ble_eq_true rfl, Nat.le_of_ble_eq_true rfl⟩ ?_ ?_
  · intro E z1 hx
    have hE : E = xIO := hx.2.1
    rcases hE with rfl
    · refine ⟨12, ⟨[], (0, 9, 12, 13), [], rfl, fun _ h => absurd h List.not_mem_nil, ⟨by decide, by decide⟩, rfl, by decide, by decide +kernel, by decide +kernel, by decide +kernel⟩, fun q => ?_⟩
      refine v_astore_n hG [(0, _), (1, _), (2, _), (3, _)] dL_gapCount_12 (by decide) rfl ?_
      refine v_iconst hG dL_gapCount_13 ?_
      exact w_iret hG hR ⟨Nat.le_of_ble_eq_true rfl, Nat.le_of_ble_eq_true rfl⟩ dL_gapCount_14 (Or.inr (⟨rfl, hx⟩))
  · intro x z2 hp
    refine v_i2l hG dL_gapCount_7 ?_
    refine v_lastore hG dL_gapCount_8 ?_
    refine v_goto hG 15 dL_gapCount_9 (by decide) ?_
    refine v_iconst hG dL_gapCount_15 ?_
    exact w_iret hG hR ⟨Nat.le_of_ble_eq_true rfl, Nat.le_of_ble_eq_true rfl⟩ dL_gapCount_16 (Or.inl (⟨rfl, x, z2, hp, rfl⟩))

set_option maxHeartbeats 4000000 in
set_option maxRecDepth 100000 in
theorem c_L_gapDay {l : Launch} {D : va_G} {cA : Nat → ClassId} {r : Nat → Nat} {z : Zt} {t g : Int} (hr : Inj r) (hst : l.stackTraces = false) (h0 : kd 0 = 1) (hS : SI z 1) (ht : -2147483648 ≤ t ∧ t < 2147483648) (hg : -2147483648 ≤ g ∧ g < 2147483648) : Kw l D cA r yL_gapDay wsL_gapDay 9 155 2 z [.ref (r 0), .int (iN t), .int (iN g), .ref (r 176)] (fun v z1 => (v = 0 ∧ ∃ (x : Int) (z2 : Zt), (fun x z1 => z = z1 ∧ (0 ≤ t ∧ t ≤ 1) ∧ (0 ≤ g ∧ g < z (tid t) 3) ∧ x = z (tid t + 1) g.toNat) x z2 ∧ zup z2 176 0 (jl x) = z1) ∨ (v = 1 ∧ (fun E z1 => z = z1 ∧ E = xIO ∧ (¬ (0 ≤ t ∧ t ≤ 1) ∨ ¬ (0 ≤ g ∧ g < z (tid t) 3))) xIO z1)) := by
  refine Kw_of [(0, _), (1, _), (2, _), (3, _)] hr (by decide) rfl rfl (Nat.le_of_ble_eq_true rfl) rfl (fun Γ hG hR => ?_)
  refine v_aload_n hG dL_gapDay_0 3 rfl ?_
  refine v_iconst hG dL_gapDay_1 ?_
  refine v_aload_n hG dL_gapDay_2 0 rfl ?_
  refine v_iload_n hG dL_gapDay_3 1 rfl ?_
  refine v_iload_n hG dL_gapDay_4 2 rfl ?_
  refine w_callV (n := 2) (ci := 4) hG hR (c_X4_gapDay hr hst h0 hS ht hg) gL_gapDay_X4_gapDay rfl (by decide +kernel) rfl ⟨Nat.le_of_ble_eq_true rfl, Nat.le_of_ble_eq_true rfl⟩ h0 (by decide) (cl_1 _ _ _ _) rfl dL_gapDay_5 rfl (Nat.le_of_ble_eq_true rfl) ⟨rfl, rfl⟩ ⟨Nat.le_of_ble_eq_true rfl, Nat.le_of_ble_eq_true rfl⟩ ?_ ?_
  · intro E z1 hx
    have hE : E = xIO := hx.2.1
    rcases hE with rfl
    · refine ⟨13, ⟨[], (0, 10, 13, 13), [], rfl, fun _ h => absurd h List.not_mem_nil, ⟨by decide, by decide⟩, rfl, by decide, by decide +kernel, by decide +kernel, by decide +kernel⟩, fun q => ?_⟩
      refine v_astore hG [(0, _), (1, _), (2, _), (3, _), (4, _)] dL_gapDay_13 (by decide) rfl ?_
      refine v_iconst hG dL_gapDay_15 ?_
      exact w_iret hG hR ⟨Nat.le_of_ble_eq_true rfl, Nat.le_of_ble_eq_true rfl⟩ dL_gapDay_16 (Or.inr (⟨rfl, hx⟩))
  · intro x z2 hp
    refine v_i2l hG dL_gapDay_8 ?_
    refine v_lastore hG dL_gapDay_9 ?_
    refine v_goto hG 17 dL_gapDay_10 (by decide) ?_
    refine v_iconst hG dL_gapDay_17 ?_
    exact w_iret hG hR ⟨Nat.le_of_ble_eq_true rfl, Nat.le_of_ble_eq_true rfl⟩ dL_gapDay_18 (Or.inl (⟨rfl, x, z2, hp, rfl⟩))

set_option maxHeartbeats 4000000 in
set_option maxRecDepth 100000 in
theorem c_L_gapLength {l : Launch} {D : va_G} {cA : Nat → ClassId} {r : Nat → Nat} {z : Zt} {t g : Int} (hr : Inj r) (hst : l.stackTraces = false) (h0 : kd 0 = 1) (hS : SI z 1) (ht : -2147483648 ≤ t ∧ t < 2147483648) (hg : -2147483648 ≤ g ∧ g < 2147483648) : Kw l D cA r yL_gapLength wsL_gapLength 9 155 2 z [.ref (r 0), .int (iN t), .int (iN g), .ref (r 176)] (fun v z1 => (v = 0 ∧ ∃ (x : Int) (z2 : Zt), (fun x z1 => z = z1 ∧ (0 ≤ t ∧ t ≤ 1) ∧ (0 ≤ g ∧ g < z (tid t) 3) ∧ x = z (tid t + 2) g.toNat) x z2 ∧ zup z2 176 0 (jl x) = z1) ∨ (v = 1 ∧ (fun E z1 => z = z1 ∧ E = xIO ∧ (¬ (0 ≤ t ∧ t ≤ 1) ∨ ¬ (0 ≤ g ∧ g < z (tid t) 3))) xIO z1)) := by
  refine Kw_of [(0, _), (1, _), (2, _), (3, _)] hr (by decide) rfl rfl (Nat.le_of_ble_eq_true rfl) rfl (fun Γ hG hR => ?_)
  refine v_aload_n hG dL_gapLength_0 3 rfl ?_
  refine v_iconst hG dL_gapLength_1 ?_
  refine v_aload_n hG dL_gapLength_2 0 rfl ?_
  refine v_iload_n hG dL_gapLength_3 1 rfl ?_
  refine v_iload_n hG dL_gapLength_4 2 rfl ?_
  refine w_callV (n := 2) (ci := 4) hG hR (c_X4_gapLength hr hst h0 hS ht hg) gL_gapLength_X4_gapLength rfl (by decide +kernel) rfl ⟨Nat.le_of_ble_eq_true rfl, Nat.le_of_ble_eq_true rfl⟩ h0 (by decide) (cl_1 _ _ _ _) rfl dL_gapLength_5 rfl (Nat.le_of_ble_eq_true rfl) ⟨rfl, rfl⟩ ⟨Nat.le_of_ble_eq_true rfl, Nat.le_of_ble_eq_true rfl⟩ ?_ ?_
  · intro E z1 hx
    have hE : E = xIO := hx.2.1
    rcases hE with rfl
    · refine ⟨13, ⟨[], (0, 10, 13, 13), [], rfl, fun _ h => absurd h List.not_mem_nil, ⟨by decide, by decide⟩, rfl, by decide, by decide +kernel, by decide +kernel, by decide +kernel⟩, fun q => ?_⟩
      refine v_astore hG [(0, _), (1, _), (2, _), (3, _), (4, _)] dL_gapLength_13 (by decide) rfl ?_
      refine v_iconst hG dL_gapLength_15 ?_
      exact w_iret hG hR ⟨Nat.le_of_ble_eq_true rfl, Nat.le_of_ble_eq_true rfl⟩ dL_gapLength_16 (Or.inr (⟨rfl, hx⟩))
  · intro x z2 hp
    refine v_i2l hG dL_gapLength_8 ?_
    refine v_lastore hG dL_gapLength_9 ?_
    refine v_goto hG 17 dL_gapLength_10 (by decide) ?_
    refine v_iconst hG dL_gapLength_17 ?_
    exact w_iret hG hR ⟨Nat.le_of_ble_eq_true rfl, Nat.le_of_ble_eq_true rfl⟩ dL_gapLength_18 (Or.inl (⟨rfl, x, z2, hp, rfl⟩))

set_option maxHeartbeats 4000000 in
set_option maxRecDepth 100000 in
theorem c_L_monthLength {l : Launch} {D : va_G} {cA : Nat → ClassId} {r : Nat → Nat} {z : Zt} {t m : Int} (hr : Inj r) (hst : l.stackTraces = false) (h0 : kd 0 = 1) (hS : SI z 1) (ht : -2147483648 ≤ t ∧ t < 2147483648) (hm : -2147483648 ≤ m ∧ m < 2147483648) : Kw l D cA r yL_monthLength wsL_monthLength 9 155 2 z [.ref (r 0), .int (iN t), .int (iN m), .ref (r 176)] (fun v z1 => (v = 0 ∧ ∃ (x : Int) (z2 : Zt), (fun x z1 => z = z1 ∧ (0 ≤ t ∧ t ≤ 1) ∧ (1 ≤ m ∧ m ≤ 12) ∧ x = mlen (z (tid t) 0) m) x z2 ∧ zup z2 176 0 (jl x) = z1) ∨ (v = 1 ∧ (fun E z1 => z = z1 ∧ ((E = xIO ∧ ¬ (0 ≤ t ∧ t ≤ 1)) ∨ (E = xIA ∧ (0 ≤ t ∧ t ≤ 1) ∧ ¬ (1 ≤ m ∧ m ≤ 12)))) xIO z1) ∨ (v = 2 ∧ (fun E z1 => z = z1 ∧ ((E = xIO ∧ ¬ (0 ≤ t ∧ t ≤ 1)) ∨ (E = xIA ∧ (0 ≤ t ∧ t ≤ 1) ∧ ¬ (1 ≤ m ∧ m ≤ 12)))) xIA z1)) := by
  refine Kw_of [(0, _), (1, _), (2, _), (3, _)] hr (by decide) rfl rfl (Nat.le_of_ble_eq_true rfl) rfl (fun Γ hG hR => ?_)
  refine v_aload_n hG dL_monthLength_0 3 rfl ?_
  refine v_iconst hG dL_monthLength_1 ?_
  refine v_aload_n hG dL_monthLength_2 0 rfl ?_
  refine v_iload_n hG dL_monthLength_3 1 rfl ?_
  refine v_iload_n hG dL_monthLength_4 2 rfl ?_
  refine w_callV (n := 2) (ci := 4) hG hR (c_X4_monthLength hr hst h0 hS ht hm) gL_monthLength_X4_monthLength rfl (by decide +kernel) rfl ⟨Nat.le_of_ble_eq_true rfl, Nat.le_of_ble_eq_true rfl⟩ h0 (by decide) (cl_1 _ _ _ _) rfl dL_monthLength_5 rfl (Nat.le_of_ble_eq_true rfl) ⟨rfl, rfl⟩ ⟨Nat.le_of_ble_eq_true rfl, Nat.le_of_ble_eq_true rfl⟩ ?_ ?_
  · intro E z1 hx
    have hE : E = xIO ∨ E = xIA := hx.2.elim (fun h => Or.inl h.1) (fun h => Or.inr h.1)
    rcases hE with rfl | rfl
    · refine ⟨13, ⟨[], (0, 10, 13, 13), [(0, 10, 17, 15)], rfl, fun _ h => absurd h List.not_mem_nil, ⟨by decide, by decide⟩, rfl, by decide, by decide +kernel, by decide +kernel, by decide +kernel⟩, fun q => ?_⟩
      refine v_astore hG [(0, _), (1, _), (2, _), (3, _), (4, _)] dL_monthLength_13 (by decide) rfl ?_
      refine v_iconst hG dL_monthLength_15 ?_
      exact w_iret hG hR ⟨Nat.le_of_ble_eq_true rfl, Nat.le_of_ble_eq_true rfl⟩ dL_monthLength_16 (Or.inr (Or.inl (⟨rfl, hx⟩)))
    · refine ⟨17, ⟨[(0, 10, 13, 13)], (0, 10, 17, 15), [], rfl, by
        intro q hq
        rcases List.mem_cons.mp hq with rfl | hq
        · exact ⟨by decide, by decide +kernel, by decide +kernel, by decide +kernel⟩
        exact absurd hq List.not_mem_nil, ⟨by decide, by decide⟩, rfl, by decide, by decide +kernel, by decide +kernel, by decide +kernel⟩, fun q => ?_⟩
      refine v_astore hG [(0, _), (1, _), (2, _), (3, _), (4, _)] dL_monthLength_17 (by decide) rfl ?_
      refine v_iconst hG dL_monthLength_19 ?_
      exact w_iret hG hR ⟨Nat.le_of_ble_eq_true rfl, Nat.le_of_ble_eq_true rfl⟩ dL_monthLength_20 (Or.inr (Or.inr (⟨rfl, hx⟩)))
  · intro x z2 hp
    refine v_i2l hG dL_monthLength_8 ?_
    refine v_lastore hG dL_monthLength_9 ?_
    refine v_goto hG 21 dL_monthLength_10 (by decide) ?_
    refine v_iconst hG dL_monthLength_21 ?_
    exact w_iret hG hR ⟨Nat.le_of_ble_eq_true rfl, Nat.le_of_ble_eq_true rfl⟩ dL_monthLength_22 (Or.inl (⟨rfl, x, z2, hp, rfl⟩))

set_option maxHeartbeats 4000000 in
set_option maxRecDepth 100000 in
theorem c_L_dayOfMonth {l : Launch} {D : va_G} {cA : Nat → ClassId} {r : Nat → Nat} {z : Zt} {t d : Int} (hr : Inj r) (hst : l.stackTraces = false) (h0 : kd 0 = 1) (hS : SI z 1) (ht : -2147483648 ≤ t ∧ t < 2147483648) (hd : -2147483648 ≤ d ∧ d < 2147483648) : Kw l D cA r yL_dayOfMonth wsL_dayOfMonth 9 155 2 z [.ref (r 0), .int (iN t), .int (iN d), .ref (r 176)] (fun v z1 => (v = 0 ∧ ∃ (x : Int) (z2 : Zt), (fun x z1 => z = z1 ∧ (0 ≤ t ∧ t ≤ 1) ∧ (0 ≤ d ∧ d ≤ 20000) ∧ ∃ mm : Int, isMon (z (tid t) 0) (calT z (tid t) d % yl (z (tid t) 0)) mm ∧ x = calT z (tid t) d % yl (z (tid t) 0) - mbef (z (tid t) 0) mm + 1) x z2 ∧ zup z2 176 0 (jl x) = z1) ∨ (v = 1 ∧ (fun E z1 => z = z1 ∧ ((E = xIO ∧ ¬ (0 ≤ t ∧ t ≤ 1)) ∨ (E = xIA ∧ (0 ≤ t ∧ t ≤ 1) ∧ ¬ (0 ≤ d ∧ d ≤ 20000)))) xIO z1) ∨ (v = 2 ∧ (fun E z1 => z = z1 ∧ ((E = xIO ∧ ¬ (0 ≤ t ∧ t ≤ 1)) ∨ (E = xIA ∧ (0 ≤ t ∧ t ≤ 1) ∧ ¬ (0 ≤ d ∧ d ≤ 20000)))) xIA z1)) := by
  refine Kw_of [(0, _), (1, _), (2, _), (3, _)] hr (by decide) rfl rfl (Nat.le_of_ble_eq_true rfl) rfl (fun Γ hG hR => ?_)
  refine v_aload_n hG dL_dayOfMonth_0 3 rfl ?_
  refine v_iconst hG dL_dayOfMonth_1 ?_
  refine v_aload_n hG dL_dayOfMonth_2 0 rfl ?_
  refine v_iload_n hG dL_dayOfMonth_3 1 rfl ?_
  refine v_iload_n hG dL_dayOfMonth_4 2 rfl ?_
  refine w_callV (n := 2) (ci := 4) hG hR (c_X4_dayOfMonth hr hst h0 hS ht hd) gL_dayOfMonth_X4_dayOfMonth rfl (by decide +kernel) rfl ⟨Nat.le_of_ble_eq_true rfl, Nat.le_of_ble_eq_true rfl⟩ h0 (by decide) (cl_1 _ _ _ _) rfl dL_dayOfMonth_5 rfl (Nat.le_of_ble_eq_true rfl) ⟨rfl, rfl⟩ ⟨Nat.le_of_ble_eq_true rfl, Nat.le_of_ble_eq_true rfl⟩ ?_ ?_
  · intro E z1 hx
    have hE : E = xIO ∨ E = xIA := hx.2.elim (fun h => Or.inl h.1) (fun h => Or.inr h.1)
    rcases hE with rfl | rfl
    · refine ⟨13, ⟨[], (0, 10, 13, 13), [(0, 10, 17, 15)], rfl, fun _ h => absurd h List.not_mem_nil, ⟨by decide, by decide⟩, rfl, by decide, by decide +kernel, by decide +kernel, by decide +kernel⟩, fun q => ?_⟩
      refine v_astore hG [(0, _), (1, _), (2, _), (3, _), (4, _)] dL_dayOfMonth_13 (by decide) rfl ?_
      refine v_iconst hG dL_dayOfMonth_15 ?_
      exact w_iret hG hR ⟨Nat.le_of_ble_eq_true rfl, Nat.le_of_ble_eq_true rfl⟩ dL_dayOfMonth_16 (Or.inr (Or.inl (⟨rfl, hx⟩)))
    · refine ⟨17, ⟨[(0, 10, 13, 13)], (0, 10, 17, 15), [], rfl, by
        intro q hq
        rcases List.mem_cons.mp hq with rfl | hq
        · exact ⟨by decide, by decide +kernel, by decide +kernel, by decide +kernel⟩
        exact absurd hq List.not_mem_nil, ⟨by decide, by decide⟩, rfl, by decide, by decide +kernel, by decide +kernel, by decide +kernel⟩, fun q => ?_⟩
      refine v_astore hG [(0, _), (1, _), (2, _), (3, _), (4, _)] dL_dayOfMonth_17 (by decide) rfl ?_
      refine v_iconst hG dL_dayOfMonth_19 ?_
      exact w_iret hG hR ⟨Nat.le_of_ble_eq_true rfl, Nat.le_of_ble_eq_true rfl⟩ dL_dayOfMonth_20 (Or.inr (Or.inr (⟨rfl, hx⟩)))
  · intro x z2 hp
    refine v_i2l hG dL_dayOfMonth_8 ?_
    refine v_lastore hG dL_dayOfMonth_9 ?_
    refine v_goto hG 21 dL_dayOfMonth_10 (by decide) ?_
    refine v_iconst hG dL_dayOfMonth_21 ?_
    exact w_iret hG hR ⟨Nat.le_of_ble_eq_true rfl, Nat.le_of_ble_eq_true rfl⟩ dL_dayOfMonth_22 (Or.inl (⟨rfl, x, z2, hp, rfl⟩))

set_option maxHeartbeats 4000000 in
set_option maxRecDepth 100000 in
theorem c_L_monthOf {l : Launch} {D : va_G} {cA : Nat → ClassId} {r : Nat → Nat} {z : Zt} {t d : Int} (hr : Inj r) (hst : l.stackTraces = false) (h0 : kd 0 = 1) (hS : SI z 1) (ht : -2147483648 ≤ t ∧ t < 2147483648) (hd : -2147483648 ≤ d ∧ d < 2147483648) : Kw l D cA r yL_monthOf wsL_monthOf 9 155 2 z [.ref (r 0), .int (iN t), .int (iN d), .ref (r 176)] (fun v z1 => (v = 0 ∧ ∃ (x : Int) (z2 : Zt), (fun x z1 => z = z1 ∧ (0 ≤ t ∧ t ≤ 1) ∧ (0 ≤ d ∧ d ≤ 20000) ∧ isMon (z (tid t) 0) (calT z (tid t) d % yl (z (tid t) 0)) x) x z2 ∧ zup z2 176 0 (jl x) = z1) ∨ (v = 1 ∧ (fun E z1 => z = z1 ∧ ((E = xIO ∧ ¬ (0 ≤ t ∧ t ≤ 1)) ∨ (E = xIA ∧ (0 ≤ t ∧ t ≤ 1) ∧ ¬ (0 ≤ d ∧ d ≤ 20000)))) xIO z1) ∨ (v = 2 ∧ (fun E z1 => z = z1 ∧ ((E = xIO ∧ ¬ (0 ≤ t ∧ t ≤ 1)) ∨ (E = xIA ∧ (0 ≤ t ∧ t ≤ 1) ∧ ¬ (0 ≤ d ∧ d ≤ 20000)))) xIA z1)) := by
  refine Kw_of [(0, _), (1, _), (2, _), (3, _)] hr (by decide) rfl rfl (Nat.le_of_ble_eq_true rfl) rfl (fun Γ hG hR => ?_)
  refine v_aload_n hG dL_monthOf_0 3 rfl ?_
  refine v_iconst hG dL_monthOf_1 ?_
  refine v_aload_n hG dL_monthOf_2 0 rfl ?_
  refine v_iload_n hG dL_monthOf_3 1 rfl ?_
  refine v_iload_n hG dL_monthOf_4 2 rfl ?_
  refine w_callV (n := 2) (ci := 4) hG hR (c_X4_monthOf hr hst h0 hS ht hd) gL_monthOf_X4_monthOf rfl (by decide +kernel) rfl ⟨Nat.le_of_ble_eq_true rfl, Nat.le_of_ble_eq_true rfl⟩ h0 (by decide) (cl_1 _ _ _ _) rfl dL_monthOf_5 rfl (Nat.le_of_ble_eq_true rfl) ⟨rfl, rfl⟩ ⟨Nat.le_of_ble_eq_true rfl, Nat.le_of_ble_eq_true rfl⟩ ?_ ?_
  · intro E z1 hx
    have hE : E = xIO ∨ E = xIA := hx.2.elim (fun h => Or.inl h.1) (fun h => Or.inr h.1)
    rcases hE with rfl | rfl
    · refine ⟨13, ⟨[], (0, 10, 13, 13), [(0, 10, 17, 15)], rfl, fun _ h => absurd h List.not_mem_nil, ⟨by decide, by decide⟩, rfl, by decide, by decide +kernel, by decide +kernel, by decide +kernel⟩, fun q => ?_⟩
      refine v_astore hG [(0, _), (1, _), (2, _), (3, _), (4, _)] dL_monthOf_13 (by decide) rfl ?_
      refine v_iconst hG dL_monthOf_15 ?_
      exact w_iret hG hR ⟨Nat.le_of_ble_eq_true rfl, Nat.le_of_ble_eq_true rfl⟩ dL_monthOf_16 (Or.inr (Or.inl (⟨rfl, hx⟩)))
    · refine ⟨17, ⟨[(0, 10, 13, 13)], (0, 10, 17, 15), [], rfl, by
        intro q hq
        rcases List.mem_cons.mp hq with rfl | hq
        · exact ⟨by decide, by decide +kernel, by decide +kernel, by decide +kernel⟩
        exact absurd hq List.not_mem_nil, ⟨by decide, by decide⟩, rfl, by decide, by decide +kernel, by decide +kernel, by decide +kernel⟩, fun q => ?_⟩
      refine v_astore hG [(0, _), (1, _), (2, _), (3, _), (4, _)] dL_monthOf_17 (by decide) rfl ?_
      refine v_iconst hG dL_monthOf_19 ?_
      exact w_iret hG hR ⟨Nat.le_of_ble_eq_true rfl, Nat.le_of_ble_eq_true rfl⟩ dL_monthOf_20 (Or.inr (Or.inr (⟨rfl, hx⟩)))
  · intro x z2 hp
    refine v_i2l hG dL_monthOf_8 ?_
    refine v_lastore hG dL_monthOf_9 ?_
    refine v_goto hG 21 dL_monthOf_10 (by decide) ?_
    refine v_iconst hG dL_monthOf_21 ?_
    exact w_iret hG hR ⟨Nat.le_of_ble_eq_true rfl, Nat.le_of_ble_eq_true rfl⟩ dL_monthOf_22 (Or.inl (⟨rfl, x, z2, hp, rfl⟩))

set_option maxHeartbeats 4000000 in
set_option maxRecDepth 100000 in
theorem c_L_yearOf {l : Launch} {D : va_G} {cA : Nat → ClassId} {r : Nat → Nat} {z : Zt} {t d : Int} (hr : Inj r) (hst : l.stackTraces = false) (h0 : kd 0 = 1) (hS : SI z 1) (ht : -2147483648 ≤ t ∧ t < 2147483648) (hd : -2147483648 ≤ d ∧ d < 2147483648) : Kw l D cA r yL_yearOf wsL_yearOf 9 155 2 z [.ref (r 0), .int (iN t), .int (iN d), .ref (r 176)] (fun v z1 => (v = 0 ∧ ∃ (x : Int) (z2 : Zt), (fun x z1 => z = z1 ∧ (0 ≤ t ∧ t ≤ 1) ∧ (0 ≤ d ∧ d ≤ 20000) ∧ x = 1 + calT z (tid t) d / yl (z (tid t) 0)) x z2 ∧ zup z2 176 0 (jl x) = z1) ∨ (v = 1 ∧ (fun E z1 => z = z1 ∧ ((E = xIO ∧ ¬ (0 ≤ t ∧ t ≤ 1)) ∨ (E = xIA ∧ (0 ≤ t ∧ t ≤ 1) ∧ ¬ (0 ≤ d ∧ d ≤ 20000)))) xIO z1) ∨ (v = 2 ∧ (fun E z1 => z = z1 ∧ ((E = xIO ∧ ¬ (0 ≤ t ∧ t ≤ 1)) ∨ (E = xIA ∧ (0 ≤ t ∧ t ≤ 1) ∧ ¬ (0 ≤ d ∧ d ≤ 20000)))) xIA z1)) := by
  refine Kw_of [(0, _), (1, _), (2, _), (3, _)] hr (by decide) rfl rfl (Nat.le_of_ble_eq_true rfl) rfl (fun Γ hG hR => ?_)
  refine v_aload_n hG dL_yearOf_0 3 rfl ?_
  refine v_iconst hG dL_yearOf_1 ?_
  refine v_aload_n hG dL_yearOf_2 0 rfl ?_
  refine v_iload_n hG dL_yearOf_3 1 rfl ?_
  refine v_iload_n hG dL_yearOf_4 2 rfl ?_
  refine w_callV (n := 2) (ci := 4) hG hR (c_X4_yearOf hr hst h0 hS ht hd) gL_yearOf_X4_yearOf rfl (by decide +kernel) rfl ⟨Nat.le_of_ble_eq_true rfl, Nat.le_of_ble_eq_true rfl⟩ h0 (by decide) (cl_1 _ _ _ _) rfl dL_yearOf_5 rfl (Nat.le_of_ble_eq_true rfl) ⟨rfl, rfl⟩ ⟨Nat.le_of_ble_eq_true rfl, Nat.le_of_ble_eq_true rfl⟩ ?_ ?_
  · intro E z1 hx
    have hE : E = xIO ∨ E = xIA := hx.2.elim (fun h => Or.inl h.1) (fun h => Or.inr h.1)
    rcases hE with rfl | rfl
    · refine ⟨13, ⟨[], (0, 10, 13, 13), [(0, 10, 17, 15)], rfl, fun _ h => absurd h List.not_mem_nil, ⟨by decide, by decide⟩, rfl, by decide, by decide +kernel, by decide +kernel, by decide +kernel⟩, fun q => ?_⟩
      refine v_astore hG [(0, _), (1, _), (2, _), (3, _), (4, _)] dL_yearOf_13 (by decide) rfl ?_
      refine v_iconst hG dL_yearOf_15 ?_
      exact w_iret hG hR ⟨Nat.le_of_ble_eq_true rfl, Nat.le_of_ble_eq_true rfl⟩ dL_yearOf_16 (Or.inr (Or.inl (⟨rfl, hx⟩)))
    · refine ⟨17, ⟨[(0, 10, 13, 13)], (0, 10, 17, 15), [], rfl, by
        intro q hq
        rcases List.mem_cons.mp hq with rfl | hq
        · exact ⟨by decide, by decide +kernel, by decide +kernel, by decide +kernel⟩
        exact absurd hq List.not_mem_nil, ⟨by decide, by decide⟩, rfl, by decide, by decide +kernel, by decide +kernel, by decide +kernel⟩, fun q => ?_⟩
      refine v_astore hG [(0, _), (1, _), (2, _), (3, _), (4, _)] dL_yearOf_17 (by decide) rfl ?_
      refine v_iconst hG dL_yearOf_19 ?_
      exact w_iret hG hR ⟨Nat.le_of_ble_eq_true rfl, Nat.le_of_ble_eq_true rfl⟩ dL_yearOf_20 (Or.inr (Or.inr (⟨rfl, hx⟩)))
  · intro x z2 hp
    refine v_i2l hG dL_yearOf_8 ?_
    refine v_lastore hG dL_yearOf_9 ?_
    refine v_goto hG 21 dL_yearOf_10 (by decide) ?_
    refine v_iconst hG dL_yearOf_21 ?_
    exact w_iret hG hR ⟨Nat.le_of_ble_eq_true rfl, Nat.le_of_ble_eq_true rfl⟩ dL_yearOf_22 (Or.inl (⟨rfl, x, z2, hp, rfl⟩))

set_option maxHeartbeats 4000000 in
set_option maxRecDepth 100000 in
theorem c_L_weekday {l : Launch} {D : va_G} {cA : Nat → ClassId} {r : Nat → Nat} {z : Zt} {d : Int} (hr : Inj r) (hst : l.stackTraces = false) (h0 : kd 0 = 1) (hd : -2147483648 ≤ d ∧ d < 2147483648) : Kw l D cA r yL_weekday wsL_weekday 8 133 1 z [.ref (r 0), .int (iN d), .ref (r 176)] (fun v z1 => (v = 0 ∧ ∃ (x : Int) (z2 : Zt), (fun x z1 => z = z1 ∧ (0 ≤ d ∧ d ≤ 20000) ∧ x = d % 7) x z2 ∧ zup z2 176 0 (jl x) = z1) ∨ (v = 1 ∧ (fun E z1 => z = z1 ∧ E = xIA ∧ ¬ (0 ≤ d ∧ d ≤ 20000)) xIA z1)) := by
  refine Kw_of [(0, _), (1, _), (2, _)] hr (by decide) rfl rfl (Nat.le_of_ble_eq_true rfl) rfl (fun Γ hG hR => ?_)
  refine v_aload_n hG dL_weekday_0 2 rfl ?_
  refine v_iconst hG dL_weekday_1 ?_
  refine v_aload_n hG dL_weekday_2 0 rfl ?_
  refine v_iload_n hG dL_weekday_3 1 rfl ?_
  refine w_callV (n := 1) (ci := 4) hG hR (c_X4_weekday hr hst h0 hd) gL_weekday_X4_weekday rfl (by decide +kernel) rfl ⟨Nat.le_of_ble_eq_true rfl, Nat.le_of_ble_eq_true rfl⟩ h0 (by decide) (cl_1 _ _ _ _) rfl dL_weekday_4 rfl (Nat.le_of_ble_eq_true rfl) ⟨rfl, rfl⟩ ⟨Nat.le_of_ble_eq_true rfl, Nat.le_of_ble_eq_true rfl⟩ ?_ ?_
  · intro E z1 hx
    have hE : E = xIA := hx.2.1
    rcases hE with rfl
    · refine ⟨12, ⟨[], (0, 9, 12, 15), [], rfl, fun _ h => absurd h List.not_mem_nil, ⟨by decide, by decide⟩, rfl, by decide, by decide +kernel, by decide +kernel, by decide +kernel⟩, fun q => ?_⟩
      refine v_astore_n hG [(0, _), (1, _), (2, _), (3, _)] dL_weekday_12 (by decide) rfl ?_
      refine v_iconst hG dL_weekday_13 ?_
      exact w_iret hG hR ⟨Nat.le_of_ble_eq_true rfl, Nat.le_of_ble_eq_true rfl⟩ dL_weekday_14 (Or.inr (⟨rfl, hx⟩))
  · intro x z2 hp
    refine v_i2l hG dL_weekday_7 ?_
    refine v_lastore hG dL_weekday_8 ?_
    refine v_goto hG 15 dL_weekday_9 (by decide) ?_
    refine v_iconst hG dL_weekday_15 ?_
    exact w_iret hG hR ⟨Nat.le_of_ble_eq_true rfl, Nat.le_of_ble_eq_true rfl⟩ dL_weekday_16 (Or.inl (⟨rfl, x, z2, hp, rfl⟩))

set_option maxHeartbeats 4000000 in
set_option maxRecDepth 100000 in
theorem c_L_dayOfDate {l : Launch} {D : va_G} {cA : Nat → ClassId} {r : Nat → Nat} {z : Zt} {t y m q : Int} (hr : Inj r) (hst : l.stackTraces = false) (h0 : kd 0 = 1) (hS : SI z 1) (ht : -2147483648 ≤ t ∧ t < 2147483648) (hy : -2147483648 ≤ y ∧ y < 2147483648) (hm : -2147483648 ≤ m ∧ m < 2147483648) (hq : -2147483648 ≤ q ∧ q < 2147483648) : Kw l D cA r yL_dayOfDate wsL_dayOfDate 9 157 4 z [.ref (r 0), .int (iN t), .int (iN y), .int (iN m), .int (iN q), .ref (r 176)] (fun v z1 => (v = 0 ∧ ∃ (x : Int) (z2 : Zt), (fun x z1 => z = z1 ∧ (0 ≤ t ∧ t ≤ 1) ∧ ((1 ≤ y ∧ y ≤ 60) ∧ (1 ≤ m ∧ m ≤ 12) ∧ (1 ≤ q ∧ q ≤ 31)) ∧ x = (if 12 < m ∨ mlen (z (tid t) 0) m < q then -1 else if calT z (tid t) (fdT z (tid t) (dof (z (tid t) 0) y m q)) = dof (z (tid t) 0) y m q then fdT z (tid t) (dof (z (tid t) 0) y m q) else -1)) x z2 ∧ zup z2 176 0 (jl x) = z1) ∨ (v = 1 ∧ (fun E z1 => z = z1 ∧ ((E = xIO ∧ ¬ (0 ≤ t ∧ t ≤ 1)) ∨ (E = xIA ∧ (0 ≤ t ∧ t ≤ 1) ∧ ¬ ((1 ≤ y ∧ y ≤ 60) ∧ (1 ≤ m ∧ m ≤ 12) ∧ (1 ≤ q ∧ q ≤ 31))))) xIO z1) ∨ (v = 2 ∧ (fun E z1 => z = z1 ∧ ((E = xIO ∧ ¬ (0 ≤ t ∧ t ≤ 1)) ∨ (E = xIA ∧ (0 ≤ t ∧ t ≤ 1) ∧ ¬ ((1 ≤ y ∧ y ≤ 60) ∧ (1 ≤ m ∧ m ≤ 12) ∧ (1 ≤ q ∧ q ≤ 31))))) xIA z1)) := by
  refine Kw_of [(0, _), (1, _), (2, _), (3, _), (4, _), (5, _)] hr (by decide) rfl rfl (Nat.le_of_ble_eq_true rfl) rfl (fun Γ hG hR => ?_)
  refine v_aload hG dL_dayOfDate_0 5 rfl ?_
  refine v_iconst hG dL_dayOfDate_2 ?_
  refine v_aload_n hG dL_dayOfDate_3 0 rfl ?_
  refine v_iload_n hG dL_dayOfDate_4 1 rfl ?_
  refine v_iload_n hG dL_dayOfDate_5 2 rfl ?_
  refine v_iload_n hG dL_dayOfDate_6 3 rfl ?_
  refine v_iload hG dL_dayOfDate_7 4 rfl ?_
  refine w_callV (n := 4) (ci := 4) hG hR (c_X4_dayOfDate hr hst h0 hS ht hy hm hq) gL_dayOfDate_X4_dayOfDate rfl (by decide +kernel) rfl ⟨Nat.le_of_ble_eq_true rfl, Nat.le_of_ble_eq_true rfl⟩ h0 (by decide) (cl_1 _ _ _ _) rfl dL_dayOfDate_9 rfl (Nat.le_of_ble_eq_true rfl) ⟨rfl, rfl⟩ ⟨Nat.le_of_ble_eq_true rfl, Nat.le_of_ble_eq_true rfl⟩ ?_ ?_
  · intro E z1 hx
    have hE : E = xIO ∨ E = xIA := hx.2.elim (fun h => Or.inl h.1) (fun h => Or.inr h.1)
    rcases hE with rfl | rfl
    · refine ⟨17, ⟨[], (0, 14, 17, 13), [(0, 14, 21, 15)], rfl, fun _ h => absurd h List.not_mem_nil, ⟨by decide, by decide⟩, rfl, by decide, by decide +kernel, by decide +kernel, by decide +kernel⟩, fun q => ?_⟩
      refine v_astore hG [(0, _), (1, _), (2, _), (3, _), (4, _), (5, _), (6, _)] dL_dayOfDate_17 (by decide) rfl ?_
      refine v_iconst hG dL_dayOfDate_19 ?_
      exact w_iret hG hR ⟨Nat.le_of_ble_eq_true rfl, Nat.le_of_ble_eq_true rfl⟩ dL_dayOfDate_20 (Or.inr (Or.inl (⟨rfl, hx⟩)))
    · refine ⟨21, ⟨[(0, 14, 17, 13)], (0, 14, 21, 15), [], rfl, by
        intro q hq
        rcases List.mem_cons.mp hq with rfl | hq
        · exact ⟨by decide, by decide +kernel, by decide +kernel, by decide +kernel⟩
        exact absurd hq List.not_mem_nil, ⟨by decide, by decide⟩, rfl, by decide, by decide +kernel, by decide +kernel, by decide +kernel⟩, fun q => ?_⟩
      refine v_astore hG [(0, _), (1, _), (2, _), (3, _), (4, _), (5, _), (6, _)] dL_dayOfDate_21 (by decide) rfl ?_
      refine v_iconst hG dL_dayOfDate_23 ?_
      exact w_iret hG hR ⟨Nat.le_of_ble_eq_true rfl, Nat.le_of_ble_eq_true rfl⟩ dL_dayOfDate_24 (Or.inr (Or.inr (⟨rfl, hx⟩)))
  · intro x z2 hp
    refine v_i2l hG dL_dayOfDate_12 ?_
    refine v_lastore hG dL_dayOfDate_13 ?_
    refine v_goto hG 25 dL_dayOfDate_14 (by decide) ?_
    refine v_iconst hG dL_dayOfDate_25 ?_
    exact w_iret hG hR ⟨Nat.le_of_ble_eq_true rfl, Nat.le_of_ble_eq_true rfl⟩ dL_dayOfDate_26 (Or.inl (⟨rfl, x, z2, hp, rfl⟩))

set_option maxHeartbeats 4000000 in
set_option maxRecDepth 100000 in
theorem c_L_addFeast {l : Launch} {D : va_G} {cA : Nat → ClassId} {r : Nat → Nat} {z : Zt} {t m q : Int} (hr : Inj r) (hst : l.stackTraces = false) (h0 : kd 0 = 1) (hS : SI z 1)  (hP : PI z) (hA : AI z) (ht : -2147483648 ≤ t ∧ t < 2147483648) (hm : -2147483648 ≤ m ∧ m < 2147483648) (hq : -2147483648 ≤ q ∧ q < 2147483648) : Kw l D cA r yL_addFeast wsL_addFeast 9 155 4 z [.ref (r 0), .int (iN t), .int (iN m), .int (iN q), .ref (r 176)] (fun v z1 => (v = 0 ∧ ∃ (x : Int) (z2 : Zt), (fun x z1 => pfZ (recZ z) 1 t m q = z1 ∧ (0 ≤ t ∧ t ≤ 1) ∧ ((1 ≤ m ∧ m ≤ 12) ∧ (1 ≤ q ∧ q ≤ 31)) ∧ z 1 3 < 10 ∧ x = z 1 3) x z2 ∧ zup z2 176 0 (jl x) = z1) ∨ (v = 1 ∧ (fun E z1 => z = z1 ∧ ((E = xIO ∧ ¬ (0 ≤ t ∧ t ≤ 1)) ∨ (E = xIA ∧ (0 ≤ t ∧ t ≤ 1) ∧ ¬ ((1 ≤ m ∧ m ≤ 12) ∧ (1 ≤ q ∧ q ≤ 31))) ∨ (E = xIS ∧ (0 ≤ t ∧ t ≤ 1) ∧ ((1 ≤ m ∧ m ≤ 12) ∧ (1 ≤ q ∧ q ≤ 31)) ∧ 10 ≤ z 1 3))) xIO z1) ∨ (v = 2 ∧ (fun E z1 => z = z1 ∧ ((E = xIO ∧ ¬ (0 ≤ t ∧ t ≤ 1)) ∨ (E = xIA ∧ (0 ≤ t ∧ t ≤ 1) ∧ ¬ ((1 ≤ m ∧ m ≤ 12) ∧ (1 ≤ q ∧ q ≤ 31))) ∨ (E = xIS ∧ (0 ≤ t ∧ t ≤ 1) ∧ ((1 ≤ m ∧ m ≤ 12) ∧ (1 ≤ q ∧ q ≤ 31)) ∧ 10 ≤ z 1 3))) xIA z1) ∨ (v = 3 ∧ (fun E z1 => z = z1 ∧ ((E = xIO ∧ ¬ (0 ≤ t ∧ t ≤ 1)) ∨ (E = xIA ∧ (0 ≤ t ∧ t ≤ 1) ∧ ¬ ((1 ≤ m ∧ m ≤ 12) ∧ (1 ≤ q ∧ q ≤ 31))) ∨ (E = xIS ∧ (0 ≤ t ∧ t ≤ 1) ∧ ((1 ≤ m ∧ m ≤ 12) ∧ (1 ≤ q ∧ q ≤ 31)) ∧ 10 ≤ z 1 3))) xIS z1)) := by
  refine Kw_of [(0, _), (1, _), (2, _), (3, _), (4, _)] hr (by decide) rfl rfl (Nat.le_of_ble_eq_true rfl) rfl (fun Γ hG hR => ?_)
  refine v_aload hG dL_addFeast_0 4 rfl ?_
  refine v_iconst hG dL_addFeast_2 ?_
  refine v_aload_n hG dL_addFeast_3 0 rfl ?_
  refine v_iload_n hG dL_addFeast_4 1 rfl ?_
  refine v_iload_n hG dL_addFeast_5 2 rfl ?_
  refine v_iload_n hG dL_addFeast_6 3 rfl ?_
  refine w_callV (n := 3) (ci := 4) hG hR (c_X4_addFeast hr hst h0 hS hP hA ht hm hq) gL_addFeast_X4_addFeast rfl (by decide +kernel) rfl ⟨Nat.le_of_ble_eq_true rfl, Nat.le_of_ble_eq_true rfl⟩ h0 (by decide) (cl_1 _ _ _ _) rfl dL_addFeast_7 rfl (Nat.le_of_ble_eq_true rfl) ⟨rfl, rfl⟩ ⟨Nat.le_of_ble_eq_true rfl, Nat.le_of_ble_eq_true rfl⟩ ?_ ?_
  · intro E z1 hx
    have hE : E = xIO ∨ E = xIA ∨ E = xIS := hx.2.elim (fun h => Or.inl h.1) (fun h => h.elim (fun h => Or.inr (Or.inl h.1)) (fun h => Or.inr (Or.inr h.1)))
    rcases hE with rfl | rfl | rfl
    · refine ⟨15, ⟨[], (0, 12, 15, 13), [(0, 12, 19, 15), (0, 12, 23, 17)], rfl, fun _ h => absurd h List.not_mem_nil, ⟨by decide, by decide⟩, rfl, by decide, by decide +kernel, by decide +kernel, by decide +kernel⟩, fun q => ?_⟩
      refine v_astore hG [(0, _), (1, _), (2, _), (3, _), (4, _), (5, _)] dL_addFeast_15 (by decide) rfl ?_
      refine v_iconst hG dL_addFeast_17 ?_
      exact w_iret hG hR ⟨Nat.le_of_ble_eq_true rfl, Nat.le_of_ble_eq_true rfl⟩ dL_addFeast_18 (Or.inr (Or.inl (⟨rfl, hx⟩)))
    · refine ⟨19, ⟨[(0, 12, 15, 13)], (0, 12, 19, 15), [(0, 12, 23, 17)], rfl, by
        intro q hq
        rcases List.mem_cons.mp hq with rfl | hq
        · exact ⟨by decide, by decide +kernel, by decide +kernel, by decide +kernel⟩
        exact absurd hq List.not_mem_nil, ⟨by decide, by decide⟩, rfl, by decide, by decide +kernel, by decide +kernel, by decide +kernel⟩, fun q => ?_⟩
      refine v_astore hG [(0, _), (1, _), (2, _), (3, _), (4, _), (5, _)] dL_addFeast_19 (by decide) rfl ?_
      refine v_iconst hG dL_addFeast_21 ?_
      exact w_iret hG hR ⟨Nat.le_of_ble_eq_true rfl, Nat.le_of_ble_eq_true rfl⟩ dL_addFeast_22 (Or.inr (Or.inr (Or.inl (⟨rfl, hx⟩))))
    · refine ⟨23, ⟨[(0, 12, 15, 13), (0, 12, 19, 15)], (0, 12, 23, 17), [], rfl, by
        intro q hq
        rcases List.mem_cons.mp hq with rfl | hq
        · exact ⟨by decide, by decide +kernel, by decide +kernel, by decide +kernel⟩
        rcases List.mem_cons.mp hq with rfl | hq
        · exact ⟨by decide, by decide +kernel, by decide +kernel, by decide +kernel⟩
        exact absurd hq List.not_mem_nil, ⟨by decide, by decide⟩, rfl, by decide, by decide +kernel, by decide +kernel, by decide +kernel⟩, fun q => ?_⟩
      refine v_astore hG [(0, _), (1, _), (2, _), (3, _), (4, _), (5, _)] dL_addFeast_23 (by decide) rfl ?_
      refine v_iconst hG dL_addFeast_25 ?_
      exact w_iret hG hR ⟨Nat.le_of_ble_eq_true rfl, Nat.le_of_ble_eq_true rfl⟩ dL_addFeast_26 (Or.inr (Or.inr (Or.inr (⟨rfl, hx⟩))))
  · intro x z2 hp
    refine v_i2l hG dL_addFeast_10 ?_
    refine v_lastore hG dL_addFeast_11 ?_
    refine v_goto hG 27 dL_addFeast_12 (by decide) ?_
    refine v_iconst hG dL_addFeast_27 ?_
    exact w_iret hG hR ⟨Nat.le_of_ble_eq_true rfl, Nat.le_of_ble_eq_true rfl⟩ dL_addFeast_28 (Or.inl (⟨rfl, x, z2, hp, rfl⟩))

set_option maxHeartbeats 4000000 in
set_option maxRecDepth 100000 in
theorem c_L_barWeekday {l : Launch} {D : va_G} {cA : Nat → ClassId} {r : Nat → Nat} {z : Zt} {f w : Int} (hr : Inj r) (hst : l.stackTraces = false) (h0 : kd 0 = 1) (hS : SI z 1)  (hP : PI z) (hA : AI z) (hf : -2147483648 ≤ f ∧ f < 2147483648) (hw : -2147483648 ≤ w ∧ w < 2147483648) : Kw l D cA r yL_barWeekday wsL_barWeekday 9 156 2 z [.ref (r 0), .int (iN f), .int (iN w), .ref (r 176)] (fun v z1 => (v = 0 ∧ ∃ (x : Int) (z2 : Zt), (fun x z1 => zup (recZ z) (9 + f.toNat) 3 w = z1 ∧ (0 ≤ f ∧ f < z 1 3) ∧ (0 ≤ w ∧ w ≤ 6) ∧ x = z (9 + f.toNat) 3) x z2 ∧ zup z2 176 0 (jl x) = z1) ∨ (v = 1 ∧ (fun E z1 => z = z1 ∧ ((E = xIO ∧ ¬ (0 ≤ f ∧ f < z 1 3)) ∨ (E = xIA ∧ (0 ≤ f ∧ f < z 1 3) ∧ ¬ (0 ≤ w ∧ w ≤ 6)))) xIO z1) ∨ (v = 2 ∧ (fun E z1 => z = z1 ∧ ((E = xIO ∧ ¬ (0 ≤ f ∧ f < z 1 3)) ∨ (E = xIA ∧ (0 ≤ f ∧ f < z 1 3) ∧ ¬ (0 ≤ w ∧ w ≤ 6)))) xIA z1)) := by
  refine Kw_of [(0, _), (1, _), (2, _), (3, _)] hr (by decide) rfl rfl (Nat.le_of_ble_eq_true rfl) rfl (fun Γ hG hR => ?_)
  refine v_aload_n hG dL_barWeekday_0 3 rfl ?_
  refine v_iconst hG dL_barWeekday_1 ?_
  refine v_aload_n hG dL_barWeekday_2 0 rfl ?_
  refine v_iload_n hG dL_barWeekday_3 1 rfl ?_
  refine v_iload_n hG dL_barWeekday_4 2 rfl ?_
  refine w_callV (n := 2) (ci := 4) hG hR (c_X4_barWeekday hr hst h0 hS hP hA hf hw) gL_barWeekday_X4_barWeekday rfl (by decide +kernel) rfl ⟨Nat.le_of_ble_eq_true rfl, Nat.le_of_ble_eq_true rfl⟩ h0 (by decide) (cl_1 _ _ _ _) rfl dL_barWeekday_5 rfl (Nat.le_of_ble_eq_true rfl) ⟨rfl, rfl⟩ ⟨Nat.le_of_ble_eq_true rfl, Nat.le_of_ble_eq_true rfl⟩ ?_ ?_
  · intro E z1 hx
    have hE : E = xIO ∨ E = xIA := hx.2.elim (fun h => Or.inl h.1) (fun h => Or.inr h.1)
    rcases hE with rfl | rfl
    · refine ⟨13, ⟨[], (0, 10, 13, 13), [(0, 10, 17, 15)], rfl, fun _ h => absurd h List.not_mem_nil, ⟨by decide, by decide⟩, rfl, by decide, by decide +kernel, by decide +kernel, by decide +kernel⟩, fun q => ?_⟩
      refine v_astore hG [(0, _), (1, _), (2, _), (3, _), (4, _)] dL_barWeekday_13 (by decide) rfl ?_
      refine v_iconst hG dL_barWeekday_15 ?_
      exact w_iret hG hR ⟨Nat.le_of_ble_eq_true rfl, Nat.le_of_ble_eq_true rfl⟩ dL_barWeekday_16 (Or.inr (Or.inl (⟨rfl, hx⟩)))
    · refine ⟨17, ⟨[(0, 10, 13, 13)], (0, 10, 17, 15), [], rfl, by
        intro q hq
        rcases List.mem_cons.mp hq with rfl | hq
        · exact ⟨by decide, by decide +kernel, by decide +kernel, by decide +kernel⟩
        exact absurd hq List.not_mem_nil, ⟨by decide, by decide⟩, rfl, by decide, by decide +kernel, by decide +kernel, by decide +kernel⟩, fun q => ?_⟩
      refine v_astore hG [(0, _), (1, _), (2, _), (3, _), (4, _)] dL_barWeekday_17 (by decide) rfl ?_
      refine v_iconst hG dL_barWeekday_19 ?_
      exact w_iret hG hR ⟨Nat.le_of_ble_eq_true rfl, Nat.le_of_ble_eq_true rfl⟩ dL_barWeekday_20 (Or.inr (Or.inr (⟨rfl, hx⟩)))
  · intro x z2 hp
    refine v_i2l hG dL_barWeekday_8 ?_
    refine v_lastore hG dL_barWeekday_9 ?_
    refine v_goto hG 21 dL_barWeekday_10 (by decide) ?_
    refine v_iconst hG dL_barWeekday_21 ?_
    exact w_iret hG hR ⟨Nat.le_of_ble_eq_true rfl, Nat.le_of_ble_eq_true rfl⟩ dL_barWeekday_22 (Or.inl (⟨rfl, x, z2, hp, rfl⟩))

set_option maxHeartbeats 4000000 in
set_option maxRecDepth 100000 in
theorem c_L_allowAllWeekdays {l : Launch} {D : va_G} {cA : Nat → ClassId} {r : Nat → Nat} {z : Zt} {f : Int} (hr : Inj r) (hst : l.stackTraces = false) (h0 : kd 0 = 1) (hS : SI z 1)  (hP : PI z) (hA : AI z) (hf : -2147483648 ≤ f ∧ f < 2147483648) : Kw l D cA r yL_allowAllWeekdays wsL_allowAllWeekdays 9 155 2 z [.ref (r 0), .int (iN f), .ref (r 176)] (fun v z1 => (v = 0 ∧ ∃ (x : Int) (z2 : Zt), (fun x z1 => zup (recZ z) (9 + f.toNat) 3 (-1) = z1 ∧ (0 ≤ f ∧ f < z 1 3) ∧ z (9 + f.toNat) 3 ≠ -1 ∧ x = z (9 + f.toNat) 3) x z2 ∧ zup z2 176 0 (jl x) = z1) ∨ (v = 1 ∧ (fun E z1 => z = z1 ∧ ((E = xIO ∧ ¬ (0 ≤ f ∧ f < z 1 3)) ∨ (E = xIS ∧ (0 ≤ f ∧ f < z 1 3) ∧ z (9 + f.toNat) 3 = -1))) xIO z1) ∨ (v = 2 ∧ (fun E z1 => z = z1 ∧ ((E = xIO ∧ ¬ (0 ≤ f ∧ f < z 1 3)) ∨ (E = xIS ∧ (0 ≤ f ∧ f < z 1 3) ∧ z (9 + f.toNat) 3 = -1))) xIS z1)) := by
  refine Kw_of [(0, _), (1, _), (2, _)] hr (by decide) rfl rfl (Nat.le_of_ble_eq_true rfl) rfl (fun Γ hG hR => ?_)
  refine v_aload_n hG dL_allowAllWeekdays_0 2 rfl ?_
  refine v_iconst hG dL_allowAllWeekdays_1 ?_
  refine v_aload_n hG dL_allowAllWeekdays_2 0 rfl ?_
  refine v_iload_n hG dL_allowAllWeekdays_3 1 rfl ?_
  refine w_callV (n := 1) (ci := 4) hG hR (c_X4_allowAllWeekdays hr hst h0 hS hP hA hf) gL_allowAllWeekdays_X4_allowAllWeekdays rfl (by decide +kernel) rfl ⟨Nat.le_of_ble_eq_true rfl, Nat.le_of_ble_eq_true rfl⟩ h0 (by decide) (cl_1 _ _ _ _) rfl dL_allowAllWeekdays_4 rfl (Nat.le_of_ble_eq_true rfl) ⟨rfl, rfl⟩ ⟨Nat.le_of_ble_eq_true rfl, Nat.le_of_ble_eq_true rfl⟩ ?_ ?_
  · intro E z1 hx
    have hE : E = xIO ∨ E = xIS := hx.2.elim (fun h => Or.inl h.1) (fun h => Or.inr h.1)
    rcases hE with rfl | rfl
    · refine ⟨12, ⟨[], (0, 9, 12, 13), [(0, 9, 15, 17)], rfl, fun _ h => absurd h List.not_mem_nil, ⟨by decide, by decide⟩, rfl, by decide, by decide +kernel, by decide +kernel, by decide +kernel⟩, fun q => ?_⟩
      refine v_astore_n hG [(0, _), (1, _), (2, _), (3, _)] dL_allowAllWeekdays_12 (by decide) rfl ?_
      refine v_iconst hG dL_allowAllWeekdays_13 ?_
      exact w_iret hG hR ⟨Nat.le_of_ble_eq_true rfl, Nat.le_of_ble_eq_true rfl⟩ dL_allowAllWeekdays_14 (Or.inr (Or.inl (⟨rfl, hx⟩)))
    · refine ⟨15, ⟨[(0, 9, 12, 13)], (0, 9, 15, 17), [], rfl, by
        intro q hq
        rcases List.mem_cons.mp hq with rfl | hq
        · exact ⟨by decide, by decide +kernel, by decide +kernel, by decide +kernel⟩
        exact absurd hq List.not_mem_nil, ⟨by decide, by decide⟩, rfl, by decide, by decide +kernel, by decide +kernel, by decide +kernel⟩, fun q => ?_⟩
      refine v_astore_n hG [(0, _), (1, _), (2, _), (3, _)] dL_allowAllWeekdays_15 (by decide) rfl ?_
      refine v_iconst hG dL_allowAllWeekdays_16 ?_
      exact w_iret hG hR ⟨Nat.le_of_ble_eq_true rfl, Nat.le_of_ble_eq_true rfl⟩ dL_allowAllWeekdays_17 (Or.inr (Or.inr (⟨rfl, hx⟩)))
  · intro x z2 hp
    refine v_i2l hG dL_allowAllWeekdays_7 ?_
    refine v_lastore hG dL_allowAllWeekdays_8 ?_
    refine v_goto hG 18 dL_allowAllWeekdays_9 (by decide) ?_
    refine v_iconst hG dL_allowAllWeekdays_18 ?_
    exact w_iret hG hR ⟨Nat.le_of_ble_eq_true rfl, Nat.le_of_ble_eq_true rfl⟩ dL_allowAllWeekdays_19 (Or.inl (⟨rfl, x, z2, hp, rfl⟩))

set_option maxHeartbeats 4000000 in
set_option maxRecDepth 100000 in
theorem c_L_feastTown {l : Launch} {D : va_G} {cA : Nat → ClassId} {r : Nat → Nat} {z : Zt} {f : Int} (hr : Inj r) (hst : l.stackTraces = false) (h0 : kd 0 = 1) (hS : SI z 1) (hf : -2147483648 ≤ f ∧ f < 2147483648) : Kw l D cA r yL_feastTown wsL_feastTown 9 153 1 z [.ref (r 0), .int (iN f), .ref (r 176)] (fun v z1 => (v = 0 ∧ ∃ (x : Int) (z2 : Zt), (fun x z1 => z = z1 ∧ (0 ≤ f ∧ f < z 1 3) ∧ x = z (9 + f.toNat) 0) x z2 ∧ zup z2 176 0 (jl x) = z1) ∨ (v = 1 ∧ (fun E z1 => z = z1 ∧ E = xIO ∧ ¬ (0 ≤ f ∧ f < z 1 3)) xIO z1)) := by
  refine Kw_of [(0, _), (1, _), (2, _)] hr (by decide) rfl rfl (Nat.le_of_ble_eq_true rfl) rfl (fun Γ hG hR => ?_)
  refine v_aload_n hG dL_feastTown_0 2 rfl ?_
  refine v_iconst hG dL_feastTown_1 ?_
  refine v_aload_n hG dL_feastTown_2 0 rfl ?_
  refine v_iload_n hG dL_feastTown_3 1 rfl ?_
  refine w_callV (n := 1) (ci := 4) hG hR (c_X4_feastTown hr hst h0 hS hf) gL_feastTown_X4_feastTown rfl (by decide +kernel) rfl ⟨Nat.le_of_ble_eq_true rfl, Nat.le_of_ble_eq_true rfl⟩ h0 (by decide) (cl_1 _ _ _ _) rfl dL_feastTown_4 rfl (Nat.le_of_ble_eq_true rfl) ⟨rfl, rfl⟩ ⟨Nat.le_of_ble_eq_true rfl, Nat.le_of_ble_eq_true rfl⟩ ?_ ?_
  · intro E z1 hx
    have hE : E = xIO := hx.2.1
    rcases hE with rfl
    · refine ⟨12, ⟨[], (0, 9, 12, 13), [], rfl, fun _ h => absurd h List.not_mem_nil, ⟨by decide, by decide⟩, rfl, by decide, by decide +kernel, by decide +kernel, by decide +kernel⟩, fun q => ?_⟩
      refine v_astore_n hG [(0, _), (1, _), (2, _), (3, _)] dL_feastTown_12 (by decide) rfl ?_
      refine v_iconst hG dL_feastTown_13 ?_
      exact w_iret hG hR ⟨Nat.le_of_ble_eq_true rfl, Nat.le_of_ble_eq_true rfl⟩ dL_feastTown_14 (Or.inr (⟨rfl, hx⟩))
  · intro x z2 hp
    refine v_i2l hG dL_feastTown_7 ?_
    refine v_lastore hG dL_feastTown_8 ?_
    refine v_goto hG 15 dL_feastTown_9 (by decide) ?_
    refine v_iconst hG dL_feastTown_15 ?_
    exact w_iret hG hR ⟨Nat.le_of_ble_eq_true rfl, Nat.le_of_ble_eq_true rfl⟩ dL_feastTown_16 (Or.inl (⟨rfl, x, z2, hp, rfl⟩))

set_option maxHeartbeats 4000000 in
set_option maxRecDepth 100000 in
theorem c_L_barredWeekday {l : Launch} {D : va_G} {cA : Nat → ClassId} {r : Nat → Nat} {z : Zt} {f : Int} (hr : Inj r) (hst : l.stackTraces = false) (h0 : kd 0 = 1) (hS : SI z 1) (hf : -2147483648 ≤ f ∧ f < 2147483648) : Kw l D cA r yL_barredWeekday wsL_barredWeekday 9 153 1 z [.ref (r 0), .int (iN f), .ref (r 176)] (fun v z1 => (v = 0 ∧ ∃ (x : Int) (z2 : Zt), (fun x z1 => z = z1 ∧ (0 ≤ f ∧ f < z 1 3) ∧ x = z (9 + f.toNat) 3) x z2 ∧ zup z2 176 0 (jl x) = z1) ∨ (v = 1 ∧ (fun E z1 => z = z1 ∧ E = xIO ∧ ¬ (0 ≤ f ∧ f < z 1 3)) xIO z1)) := by
  refine Kw_of [(0, _), (1, _), (2, _)] hr (by decide) rfl rfl (Nat.le_of_ble_eq_true rfl) rfl (fun Γ hG hR => ?_)
  refine v_aload_n hG dL_barredWeekday_0 2 rfl ?_
  refine v_iconst hG dL_barredWeekday_1 ?_
  refine v_aload_n hG dL_barredWeekday_2 0 rfl ?_
  refine v_iload_n hG dL_barredWeekday_3 1 rfl ?_
  refine w_callV (n := 1) (ci := 4) hG hR (c_X4_barredWeekday hr hst h0 hS hf) gL_barredWeekday_X4_barredWeekday rfl (by decide +kernel) rfl ⟨Nat.le_of_ble_eq_true rfl, Nat.le_of_ble_eq_true rfl⟩ h0 (by decide) (cl_1 _ _ _ _) rfl dL_barredWeekday_4 rfl (Nat.le_of_ble_eq_true rfl) ⟨rfl, rfl⟩ ⟨Nat.le_of_ble_eq_true rfl, Nat.le_of_ble_eq_true rfl⟩ ?_ ?_
  · intro E z1 hx
    have hE : E = xIO := hx.2.1
    rcases hE with rfl
    · refine ⟨12, ⟨[], (0, 9, 12, 13), [], rfl, fun _ h => absurd h List.not_mem_nil, ⟨by decide, by decide⟩, rfl, by decide, by decide +kernel, by decide +kernel, by decide +kernel⟩, fun q => ?_⟩
      refine v_astore_n hG [(0, _), (1, _), (2, _), (3, _)] dL_barredWeekday_12 (by decide) rfl ?_
      refine v_iconst hG dL_barredWeekday_13 ?_
      exact w_iret hG hR ⟨Nat.le_of_ble_eq_true rfl, Nat.le_of_ble_eq_true rfl⟩ dL_barredWeekday_14 (Or.inr (⟨rfl, hx⟩))
  · intro x z2 hp
    refine v_i2l hG dL_barredWeekday_7 ?_
    refine v_lastore hG dL_barredWeekday_8 ?_
    refine v_goto hG 15 dL_barredWeekday_9 (by decide) ?_
    refine v_iconst hG dL_barredWeekday_15 ?_
    exact w_iret hG hR ⟨Nat.le_of_ble_eq_true rfl, Nat.le_of_ble_eq_true rfl⟩ dL_barredWeekday_16 (Or.inl (⟨rfl, x, z2, hp, rfl⟩))

set_option maxHeartbeats 4000000 in
set_option maxRecDepth 100000 in
theorem c_L_dayDue {l : Launch} {D : va_G} {cA : Nat → ClassId} {r : Nat → Nat} {z : Zt} {f y : Int} (hr : Inj r) (hst : l.stackTraces = false) (h0 : kd 0 = 1) (hS : SI z 1) (hf : -2147483648 ≤ f ∧ f < 2147483648) (hy : -2147483648 ≤ y ∧ y < 2147483648) : Kw l D cA r yL_dayDue wsL_dayDue 9 155 2 z [.ref (r 0), .int (iN f), .int (iN y), .ref (r 176)] (fun v z1 => (v = 0 ∧ ∃ (x : Int) (z2 : Zt), (fun x z1 => z = z1 ∧ (0 ≤ f ∧ f < z 1 3) ∧ (1 ≤ y ∧ y ≤ 60) ∧ x = dS z 1 (9 + f.toNat) y) x z2 ∧ zup z2 176 0 (jl x) = z1) ∨ (v = 1 ∧ (fun E z1 => z = z1 ∧ ((E = xIO ∧ ¬ (0 ≤ f ∧ f < z 1 3)) ∨ (E = xIA ∧ (0 ≤ f ∧ f < z 1 3) ∧ ¬ (1 ≤ y ∧ y ≤ 60)))) xIO z1) ∨ (v = 2 ∧ (fun E z1 => z = z1 ∧ ((E = xIO ∧ ¬ (0 ≤ f ∧ f < z 1 3)) ∨ (E = xIA ∧ (0 ≤ f ∧ f < z 1 3) ∧ ¬ (1 ≤ y ∧ y ≤ 60)))) xIA z1)) := by
  refine Kw_of [(0, _), (1, _), (2, _), (3, _)] hr (by decide) rfl rfl (Nat.le_of_ble_eq_true rfl) rfl (fun Γ hG hR => ?_)
  refine v_aload_n hG dL_dayDue_0 3 rfl ?_
  refine v_iconst hG dL_dayDue_1 ?_
  refine v_aload_n hG dL_dayDue_2 0 rfl ?_
  refine v_iload_n hG dL_dayDue_3 1 rfl ?_
  refine v_iload_n hG dL_dayDue_4 2 rfl ?_
  refine w_callV (n := 2) (ci := 4) hG hR (c_X4_dayDue hr hst h0 hS hf hy) gL_dayDue_X4_dayDue rfl (by decide +kernel) rfl ⟨Nat.le_of_ble_eq_true rfl, Nat.le_of_ble_eq_true rfl⟩ h0 (by decide) (cl_1 _ _ _ _) rfl dL_dayDue_5 rfl (Nat.le_of_ble_eq_true rfl) ⟨rfl, rfl⟩ ⟨Nat.le_of_ble_eq_true rfl, Nat.le_of_ble_eq_true rfl⟩ ?_ ?_
  · intro E z1 hx
    have hE : E = xIO ∨ E = xIA := hx.2.elim (fun h => Or.inl h.1) (fun h => Or.inr h.1)
    rcases hE with rfl | rfl
    · refine ⟨13, ⟨[], (0, 10, 13, 13), [(0, 10, 17, 15)], rfl, fun _ h => absurd h List.not_mem_nil, ⟨by decide, by decide⟩, rfl, by decide, by decide +kernel, by decide +kernel, by decide +kernel⟩, fun q => ?_⟩
      refine v_astore hG [(0, _), (1, _), (2, _), (3, _), (4, _)] dL_dayDue_13 (by decide) rfl ?_
      refine v_iconst hG dL_dayDue_15 ?_
      exact w_iret hG hR ⟨Nat.le_of_ble_eq_true rfl, Nat.le_of_ble_eq_true rfl⟩ dL_dayDue_16 (Or.inr (Or.inl (⟨rfl, hx⟩)))
    · refine ⟨17, ⟨[(0, 10, 13, 13)], (0, 10, 17, 15), [], rfl, by
        intro q hq
        rcases List.mem_cons.mp hq with rfl | hq
        · exact ⟨by decide, by decide +kernel, by decide +kernel, by decide +kernel⟩
        exact absurd hq List.not_mem_nil, ⟨by decide, by decide⟩, rfl, by decide, by decide +kernel, by decide +kernel, by decide +kernel⟩, fun q => ?_⟩
      refine v_astore hG [(0, _), (1, _), (2, _), (3, _), (4, _)] dL_dayDue_17 (by decide) rfl ?_
      refine v_iconst hG dL_dayDue_19 ?_
      exact w_iret hG hR ⟨Nat.le_of_ble_eq_true rfl, Nat.le_of_ble_eq_true rfl⟩ dL_dayDue_20 (Or.inr (Or.inr (⟨rfl, hx⟩)))
  · intro x z2 hp
    refine v_i2l hG dL_dayDue_8 ?_
    refine v_lastore hG dL_dayDue_9 ?_
    refine v_goto hG 21 dL_dayDue_10 (by decide) ?_
    refine v_iconst hG dL_dayDue_21 ?_
    exact w_iret hG hR ⟨Nat.le_of_ble_eq_true rfl, Nat.le_of_ble_eq_true rfl⟩ dL_dayDue_22 (Or.inl (⟨rfl, x, z2, hp, rfl⟩))

set_option maxHeartbeats 4000000 in
set_option maxRecDepth 100000 in
theorem c_L_dayKept {l : Launch} {D : va_G} {cA : Nat → ClassId} {r : Nat → Nat} {z : Zt} {f y : Int} (hr : Inj r) (hst : l.stackTraces = false) (h0 : kd 0 = 1) (hS : SI z 1) (hf : -2147483648 ≤ f ∧ f < 2147483648) (hy : -2147483648 ≤ y ∧ y < 2147483648) : Kw l D cA r yL_dayKept wsL_dayKept 9 155 2 z [.ref (r 0), .int (iN f), .int (iN y), .ref (r 176)] (fun v z1 => (v = 0 ∧ ∃ (x : Int) (z2 : Zt), (fun x z1 => z = z1 ∧ (0 ≤ f ∧ f < z 1 3) ∧ (1 ≤ y ∧ y ≤ 60) ∧ x = kS z 1 (9 + f.toNat) y) x z2 ∧ zup z2 176 0 (jl x) = z1) ∨ (v = 1 ∧ (fun E z1 => z = z1 ∧ ((E = xIO ∧ ¬ (0 ≤ f ∧ f < z 1 3)) ∨ (E = xIA ∧ (0 ≤ f ∧ f < z 1 3) ∧ ¬ (1 ≤ y ∧ y ≤ 60)))) xIO z1) ∨ (v = 2 ∧ (fun E z1 => z = z1 ∧ ((E = xIO ∧ ¬ (0 ≤ f ∧ f < z 1 3)) ∨ (E = xIA ∧ (0 ≤ f ∧ f < z 1 3) ∧ ¬ (1 ≤ y ∧ y ≤ 60)))) xIA z1)) := by
  refine Kw_of [(0, _), (1, _), (2, _), (3, _)] hr (by decide) rfl rfl (Nat.le_of_ble_eq_true rfl) rfl (fun Γ hG hR => ?_)
  refine v_aload_n hG dL_dayKept_0 3 rfl ?_
  refine v_iconst hG dL_dayKept_1 ?_
  refine v_aload_n hG dL_dayKept_2 0 rfl ?_
  refine v_iload_n hG dL_dayKept_3 1 rfl ?_
  refine v_iload_n hG dL_dayKept_4 2 rfl ?_
  refine w_callV (n := 2) (ci := 4) hG hR (c_X4_dayKept hr hst h0 hS hf hy) gL_dayKept_X4_dayKept rfl (by decide +kernel) rfl ⟨Nat.le_of_ble_eq_true rfl, Nat.le_of_ble_eq_true rfl⟩ h0 (by decide) (cl_1 _ _ _ _) rfl dL_dayKept_5 rfl (Nat.le_of_ble_eq_true rfl) ⟨rfl, rfl⟩ ⟨Nat.le_of_ble_eq_true rfl, Nat.le_of_ble_eq_true rfl⟩ ?_ ?_
  · intro E z1 hx
    have hE : E = xIO ∨ E = xIA := hx.2.elim (fun h => Or.inl h.1) (fun h => Or.inr h.1)
    rcases hE with rfl | rfl
    · refine ⟨13, ⟨[], (0, 10, 13, 13), [(0, 10, 17, 15)], rfl, fun _ h => absurd h List.not_mem_nil, ⟨by decide, by decide⟩, rfl, by decide, by decide +kernel, by decide +kernel, by decide +kernel⟩, fun q => ?_⟩
      refine v_astore hG [(0, _), (1, _), (2, _), (3, _), (4, _)] dL_dayKept_13 (by decide) rfl ?_
      refine v_iconst hG dL_dayKept_15 ?_
      exact w_iret hG hR ⟨Nat.le_of_ble_eq_true rfl, Nat.le_of_ble_eq_true rfl⟩ dL_dayKept_16 (Or.inr (Or.inl (⟨rfl, hx⟩)))
    · refine ⟨17, ⟨[(0, 10, 13, 13)], (0, 10, 17, 15), [], rfl, by
        intro q hq
        rcases List.mem_cons.mp hq with rfl | hq
        · exact ⟨by decide, by decide +kernel, by decide +kernel, by decide +kernel⟩
        exact absurd hq List.not_mem_nil, ⟨by decide, by decide⟩, rfl, by decide, by decide +kernel, by decide +kernel, by decide +kernel⟩, fun q => ?_⟩
      refine v_astore hG [(0, _), (1, _), (2, _), (3, _), (4, _)] dL_dayKept_17 (by decide) rfl ?_
      refine v_iconst hG dL_dayKept_19 ?_
      exact w_iret hG hR ⟨Nat.le_of_ble_eq_true rfl, Nat.le_of_ble_eq_true rfl⟩ dL_dayKept_20 (Or.inr (Or.inr (⟨rfl, hx⟩)))
  · intro x z2 hp
    refine v_i2l hG dL_dayKept_8 ?_
    refine v_lastore hG dL_dayKept_9 ?_
    refine v_goto hG 21 dL_dayKept_10 (by decide) ?_
    refine v_iconst hG dL_dayKept_21 ?_
    exact w_iret hG hR ⟨Nat.le_of_ble_eq_true rfl, Nat.le_of_ble_eq_true rfl⟩ dL_dayKept_22 (Or.inl (⟨rfl, x, z2, hp, rfl⟩))

set_option maxHeartbeats 4000000 in
set_option maxRecDepth 100000 in
theorem c_L_isKept {l : Launch} {D : va_G} {cA : Nat → ClassId} {r : Nat → Nat} {z : Zt} {f d : Int} (hr : Inj r) (hst : l.stackTraces = false) (h0 : kd 0 = 1) (hS : SI z 1) (hf : -2147483648 ≤ f ∧ f < 2147483648) (hd : -2147483648 ≤ d ∧ d < 2147483648) : Kw l D cA r yL_isKept wsL_isKept 9 155 2 z [.ref (r 0), .int (iN f), .int (iN d), .ref (r 176)] (fun v z1 => (v = 0 ∧ ∃ (x : Int) (z2 : Zt), (fun x z1 => z = z1 ∧ (0 ≤ f ∧ f < z 1 3) ∧ (0 ≤ d ∧ d ≤ 20000) ∧ x = ind (onS z 1 (9 + f.toNat) d)) x z2 ∧ zup z2 176 0 (jl x) = z1) ∨ (v = 1 ∧ (fun E z1 => z = z1 ∧ ((E = xIO ∧ ¬ (0 ≤ f ∧ f < z 1 3)) ∨ (E = xIA ∧ (0 ≤ f ∧ f < z 1 3) ∧ ¬ (0 ≤ d ∧ d ≤ 20000)))) xIO z1) ∨ (v = 2 ∧ (fun E z1 => z = z1 ∧ ((E = xIO ∧ ¬ (0 ≤ f ∧ f < z 1 3)) ∨ (E = xIA ∧ (0 ≤ f ∧ f < z 1 3) ∧ ¬ (0 ≤ d ∧ d ≤ 20000)))) xIA z1)) := by
  refine Kw_of [(0, _), (1, _), (2, _), (3, _)] hr (by decide) rfl rfl (Nat.le_of_ble_eq_true rfl) rfl (fun Γ hG hR => ?_)
  refine v_aload_n hG dL_isKept_0 3 rfl ?_
  refine v_iconst hG dL_isKept_1 ?_
  refine v_aload_n hG dL_isKept_2 0 rfl ?_
  refine v_iload_n hG dL_isKept_3 1 rfl ?_
  refine v_iload_n hG dL_isKept_4 2 rfl ?_
  refine w_callV (n := 2) (ci := 4) hG hR (c_X4_isKept hr hst h0 hS hf hd) gL_isKept_X4_isKept rfl (by decide +kernel) rfl ⟨Nat.le_of_ble_eq_true rfl, Nat.le_of_ble_eq_true rfl⟩ h0 (by decide) (cl_1 _ _ _ _) rfl dL_isKept_5 rfl (Nat.le_of_ble_eq_true rfl) ⟨rfl, rfl⟩ ⟨Nat.le_of_ble_eq_true rfl, Nat.le_of_ble_eq_true rfl⟩ ?_ ?_
  · intro E z1 hx
    have hE : E = xIO ∨ E = xIA := hx.2.elim (fun h => Or.inl h.1) (fun h => Or.inr h.1)
    rcases hE with rfl | rfl
    · refine ⟨20, ⟨[], (0, 17, 20, 13), [(0, 17, 24, 15)], rfl, fun _ h => absurd h List.not_mem_nil, ⟨by decide, by decide⟩, rfl, by decide, by decide +kernel, by decide +kernel, by decide +kernel⟩, fun q => ?_⟩
      refine v_astore hG [(0, _), (1, _), (2, _), (3, _), (4, _)] dL_isKept_20 (by decide) rfl ?_
      refine v_iconst hG dL_isKept_22 ?_
      exact w_iret hG hR ⟨Nat.le_of_ble_eq_true rfl, Nat.le_of_ble_eq_true rfl⟩ dL_isKept_23 (Or.inr (Or.inl (⟨rfl, hx⟩)))
    · refine ⟨24, ⟨[(0, 17, 20, 13)], (0, 17, 24, 15), [], rfl, by
        intro q hq
        rcases List.mem_cons.mp hq with rfl | hq
        · exact ⟨by decide, by decide +kernel, by decide +kernel, by decide +kernel⟩
        exact absurd hq List.not_mem_nil, ⟨by decide, by decide⟩, rfl, by decide, by decide +kernel, by decide +kernel, by decide +kernel⟩, fun q => ?_⟩
      refine v_astore hG [(0, _), (1, _), (2, _), (3, _), (4, _)] dL_isKept_24 (by decide) rfl ?_
      refine v_iconst hG dL_isKept_26 ?_
      exact w_iret hG hR ⟨Nat.le_of_ble_eq_true rfl, Nat.le_of_ble_eq_true rfl⟩ dL_isKept_27 (Or.inr (Or.inr (⟨rfl, hx⟩)))
  · intro x z2 hp
    have hb9 := (ind_v hp.2.2.2).1
    refine v_if_eq hG 15 (by omega) dL_isKept_8 (by decide) (fun h9 => ?_) (fun h9 => ?_)
    · refine v_lconst hG dL_isKept_15 ?_
      refine v_eql hG (y := Int64.ofInt 0) rfl ?_
      refine v_lastore hG dL_isKept_16 ?_
      refine v_goto hG 28 dL_isKept_17 (by decide) ?_
      refine v_iconst hG dL_isKept_28 ?_
      exact w_iret hG hR ⟨Nat.le_of_ble_eq_true rfl, Nat.le_of_ble_eq_true rfl⟩ dL_isKept_29 (Or.inl (⟨rfl, x, z2, hp, by rw [show x = 0 by omega]; rfl⟩))
    · refine v_lconst hG dL_isKept_11 ?_
      refine v_eql hG (y := Int64.ofInt 1) rfl ?_
      refine v_goto hG 16 dL_isKept_12 (by decide) ?_
      refine v_lastore hG dL_isKept_16 ?_
      refine v_goto hG 28 dL_isKept_17 (by decide) ?_
      refine v_iconst hG dL_isKept_28 ?_
      exact w_iret hG hR ⟨Nat.le_of_ble_eq_true rfl, Nat.le_of_ble_eq_true rfl⟩ dL_isKept_29 (Or.inl (⟨rfl, x, z2, hp, by rw [show x = 1 by omega]; rfl⟩))

set_option maxHeartbeats 4000000 in
set_option maxRecDepth 100000 in
theorem c_L_feastsOn {l : Launch} {D : va_G} {cA : Nat → ClassId} {r : Nat → Nat} {z : Zt} {d : Int} (hr : Inj r) (hst : l.stackTraces = false) (h0 : kd 0 = 1) (hS : SI z 1) (hd : -2147483648 ≤ d ∧ d < 2147483648) : Kw l D cA r yL_feastsOn wsL_feastsOn 8 141 1 z [.ref (r 0), .int (iN d), .ref (r 176)] (fun v z1 => (v = 0 ∧ ∃ (x : Int) (z2 : Zt), (fun x z1 => ag24 z z1 ∧ (0 ≤ d ∧ d ≤ 20000) ∧ isSet (fun j => (j : Int) < z 1 3 ∧ onS z 1 (1 + 8 + j) d) x) x z2 ∧ zup z2 176 0 (jl x) = z1) ∨ (v = 1 ∧ (fun E z1 => z = z1 ∧ E = xIA ∧ ¬ (0 ≤ d ∧ d ≤ 20000)) xIA z1)) := by
  refine Kw_of [(0, _), (1, _), (2, _)] hr (by decide) rfl rfl (Nat.le_of_ble_eq_true rfl) rfl (fun Γ hG hR => ?_)
  refine v_aload_n hG dL_feastsOn_0 2 rfl ?_
  refine v_iconst hG dL_feastsOn_1 ?_
  refine v_aload_n hG dL_feastsOn_2 0 rfl ?_
  refine v_iload_n hG dL_feastsOn_3 1 rfl ?_
  refine w_callV (n := 1) (ci := 4) hG hR (c_X4_feastsOn hr hst h0 hS hd) gL_feastsOn_X4_feastsOn rfl (by decide +kernel) rfl ⟨Nat.le_of_ble_eq_true rfl, Nat.le_of_ble_eq_true rfl⟩ h0 (by decide) (cl_1 _ _ _ _) rfl dL_feastsOn_4 rfl (Nat.le_of_ble_eq_true rfl) ⟨rfl, rfl⟩ ⟨Nat.le_of_ble_eq_true rfl, Nat.le_of_ble_eq_true rfl⟩ ?_ ?_
  · intro E z1 hx
    have hE : E = xIA := hx.2.1
    rcases hE with rfl
    · refine ⟨12, ⟨[], (0, 9, 12, 15), [], rfl, fun _ h => absurd h List.not_mem_nil, ⟨by decide, by decide⟩, rfl, by decide, by decide +kernel, by decide +kernel, by decide +kernel⟩, fun q => ?_⟩
      refine v_astore_n hG [(0, _), (1, _), (2, _), (3, _)] dL_feastsOn_12 (by decide) rfl ?_
      refine v_iconst hG dL_feastsOn_13 ?_
      exact w_iret hG hR ⟨Nat.le_of_ble_eq_true rfl, Nat.le_of_ble_eq_true rfl⟩ dL_feastsOn_14 (Or.inr (⟨rfl, hx⟩))
  · intro x z2 hp
    refine v_i2l hG dL_feastsOn_7 ?_
    refine v_lastore hG dL_feastsOn_8 ?_
    refine v_goto hG 15 dL_feastsOn_9 (by decide) ?_
    refine v_iconst hG dL_feastsOn_15 ?_
    exact w_iret hG hR ⟨Nat.le_of_ble_eq_true rfl, Nat.le_of_ble_eq_true rfl⟩ dL_feastsOn_16 (Or.inl (⟨rfl, x, z2, hp, rfl⟩))

set_option maxHeartbeats 4000000 in
set_option maxRecDepth 100000 in
theorem c_L_isQuarrel {l : Launch} {D : va_G} {cA : Nat → ClassId} {r : Nat → Nat} {z : Zt} {d : Int} (hr : Inj r) (hst : l.stackTraces = false) (h0 : kd 0 = 1) (hS : SI z 1) (hd : -2147483648 ≤ d ∧ d < 2147483648) : Kw l D cA r yL_isQuarrel wsL_isQuarrel 8 163 1 z [.ref (r 0), .int (iN d), .ref (r 176)] (fun v z1 => (v = 0 ∧ ∃ (x : Int) (z2 : Zt), (fun x z1 => ag24 z z1 ∧ (0 ≤ d ∧ d ≤ 20000) ∧ x = ind (quS z 1 d)) x z2 ∧ zup z2 176 0 (jl x) = z1) ∨ (v = 1 ∧ (fun E z1 => z = z1 ∧ E = xIA ∧ ¬ (0 ≤ d ∧ d ≤ 20000)) xIA z1)) := by
  refine Kw_of [(0, _), (1, _), (2, _)] hr (by decide) rfl rfl (Nat.le_of_ble_eq_true rfl) rfl (fun Γ hG hR => ?_)
  refine v_aload_n hG dL_isQuarrel_0 2 rfl ?_
  refine v_iconst hG dL_isQuarrel_1 ?_
  refine v_aload_n hG dL_isQuarrel_2 0 rfl ?_
  refine v_iload_n hG dL_isQuarrel_3 1 rfl ?_
  refine w_callV (n := 1) (ci := 4) hG hR (c_X4_isQuarrel hr hst h0 hS hd) gL_isQuarrel_X4_isQuarrel rfl (by decide +kernel) rfl ⟨Nat.le_of_ble_eq_true rfl, Nat.le_of_ble_eq_true rfl⟩ h0 (by decide) (cl_1 _ _ _ _) rfl dL_isQuarrel_4 rfl (Nat.le_of_ble_eq_true rfl) ⟨rfl, rfl⟩ ⟨Nat.le_of_ble_eq_true rfl, Nat.le_of_ble_eq_true rfl⟩ ?_ ?_
  · intro E z1 hx
    have hE : E = xIA := hx.2.1
    rcases hE with rfl
    · refine ⟨19, ⟨[], (0, 16, 19, 15), [], rfl, fun _ h => absurd h List.not_mem_nil, ⟨by decide, by decide⟩, rfl, by decide, by decide +kernel, by decide +kernel, by decide +kernel⟩, fun q => ?_⟩
      refine v_astore_n hG [(0, _), (1, _), (2, _), (3, _)] dL_isQuarrel_19 (by decide) rfl ?_
      refine v_iconst hG dL_isQuarrel_20 ?_
      exact w_iret hG hR ⟨Nat.le_of_ble_eq_true rfl, Nat.le_of_ble_eq_true rfl⟩ dL_isQuarrel_21 (Or.inr (⟨rfl, hx⟩))
  · intro x z2 hp
    have hb9 := (ind_v hp.2.2).1
    refine v_if_eq hG 14 (by omega) dL_isQuarrel_7 (by decide) (fun h9 => ?_) (fun h9 => ?_)
    · refine v_lconst hG dL_isQuarrel_14 ?_
      refine v_eql hG (y := Int64.ofInt 0) rfl ?_
      refine v_lastore hG dL_isQuarrel_15 ?_
      refine v_goto hG 22 dL_isQuarrel_16 (by decide) ?_
      refine v_iconst hG dL_isQuarrel_22 ?_
      exact w_iret hG hR ⟨Nat.le_of_ble_eq_true rfl, Nat.le_of_ble_eq_true rfl⟩ dL_isQuarrel_23 (Or.inl (⟨rfl, x, z2, hp, by rw [show x = 0 by omega]; rfl⟩))
    · refine v_lconst hG dL_isQuarrel_10 ?_
      refine v_eql hG (y := Int64.ofInt 1) rfl ?_
      refine v_goto hG 15 dL_isQuarrel_11 (by decide) ?_
      refine v_lastore hG dL_isQuarrel_15 ?_
      refine v_goto hG 22 dL_isQuarrel_16 (by decide) ?_
      refine v_iconst hG dL_isQuarrel_22 ?_
      exact w_iret hG hR ⟨Nat.le_of_ble_eq_true rfl, Nat.le_of_ble_eq_true rfl⟩ dL_isQuarrel_23 (Or.inl (⟨rfl, x, z2, hp, by rw [show x = 1 by omega]; rfl⟩))

set_option maxHeartbeats 4000000 in
set_option maxRecDepth 100000 in
theorem c_L_setShift {l : Launch} {D : va_G} {cA : Nat → ClassId} {r : Nat → Nat} {z : Zt} {q : Int} (hr : Inj r) (hst : l.stackTraces = false) (h0 : kd 0 = 1) (hP : PI z) (hA : AI z) (hq : -2147483648 ≤ q ∧ q < 2147483648) : Kw l D cA r yL_setShift wsL_setShift 8 134 1 z [.ref (r 0), .int (iN q), .ref (r 176)] (fun v z1 => (v = 0 ∧ ∃ (x : Int) (z2 : Zt), (fun x z1 => zup (recZ z) 1 4 q = z1 ∧ (1 ≤ q ∧ q ≤ 9) ∧ x = z 1 4) x z2 ∧ zup z2 176 0 (jl x) = z1) ∨ (v = 1 ∧ (fun E z1 => z = z1 ∧ E = xIA ∧ ¬ (1 ≤ q ∧ q ≤ 9)) xIA z1)) := by
  refine Kw_of [(0, _), (1, _), (2, _)] hr (by decide) rfl rfl (Nat.le_of_ble_eq_true rfl) rfl (fun Γ hG hR => ?_)
  refine v_aload_n hG dL_setShift_0 2 rfl ?_
  refine v_iconst hG dL_setShift_1 ?_
  refine v_aload_n hG dL_setShift_2 0 rfl ?_
  refine v_iload_n hG dL_setShift_3 1 rfl ?_
  refine w_callV (n := 1) (ci := 4) hG hR (c_X4_setShift hr hst h0 hP hA hq) gL_setShift_X4_setShift rfl (by decide +kernel) rfl ⟨Nat.le_of_ble_eq_true rfl, Nat.le_of_ble_eq_true rfl⟩ h0 (by decide) (cl_1 _ _ _ _) rfl dL_setShift_4 rfl (Nat.le_of_ble_eq_true rfl) ⟨rfl, rfl⟩ ⟨Nat.le_of_ble_eq_true rfl, Nat.le_of_ble_eq_true rfl⟩ ?_ ?_
  · intro E z1 hx
    have hE : E = xIA := hx.2.1
    rcases hE with rfl
    · refine ⟨12, ⟨[], (0, 9, 12, 15), [], rfl, fun _ h => absurd h List.not_mem_nil, ⟨by decide, by decide⟩, rfl, by decide, by decide +kernel, by decide +kernel, by decide +kernel⟩, fun q => ?_⟩
      refine v_astore_n hG [(0, _), (1, _), (2, _), (3, _)] dL_setShift_12 (by decide) rfl ?_
      refine v_iconst hG dL_setShift_13 ?_
      exact w_iret hG hR ⟨Nat.le_of_ble_eq_true rfl, Nat.le_of_ble_eq_true rfl⟩ dL_setShift_14 (Or.inr (⟨rfl, hx⟩))
  · intro x z2 hp
    refine v_i2l hG dL_setShift_7 ?_
    refine v_lastore hG dL_setShift_8 ?_
    refine v_goto hG 15 dL_setShift_9 (by decide) ?_
    refine v_iconst hG dL_setShift_15 ?_
    exact w_iret hG hR ⟨Nat.le_of_ble_eq_true rfl, Nat.le_of_ble_eq_true rfl⟩ dL_setShift_16 (Or.inl (⟨rfl, x, z2, hp, rfl⟩))

set_option maxHeartbeats 4000000 in
set_option maxRecDepth 100000 in
theorem c_L_setCopiesPerDay {l : Launch} {D : va_G} {cA : Nat → ClassId} {r : Nat → Nat} {z : Zt} {q : Int} (hr : Inj r) (hst : l.stackTraces = false) (h0 : kd 0 = 1) (hP : PI z) (hA : AI z) (hq : -2147483648 ≤ q ∧ q < 2147483648) : Kw l D cA r yL_setCopiesPerDay wsL_setCopiesPerDay 8 134 1 z [.ref (r 0), .int (iN q), .ref (r 176)] (fun v z1 => (v = 0 ∧ ∃ (x : Int) (z2 : Zt), (fun x z1 => zup (recZ z) 1 5 q = z1 ∧ (0 ≤ q ∧ q ≤ 9) ∧ x = z 1 5) x z2 ∧ zup z2 176 0 (jl x) = z1) ∨ (v = 1 ∧ (fun E z1 => z = z1 ∧ E = xIA ∧ ¬ (0 ≤ q ∧ q ≤ 9)) xIA z1)) := by
  refine Kw_of [(0, _), (1, _), (2, _)] hr (by decide) rfl rfl (Nat.le_of_ble_eq_true rfl) rfl (fun Γ hG hR => ?_)
  refine v_aload_n hG dL_setCopiesPerDay_0 2 rfl ?_
  refine v_iconst hG dL_setCopiesPerDay_1 ?_
  refine v_aload_n hG dL_setCopiesPerDay_2 0 rfl ?_
  refine v_iload_n hG dL_setCopiesPerDay_3 1 rfl ?_
  refine w_callV (n := 1) (ci := 4) hG hR (c_X4_setCopiesPerDay hr hst h0 hP hA hq) gL_setCopiesPerDay_X4_setCopiesPerDay rfl (by decide +kernel) rfl ⟨Nat.le_of_ble_eq_true rfl, Nat.le_of_ble_eq_true rfl⟩ h0 (by decide) (cl_1 _ _ _ _) rfl dL_setCopiesPerDay_4 rfl (Nat.le_of_ble_eq_true rfl) ⟨rfl, rfl⟩ ⟨Nat.le_of_ble_eq_true rfl, Nat.le_of_ble_eq_true rfl⟩ ?_ ?_
  · intro E z1 hx
    have hE : E = xIA := hx.2.1
    rcases hE with rfl
    · refine ⟨12, ⟨[], (0, 9, 12, 15), [], rfl, fun _ h => absurd h List.not_mem_nil, ⟨by decide, by decide⟩, rfl, by decide, by decide +kernel, by decide +kernel, by decide +kernel⟩, fun q => ?_⟩
      refine v_astore_n hG [(0, _), (1, _), (2, _), (3, _)] dL_setCopiesPerDay_12 (by decide) rfl ?_
      refine v_iconst hG dL_setCopiesPerDay_13 ?_
      exact w_iret hG hR ⟨Nat.le_of_ble_eq_true rfl, Nat.le_of_ble_eq_true rfl⟩ dL_setCopiesPerDay_14 (Or.inr (⟨rfl, hx⟩))
  · intro x z2 hp
    refine v_i2l hG dL_setCopiesPerDay_7 ?_
    refine v_lastore hG dL_setCopiesPerDay_8 ?_
    refine v_goto hG 15 dL_setCopiesPerDay_9 (by decide) ?_
    refine v_iconst hG dL_setCopiesPerDay_15 ?_
    exact w_iret hG hR ⟨Nat.le_of_ble_eq_true rfl, Nat.le_of_ble_eq_true rfl⟩ dL_setCopiesPerDay_16 (Or.inl (⟨rfl, x, z2, hp, rfl⟩))

set_option maxHeartbeats 4000000 in
set_option maxRecDepth 100000 in
theorem c_L_passDays {l : Launch} {D : va_G} {cA : Nat → ClassId} {r : Nat → Nat} {z : Zt} {q : Int} (hr : Inj r) (hst : l.stackTraces = false) (h0 : kd 0 = 1) (hS : SI z 1)  (hP : PI z) (hA : AI z) (hq : -2147483648 ≤ q ∧ q < 2147483648) : Kw l D cA r yL_passDays wsL_passDays 8 164 2 z [.ref (r 0), .int (iN q), .ref (r 176)] (fun v z1 => (v = 0 ∧ ∃ (x : Int) (z2 : Zt), (fun x z1 => (∃ z3, ag24 (recZ z) z3 ∧ z1 = zup (psZ (zup z3 1 7 (z 1 7 + qwS z q.toNat)) 1 (sumN (fun i => cntP (fun j => ((j : Int) < z 1 3 ∧ onS z 1 (9 + j) (z 1 6 + i)) ∧ ((j : Int) < z 1 3 ∧ z (9 + j) 0 = 0)) 10) q.toNat) (sumN (fun i => cntP (fun j => ((j : Int) < z 1 3 ∧ onS z 1 (9 + j) (z 1 6 + i)) ∧ ((j : Int) < z 1 3 ∧ z (9 + j) 0 = 1)) 10) q.toNat) (sumN (fun i => ind (∀ j : Nat, ¬ ((j : Int) < z 1 3 ∧ onS z 1 (9 + j) (z 1 6 + i))) * z 1 5) q.toNat)) 1 6 (z 1 6 + q)) ∧ (1 ≤ q ∧ q ≤ 400) ∧ z 1 6 + q ≤ 9999 ∧ x = qwS z q.toNat) x z2 ∧ zup z2 176 0 (jl x) = z1) ∨ (v = 1 ∧ (fun E z1 => z = z1 ∧ ((E = xIA ∧ ¬ (1 ≤ q ∧ q ≤ 400)) ∨ (E = xIS ∧ (1 ≤ q ∧ q ≤ 400) ∧ 9999 < z 1 6 + q))) xIA z1) ∨ (v = 2 ∧ (fun E z1 => z = z1 ∧ ((E = xIA ∧ ¬ (1 ≤ q ∧ q ≤ 400)) ∨ (E = xIS ∧ (1 ≤ q ∧ q ≤ 400) ∧ 9999 < z 1 6 + q))) xIS z1)) := by
  refine Kw_of [(0, _), (1, _), (2, _)] hr (by decide) rfl rfl (Nat.le_of_ble_eq_true rfl) rfl (fun Γ hG hR => ?_)
  refine v_aload_n hG dL_passDays_0 2 rfl ?_
  refine v_iconst hG dL_passDays_1 ?_
  refine v_aload_n hG dL_passDays_2 0 rfl ?_
  refine v_iload_n hG dL_passDays_3 1 rfl ?_
  refine w_callV (n := 1) (ci := 4) hG hR (c_X4_passDays hr hst h0 hS hP hA hq) gL_passDays_X4_passDays rfl (by decide +kernel) rfl ⟨Nat.le_of_ble_eq_true rfl, Nat.le_of_ble_eq_true rfl⟩ h0 (by decide) (cl_1 _ _ _ _) rfl dL_passDays_4 rfl (Nat.le_of_ble_eq_true rfl) ⟨rfl, rfl⟩ ⟨Nat.le_of_ble_eq_true rfl, Nat.le_of_ble_eq_true rfl⟩ ?_ ?_
  · intro E z1 hx
    have hE : E = xIA ∨ E = xIS := hx.2.elim (fun h => Or.inl h.1) (fun h => Or.inr h.1)
    rcases hE with rfl | rfl
    · refine ⟨12, ⟨[], (0, 9, 12, 15), [(0, 9, 15, 17)], rfl, fun _ h => absurd h List.not_mem_nil, ⟨by decide, by decide⟩, rfl, by decide, by decide +kernel, by decide +kernel, by decide +kernel⟩, fun q => ?_⟩
      refine v_astore_n hG [(0, _), (1, _), (2, _), (3, _)] dL_passDays_12 (by decide) rfl ?_
      refine v_iconst hG dL_passDays_13 ?_
      exact w_iret hG hR ⟨Nat.le_of_ble_eq_true rfl, Nat.le_of_ble_eq_true rfl⟩ dL_passDays_14 (Or.inr (Or.inl (⟨rfl, hx⟩)))
    · refine ⟨15, ⟨[(0, 9, 12, 15)], (0, 9, 15, 17), [], rfl, by
        intro q hq
        rcases List.mem_cons.mp hq with rfl | hq
        · exact ⟨by decide, by decide +kernel, by decide +kernel, by decide +kernel⟩
        exact absurd hq List.not_mem_nil, ⟨by decide, by decide⟩, rfl, by decide, by decide +kernel, by decide +kernel, by decide +kernel⟩, fun q => ?_⟩
      refine v_astore_n hG [(0, _), (1, _), (2, _), (3, _)] dL_passDays_15 (by decide) rfl ?_
      refine v_iconst hG dL_passDays_16 ?_
      exact w_iret hG hR ⟨Nat.le_of_ble_eq_true rfl, Nat.le_of_ble_eq_true rfl⟩ dL_passDays_17 (Or.inr (Or.inr (⟨rfl, hx⟩)))
  · intro x z2 hp
    refine v_i2l hG dL_passDays_7 ?_
    refine v_lastore hG dL_passDays_8 ?_
    refine v_goto hG 18 dL_passDays_9 (by decide) ?_
    refine v_iconst hG dL_passDays_18 ?_
    exact w_iret hG hR ⟨Nat.le_of_ble_eq_true rfl, Nat.le_of_ble_eq_true rfl⟩ dL_passDays_19 (Or.inl (⟨rfl, x, z2, hp, rfl⟩))

set_option maxHeartbeats 4000000 in
set_option maxRecDepth 100000 in
theorem c_L_feastsKept {l : Launch} {D : va_G} {cA : Nat → ClassId} {r : Nat → Nat} {z : Zt} {t : Int} (hr : Inj r) (hst : l.stackTraces = false) (h0 : kd 0 = 1) (ht : -2147483648 ≤ t ∧ t < 2147483648) : Kw l D cA r yL_feastsKept wsL_feastsKept 9 153 1 z [.ref (r 0), .int (iN t), .ref (r 176)] (fun v z1 => (v = 0 ∧ ∃ (x : Int) (z2 : Zt), (fun x z1 => z = z1 ∧ (0 ≤ t ∧ t ≤ 1) ∧ x = z (tid t) 4) x z2 ∧ zup z2 176 0 (jl x) = z1) ∨ (v = 1 ∧ (fun E z1 => z = z1 ∧ E = xIO ∧ ¬ (0 ≤ t ∧ t ≤ 1)) xIO z1)) := by
  refine Kw_of [(0, _), (1, _), (2, _)] hr (by decide) rfl rfl (Nat.le_of_ble_eq_true rfl) rfl (fun Γ hG hR => ?_)
  refine v_aload_n hG dL_feastsKept_0 2 rfl ?_
  refine v_iconst hG dL_feastsKept_1 ?_
  refine v_aload_n hG dL_feastsKept_2 0 rfl ?_
  refine v_iload_n hG dL_feastsKept_3 1 rfl ?_
  refine w_callV (n := 1) (ci := 4) hG hR (c_X4_feastsKept hr hst h0 ht) gL_feastsKept_X4_feastsKept rfl (by decide +kernel) rfl ⟨Nat.le_of_ble_eq_true rfl, Nat.le_of_ble_eq_true rfl⟩ h0 (by decide) (cl_1 _ _ _ _) rfl dL_feastsKept_4 rfl (Nat.le_of_ble_eq_true rfl) ⟨rfl, rfl⟩ ⟨Nat.le_of_ble_eq_true rfl, Nat.le_of_ble_eq_true rfl⟩ ?_ ?_
  · intro E z1 hx
    have hE : E = xIO := hx.2.1
    rcases hE with rfl
    · refine ⟨12, ⟨[], (0, 9, 12, 13), [], rfl, fun _ h => absurd h List.not_mem_nil, ⟨by decide, by decide⟩, rfl, by decide, by decide +kernel, by decide +kernel, by decide +kernel⟩, fun q => ?_⟩
      refine v_astore_n hG [(0, _), (1, _), (2, _), (3, _)] dL_feastsKept_12 (by decide) rfl ?_
      refine v_iconst hG dL_feastsKept_13 ?_
      exact w_iret hG hR ⟨Nat.le_of_ble_eq_true rfl, Nat.le_of_ble_eq_true rfl⟩ dL_feastsKept_14 (Or.inr (⟨rfl, hx⟩))
  · intro x z2 hp
    refine v_i2l hG dL_feastsKept_7 ?_
    refine v_lastore hG dL_feastsKept_8 ?_
    refine v_goto hG 15 dL_feastsKept_9 (by decide) ?_
    refine v_iconst hG dL_feastsKept_15 ?_
    exact w_iret hG hR ⟨Nat.le_of_ble_eq_true rfl, Nat.le_of_ble_eq_true rfl⟩ dL_feastsKept_16 (Or.inl (⟨rfl, x, z2, hp, rfl⟩))

set_option maxHeartbeats 4000000 in
set_option maxRecDepth 100000 in
theorem c_L_nextDay {l : Launch} {D : va_G} {cA : Nat → ClassId} {r : Nat → Nat} {z : Zt} {f : Int} (hr : Inj r) (hst : l.stackTraces = false) (h0 : kd 0 = 1) (hS : SI z 1) (hf : -2147483648 ≤ f ∧ f < 2147483648) : Kw l D cA r yL_nextDay wsL_nextDay 9 154 1 z [.ref (r 0), .int (iN f), .ref (r 176)] (fun v z1 => (v = 0 ∧ ∃ (x : Int) (z2 : Zt), (fun x z1 => z = z1 ∧ (0 ≤ f ∧ f < z 1 3) ∧ FKP (kS z 1 (9 + f.toNat)) (yS z 1 (9 + f.toNat)) (fun _ => True) (z 1 6) (z 1 6 + 799) x) x z2 ∧ zup z2 176 0 (jl x) = z1) ∨ (v = 1 ∧ (fun E z1 => z = z1 ∧ E = xIO ∧ ¬ (0 ≤ f ∧ f < z 1 3)) xIO z1)) := by
  refine Kw_of [(0, _), (1, _), (2, _)] hr (by decide) rfl rfl (Nat.le_of_ble_eq_true rfl) rfl (fun Γ hG hR => ?_)
  refine v_aload_n hG dL_nextDay_0 2 rfl ?_
  refine v_iconst hG dL_nextDay_1 ?_
  refine v_aload_n hG dL_nextDay_2 0 rfl ?_
  refine v_iload_n hG dL_nextDay_3 1 rfl ?_
  refine w_callV (n := 1) (ci := 4) hG hR (c_X4_nextDay hr hst h0 hS hf) gL_nextDay_X4_nextDay rfl (by decide +kernel) rfl ⟨Nat.le_of_ble_eq_true rfl, Nat.le_of_ble_eq_true rfl⟩ h0 (by decide) (cl_1 _ _ _ _) rfl dL_nextDay_4 rfl (Nat.le_of_ble_eq_true rfl) ⟨rfl, rfl⟩ ⟨Nat.le_of_ble_eq_true rfl, Nat.le_of_ble_eq_true rfl⟩ ?_ ?_
  · intro E z1 hx
    have hE : E = xIO := hx.2.1
    rcases hE with rfl
    · refine ⟨12, ⟨[], (0, 9, 12, 13), [], rfl, fun _ h => absurd h List.not_mem_nil, ⟨by decide, by decide⟩, rfl, by decide, by decide +kernel, by decide +kernel, by decide +kernel⟩, fun q => ?_⟩
      refine v_astore_n hG [(0, _), (1, _), (2, _), (3, _)] dL_nextDay_12 (by decide) rfl ?_
      refine v_iconst hG dL_nextDay_13 ?_
      exact w_iret hG hR ⟨Nat.le_of_ble_eq_true rfl, Nat.le_of_ble_eq_true rfl⟩ dL_nextDay_14 (Or.inr (⟨rfl, hx⟩))
  · intro x z2 hp
    refine v_i2l hG dL_nextDay_7 ?_
    refine v_lastore hG dL_nextDay_8 ?_
    refine v_goto hG 15 dL_nextDay_9 (by decide) ?_
    refine v_iconst hG dL_nextDay_15 ?_
    exact w_iret hG hR ⟨Nat.le_of_ble_eq_true rfl, Nat.le_of_ble_eq_true rfl⟩ dL_nextDay_16 (Or.inl (⟨rfl, x, z2, hp, rfl⟩))

set_option maxHeartbeats 4000000 in
set_option maxRecDepth 100000 in
theorem c_L_daysUntilMeeting {l : Launch} {D : va_G} {cA : Nat → ClassId} {r : Nat → Nat} {z : Zt} {f g : Int} (hr : Inj r) (hst : l.stackTraces = false) (h0 : kd 0 = 1) (hS : SI z 1) (hf : -2147483648 ≤ f ∧ f < 2147483648) (hg : -2147483648 ≤ g ∧ g < 2147483648) : Kw l D cA r yL_daysUntilMeeting wsL_daysUntilMeeting 9 171 3 z [.ref (r 0), .int (iN f), .int (iN g), .ref (r 176)] (fun v z1 => (v = 0 ∧ ∃ (x : Int) (z2 : Zt), (fun x z1 => z = z1 ∧ (0 ≤ f ∧ f < z 1 3) ∧ (0 ≤ g ∧ g < z 1 3) ∧ f ≠ g ∧ ∃ d, FKP (kS z 1 (9 + f.toNat)) (yS z 1 (9 + f.toNat)) (onS z 1 (9 + g.toNat)) (z 1 6) (z 1 6 + 2000) d ∧ x = (if d = -1 then -1 else d - z 1 6)) x z2 ∧ zup z2 176 0 (jl x) = z1) ∨ (v = 1 ∧ (fun E z1 => z = z1 ∧ ((E = xIO ∧ (¬ (0 ≤ f ∧ f < z 1 3) ∨ ¬ (0 ≤ g ∧ g < z 1 3))) ∨ (E = xIA ∧ (0 ≤ f ∧ f < z 1 3) ∧ (0 ≤ g ∧ g < z 1 3) ∧ f = g))) xIO z1) ∨ (v = 2 ∧ (fun E z1 => z = z1 ∧ ((E = xIO ∧ (¬ (0 ≤ f ∧ f < z 1 3) ∨ ¬ (0 ≤ g ∧ g < z 1 3))) ∨ (E = xIA ∧ (0 ≤ f ∧ f < z 1 3) ∧ (0 ≤ g ∧ g < z 1 3) ∧ f = g))) xIA z1)) := by
  refine Kw_of [(0, _), (1, _), (2, _), (3, _)] hr (by decide) rfl rfl (Nat.le_of_ble_eq_true rfl) rfl (fun Γ hG hR => ?_)
  refine v_aload_n hG dL_daysUntilMeeting_0 3 rfl ?_
  refine v_iconst hG dL_daysUntilMeeting_1 ?_
  refine v_aload_n hG dL_daysUntilMeeting_2 0 rfl ?_
  refine v_iload_n hG dL_daysUntilMeeting_3 1 rfl ?_
  refine v_iload_n hG dL_daysUntilMeeting_4 2 rfl ?_
  refine w_callV (n := 2) (ci := 4) hG hR (c_X4_daysUntilMeeting hr hst h0 hS hf hg) gL_daysUntilMeeting_X4_daysUntilMeeting rfl (by decide +kernel) rfl ⟨Nat.le_of_ble_eq_true rfl, Nat.le_of_ble_eq_true rfl⟩ h0 (by decide) (cl_1 _ _ _ _) rfl dL_daysUntilMeeting_5 rfl (Nat.le_of_ble_eq_true rfl) ⟨rfl, rfl⟩ ⟨Nat.le_of_ble_eq_true rfl, Nat.le_of_ble_eq_true rfl⟩ ?_ ?_
  · intro E z1 hx
    have hE : E = xIO ∨ E = xIA := hx.2.elim (fun h => Or.inl h.1) (fun h => Or.inr h.1)
    rcases hE with rfl | rfl
    · refine ⟨13, ⟨[], (0, 10, 13, 13), [(0, 10, 17, 15)], rfl, fun _ h => absurd h List.not_mem_nil, ⟨by decide, by decide⟩, rfl, by decide, by decide +kernel, by decide +kernel, by decide +kernel⟩, fun q => ?_⟩
      refine v_astore hG [(0, _), (1, _), (2, _), (3, _), (4, _)] dL_daysUntilMeeting_13 (by decide) rfl ?_
      refine v_iconst hG dL_daysUntilMeeting_15 ?_
      exact w_iret hG hR ⟨Nat.le_of_ble_eq_true rfl, Nat.le_of_ble_eq_true rfl⟩ dL_daysUntilMeeting_16 (Or.inr (Or.inl (⟨rfl, hx⟩)))
    · refine ⟨17, ⟨[(0, 10, 13, 13)], (0, 10, 17, 15), [], rfl, by
        intro q hq
        rcases List.mem_cons.mp hq with rfl | hq
        · exact ⟨by decide, by decide +kernel, by decide +kernel, by decide +kernel⟩
        exact absurd hq List.not_mem_nil, ⟨by decide, by decide⟩, rfl, by decide, by decide +kernel, by decide +kernel, by decide +kernel⟩, fun q => ?_⟩
      refine v_astore hG [(0, _), (1, _), (2, _), (3, _), (4, _)] dL_daysUntilMeeting_17 (by decide) rfl ?_
      refine v_iconst hG dL_daysUntilMeeting_19 ?_
      exact w_iret hG hR ⟨Nat.le_of_ble_eq_true rfl, Nat.le_of_ble_eq_true rfl⟩ dL_daysUntilMeeting_20 (Or.inr (Or.inr (⟨rfl, hx⟩)))
  · intro x z2 hp
    refine v_i2l hG dL_daysUntilMeeting_8 ?_
    refine v_lastore hG dL_daysUntilMeeting_9 ?_
    refine v_goto hG 21 dL_daysUntilMeeting_10 (by decide) ?_
    refine v_iconst hG dL_daysUntilMeeting_21 ?_
    exact w_iret hG hR ⟨Nat.le_of_ble_eq_true rfl, Nat.le_of_ble_eq_true rfl⟩ dL_daysUntilMeeting_22 (Or.inl (⟨rfl, x, z2, hp, rfl⟩))

set_option maxHeartbeats 4000000 in
set_option maxRecDepth 100000 in
theorem c_L_quarrelsWithin {l : Launch} {D : va_G} {cA : Nat → ClassId} {r : Nat → Nat} {z : Zt} {q : Int} (hr : Inj r) (hst : l.stackTraces = false) (h0 : kd 0 = 1) (hS : SI z 1) (hq : -2147483648 ≤ q ∧ q < 2147483648) : Kw l D cA r yL_quarrelsWithin wsL_quarrelsWithin 8 163 1 z [.ref (r 0), .int (iN q), .ref (r 176)] (fun v z1 => (v = 0 ∧ ∃ (x : Int) (z2 : Zt), (fun x z1 => ag24 z z1 ∧ (1 ≤ q ∧ q ≤ 400) ∧ x = cntP (fun i => quS z 1 (z 1 6 + i)) q.toNat) x z2 ∧ zup z2 176 0 (jl x) = z1) ∨ (v = 1 ∧ (fun E z1 => z = z1 ∧ E = xIA ∧ ¬ (1 ≤ q ∧ q ≤ 400)) xIA z1)) := by
  refine Kw_of [(0, _), (1, _), (2, _)] hr (by decide) rfl rfl (Nat.le_of_ble_eq_true rfl) rfl (fun Γ hG hR => ?_)
  refine v_aload_n hG dL_quarrelsWithin_0 2 rfl ?_
  refine v_iconst hG dL_quarrelsWithin_1 ?_
  refine v_aload_n hG dL_quarrelsWithin_2 0 rfl ?_
  refine v_iload_n hG dL_quarrelsWithin_3 1 rfl ?_
  refine w_callV (n := 1) (ci := 4) hG hR (c_X4_quarrelsWithin hr hst h0 hS hq) gL_quarrelsWithin_X4_quarrelsWithin rfl (by decide +kernel) rfl ⟨Nat.le_of_ble_eq_true rfl, Nat.le_of_ble_eq_true rfl⟩ h0 (by decide) (cl_1 _ _ _ _) rfl dL_quarrelsWithin_4 rfl (Nat.le_of_ble_eq_true rfl) ⟨rfl, rfl⟩ ⟨Nat.le_of_ble_eq_true rfl, Nat.le_of_ble_eq_true rfl⟩ ?_ ?_
  · intro E z1 hx
    have hE : E = xIA := hx.2.1
    rcases hE with rfl
    · refine ⟨12, ⟨[], (0, 9, 12, 15), [], rfl, fun _ h => absurd h List.not_mem_nil, ⟨by decide, by decide⟩, rfl, by decide, by decide +kernel, by decide +kernel, by decide +kernel⟩, fun q => ?_⟩
      refine v_astore_n hG [(0, _), (1, _), (2, _), (3, _)] dL_quarrelsWithin_12 (by decide) rfl ?_
      refine v_iconst hG dL_quarrelsWithin_13 ?_
      exact w_iret hG hR ⟨Nat.le_of_ble_eq_true rfl, Nat.le_of_ble_eq_true rfl⟩ dL_quarrelsWithin_14 (Or.inr (⟨rfl, hx⟩))
  · intro x z2 hp
    refine v_i2l hG dL_quarrelsWithin_7 ?_
    refine v_lastore hG dL_quarrelsWithin_8 ?_
    refine v_goto hG 15 dL_quarrelsWithin_9 (by decide) ?_
    refine v_iconst hG dL_quarrelsWithin_15 ?_
    exact w_iret hG hR ⟨Nat.le_of_ble_eq_true rfl, Nat.le_of_ble_eq_true rfl⟩ dL_quarrelsWithin_16 (Or.inl (⟨rfl, x, z2, hp, rfl⟩))

set_option maxHeartbeats 4000000 in
set_option maxRecDepth 100000 in
theorem c_L_bestBarredWeekday {l : Launch} {D : va_G} {cA : Nat → ClassId} {r : Nat → Nat} {z : Zt} {f : Int} (hr : Inj r) (hst : l.stackTraces = false) (h0 : kd 0 = 1) (hS : SI z 1) (hf : -2147483648 ≤ f ∧ f < 2147483648) : Kw l D cA r yL_bestBarredWeekday wsL_bestBarredWeekday 9 169 1 z [.ref (r 0), .int (iN f), .ref (r 176)] (fun v z1 => (v = 0 ∧ ∃ (x : Int) (z2 : Zt), (fun x z1 => ag24 z z1 ∧ (0 ≤ f ∧ f < z 1 3) ∧ x = (bwN (fun k : Nat => qwS (zup z (9 + f.toNat) 3 (k : Int)) 400) 7).2) x z2 ∧ zup z2 176 0 (jl x) = z1) ∨ (v = 1 ∧ (fun E z1 => z = z1 ∧ E = xIO ∧ ¬ (0 ≤ f ∧ f < z 1 3)) xIO z1)) := by
  refine Kw_of [(0, _), (1, _), (2, _)] hr (by decide) rfl rfl (Nat.le_of_ble_eq_true rfl) rfl (fun Γ hG hR => ?_)
  refine v_aload_n hG dL_bestBarredWeekday_0 2 rfl ?_
  refine v_iconst hG dL_bestBarredWeekday_1 ?_
  refine v_aload_n hG dL_bestBarredWeekday_2 0 rfl ?_
  refine v_iload_n hG dL_bestBarredWeekday_3 1 rfl ?_
  refine w_callV (n := 1) (ci := 4) hG hR (c_X4_bestBarredWeekday hr hst h0 hS hf) gL_bestBarredWeekday_X4_bestBarredWeekday rfl (by decide +kernel) rfl ⟨Nat.le_of_ble_eq_true rfl, Nat.le_of_ble_eq_true rfl⟩ h0 (by decide) (cl_1 _ _ _ _) rfl dL_bestBarredWeekday_4 rfl (Nat.le_of_ble_eq_true rfl) ⟨rfl, rfl⟩ ⟨Nat.le_of_ble_eq_true rfl, Nat.le_of_ble_eq_true rfl⟩ ?_ ?_
  · intro E z1 hx
    have hE : E = xIO := hx.2.1
    rcases hE with rfl
    · refine ⟨12, ⟨[], (0, 9, 12, 13), [], rfl, fun _ h => absurd h List.not_mem_nil, ⟨by decide, by decide⟩, rfl, by decide, by decide +kernel, by decide +kernel, by decide +kernel⟩, fun q => ?_⟩
      refine v_astore_n hG [(0, _), (1, _), (2, _), (3, _)] dL_bestBarredWeekday_12 (by decide) rfl ?_
      refine v_iconst hG dL_bestBarredWeekday_13 ?_
      exact w_iret hG hR ⟨Nat.le_of_ble_eq_true rfl, Nat.le_of_ble_eq_true rfl⟩ dL_bestBarredWeekday_14 (Or.inr (⟨rfl, hx⟩))
  · intro x z2 hp
    refine v_i2l hG dL_bestBarredWeekday_7 ?_
    refine v_lastore hG dL_bestBarredWeekday_8 ?_
    refine v_goto hG 15 dL_bestBarredWeekday_9 (by decide) ?_
    refine v_iconst hG dL_bestBarredWeekday_15 ?_
    exact w_iret hG hR ⟨Nat.le_of_ble_eq_true rfl, Nat.le_of_ble_eq_true rfl⟩ dL_bestBarredWeekday_16 (Or.inl (⟨rfl, x, z2, hp, rfl⟩))

set_option maxHeartbeats 4000000 in
set_option maxRecDepth 100000 in
theorem c_L_appendText {l : Launch} {D : va_G} {cA : Nat → ClassId} {r : Nat → Nat} {z : Zt} {u : Nat} (hr : Inj r) (hst : l.stackTraces = false) (h0 : kd 0 = 1) (hn : u < 2 ^ 64) (hX : TX (z 23) (z 22 1)) : Kw l D cA r yL_appendText wsL_appendText 7 114 1 z [.ref (r 0), .long (lN u), .ref (r 176)] (fun v z1 => (v = 0 ∧ ∃ (x : Int) (z2 : Zt), (fun x z1 => ∃ c : Nat, goodC u c ∧ z 22 1 + c ≤ 80 ∧ apG 23 22 1 z u c c = z1 ∧ x = z 22 1 + c) x z2 ∧ zup z2 176 0 (jl x) = z1) ∨ (v = 1 ∧ (fun E z1 => z = z1 ∧ ((E = xIA ∧ ∀ c, ¬ goodC u c) ∨ (E = xIS ∧ ∃ c : Nat, goodC u c ∧ 80 < z 22 1 + c))) xIA z1) ∨ (v = 2 ∧ (fun E z1 => z = z1 ∧ ((E = xIA ∧ ∀ c, ¬ goodC u c) ∨ (E = xIS ∧ ∃ c : Nat, goodC u c ∧ 80 < z 22 1 + c))) xIS z1)) := by
  refine Kw_of [(0, _), (1, _), (3, _)] hr (by decide) rfl rfl (Nat.le_of_ble_eq_true rfl) rfl (fun Γ hG hR => ?_)
  refine v_aload_n hG dL_appendText_0 2 rfl ?_
  refine v_iconst hG dL_appendText_1 ?_
  refine v_aload_n hG dL_appendText_2 0 rfl ?_
  refine v_lload_n hG dL_appendText_3 1 rfl ?_
  refine w_callV (n := 1) (ci := 4) hG hR (c_X4_appendText hr hst h0 hn hX) gL_appendText_X4_appendText rfl (by decide +kernel) rfl ⟨Nat.le_of_ble_eq_true rfl, Nat.le_of_ble_eq_true rfl⟩ h0 (by decide) (cl_1 _ _ _ _) rfl dL_appendText_4 rfl (Nat.le_of_ble_eq_true rfl) ⟨rfl, rfl⟩ ⟨Nat.le_of_ble_eq_true rfl, Nat.le_of_ble_eq_true rfl⟩ ?_ ?_
  · intro E z1 hx
    have hE : E = xIA ∨ E = xIS := hx.2.elim (fun h => Or.inl h.1) (fun h => Or.inr h.1)
    rcases hE with rfl | rfl
    · refine ⟨12, ⟨[], (0, 9, 12, 15), [(0, 9, 16, 17)], rfl, fun _ h => absurd h List.not_mem_nil, ⟨by decide, by decide⟩, rfl, by decide, by decide +kernel, by decide +kernel, by decide +kernel⟩, fun q => ?_⟩
      refine v_astore hG [(0, _), (1, _), (3, _), (4, _)] dL_appendText_12 (by decide) rfl ?_
      refine v_iconst hG dL_appendText_14 ?_
      exact w_iret hG hR ⟨Nat.le_of_ble_eq_true rfl, Nat.le_of_ble_eq_true rfl⟩ dL_appendText_15 (Or.inr (Or.inl (⟨rfl, hx⟩)))
    · refine ⟨16, ⟨[(0, 9, 12, 15)], (0, 9, 16, 17), [], rfl, by
        intro q hq
        rcases List.mem_cons.mp hq with rfl | hq
        · exact ⟨by decide, by decide +kernel, by decide +kernel, by decide +kernel⟩
        exact absurd hq List.not_mem_nil, ⟨by decide, by decide⟩, rfl, by decide, by decide +kernel, by decide +kernel, by decide +kernel⟩, fun q => ?_⟩
      refine v_astore hG [(0, _), (1, _), (3, _), (4, _)] dL_appendText_16 (by decide) rfl ?_
      refine v_iconst hG dL_appendText_18 ?_
      exact w_iret hG hR ⟨Nat.le_of_ble_eq_true rfl, Nat.le_of_ble_eq_true rfl⟩ dL_appendText_19 (Or.inr (Or.inr (⟨rfl, hx⟩)))
  · intro x z2 hp
    refine v_i2l hG dL_appendText_7 ?_
    refine v_lastore hG dL_appendText_8 ?_
    refine v_goto hG 20 dL_appendText_9 (by decide) ?_
    refine v_iconst hG dL_appendText_20 ?_
    exact w_iret hG hR ⟨Nat.le_of_ble_eq_true rfl, Nat.le_of_ble_eq_true rfl⟩ dL_appendText_21 (Or.inl (⟨rfl, x, z2, hp, rfl⟩))

set_option maxHeartbeats 4000000 in
set_option maxRecDepth 100000 in
theorem c_L_textCharacter {l : Launch} {D : va_G} {cA : Nat → ClassId} {r : Nat → Nat} {z : Zt} {i : Int} (hr : Inj r) (hst : l.stackTraces = false) (h0 : kd 0 = 1) (hX : TX (z 23) (z 22 1)) (hi : -2147483648 ≤ i ∧ i < 2147483648) : Kw l D cA r yL_textCharacter wsL_textCharacter 8 132 1 z [.ref (r 0), .int (iN i), .ref (r 176)] (fun v z1 => (v = 0 ∧ ∃ (x : Int) (z2 : Zt), (fun x z1 => z = z1 ∧ (0 ≤ i ∧ i < z 22 1) ∧ x = z 23 i.toNat) x z2 ∧ zup z2 176 0 (jl x) = z1) ∨ (v = 1 ∧ (fun E z1 => z = z1 ∧ E = xIO ∧ ¬ (0 ≤ i ∧ i < z 22 1)) xIO z1)) := by
  refine Kw_of [(0, _), (1, _), (2, _)] hr (by decide) rfl rfl (Nat.le_of_ble_eq_true rfl) rfl (fun Γ hG hR => ?_)
  refine v_aload_n hG dL_textCharacter_0 2 rfl ?_
  refine v_iconst hG dL_textCharacter_1 ?_
  refine v_aload_n hG dL_textCharacter_2 0 rfl ?_
  refine v_iload_n hG dL_textCharacter_3 1 rfl ?_
  refine w_callV (n := 1) (ci := 4) hG hR (c_X4_textCharacter hr hst h0 hX hi) gL_textCharacter_X4_textCharacter rfl (by decide +kernel) rfl ⟨Nat.le_of_ble_eq_true rfl, Nat.le_of_ble_eq_true rfl⟩ h0 (by decide) (cl_1 _ _ _ _) rfl dL_textCharacter_4 rfl (Nat.le_of_ble_eq_true rfl) ⟨rfl, rfl⟩ ⟨Nat.le_of_ble_eq_true rfl, Nat.le_of_ble_eq_true rfl⟩ ?_ ?_
  · intro E z1 hx
    have hE : E = xIO := hx.2.1
    rcases hE with rfl
    · refine ⟨12, ⟨[], (0, 9, 12, 13), [], rfl, fun _ h => absurd h List.not_mem_nil, ⟨by decide, by decide⟩, rfl, by decide, by decide +kernel, by decide +kernel, by decide +kernel⟩, fun q => ?_⟩
      refine v_astore_n hG [(0, _), (1, _), (2, _), (3, _)] dL_textCharacter_12 (by decide) rfl ?_
      refine v_iconst hG dL_textCharacter_13 ?_
      exact w_iret hG hR ⟨Nat.le_of_ble_eq_true rfl, Nat.le_of_ble_eq_true rfl⟩ dL_textCharacter_14 (Or.inr (⟨rfl, hx⟩))
  · intro x z2 hp
    refine v_i2l hG dL_textCharacter_7 ?_
    refine v_lastore hG dL_textCharacter_8 ?_
    refine v_goto hG 15 dL_textCharacter_9 (by decide) ?_
    refine v_iconst hG dL_textCharacter_15 ?_
    exact w_iret hG hR ⟨Nat.le_of_ble_eq_true rfl, Nat.le_of_ble_eq_true rfl⟩ dL_textCharacter_16 (Or.inl (⟨rfl, x, z2, hp, rfl⟩))

set_option maxHeartbeats 4000000 in
set_option maxRecDepth 100000 in
theorem c_L_dayOfText {l : Launch} {D : va_G} {cA : Nat → ClassId} {r : Nat → Nat} {z : Zt} {tt : Int} (hr : Inj r) (hst : l.stackTraces = false) (h0 : kd 0 = 1) (hS : SI z 1)  (hX : TX (z 23) (z 22 1)) (htt : tt = (if 0 < z 22 1 ∧ z 23 0 = 65 then (0 : Int) else 1)) : Kw l D cA r yL_dayOfText wsL_dayOfText 7 111 1 z [.ref (r 0), .ref (r 176)] (fun v z1 => (v = 0 ∧ ∃ (x : Int) (z2 : Zt), (fun x z1 => z = z1 ∧ FE (z 23) (z 22 1) (-1) ∧ x = (if 12 < nuN (z 23) 2 (z 22 1).toNat ∨ mlen (z (tid tt) 0) (nuN (z 23) 2 (z 22 1).toNat) < nuN (z 23) 1 (z 22 1).toNat then -1 else if calT z (tid tt) (fdT z (tid tt) (dof (z (tid tt) 0) (nuN (z 23) 3 (z 22 1).toNat) (nuN (z 23) 2 (z 22 1).toNat) (nuN (z 23) 1 (z 22 1).toNat))) = dof (z (tid tt) 0) (nuN (z 23) 3 (z 22 1).toNat) (nuN (z 23) 2 (z 22 1).toNat) (nuN (z 23) 1 (z 22 1).toNat) then fdT z (tid tt) (dof (z (tid tt) 0) (nuN (z 23) 3 (z 22 1).toNat) (nuN (z 23) 2 (z 22 1).toNat) (nuN (z 23) 1 (z 22 1).toNat)) else -1)) x z2 ∧ zup z2 176 0 (jl x) = z1) ∨ (v = 1 ∧ (fun E z1 => z = z1 ∧ E = xIS ∧ ∃ e : Int, e ≠ -1 ∧ FE (z 23) (z 22 1) e) xIS z1)) := by
  refine Kw_of [(0, _), (1, _)] hr (by decide) rfl rfl (Nat.le_of_ble_eq_true rfl) rfl (fun Γ hG hR => ?_)
  refine v_aload_n hG dL_dayOfText_0 1 rfl ?_
  refine v_iconst hG dL_dayOfText_1 ?_
  refine v_aload_n hG dL_dayOfText_2 0 rfl ?_
  refine w_callV (n := 0) (ci := 4) hG hR (c_X4_dayOfText hr hst h0 hS hX htt) gL_dayOfText_X4_dayOfText rfl (by decide +kernel) rfl ⟨Nat.le_of_ble_eq_true rfl, Nat.le_of_ble_eq_true rfl⟩ h0 (by decide) (cl_1 _ _ _ _) rfl dL_dayOfText_3 rfl (Nat.le_of_ble_eq_true rfl) ⟨rfl, rfl⟩ ⟨Nat.le_of_ble_eq_true rfl, Nat.le_of_ble_eq_true rfl⟩ ?_ ?_
  · intro E z1 hx
    have hE : E = xIS := hx.2.1
    rcases hE with rfl
    · refine ⟨11, ⟨[], (0, 8, 11, 17), [], rfl, fun _ h => absurd h List.not_mem_nil, ⟨by decide, by decide⟩, rfl, by decide, by decide +kernel, by decide +kernel, by decide +kernel⟩, fun q => ?_⟩
      refine v_astore_n hG [(0, _), (1, _), (2, _)] dL_dayOfText_11 (by decide) rfl ?_
      refine v_iconst hG dL_dayOfText_12 ?_
      exact w_iret hG hR ⟨Nat.le_of_ble_eq_true rfl, Nat.le_of_ble_eq_true rfl⟩ dL_dayOfText_13 (Or.inr (⟨rfl, hx⟩))
  · intro x z2 hp
    refine v_i2l hG dL_dayOfText_6 ?_
    refine v_lastore hG dL_dayOfText_7 ?_
    refine v_goto hG 14 dL_dayOfText_8 (by decide) ?_
    refine v_iconst hG dL_dayOfText_14 ?_
    exact w_iret hG hR ⟨Nat.le_of_ble_eq_true rfl, Nat.le_of_ble_eq_true rfl⟩ dL_dayOfText_15 (Or.inl (⟨rfl, x, z2, hp, rfl⟩))

set_option maxHeartbeats 4000000 in
set_option maxRecDepth 100000 in
theorem c_L_writeDate {l : Launch} {D : va_G} {cA : Nat → ClassId} {r : Nat → Nat} {z : Zt} {t d : Int} (hr : Inj r) (hst : l.stackTraces = false) (h0 : kd 0 = 1) (hS : SI z 1) (ht : -2147483648 ≤ t ∧ t < 2147483648) (hd : -2147483648 ≤ d ∧ d < 2147483648) : Kw l D cA r yL_writeDate wsL_writeDate 9 155 2 z [.ref (r 0), .int (iN t), .int (iN d), .ref (r 176)] (fun v z1 => (v = 0 ∧ ∃ (x : Int) (z2 : Zt), (fun x z1 => (0 ≤ t ∧ t ≤ 1) ∧ (0 ≤ d ∧ d ≤ 20000) ∧ (∃ m1 m2 : Int, isMon (z (tid t) 0) (calT z (tid t) d % yl (z (tid t) 0)) m1 ∧ isMon (z (tid t) 0) (calT z (tid t) d % yl (z (tid t) 0)) m2 ∧ wrZ z t (calT z (tid t) d % yl (z (tid t) 0) - mbef (z (tid t) 0) m1 + 1) m2 (1 + calT z (tid t) d / yl (z (tid t) 0)) = z1) ∧ x = z1 22 1) x z2 ∧ zup z2 176 0 (jl x) = z1) ∨ (v = 1 ∧ (fun E z1 => z = z1 ∧ ((E = xIO ∧ ¬ (0 ≤ t ∧ t ≤ 1)) ∨ (E = xIA ∧ (0 ≤ t ∧ t ≤ 1) ∧ ¬ (0 ≤ d ∧ d ≤ 20000)))) xIO z1) ∨ (v = 2 ∧ (fun E z1 => z = z1 ∧ ((E = xIO ∧ ¬ (0 ≤ t ∧ t ≤ 1)) ∨ (E = xIA ∧ (0 ≤ t ∧ t ≤ 1) ∧ ¬ (0 ≤ d ∧ d ≤ 20000)))) xIA z1)) := by
  refine Kw_of [(0, _), (1, _), (2, _), (3, _)] hr (by decide) rfl rfl (Nat.le_of_ble_eq_true rfl) rfl (fun Γ hG hR => ?_)
  refine v_aload_n hG dL_writeDate_0 3 rfl ?_
  refine v_iconst hG dL_writeDate_1 ?_
  refine v_aload_n hG dL_writeDate_2 0 rfl ?_
  refine v_iload_n hG dL_writeDate_3 1 rfl ?_
  refine v_iload_n hG dL_writeDate_4 2 rfl ?_
  refine w_callV (n := 2) (ci := 4) hG hR (c_X4_writeDate hr hst h0 hS ht hd) gL_writeDate_X4_writeDate rfl (by decide +kernel) rfl ⟨Nat.le_of_ble_eq_true rfl, Nat.le_of_ble_eq_true rfl⟩ h0 (by decide) (cl_1 _ _ _ _) rfl dL_writeDate_5 rfl (Nat.le_of_ble_eq_true rfl) ⟨rfl, rfl⟩ ⟨Nat.le_of_ble_eq_true rfl, Nat.le_of_ble_eq_true rfl⟩ ?_ ?_
  · intro E z1 hx
    have hE : E = xIO ∨ E = xIA := hx.2.elim (fun h => Or.inl h.1) (fun h => Or.inr h.1)
    rcases hE with rfl | rfl
    · refine ⟨13, ⟨[], (0, 10, 13, 13), [(0, 10, 17, 15)], rfl, fun _ h => absurd h List.not_mem_nil, ⟨by decide, by decide⟩, rfl, by decide, by decide +kernel, by decide +kernel, by decide +kernel⟩, fun q => ?_⟩
      refine v_astore hG [(0, _), (1, _), (2, _), (3, _), (4, _)] dL_writeDate_13 (by decide) rfl ?_
      refine v_iconst hG dL_writeDate_15 ?_
      exact w_iret hG hR ⟨Nat.le_of_ble_eq_true rfl, Nat.le_of_ble_eq_true rfl⟩ dL_writeDate_16 (Or.inr (Or.inl (⟨rfl, hx⟩)))
    · refine ⟨17, ⟨[(0, 10, 13, 13)], (0, 10, 17, 15), [], rfl, by
        intro q hq
        rcases List.mem_cons.mp hq with rfl | hq
        · exact ⟨by decide, by decide +kernel, by decide +kernel, by decide +kernel⟩
        exact absurd hq List.not_mem_nil, ⟨by decide, by decide⟩, rfl, by decide, by decide +kernel, by decide +kernel, by decide +kernel⟩, fun q => ?_⟩
      refine v_astore hG [(0, _), (1, _), (2, _), (3, _), (4, _)] dL_writeDate_17 (by decide) rfl ?_
      refine v_iconst hG dL_writeDate_19 ?_
      exact w_iret hG hR ⟨Nat.le_of_ble_eq_true rfl, Nat.le_of_ble_eq_true rfl⟩ dL_writeDate_20 (Or.inr (Or.inr (⟨rfl, hx⟩)))
  · intro x z2 hp
    refine v_i2l hG dL_writeDate_8 ?_
    refine v_lastore hG dL_writeDate_9 ?_
    refine v_goto hG 21 dL_writeDate_10 (by decide) ?_
    refine v_iconst hG dL_writeDate_21 ?_
    exact w_iret hG hR ⟨Nat.le_of_ble_eq_true rfl, Nat.le_of_ble_eq_true rfl⟩ dL_writeDate_22 (Or.inl (⟨rfl, x, z2, hp, rfl⟩))

set_option maxHeartbeats 4000000 in
set_option maxRecDepth 100000 in
theorem c_L_undo {l : Launch} {D : va_G} {cA : Nat → ClassId} {r : Nat → Nat} {z : Zt}  (hr : Inj r) (hst : l.stackTraces = false) (h0 : kd 0 = 1) (hP : PI z) (hA : AI z)  : Kw l D cA r yL_undo wsL_undo 7 110 1 z [.ref (r 0), .ref (r 176)] (fun v z1 => (v = 0 ∧ ∃ (x : Int) (z2 : Zt), (fun x z1 => cpB (zup z 0 2 (z 0 2 - 1)) 1 (z 19 (z 0 2 - 1).toNat).toNat = z1 ∧ 0 < z 0 2 ∧ x = z 0 2 - 1) x z2 ∧ zup z2 176 0 (jl x) = z1) ∨ (v = 1 ∧ (fun E z1 => z = z1 ∧ E = xIS ∧ z 0 2 ≤ 0) xIS z1)) := by
  refine Kw_of [(0, _), (1, _)] hr (by decide) rfl rfl (Nat.le_of_ble_eq_true rfl) rfl (fun Γ hG hR => ?_)
  refine v_aload_n hG dL_undo_0 1 rfl ?_
  refine v_iconst hG dL_undo_1 ?_
  refine v_aload_n hG dL_undo_2 0 rfl ?_
  refine w_callV (n := 0) (ci := 4) hG hR (c_X4_undo hr hst h0 hP hA) gL_undo_X4_undo rfl (by decide +kernel) rfl ⟨Nat.le_of_ble_eq_true rfl, Nat.le_of_ble_eq_true rfl⟩ h0 (by decide) (cl_1 _ _ _ _) rfl dL_undo_3 rfl (Nat.le_of_ble_eq_true rfl) ⟨rfl, rfl⟩ ⟨Nat.le_of_ble_eq_true rfl, Nat.le_of_ble_eq_true rfl⟩ ?_ ?_
  · intro E z1 hx
    have hE : E = xIS := hx.2.1
    rcases hE with rfl
    · refine ⟨11, ⟨[], (0, 8, 11, 17), [], rfl, fun _ h => absurd h List.not_mem_nil, ⟨by decide, by decide⟩, rfl, by decide, by decide +kernel, by decide +kernel, by decide +kernel⟩, fun q => ?_⟩
      refine v_astore_n hG [(0, _), (1, _), (2, _)] dL_undo_11 (by decide) rfl ?_
      refine v_iconst hG dL_undo_12 ?_
      exact w_iret hG hR ⟨Nat.le_of_ble_eq_true rfl, Nat.le_of_ble_eq_true rfl⟩ dL_undo_13 (Or.inr (⟨rfl, hx⟩))
  · intro x z2 hp
    refine v_i2l hG dL_undo_6 ?_
    refine v_lastore hG dL_undo_7 ?_
    refine v_goto hG 14 dL_undo_8 (by decide) ?_
    refine v_iconst hG dL_undo_14 ?_
    exact w_iret hG hR ⟨Nat.le_of_ble_eq_true rfl, Nat.le_of_ble_eq_true rfl⟩ dL_undo_15 (Or.inl (⟨rfl, x, z2, hp, rfl⟩))

set_option maxHeartbeats 4000000 in
set_option maxRecDepth 100000 in
theorem c_L_saveState {l : Launch} {D : va_G} {cA : Nat → ClassId} {r : Nat → Nat} {z : Zt} {i : Int} (hr : Inj r) (hst : l.stackTraces = false) (h0 : kd 0 = 1) (hA : AI z) (hL : LI z) (hi : -2147483648 ≤ i ∧ i < 2147483648) : Kw l D cA r yL_saveState wsL_saveState 8 132 1 z [.ref (r 0), .int (iN i), .ref (r 176)] (fun v z1 => (v = 0 ∧ ∃ (x : Int) (z2 : Zt), (fun x z1 => zup (cpB z (z 20 i.toNat).toNat 1) 21 i.toNat 1 = z1 ∧ (0 ≤ i ∧ i < 2) ∧ x = z 1 6) x z2 ∧ zup z2 176 0 (jl x) = z1) ∨ (v = 1 ∧ (fun E z1 => z = z1 ∧ E = xIO ∧ ¬ (0 ≤ i ∧ i < 2)) xIO z1)) := by
  refine Kw_of [(0, _), (1, _), (2, _)] hr (by decide) rfl rfl (Nat.le_of_ble_eq_true rfl) rfl (fun Γ hG hR => ?_)
  refine v_aload_n hG dL_saveState_0 2 rfl ?_
  refine v_iconst hG dL_saveState_1 ?_
  refine v_aload_n hG dL_saveState_2 0 rfl ?_
  refine v_iload_n hG dL_saveState_3 1 rfl ?_
  refine w_callV (n := 1) (ci := 4) hG hR (c_X4_saveState hr hst h0 hA hL hi) gL_saveState_X4_saveState rfl (by decide +kernel) rfl ⟨Nat.le_of_ble_eq_true rfl, Nat.le_of_ble_eq_true rfl⟩ h0 (by decide) (cl_1 _ _ _ _) rfl dL_saveState_4 rfl (Nat.le_of_ble_eq_true rfl) ⟨rfl, rfl⟩ ⟨Nat.le_of_ble_eq_true rfl, Nat.le_of_ble_eq_true rfl⟩ ?_ ?_
  · intro E z1 hx
    have hE : E = xIO := hx.2.1
    rcases hE with rfl
    · refine ⟨12, ⟨[], (0, 9, 12, 13), [], rfl, fun _ h => absurd h List.not_mem_nil, ⟨by decide, by decide⟩, rfl, by decide, by decide +kernel, by decide +kernel, by decide +kernel⟩, fun q => ?_⟩
      refine v_astore_n hG [(0, _), (1, _), (2, _), (3, _)] dL_saveState_12 (by decide) rfl ?_
      refine v_iconst hG dL_saveState_13 ?_
      exact w_iret hG hR ⟨Nat.le_of_ble_eq_true rfl, Nat.le_of_ble_eq_true rfl⟩ dL_saveState_14 (Or.inr (⟨rfl, hx⟩))
  · intro x z2 hp
    refine v_i2l hG dL_saveState_7 ?_
    refine v_lastore hG dL_saveState_8 ?_
    refine v_goto hG 15 dL_saveState_9 (by decide) ?_
    refine v_iconst hG dL_saveState_15 ?_
    exact w_iret hG hR ⟨Nat.le_of_ble_eq_true rfl, Nat.le_of_ble_eq_true rfl⟩ dL_saveState_16 (Or.inl (⟨rfl, x, z2, hp, rfl⟩))

set_option maxHeartbeats 4000000 in
set_option maxRecDepth 100000 in
theorem c_L_loadState {l : Launch} {D : va_G} {cA : Nat → ClassId} {r : Nat → Nat} {z : Zt} {i : Int} (hr : Inj r) (hst : l.stackTraces = false) (h0 : kd 0 = 1) (hP : PI z) (hA : AI z)  (hL : LI z)  (hB : ∀ i : Nat, i < 2 → 0 ≤ z 21 i ∧ z 21 i ≤ 1) (hi : -2147483648 ≤ i ∧ i < 2147483648) : Kw l D cA r yL_loadState wsL_loadState 8 132 2 z [.ref (r 0), .int (iN i), .ref (r 176)] (fun v z1 => (v = 0 ∧ ∃ (x : Int) (z2 : Zt), (fun x z1 => cpB (recZ z) 1 (z 20 i.toNat).toNat = z1 ∧ (0 ≤ i ∧ i < 2) ∧ z 21 i.toNat ≠ 0 ∧ x = cpB (recZ z) 1 (z 20 i.toNat).toNat 1 6) x z2 ∧ zup z2 176 0 (jl x) = z1) ∨ (v = 1 ∧ (fun E z1 => z = z1 ∧ ((E = xIO ∧ ¬ (0 ≤ i ∧ i < 2)) ∨ (E = xIS ∧ (0 ≤ i ∧ i < 2) ∧ z 21 i.toNat = 0))) xIO z1) ∨ (v = 2 ∧ (fun E z1 => z = z1 ∧ ((E = xIO ∧ ¬ (0 ≤ i ∧ i < 2)) ∨ (E = xIS ∧ (0 ≤ i ∧ i < 2) ∧ z 21 i.toNat = 0))) xIS z1)) := by
  refine Kw_of [(0, _), (1, _), (2, _)] hr (by decide) rfl rfl (Nat.le_of_ble_eq_true rfl) rfl (fun Γ hG hR => ?_)
  refine v_aload_n hG dL_loadState_0 2 rfl ?_
  refine v_iconst hG dL_loadState_1 ?_
  refine v_aload_n hG dL_loadState_2 0 rfl ?_
  refine v_iload_n hG dL_loadState_3 1 rfl ?_
  refine w_callV (n := 1) (ci := 4) hG hR (c_X4_loadState hr hst h0 hP hA hL hB hi) gL_loadState_X4_loadState rfl (by decide +kernel) rfl ⟨Nat.le_of_ble_eq_true rfl, Nat.le_of_ble_eq_true rfl⟩ h0 (by decide) (cl_1 _ _ _ _) rfl dL_loadState_4 rfl (Nat.le_of_ble_eq_true rfl) ⟨rfl, rfl⟩ ⟨Nat.le_of_ble_eq_true rfl, Nat.le_of_ble_eq_true rfl⟩ ?_ ?_
  · intro E z1 hx
    have hE : E = xIO ∨ E = xIS := hx.2.elim (fun h => Or.inl h.1) (fun h => Or.inr h.1)
    rcases hE with rfl | rfl
    · refine ⟨12, ⟨[], (0, 9, 12, 13), [(0, 9, 15, 17)], rfl, fun _ h => absurd h List.not_mem_nil, ⟨by decide, by decide⟩, rfl, by decide, by decide +kernel, by decide +kernel, by decide +kernel⟩, fun q => ?_⟩
      refine v_astore_n hG [(0, _), (1, _), (2, _), (3, _)] dL_loadState_12 (by decide) rfl ?_
      refine v_iconst hG dL_loadState_13 ?_
      exact w_iret hG hR ⟨Nat.le_of_ble_eq_true rfl, Nat.le_of_ble_eq_true rfl⟩ dL_loadState_14 (Or.inr (Or.inl (⟨rfl, hx⟩)))
    · refine ⟨15, ⟨[(0, 9, 12, 13)], (0, 9, 15, 17), [], rfl, by
        intro q hq
        rcases List.mem_cons.mp hq with rfl | hq
        · exact ⟨by decide, by decide +kernel, by decide +kernel, by decide +kernel⟩
        exact absurd hq List.not_mem_nil, ⟨by decide, by decide⟩, rfl, by decide, by decide +kernel, by decide +kernel, by decide +kernel⟩, fun q => ?_⟩
      refine v_astore_n hG [(0, _), (1, _), (2, _), (3, _)] dL_loadState_15 (by decide) rfl ?_
      refine v_iconst hG dL_loadState_16 ?_
      exact w_iret hG hR ⟨Nat.le_of_ble_eq_true rfl, Nat.le_of_ble_eq_true rfl⟩ dL_loadState_17 (Or.inr (Or.inr (⟨rfl, hx⟩)))
  · intro x z2 hp
    refine v_i2l hG dL_loadState_7 ?_
    refine v_lastore hG dL_loadState_8 ?_
    refine v_goto hG 18 dL_loadState_9 (by decide) ?_
    refine v_iconst hG dL_loadState_18 ?_
    exact w_iret hG hR ⟨Nat.le_of_ble_eq_true rfl, Nat.le_of_ble_eq_true rfl⟩ dL_loadState_19 (Or.inl (⟨rfl, x, z2, hp, rfl⟩))
