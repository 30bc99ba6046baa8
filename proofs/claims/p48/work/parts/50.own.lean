set_option maxHeartbeats 4000000 in
set_option maxRecDepth 100000 in
theorem c_X4_requireRange {l : Launch} {D : va_G} {cA : Nat → ClassId} {r : Nat → Nat} {z : Zt} {v lo hi : Int} (hr : Inj r) (hv : -2147483648 ≤ v ∧ v < 2147483648) (hlo : -2147483648 ≤ lo ∧ lo < 2147483648) (hhi : -2147483648 ≤ hi ∧ hi < 2147483648) (hok : lo ≤ v ∧ v ≤ hi) : Kv l D cA r yX4_requireRange wsX4_requireRange 0 0 z [.int (iN v), .int (iN lo), .int (iN hi)] (fun z1 => z = z1 ∧ (lo ≤ v ∧ v ≤ hi)) := by
  refine Kv_of [(0, _), (1, _), (2, _)] hr (by decide) rfl rfl (Nat.le_of_ble_eq_true rfl) rfl (fun Γ hG hR => ?_)
  refine v_iload_n hG dX4_requireRange_0 0 rfl ?_
  refine v_iload_n hG dX4_requireRange_1 1 rfl ?_
  refine v_icmp_lt hG 10 (by omega) (by omega) dX4_requireRange_2 (by decide) (fun h2 => ?_) (fun h2 => ?_)
  · exfalso; omega
  · refine v_iload_n hG dX4_requireRange_5 0 rfl ?_
    refine v_iload_n hG dX4_requireRange_6 2 rfl ?_
    refine v_icmp_le hG 20 (by omega) (by omega) dX4_requireRange_7 (by decide) (fun h7 => ?_) (fun h7 => ?_)
    · exact v_vret hG hR dX4_requireRange_20 ⟨rfl, by omega⟩
    · exfalso; omega

set_option maxHeartbeats 4000000 in
set_option maxRecDepth 100000 in
theorem c_X4_requireIndex {l : Launch} {D : va_G} {cA : Nat → ClassId} {r : Nat → Nat} {z : Zt} {v hi : Int} (hr : Inj r) (hv : -2147483648 ≤ v ∧ v < 2147483648) (hhi : -2147483648 ≤ hi ∧ hi < 2147483648) (hok : 0 ≤ v ∧ v < hi) : Kv l D cA r yX4_requireIndex wsX4_requireIndex 0 0 z [.int (iN v), .int (iN hi)] (fun z1 => z = z1 ∧ (0 ≤ v ∧ v < hi)) := by
  refine Kv_of [(0, _), (1, _)] hr (by decide) rfl rfl (Nat.le_of_ble_eq_true rfl) rfl (fun Γ hG hR => ?_)
  refine v_iload_n hG dX4_requireIndex_0 0 rfl ?_
  refine v_if_lt hG 9 (by omega) dX4_requireIndex_1 (by decide) (fun h1 => ?_) (fun h1 => ?_)
  · exfalso; omega
  · refine v_iload_n hG dX4_requireIndex_4 0 rfl ?_
    refine v_iload_n hG dX4_requireIndex_5 1 rfl ?_
    refine v_icmp_lt hG 19 (by omega) (by omega) dX4_requireIndex_6 (by decide) (fun h6 => ?_) (fun h6 => ?_)
    · exact v_vret hG hR dX4_requireIndex_19 ⟨rfl, by omega⟩
    · exfalso; omega

set_option maxHeartbeats 4000000 in
set_option maxRecDepth 100000 in
theorem c_X4_requireTown {l : Launch} {D : va_G} {cA : Nat → ClassId} {r : Nat → Nat} {z : Zt} {t : Int} (hr : Inj r) (h0 : kd 0 = 1) (ht : -2147483648 ≤ t ∧ t < 2147483648) (hok : 0 ≤ t ∧ t ≤ 1) : Kr l D cA r yX4_requireTown wsX4_requireTown 1 21 z [.ref (r 0), .int (iN t)] (fun t1 z1 => z = z1 ∧ kd t1 = 3 ∧ t1 = tid t ∧ (0 ≤ t ∧ t ≤ 1)) := by
  have iW4 : ∀ w ∈ u_ws RX4 TX4 7, w ∈ wsX4_requireTown := by decide +kernel
  have f10 : Cond.fieldLink RX4 10 (TX4 0).1 (TX4 0).2.1 (TX4 0).2.2.1 ∈ wsX4_requireTown := by decide +kernel
  refine Kr_of [(0, _), (1, _)] hr (by decide) rfl rfl (Nat.le_of_ble_eq_true rfl) rfl (fun Γ hG hR => ?_)
  refine v_iload_n hG dX4_requireTown_0 1 rfl ?_
  refine v_iconst hG dX4_requireTown_1 ?_
  refine v_callSv (n := 2) hG (c_X4_requireIndex hr (by omega) (by omega) (by omega)) gX4_requireTown_X4_requireIndex rfl (by decide +kernel) rfl (by decide) dX4_requireTown_2 rfl (Nat.le_of_ble_eq_true rfl) (by decide) ?_
  intro z2 hp2
  obtain ⟨rfl, hr2⟩ := hp2
  refine v_aload_n hG dX4_requireTown_5 0 rfl ?_
  refine v_getf (ci := 4) (k := 0) hG iW4 f10 rfl (by decide) h0 (by decide) (cl_1 _ _ _ _) rfl dX4_requireTown_6 ?_
  refine v_iload_n hG dX4_requireTown_9 1 rfl ?_
  refine v_callVr (n := 1) (ci := 2) hG (c_X2_townWith hr k_1 (by omega)) gX4_requireTown_X2_townWith rfl (by decide +kernel) rfl (by decide) k_1 (by decide) (cl_2 _ _ _ _) rfl dX4_requireTown_10 rfl (Nat.le_of_ble_eq_true rfl) (by decide) ?_
  intro t10 z10 hp10
  obtain ⟨rfl, hk10, ht10⟩ := hp10
  exact v_aret hG hR dX4_requireTown_13 ⟨rfl, hk10, ht10, by omega⟩

set_option maxHeartbeats 4000000 in
set_option maxRecDepth 100000 in
theorem c_X4_requireFeast {l : Launch} {D : va_G} {cA : Nat → ClassId} {r : Nat → Nat} {z : Zt} {f : Int} (hr : Inj r) (h0 : kd 0 = 1) (hm10 : 0 ≤ z 1 3 ∧ z 1 3 ≤ 10) (hf : -2147483648 ≤ f ∧ f < 2147483648) (hok : 0 ≤ f ∧ f < z 1 3) : Kr l D cA r yX4_requireFeast wsX4_requireFeast 1 21 z [.ref (r 0), .int (iN f)] (fun t1 z1 => z = z1 ∧ kd t1 = 4 ∧ t1 = 9 + f.toNat ∧ (0 ≤ f ∧ f < z 1 3)) := by
  have iW2 : ∀ w ∈ u_ws RX2 TX2 9, w ∈ wsX4_requireFeast := by decide +kernel
  have iW4 : ∀ w ∈ u_ws RX4 TX4 7, w ∈ wsX4_requireFeast := by decide +kernel
  have f10 : Cond.fieldLink RX4 10 (TX4 0).1 (TX4 0).2.1 (TX4 0).2.2.1 ∈ wsX4_requireFeast := by decide +kernel
  have f105 : Cond.fieldLinkNest RX4 105 (TX2 3).1 (TX2 3).2.1 (TX2 3).2.2.1 "TwoTownAlmanac" ∈ nwF := by decide +kernel
  have f228 : Cond.fieldLinkNest RX4 228 (TX2 2).1 (TX2 2).2.1 (TX2 2).2.2.1 "TwoTownAlmanac" ∈ nwF := by decide +kernel
  refine Kr_of [(0, _), (1, _)] hr (by decide) rfl rfl (Nat.le_of_ble_eq_true rfl) rfl (fun Γ hG hR => ?_)
  refine v_iload_n hG dX4_requireFeast_0 1 rfl ?_
  refine v_aload_n hG dX4_requireFeast_1 0 rfl ?_
  refine v_getf (ci := 4) (k := 0) hG iW4 f10 rfl (by decide) h0 (by decide) (cl_1 _ _ _ _) rfl dX4_requireFeast_2 ?_
  refine v_getfN (ci := 2) (k := 3) hG iW2 f105 rfl (by decide) k_1 (by decide) (cl_2 _ _ _ _) rfl dX4_requireFeast_5 ?_
  refine v_callSv (n := 2) hG (c_X4_requireIndex hr (by omega) (by omega) (by omega)) gX4_requireFeast_X4_requireIndex rfl (by decide +kernel) rfl (by decide) dX4_requireFeast_8 rfl (Nat.le_of_ble_eq_true rfl) (by decide) ?_
  intro z8 hp8
  obtain ⟨rfl, hr8⟩ := hp8
  refine v_aload_n hG dX4_requireFeast_11 0 rfl ?_
  refine v_getf (ci := 4) (k := 0) hG iW4 f10 rfl (by decide) h0 (by decide) (cl_1 _ _ _ _) rfl dX4_requireFeast_12 ?_
  refine v_getfN (ci := 2) (k := 2) hG iW2 f228 rfl (by decide) k_1 (by decide) (cl_2 _ _ _ _) rfl dX4_requireFeast_15 ?_
  refine v_iload_n hG dX4_requireFeast_18 1 rfl ?_
  refine v_aaldF hG (kS_F k_1) (by omega) dX4_requireFeast_19 ?_
  exact v_aret hG hR dX4_requireFeast_20 ⟨rfl, kF_f (kS_F k_1) (by omega), rfl, by omega⟩

set_option maxHeartbeats 4000000 in
set_option maxRecDepth 100000 in
theorem c_X4_dropOldestRecorded {l : Launch} {D : va_G} {cA : Nat → ClassId} {r : Nat → Nat} {z : Zt}  (hr : Inj r) (h0 : kd 0 = 1) (hP : PI z) : Kv l D cA r yX4_dropOldestRecorded wsX4_dropOldestRecorded 0 0 z [.ref (r 0)] (fun z1 => drZ z = z1) := by
  have iW4 : ∀ w ∈ u_ws RX4 TX4 7, w ∈ wsX4_dropOldestRecorded := by decide +kernel
  have f16 : Cond.fieldLink RX4 16 (TX4 1).1 (TX4 1).2.1 (TX4 1).2.2.1 ∈ wsX4_dropOldestRecorded := by decide +kernel
  have f20 : Cond.fieldLink RX4 20 (TX4 2).1 (TX4 2).2.1 (TX4 2).2.2.1 ∈ wsX4_dropOldestRecorded := by decide +kernel
  obtain ⟨p1, p2, p3, p4⟩ := id hP
  refine Kv_of [(0, _)] hr (by decide) rfl rfl (Nat.le_of_ble_eq_true rfl) rfl (fun Γ hG hR => ?_)
  refine v_aload_n hG dX4_dropOldestRecorded_0 0 rfl ?_
  refine v_getf (ci := 4) (k := 1) hG iW4 f16 rfl (by decide) h0 (by decide) (cl_1 _ _ _ _) rfl dX4_dropOldestRecorded_1 ?_
  refine v_iconst hG dX4_dropOldestRecorded_4 ?_
  refine v_aaldS hG k_19 (by decide) (cl_36 _ _ _ _) (by decide) (by omega) dX4_dropOldestRecorded_5 ?_
  refine v_astore_n hG [(0, _), (1, _)] dX4_dropOldestRecorded_6 (by decide) rfl ?_
  refine v_iconst hG dX4_dropOldestRecorded_7 ?_
  refine v_istore_n hG [(0, _), (1, _), (2, _)] dX4_dropOldestRecorded_8 (by decide) rfl ?_
  have L9 : ∀ (n : Nat), ∀ (x2 : Int) (z1 : Zt), (1 ≤ x2 ∧ x2 ≤ 6 ∧ z1 = zset z 19 (fun p => if (p : Int) + 1 < x2 then z 19 (p + 1) else z 19 p)) → (6 - x2 + 1).toNat ≤ n → V Γ z1 0 0 [(0, .ref (r 0)), (1, .ref (r (z 19 (0 : Int).toNat).toNat)), (2, .int (iN x2))] 9 [] := by
    intro n
    induction n with
    | zero =>
      intro x2 z1 hI hm
      obtain ⟨i1, i2, i3v⟩ := hI
      exact absurd hm (by omega)
    | succ n ih9 =>
      intro x2 z1 hI hm
      obtain ⟨i1, i2, i3v⟩ := hI
      have e19 : ∀ k : Nat, x2 ≤ (k : Int) + 1 → z1 19 k = z 19 k := fun k hk => by
        rw [i3v, zset_at, if_neg (by omega)]
      refine v_iload_n hG dX4_dropOldestRecorded_9 2 rfl ?_
      refine v_bipush hG dX4_dropOldestRecorded_10 (by decide) ?_
      refine v_icmp_ge hG 35 (by omega) (by omega) dX4_dropOldestRecorded_12 (by decide) (fun h12 => ?_) (fun h12 => ?_)
      · refine v_aload_n hG dX4_dropOldestRecorded_35 0 rfl ?_
        refine v_getf (ci := 4) (k := 1) hG iW4 f16 rfl (by decide) h0 (by decide) (cl_1 _ _ _ _) rfl dX4_dropOldestRecorded_36 ?_
        refine v_iconst hG dX4_dropOldestRecorded_39 ?_
        refine v_aload_n hG dX4_dropOldestRecorded_40 1 rfl ?_
        refine v_aastS hG k_19 (by decide) (cl_36 _ _ _) (by decide) (p1 0 (by decide)).2 (by omega) dX4_dropOldestRecorded_41 ?_
        refine v_aload_n hG dX4_dropOldestRecorded_42 0 rfl ?_
        refine v_iconst hG dX4_dropOldestRecorded_43 ?_
        refine v_putf (ci := 4) (k := 2) hG iW4 tyX4_ok nmX4 f20 rfl (by decide) rfl rfl h0 (by decide) (cl_1 _ _ _ _) (Nat.le_of_ble_eq_true rfl) rfl dX4_dropOldestRecorded_44 ?_
        refine v_re hG (drZ z) ?_ ?_
        · intro i j _ hj
          have e6 : x2 = 6 := by omega
          rw [i3v, e6, zup_zset]
          unfold drZ
          by_cases q0 : i = 0
          · subst q0
            simp [zup, zset]
          · by_cases q1 : i = 19
            · subst q1
              simp only [zup, zset, q0, if_false, if_pos]
              unfold rot
              have h0 := (p1 0 (by decide)).1
              by_cases q5 : j = 5
              · subst q5
                rw [if_pos (by omega), if_neg (by omega), if_pos rfl]
                show ((z 19 0).toNat : Int) = z 19 0
                omega
              · rw [if_neg (by omega)]
                by_cases q6 : j < 5
                · rw [if_pos (by omega), if_pos q6]
                · rw [if_neg (by omega), if_neg q6, if_neg q5]
            · simp [zup, zset, q0, q1]
        exact v_vret hG hR dX4_dropOldestRecorded_47 rfl
      · refine v_aload_n hG dX4_dropOldestRecorded_15 0 rfl ?_
        refine v_getf (ci := 4) (k := 1) hG iW4 f16 rfl (by decide) h0 (by decide) (cl_1 _ _ _ _) rfl dX4_dropOldestRecorded_16 ?_
        refine v_iload_n hG dX4_dropOldestRecorded_19 2 rfl ?_
        refine v_iconst hG dX4_dropOldestRecorded_20 ?_
        refine v_isub hG dX4_dropOldestRecorded_21 ?_
        refine v_aload_n hG dX4_dropOldestRecorded_22 0 rfl ?_
        refine v_getf (ci := 4) (k := 1) hG iW4 f16 rfl (by decide) h0 (by decide) (cl_1 _ _ _ _) rfl dX4_dropOldestRecorded_23 ?_
        refine v_iload_n hG dX4_dropOldestRecorded_26 2 rfl ?_
        refine v_aaldS hG k_19 (by decide) (cl_36 _ _ _ _) (by decide) (by omega) dX4_dropOldestRecorded_27 ?_
        refine v_aastS hG k_19 (by decide) (cl_36 _ _ _) (by decide) (by rw [e19 _ (by omega)]; exact (p1 x2.toNat (by omega)).2) (by omega) dX4_dropOldestRecorded_28 ?_
        refine v_iinc hG [(0, _), (1, _), (2, _)] dX4_dropOldestRecorded_29 2 rfl (by decide) rfl ?_
        refine v_goto hG 9 dX4_dropOldestRecorded_32 (by decide) ?_
        refine ih9 _ _ ?_ (by omega)
        refine ⟨by omega, by omega, ?_⟩
        rw [e19 _ (by omega), i3v, zup_zset]
        congr 1
        funext p
        by_cases q9 : p = (x2 - 1).toNat
        · rw [if_pos q9, if_pos (by omega), q9, show (x2 - 1).toNat + 1 = x2.toNat by omega]
          have := (p1 x2.toNat (by omega)).1
          omega
        · rw [if_neg q9]
          by_cases q8 : (p : Int) + 1 < x2
          · rw [if_pos q8, if_pos (by omega)]
          · rw [if_neg q8, if_neg (by omega)]
  exact L9 _ _ _ ⟨by omega, by omega, by rw [show (fun p : Nat => if (p : Int) + 1 < 1 then z 19 (p + 1) else z 19 p) = z 19 from funext (fun p => if_neg (by omega)), zset_same]⟩ (Nat.le_refl _)

set_option maxHeartbeats 4000000 in
set_option maxRecDepth 100000 in
theorem c_X4_recordState {l : Launch} {D : va_G} {cA : Nat → ClassId} {r : Nat → Nat} {z : Zt}  (hr : Inj r) (h0 : kd 0 = 1) (hP : PI z) (hA : AI z) : Kv l D cA r yX4_recordState wsX4_recordState 2 44 z [.ref (r 0)] (fun z1 => recZ z = z1) := by
  have iW4 : ∀ w ∈ u_ws RX4 TX4 7, w ∈ wsX4_recordState := by decide +kernel
  have f10 : Cond.fieldLink RX4 10 (TX4 0).1 (TX4 0).2.1 (TX4 0).2.2.1 ∈ wsX4_recordState := by decide +kernel
  have f16 : Cond.fieldLink RX4 16 (TX4 1).1 (TX4 1).2.1 (TX4 1).2.2.1 ∈ wsX4_recordState := by decide +kernel
  have f20 : Cond.fieldLink RX4 20 (TX4 2).1 (TX4 2).2.1 (TX4 2).2.2.1 ∈ wsX4_recordState := by decide +kernel
  obtain ⟨p1, p2, p3, p4⟩ := id hP
  have hq2 := rc0_2 hP
  have hqk := recQ_is hP
  have hAr := AI_rc0 hA
  refine Kv_of [(0, _)] hr (by decide) rfl rfl (Nat.le_of_ble_eq_true rfl) rfl (fun Γ hG hR => ?_)
  refine v_aload_n hG dX4_recordState_0 0 rfl ?_
  refine v_getf (ci := 4) (k := 2) hG iW4 f20 rfl (by decide) h0 (by decide) (cl_1 _ _ _ _) rfl dX4_recordState_1 ?_
  refine v_bipush hG dX4_recordState_4 (by decide) ?_
  have L13 : ∀ (z2 : Zt), z2 = rc0 z → V Γ z2 0 0 [(0, .ref (r 0))] 13 [] := by
    intro z2 hI
    subst hI
    refine v_aload_n hG dX4_recordState_13 0 rfl ?_
    refine v_getf (ci := 4) (k := 1) hG iW4 f16 rfl (by decide) h0 (by decide) (cl_1 _ _ _ _) rfl dX4_recordState_14 ?_
    refine v_aload_n hG dX4_recordState_17 0 rfl ?_
    refine v_getf (ci := 4) (k := 2) hG iW4 f20 rfl (by decide) h0 (by decide) (cl_1 _ _ _ _) rfl dX4_recordState_18 ?_
    refine v_aaldS hG k_19 (by decide) (cl_36 _ _ _ _) (by decide) (by omega) dX4_recordState_21 ?_
    refine v_aload_n hG dX4_recordState_22 0 rfl ?_
    refine v_getf (ci := 4) (k := 0) hG iW4 f10 rfl (by decide) h0 (by decide) (cl_1 _ _ _ _) rfl dX4_recordState_23 ?_
    refine v_callVv (n := 1) (ci := 2) hG (c_X2_copyFrom hr hqk.1 k_1 (by exact hqk.2.1) (by rw [(hAr _ hqk.1).1, (hAr 1 k_1).1]) (by rw [(hAr _ hqk.1).2, (hAr 1 k_1).2])) gX4_recordState_X2_copyFrom rfl (by decide +kernel) rfl (by decide) hqk.1 (by decide) (cl_2 _ _ _ _) rfl dX4_recordState_26 rfl (Nat.le_of_ble_eq_true rfl) (by decide) ?_
    intro z26 hp26
    obtain rfl := hp26
    refine v_aload_n hG dX4_recordState_29 0 rfl ?_
    refine v_dup hG dX4_recordState_30 rfl ?_
    refine v_getf (ci := 4) (k := 2) hG iW4 f20 rfl (by decide) h0 (by decide) (cl_1 _ _ _ _) rfl dX4_recordState_31 ?_
    rw [show cpB (rc0 z) (recQ z) 1 0 2 = rc0 z 0 2 by unfold cpB; rw [if_neg (by omega)]]
    refine v_iconst hG dX4_recordState_34 ?_
    refine v_iadd hG dX4_recordState_35 ?_
    refine v_putf (ci := 4) (k := 2) hG iW4 tyX4_ok nmX4 f20 rfl (by decide) rfl rfl h0 (by decide) (cl_1 _ _ _ _) (Nat.le_of_ble_eq_true rfl) rfl dX4_recordState_36 ?_
    exact v_vret hG hR dX4_recordState_39 rfl
  refine v_icmp_lt hG 13 (by omega) (by omega) dX4_recordState_6 (by decide) (fun h6 => ?_) (fun h6 => ?_)
  · exact L13 _ (by unfold rc0; first | (rw [if_pos (by omega)]) | (rw [if_neg (by omega)]))
  · refine v_aload_n hG dX4_recordState_9 0 rfl ?_
    refine v_callVv (n := 0) (ci := 4) hG (c_X4_dropOldestRecorded hr h0 hP) gX4_recordState_X4_dropOldestRecorded rfl (by decide +kernel) rfl (by decide) h0 (by decide) (cl_1 _ _ _ _) rfl dX4_recordState_10 rfl (Nat.le_of_ble_eq_true rfl) (by decide) ?_
    intro z10 hp10
    obtain rfl := hp10
    exact L13 _ (by unfold rc0; first | (rw [if_pos (by omega)]) | (rw [if_neg (by omega)]))

set_option maxHeartbeats 4000000 in
set_option maxRecDepth 100000 in
theorem c_X4_quarrelsFrom {l : Launch} {D : va_G} {cA : Nat → ClassId} {r : Nat → Nat} {z : Zt} {fr days : Int} (hr : Inj r) (h0 : kd 0 = 1) (hS : SI z 1) (hd : 0 ≤ fr ∧ fr ≤ 20000 ∧ 1 ≤ days ∧ days ≤ 400) : Ki l D cA r yX4_quarrelsFrom wsX4_quarrelsFrom 5 120 z [.ref (r 0), .int (iN fr), .int (iN days)] (fun x z1 => ag24 z z1 ∧ x = cntP (fun i => quS z 1 (fr + i)) days.toNat ∧ (∀ i : Nat, (i : Int) < days → isSet (fun j => (j : Int) < z 1 3 ∧ onS z 1 (1 + 8 + j) (fr + i)) (z1 24 i))) := by
  have iW4 : ∀ w ∈ u_ws RX4 TX4 7, w ∈ wsX4_quarrelsFrom := by decide +kernel
  have f10 : Cond.fieldLink RX4 10 (TX4 0).1 (TX4 0).2.1 (TX4 0).2.2.1 ∈ wsX4_quarrelsFrom := by decide +kernel
  have f38 : Cond.fieldLink RX4 38 (TX4 6).1 (TX4 6).2.1 (TX4 6).2.2.1 ∈ wsX4_quarrelsFrom := by decide +kernel
  obtain ⟨hTA, hTB, hA1, hB0, hmn, hsh, hcp, hdn, hfe⟩ := id hS
  refine Ki_of [(0, _), (1, _), (2, _)] hr (by decide) rfl rfl (Nat.le_of_ble_eq_true rfl) rfl (fun Γ hG hR => ?_)
  refine v_aload_n hG dX4_quarrelsFrom_0 0 rfl ?_
  refine v_getf (ci := 4) (k := 0) hG iW4 f10 rfl (by decide) h0 (by decide) (cl_1 _ _ _ _) rfl dX4_quarrelsFrom_1 ?_
  refine v_aload_n hG dX4_quarrelsFrom_4 0 rfl ?_
  refine v_getf (ci := 4) (k := 6) hG iW4 f38 rfl (by decide) h0 (by decide) (cl_1 _ _ _ _) rfl dX4_quarrelsFrom_5 ?_
  refine v_iload_n hG dX4_quarrelsFrom_8 1 rfl ?_
  refine v_iload_n hG dX4_quarrelsFrom_9 2 rfl ?_
  refine v_callVv (n := 3) (ci := 2) hG (c_X2_markFeasts hr k_1 k_24 hS hd) gX4_quarrelsFrom_X2_markFeasts rfl (by decide +kernel) rfl (by decide) k_1 (by decide) (cl_2 _ _ _ _) rfl dX4_quarrelsFrom_10 rfl (Nat.le_of_ble_eq_true rfl) (by decide) ?_
  intro z10 hp10
  obtain ⟨ha10, hm10⟩ := hp10
  have hbl := ag24_blk ha10 k_1
  have hS2 := blk_SI hbl hS
  have es : z10 1 = z 1 := ag24_s ha10 k_1
  refine v_aload_n hG dX4_quarrelsFrom_13 0 rfl ?_
  refine v_getf (ci := 4) (k := 0) hG iW4 f10 rfl (by decide) h0 (by decide) (cl_1 _ _ _ _) rfl dX4_quarrelsFrom_14 ?_
  refine v_aload_n hG dX4_quarrelsFrom_17 0 rfl ?_
  refine v_getf (ci := 4) (k := 6) hG iW4 f38 rfl (by decide) h0 (by decide) (cl_1 _ _ _ _) rfl dX4_quarrelsFrom_18 ?_
  refine v_iload_n hG dX4_quarrelsFrom_21 2 rfl ?_
  refine v_callVi (n := 2) (ci := 2) hG (c_X2_countQuarrels hr k_1 k_24 hS2 (by omega) (P := fun i j => (j : Int) < z 1 3 ∧ onS z 1 (1 + 8 + j) (fr + i)) hm10) gX4_quarrelsFrom_X2_countQuarrels rfl (by decide +kernel) rfl (by decide) k_1 (by decide) (cl_2 _ _ _ _) rfl dX4_quarrelsFrom_22 rfl (Nat.le_of_ble_eq_true rfl) (by decide) ?_
  intro v22 z22 hp22
  obtain ⟨rfl, rfl⟩ := hp22
  exact v_iret hG hR dX4_quarrelsFrom_25 ⟨ha10, cntP_congr (fun i hi => by
    have e9 : ∀ j : Nat, (j : Int) < z 1 3 → z10 (1 + 8 + j) = z (1 + 8 + j) := fun j hj => by
      have := hbl (8 + j) (by omega)
      rw [show 1 + 8 + j = 1 + (8 + j) by omega]
      exact this
    unfold quS
    rw [es]
    constructor
    · rintro ⟨⟨j, a1, a2, a3⟩, k, b1, b2, b3⟩
      exact ⟨⟨j, a1, a2, by rw [← e9 j a2]; exact a3⟩, k, b1, b2, by rw [← e9 k b2]; exact b3⟩
    · rintro ⟨⟨j, a1, a2, a3⟩, k, b1, b2, b3⟩
      exact ⟨⟨j, a1, a2, by rw [e9 j a2]; exact a3⟩, k, b1, b2, by rw [e9 k b2]; exact b3⟩), hm10⟩

