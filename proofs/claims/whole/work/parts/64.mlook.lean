noncomputable def qwM (ρ : Nat → Int) (n : Nat) : Int := cntP (fun i => quM ρ (ρ 57 + i)) n
theorem barM_row {w : Zt} {k : Nat} {b c : Int} : zup (zup w 170 k b) 170 k c 170 = upd (w 170) k c := by
  rw [zup_zup]
  funext j
  simp [zup, upd]
theorem barR_MI {ρ : Nat → Int} {f b : Int} (hM : MI ρ) (hf : 0 ≤ f ∧ f < ρ 14) (hb : -1 ≤ b ∧ b ≤ 6) : MI (upd ρ (15 + 4 * f + 3).toNat b) := by
  obtain ⟨a1, a2, a3, a4, a5, a6⟩ := hM
  have o : ∀ p : Nat, p ≠ (15 + 4 * f + 3).toNat → upd ρ (15 + 4 * f + 3).toNat b p = ρ p := fun p hp => by simp [upd, hp]
  refine ⟨fun t ht => ?_, by rw [o _ (by omega)]; exact a2, fun g g1 g2 => ?_, by rw [o _ (by omega)]; exact a4, by rw [o _ (by omega)]; exact a5, by rw [o _ (by omega)]; exact a6⟩
  · have hg := a1 t ht
    obtain ⟨g1, g2, g3, g4⟩ := hg
    have en : mN (upd ρ (15 + 4 * f + 3).toNat b) t = mN ρ t := by
      unfold mN
      exact o _ (by omega)
    have eD : ∀ k : Nat, k < 3 → mD (upd ρ (15 + 4 * f + 3).toNat b) t k = mD ρ t k ∧ mL (upd ρ (15 + 4 * f + 3).toNat b) t k = mL ρ t k := fun k hk => by
      unfold mD mL
      exact ⟨o _ (by omega), o _ (by omega)⟩
    unfold GI
    rw [en]
    refine ⟨g1, g2, fun k hk => ?_, fun k hk => ?_⟩
    · rw [(eD k (by omega)).1, (eD k (by omega)).2]
      exact g3 k hk
    · rw [(eD k (by omega)).1, (eD (k + 1) (by omega)).1]
      exact g4 k hk
  · rw [o _ (by omega)] at g2
    have h9 := a3 g g1 g2
    unfold MF at h9 ⊢
    have e0 : ∀ x : Int, 0 ≤ x → x ≤ 2 → mF (upd ρ (15 + 4 * f + 3).toNat b) g x = mF ρ g x := fun x x1 x2 => by
      unfold mF
      exact o _ (by omega)
    rw [e0 0 (by decide) (by decide), e0 1 (by decide) (by decide), e0 2 (by decide) (by decide)]
    by_cases q : g = f
    · have e3 : mF (upd ρ (15 + 4 * f + 3).toNat b) g 3 = b := by
        unfold mF
        rw [q]
        simp [upd]
      rw [e3]
      omega
    · have e3 : mF (upd ρ (15 + 4 * f + 3).toNat b) g 3 = mF ρ g 3 := by
        unfold mF
        exact o _ (by omega)
      rw [e3]
      exact h9
noncomputable def psR (ρ : Nat → Int) (k : Nat) : Nat → Int := fun p =>
  if p = 58 then ρ 58 + sumN (fun i => cntP (fun j => ((j : Int) < ρ 14 ∧ onM ρ j (ρ 57 + i)) ∧ mF ρ j 0 = 0) (ρ 14).toNat) k
  else if p = 59 then ρ 59 + sumN (fun i => cntP (fun j => ((j : Int) < ρ 14 ∧ onM ρ j (ρ 57 + i)) ∧ mF ρ j 0 = 1) (ρ 14).toNat) k
  else if p = 60 then ρ 60 + qwM ρ k
  else if p = 61 then ρ 61 + sumN (fun i => ind (∀ j : Nat, ¬ ((j : Int) < ρ 14 ∧ onM ρ j (ρ 57 + i))) * ρ 56) k
  else if p = 57 then ρ 57 + k else ρ p
theorem psR_0 (ρ : Nat → Int) : psR ρ 0 = ρ := by
  funext p
  unfold psR qwM
  simp only [sumN, cntP]
  by_cases q1 : p = 58
  · subst q1; simp
  by_cases q2 : p = 59
  · subst q2; simp
  by_cases q3 : p = 60
  · subst q3; simp
  by_cases q4 : p = 61
  · subst q4; simp
  by_cases q5 : p = 57
  · subst q5; simp
  simp [q1, q2, q3, q4, q5]
theorem psR_57 (ρ : Nat → Int) (k : Nat) : psR ρ k 57 = ρ 57 + k := by simp [psR]
theorem psR_56 (ρ : Nat → Int) (k : Nat) : psR ρ k 56 = ρ 56 := by simp [psR]
theorem psR_ag (ρ : Nat → Int) (k : Nat) : agR ρ (psR ρ k) := fun p hp => by
  unfold psR
  rw [if_neg (by omega), if_neg (by omega), if_neg (by omega), if_neg (by omega), if_neg (by omega)]
def st5 (σ : Nat → Int) (a b c e : Int) : Nat → Int := fun p => if p = 58 then σ 58 + a else if p = 59 then σ 59 + b else if p = 60 then σ 60 + c else if p = 61 then σ 61 + e else if p = 57 then σ 57 + 1 else σ p
theorem st5_w (X : Zt) (σ : Nat → Int) (a b c e : Int) : zup (zup (zup (zup (zup (zset X 170 σ) 170 58 (σ 58 + a)) 170 59 (σ 59 + b)) 170 60 (σ 60 + c)) 170 61 (σ 61 + e)) 170 57 (σ 57 + 1) = zset X 170 (st5 σ a b c e) := by
  rw [zup_zset, zup_zset, zup_zset, zup_zset, zup_zset]
  congr 1
  funext p
  unfold st5
  by_cases q5 : p = 57
  · subst q5; simp
  by_cases q4 : p = 61
  · subst q4; simp
  by_cases q3 : p = 60
  · subst q3; simp
  by_cases q2 : p = 59
  · subst q2; simp
  by_cases q1 : p = 58
  · subst q1; simp
  simp [q1, q2, q3, q4, q5]
theorem psR_step {ρ : Nat → Int} {k : Nat} {v a b : Int} (hs : isSet (fun j : Nat => (j : Int) < ρ 14 ∧ onM ρ j (ρ 57 + k)) v) (ha : a = cntP (fun j => ((j : Int) < ρ 14 ∧ onM ρ j (ρ 57 + k)) ∧ mF ρ j 0 = 0) (ρ 14).toNat) (hb : b = cntP (fun j => ((j : Int) < ρ 14 ∧ onM ρ j (ρ 57 + k)) ∧ mF ρ j 0 = 1) (ρ 14).toNat) : psR ρ (k + 1) = st5 (psR ρ k) a b (if 0 < a ∧ 0 < b then 1 else 0) (if v = 0 then ρ 56 else 0) := by
  have hA : 0 < a ↔ ∃ j : Nat, ((j : Int) < ρ 14 ∧ onM ρ j (ρ 57 + k)) ∧ mF ρ j 0 = 0 := by
    rw [ha]
    refine cntP_pos_iff.trans ⟨fun ⟨j, _, h⟩ => ⟨j, h⟩, fun ⟨j, h⟩ => ⟨j, ?_, h⟩⟩
    have := h.1.1
    omega
  have hB : 0 < b ↔ ∃ j : Nat, ((j : Int) < ρ 14 ∧ onM ρ j (ρ 57 + k)) ∧ mF ρ j 0 = 1 := by
    rw [hb]
    refine cntP_pos_iff.trans ⟨fun ⟨j, _, h⟩ => ⟨j, h⟩, fun ⟨j, h⟩ => ⟨j, ?_, h⟩⟩
    have := h.1.1
    omega
  have hq : ind (quM ρ (ρ 57 + k)) = (if 0 < a ∧ 0 < b then 1 else 0) := by
    by_cases q : 0 < a ∧ 0 < b
    · rw [if_pos q]
      exact ind_t ⟨hA.mp q.1, hB.mp q.2⟩
    · rw [if_neg q]
      exact ind_f (fun h => q ⟨hA.mpr h.1, hB.mpr h.2⟩)
  have hz : ind (∀ j : Nat, ¬ ((j : Int) < ρ 14 ∧ onM ρ j (ρ 57 + k))) * ρ 56 = (if v = 0 then ρ 56 else 0) := by
    by_cases q : v = 0
    · rw [if_pos q, ind_t ((isSet_zero hs).mp q), Int.one_mul]
    · rw [if_neg q, ind_f (fun h => q ((isSet_zero hs).mpr h)), Int.zero_mul]
  funext p
  rw [← hq, ← hz, ha, hb]
  unfold st5
  by_cases q1 : p = 58
  · subst q1
    simp only [psR, sumN]
    simp
    omega
  by_cases q2 : p = 59
  · subst q2
    simp only [psR, sumN]
    simp
    omega
  by_cases q3 : p = 60
  · subst q3
    simp only [psR, qwM, cntP]
    simp
    omega
  by_cases q4 : p = 61
  · subst q4
    simp only [psR, sumN]
    simp
    omega
  by_cases q5 : p = 57
  · subst q5
    simp only [psR]
    simp
    omega
  simp [psR, q1, q2, q3, q4, q5]
theorem barM_MI {w : Zt} {f b c : Int} (hM : MI (w 170)) (hf : 0 ≤ f ∧ f < w 170 14) (hb : -1 ≤ b ∧ b ≤ 6) : MI (zup (zup w 170 (15 + 4 * f + 3).toNat c) 170 (15 + 4 * f + 3).toNat b 170) := by
  rw [barM_row]
  exact barR_MI hM hf hb
set_option maxHeartbeats 4000000 in
set_option maxRecDepth 100000 in
theorem c_X5_nextDay {l : Launch} {D : va_G} {cA : Nat → ClassId} {r : Nat → Nat} {z : Zt} {w : Zt} {f : Int} (hr : Inj r) (k9a : kd 169 = 6) (hw : w = zup z 169 5 0) (hM : MI (w 170)) (hr_f : -2147483648 ≤ f ∧ f < 2147483648) : Ki l D cA r yX5_nextDay wsX5_nextDay 6 140 z [.ref (r 169), .int (iN f)] (fun v z1 => (w = z1 ∧ (0 ≤ f ∧ f < w 170 14) ∧ FD (onM (w 170) f) (w 170 57) (w 170 57 + 799) v) ∨ (zup w 169 5 1 = z1 ∧ ¬ (0 ≤ f ∧ f < w 170 14))) := by
  have iW5 : ∀ w ∈ u_ws RX5 TX5 10, w ∈ wsX5_nextDay := by decide +kernel
  have f7 : Cond.fieldLink RX5 7 (TX5 0).1 (TX5 0).2.1 (TX5 0).2.2.1 ∈ wsX5_nextDay := by decide +kernel
  have f29 : Cond.fieldLink RX5 29 (TX5 5).1 (TX5 5).2.1 (TX5 5).2.2.1 ∈ wsX5_nextDay := by decide +kernel
  obtain ⟨hG1, h14, hFe, h55, h56, h57⟩ := id hM
  refine Ki_of [(0, _), (1, _)] hr (by decide) rfl rfl (Nat.le_of_ble_eq_true rfl) rfl (fun Γ hG hR => ?_)
  refine v_aload_n hG dX5_nextDay_0 0 rfl ?_
  refine v_iconst hG dX5_nextDay_1 ?_
  refine v_putf (ci := 5) (k := 5) hG iW5 tyX5_ok nmX5 f29 rfl (by decide) rfl rfl k9a (by decide) (cl_6 _ _ _ _) (Nat.le_of_ble_eq_true rfl) rfl dX5_nextDay_2 ?_
  rw [← hw]
  refine v_aload_n hG dX5_nextDay_5 0 rfl ?_
  refine v_iload_n hG dX5_nextDay_6 1 rfl ?_
  refine v_callVi (n := 1) (ci := 5) hG (c_X5_isFeast hr k9a (by omega) (by omega)) gX5_nextDay_X5_isFeast rfl (by decide +kernel) rfl (by decide) k9a (by decide) (cl_6 _ _ _ _) rfl dX5_nextDay_7 rfl (Nat.le_of_ble_eq_true rfl) (by decide) ?_
  intro v7 z7 hp7
  obtain ⟨rfl, hv7⟩ := hp7
  have hb7 := ind_v hv7
  refine v_if_ne hG 19 (by omega) dX5_nextDay_10 (by decide) (fun h10 => ?_) (fun h10 => ?_)
  · refine v_aload_n hG dX5_nextDay_19 0 rfl ?_
    refine v_getf (ci := 5) (k := 0) hG iW5 f7 rfl (by decide) k9a (by decide) (cl_6 _ _ _ _) rfl dX5_nextDay_20 ?_
    refine v_bipush hG dX5_nextDay_23 (by decide) ?_
    refine v_iald hG k_170 (by decide) (cl_162 _ _ _ _) (by decide) (by omega) dX5_nextDay_25 ?_
    rw [show w 170 (57 : Int).toNat = w 170 57 from rfl]
    refine v_istore_n hG [(0, _), (1, _), (2, _)] dX5_nextDay_26 (by decide) rfl ?_
    have L27 : ∀ (n : Nat), ∀ (x2 : Int), ((0 ≤ f ∧ f < w 170 14) ∧ w 170 57 ≤ x2 ∧ x2 ≤ w 170 57 + 800 ∧ ∀ d, w 170 57 ≤ d → d < x2 → ¬ onM (w 170) f d) → (w 170 57 + 800 - x2 + 1).toNat ≤ n → V Γ w 0 0 [(0, .ref (r 169)), (1, .int (iN f)), (2, .int (iN x2))] 27 [] := by
      intro n
      induction n with
      | zero =>
        intro x2 hI hm
        obtain ⟨i0, i1, i2, i3v⟩ := hI
        exact absurd hm (by omega)
      | succ n ih27 =>
        intro x2 hI hm
        obtain ⟨i0, i1, i2, i3v⟩ := hI
        refine v_iload_n hG dX5_nextDay_27 2 rfl ?_
        refine v_aload_n hG dX5_nextDay_28 0 rfl ?_
        refine v_getf (ci := 5) (k := 0) hG iW5 f7 rfl (by decide) k9a (by decide) (cl_6 _ _ _ _) rfl dX5_nextDay_29 ?_
        refine v_bipush hG dX5_nextDay_32 (by decide) ?_
        refine v_iald hG k_170 (by decide) (cl_162 _ _ _ _) (by decide) (by omega) dX5_nextDay_34 ?_
        rw [show w 170 (57 : Int).toNat = w 170 57 from rfl]
        refine v_sipush hG dX5_nextDay_35 (by decide) ?_
        refine v_iadd hG dX5_nextDay_38 ?_
        refine v_icmp_ge hG 59 (by omega) (by omega) dX5_nextDay_39 (by decide) (fun h39 => ?_) (fun h39 => ?_)
        · refine v_iconst hG dX5_nextDay_59 ?_
          exact v_iret hG hR dX5_nextDay_60 (by first | exact Or.inr ⟨rfl, by omega⟩ | exact Or.inl ⟨rfl, i0, Or.inr ⟨by omega, by omega, ind_y hv45 h48, i3v⟩⟩ | exact Or.inl ⟨rfl, i0, Or.inl ⟨rfl, fun d a b => i3v d a (by omega)⟩⟩)
        · refine v_aload_n hG dX5_nextDay_42 0 rfl ?_
          refine v_iload_n hG dX5_nextDay_43 1 rfl ?_
          refine v_iload_n hG dX5_nextDay_44 2 rfl ?_
          refine v_callVi (n := 2) (ci := 5) hG (c_X5_isOn hr k9a hM i0 (by omega)) gX5_nextDay_X5_isOn rfl (by decide +kernel) rfl (by decide) k9a (by decide) (cl_6 _ _ _ _) rfl dX5_nextDay_45 rfl (Nat.le_of_ble_eq_true rfl) (by decide) ?_
          intro v45 z45 hp45
          obtain ⟨rfl, hv45⟩ := hp45
          have hb45 := (ind_v hv45).1
          refine v_if_eq hG 53 (by omega) dX5_nextDay_48 (by decide) (fun h48 => ?_) (fun h48 => ?_)
          · refine v_iinc hG [(0, _), (1, _), (2, _)] dX5_nextDay_53 2 rfl (by decide) rfl ?_
            refine v_goto hG 27 dX5_nextDay_56 (by decide) ?_
            refine ih27 _ ?_ (by omega)
            refine ⟨i0, by omega, by omega, fun d a b => ?_⟩
            by_cases q9 : d < x2
            · exact i3v d a q9
            · have e9 : d = x2 := by omega
              rw [e9]
              exact ind_n hv45 h48
          · refine v_iload_n hG dX5_nextDay_51 2 rfl ?_
            exact v_iret hG hR dX5_nextDay_52 (by first | exact Or.inr ⟨rfl, by omega⟩ | exact Or.inl ⟨rfl, i0, Or.inr ⟨by omega, by omega, ind_y hv45 h48, i3v⟩⟩ | exact Or.inl ⟨rfl, i0, Or.inl ⟨rfl, fun d a b => i3v d a (by omega)⟩⟩)
    exact L27 _ _ ⟨by omega, by omega, by omega, fun d a b => by omega⟩ (Nat.le_refl _)
  · refine v_aload_n hG dX5_nextDay_13 0 rfl ?_
    refine v_iconst hG dX5_nextDay_14 ?_
    refine v_callVi (n := 1) (ci := 5) hG (c_X5_fails hr k9a) gX5_nextDay_X5_fails rfl (by decide +kernel) rfl (by decide) k9a (by decide) (cl_6 _ _ _ _) rfl dX5_nextDay_15 rfl (Nat.le_of_ble_eq_true rfl) (by decide) ?_
    intro v15 z15 hp15
    obtain ⟨rfl, rfl⟩ := hp15
    exact v_iret hG hR dX5_nextDay_18 (by first | exact Or.inr ⟨rfl, by omega⟩ | exact Or.inl ⟨rfl, i0, Or.inr ⟨by omega, by omega, ind_y hv45 h48, i3v⟩⟩ | exact Or.inl ⟨rfl, i0, Or.inl ⟨rfl, fun d a b => i3v d a (by omega)⟩⟩)

set_option maxHeartbeats 4000000 in
set_option maxRecDepth 100000 in
theorem c_X5_daysUntilMeeting {l : Launch} {D : va_G} {cA : Nat → ClassId} {r : Nat → Nat} {z : Zt} {w : Zt} {f g : Int} (hr : Inj r) (k9a : kd 169 = 6) (hw : w = zup z 169 5 0) (hM : MI (w 170)) (hr_f : -2147483648 ≤ f ∧ f < 2147483648) (hr_g : -2147483648 ≤ g ∧ g < 2147483648) : Ki l D cA r yX5_daysUntilMeeting wsX5_daysUntilMeeting 6 140 z [.ref (r 169), .int (iN f), .int (iN g)] (fun v z1 => (w = z1 ∧ (0 ≤ f ∧ f < w 170 14) ∧ (0 ≤ g ∧ g < w 170 14) ∧ f ≠ g ∧ ∃ d, FD (fun d => onM (w 170) f d ∧ onM (w 170) g d) (w 170 57) (w 170 57 + 2000) d ∧ v = (if d = -1 then -1 else d - w 170 57)) ∨ (zup w 169 5 1 = z1 ∧ (¬ (0 ≤ f ∧ f < w 170 14) ∨ ¬ (0 ≤ g ∧ g < w 170 14))) ∨ (zup w 169 5 2 = z1 ∧ (0 ≤ f ∧ f < w 170 14) ∧ (0 ≤ g ∧ g < w 170 14) ∧ f = g)) := by
  have iW5 : ∀ w ∈ u_ws RX5 TX5 10, w ∈ wsX5_daysUntilMeeting := by decide +kernel
  have f7 : Cond.fieldLink RX5 7 (TX5 0).1 (TX5 0).2.1 (TX5 0).2.2.1 ∈ wsX5_daysUntilMeeting := by decide +kernel
  have f29 : Cond.fieldLink RX5 29 (TX5 5).1 (TX5 5).2.1 (TX5 5).2.2.1 ∈ wsX5_daysUntilMeeting := by decide +kernel
  obtain ⟨hG1, h14, hFe, h55, h56, h57⟩ := id hM
  refine Ki_of [(0, _), (1, _), (2, _)] hr (by decide) rfl rfl (Nat.le_of_ble_eq_true rfl) rfl (fun Γ hG hR => ?_)
  refine v_aload_n hG dX5_daysUntilMeeting_0 0 rfl ?_
  refine v_iconst hG dX5_daysUntilMeeting_1 ?_
  refine v_putf (ci := 5) (k := 5) hG iW5 tyX5_ok nmX5 f29 rfl (by decide) rfl rfl k9a (by decide) (cl_6 _ _ _ _) (Nat.le_of_ble_eq_true rfl) rfl dX5_daysUntilMeeting_2 ?_
  rw [← hw]
  refine v_aload_n hG dX5_daysUntilMeeting_5 0 rfl ?_
  refine v_iload_n hG dX5_daysUntilMeeting_6 1 rfl ?_
  refine v_callVi (n := 1) (ci := 5) hG (c_X5_isFeast hr k9a (by omega) (by omega)) gX5_daysUntilMeeting_X5_isFeast rfl (by decide +kernel) rfl (by decide) k9a (by decide) (cl_6 _ _ _ _) rfl dX5_daysUntilMeeting_7 rfl (Nat.le_of_ble_eq_true rfl) (by decide) ?_
  intro v7 z7 hp7
  obtain ⟨rfl, hv7⟩ := hp7
  have hb7 := ind_v hv7
  refine v_if_eq hG 21 (by omega) dX5_daysUntilMeeting_10 (by decide) (fun h10 => ?_) (fun h10 => ?_)
  · refine v_aload_n hG dX5_daysUntilMeeting_21 0 rfl ?_
    refine v_iconst hG dX5_daysUntilMeeting_22 ?_
    refine v_callVi (n := 1) (ci := 5) hG (c_X5_fails hr k9a) gX5_daysUntilMeeting_X5_fails rfl (by decide +kernel) rfl (by decide) k9a (by decide) (cl_6 _ _ _ _) rfl dX5_daysUntilMeeting_23 rfl (Nat.le_of_ble_eq_true rfl) (by decide) ?_
    intro v23 z23 hp23
    obtain ⟨rfl, rfl⟩ := hp23
    exact v_iret hG hR dX5_daysUntilMeeting_26 (by first
  | exact Or.inr (Or.inl ⟨rfl, by omega⟩)
  | exact Or.inr (Or.inr ⟨rfl, by omega⟩)
  | exact Or.inl ⟨rfl, i0, j0, n0, w 170 57 + x3, Or.inr ⟨by omega, by omega, ⟨ind_y hv58 h61, ind_y hv75 h78⟩, i3v⟩, by rw [if_neg (by omega)]; omega⟩
  | exact Or.inl ⟨rfl, i0, j0, n0, -1, Or.inl ⟨rfl, fun d a b => i3v d a (by omega)⟩, by rw [if_pos rfl]⟩)
  · refine v_aload_n hG dX5_daysUntilMeeting_13 0 rfl ?_
    refine v_iload_n hG dX5_daysUntilMeeting_14 2 rfl ?_
    refine v_callVi (n := 1) (ci := 5) hG (c_X5_isFeast hr k9a (by omega) (by omega)) gX5_daysUntilMeeting_X5_isFeast rfl (by decide +kernel) rfl (by decide) k9a (by decide) (cl_6 _ _ _ _) rfl dX5_daysUntilMeeting_15 rfl (Nat.le_of_ble_eq_true rfl) (by decide) ?_
    intro v15 z15 hp15
    obtain ⟨rfl, hv15⟩ := hp15
    have hb15 := ind_v hv15
    refine v_if_ne hG 27 (by omega) dX5_daysUntilMeeting_18 (by decide) (fun h18 => ?_) (fun h18 => ?_)
    · refine v_iload_n hG dX5_daysUntilMeeting_27 1 rfl ?_
      refine v_iload_n hG dX5_daysUntilMeeting_28 2 rfl ?_
      refine v_icmp_ne hG 38 (by omega) (by omega) dX5_daysUntilMeeting_29 (by decide) (fun h29 => ?_) (fun h29 => ?_)
      · refine v_iconst hG dX5_daysUntilMeeting_38 ?_
        refine v_istore_n hG [(0, _), (1, _), (2, _), (3, _)] dX5_daysUntilMeeting_39 (by decide) rfl ?_
        have L40 : ∀ (n : Nat), ∀ (x3 : Int), ((0 ≤ f ∧ f < w 170 14) ∧ (0 ≤ g ∧ g < w 170 14) ∧ f ≠ g ∧ 0 ≤ x3 ∧ x3 ≤ 2001 ∧ ∀ d, w 170 57 ≤ d → d < w 170 57 + x3 → ¬ (onM (w 170) f d ∧ onM (w 170) g d)) → (2001 - x3 + 1).toNat ≤ n → V Γ w 0 0 [(0, .ref (r 169)), (1, .int (iN f)), (2, .int (iN g)), (3, .int (iN x3))] 40 [] := by
          intro n
          induction n with
          | zero =>
            intro x3 hI hm
            obtain ⟨i0, j0, n0, i1, i2, i3v⟩ := hI
            exact absurd hm (by omega)
          | succ n ih40 =>
            intro x3 hI hm
            obtain ⟨i0, j0, n0, i1, i2, i3v⟩ := hI
            refine v_iload_n hG dX5_daysUntilMeeting_40 3 rfl ?_
            refine v_sipush hG dX5_daysUntilMeeting_41 (by decide) ?_
            refine v_icmp_gt hG 89 (by omega) (by omega) dX5_daysUntilMeeting_44 (by decide) (fun h44 => ?_) (fun h44 => ?_)
            · refine v_iconst hG dX5_daysUntilMeeting_89 ?_
              exact v_iret hG hR dX5_daysUntilMeeting_90 (by first
  | exact Or.inr (Or.inl ⟨rfl, by omega⟩)
  | exact Or.inr (Or.inr ⟨rfl, by omega⟩)
  | exact Or.inl ⟨rfl, i0, j0, n0, w 170 57 + x3, Or.inr ⟨by omega, by omega, ⟨ind_y hv58 h61, ind_y hv75 h78⟩, i3v⟩, by rw [if_neg (by omega)]; omega⟩
  | exact Or.inl ⟨rfl, i0, j0, n0, -1, Or.inl ⟨rfl, fun d a b => i3v d a (by omega)⟩, by rw [if_pos rfl]⟩)
            · refine v_aload_n hG dX5_daysUntilMeeting_47 0 rfl ?_
              refine v_iload_n hG dX5_daysUntilMeeting_48 1 rfl ?_
              refine v_aload_n hG dX5_daysUntilMeeting_49 0 rfl ?_
              refine v_getf (ci := 5) (k := 0) hG iW5 f7 rfl (by decide) k9a (by decide) (cl_6 _ _ _ _) rfl dX5_daysUntilMeeting_50 ?_
              refine v_bipush hG dX5_daysUntilMeeting_53 (by decide) ?_
              refine v_iald hG k_170 (by decide) (cl_162 _ _ _ _) (by decide) (by omega) dX5_daysUntilMeeting_55 ?_
              rw [show w 170 (57 : Int).toNat = w 170 57 from rfl]
              refine v_iload_n hG dX5_daysUntilMeeting_56 3 rfl ?_
              refine v_iadd hG dX5_daysUntilMeeting_57 ?_
              refine v_callVi (n := 2) (ci := 5) hG (c_X5_isOn hr k9a hM i0 (by omega)) gX5_daysUntilMeeting_X5_isOn rfl (by decide +kernel) rfl (by decide) k9a (by decide) (cl_6 _ _ _ _) rfl dX5_daysUntilMeeting_58 rfl (Nat.le_of_ble_eq_true rfl) (by decide) ?_
              intro v58 z58 hp58
              obtain ⟨rfl, hv58⟩ := hp58
              have hb58 := (ind_v hv58).1
              refine v_if_eq hG 83 (by omega) dX5_daysUntilMeeting_61 (by decide) (fun h61 => ?_) (fun h61 => ?_)
              · refine v_iinc hG [(0, _), (1, _), (2, _), (3, _)] dX5_daysUntilMeeting_83 3 rfl (by decide) rfl ?_
                refine v_goto hG 40 dX5_daysUntilMeeting_86 (by decide) ?_
                refine ih40 _ ?_ (by omega)
                refine ⟨i0, j0, n0, by omega, by omega, fun d a b => ?_⟩
                by_cases q9 : d < w 170 57 + x3
                · exact i3v d a q9
                · have e9 : d = w 170 57 + x3 := by omega
                  rw [e9]
                  first
                    | exact fun q8 => ind_n hv58 h61 q8.1
                    | exact fun q8 => ind_n hv75 h78 q8.2
              · refine v_aload_n hG dX5_daysUntilMeeting_64 0 rfl ?_
                refine v_iload_n hG dX5_daysUntilMeeting_65 2 rfl ?_
                refine v_aload_n hG dX5_daysUntilMeeting_66 0 rfl ?_
                refine v_getf (ci := 5) (k := 0) hG iW5 f7 rfl (by decide) k9a (by decide) (cl_6 _ _ _ _) rfl dX5_daysUntilMeeting_67 ?_
                refine v_bipush hG dX5_daysUntilMeeting_70 (by decide) ?_
                refine v_iald hG k_170 (by decide) (cl_162 _ _ _ _) (by decide) (by omega) dX5_daysUntilMeeting_72 ?_
                rw [show w 170 (57 : Int).toNat = w 170 57 from rfl]
                refine v_iload_n hG dX5_daysUntilMeeting_73 3 rfl ?_
                refine v_iadd hG dX5_daysUntilMeeting_74 ?_
                refine v_callVi (n := 2) (ci := 5) hG (c_X5_isOn hr k9a hM j0 (by omega)) gX5_daysUntilMeeting_X5_isOn rfl (by decide +kernel) rfl (by decide) k9a (by decide) (cl_6 _ _ _ _) rfl dX5_daysUntilMeeting_75 rfl (Nat.le_of_ble_eq_true rfl) (by decide) ?_
                intro v75 z75 hp75
                obtain ⟨rfl, hv75⟩ := hp75
                have hb75 := (ind_v hv75).1
                refine v_if_eq hG 83 (by omega) dX5_daysUntilMeeting_78 (by decide) (fun h78 => ?_) (fun h78 => ?_)
                · refine v_iinc hG [(0, _), (1, _), (2, _), (3, _)] dX5_daysUntilMeeting_83 3 rfl (by decide) rfl ?_
                  refine v_goto hG 40 dX5_daysUntilMeeting_86 (by decide) ?_
                  refine ih40 _ ?_ (by omega)
                  refine ⟨i0, j0, n0, by omega, by omega, fun d a b => ?_⟩
                  by_cases q9 : d < w 170 57 + x3
                  · exact i3v d a q9
                  · have e9 : d = w 170 57 + x3 := by omega
                    rw [e9]
                    first
                      | exact fun q8 => ind_n hv58 h61 q8.1
                      | exact fun q8 => ind_n hv75 h78 q8.2
                · refine v_iload_n hG dX5_daysUntilMeeting_81 3 rfl ?_
                  exact v_iret hG hR dX5_daysUntilMeeting_82 (by first
  | exact Or.inr (Or.inl ⟨rfl, by omega⟩)
  | exact Or.inr (Or.inr ⟨rfl, by omega⟩)
  | exact Or.inl ⟨rfl, i0, j0, n0, w 170 57 + x3, Or.inr ⟨by omega, by omega, ⟨ind_y hv58 h61, ind_y hv75 h78⟩, i3v⟩, by rw [if_neg (by omega)]; omega⟩
  | exact Or.inl ⟨rfl, i0, j0, n0, -1, Or.inl ⟨rfl, fun d a b => i3v d a (by omega)⟩, by rw [if_pos rfl]⟩)
        exact L40 _ _ ⟨by omega, by omega, by omega, by omega, by omega, fun d a b => by omega⟩ (Nat.le_refl _)
      · refine v_aload_n hG dX5_daysUntilMeeting_32 0 rfl ?_
        refine v_iconst hG dX5_daysUntilMeeting_33 ?_
        refine v_callVi (n := 1) (ci := 5) hG (c_X5_fails hr k9a) gX5_daysUntilMeeting_X5_fails rfl (by decide +kernel) rfl (by decide) k9a (by decide) (cl_6 _ _ _ _) rfl dX5_daysUntilMeeting_34 rfl (Nat.le_of_ble_eq_true rfl) (by decide) ?_
        intro v34 z34 hp34
        obtain ⟨rfl, rfl⟩ := hp34
        exact v_iret hG hR dX5_daysUntilMeeting_37 (by first
  | exact Or.inr (Or.inl ⟨rfl, by omega⟩)
  | exact Or.inr (Or.inr ⟨rfl, by omega⟩)
  | exact Or.inl ⟨rfl, i0, j0, n0, w 170 57 + x3, Or.inr ⟨by omega, by omega, ⟨ind_y hv58 h61, ind_y hv75 h78⟩, i3v⟩, by rw [if_neg (by omega)]; omega⟩
  | exact Or.inl ⟨rfl, i0, j0, n0, -1, Or.inl ⟨rfl, fun d a b => i3v d a (by omega)⟩, by rw [if_pos rfl]⟩)
    · refine v_aload_n hG dX5_daysUntilMeeting_21 0 rfl ?_
      refine v_iconst hG dX5_daysUntilMeeting_22 ?_
      refine v_callVi (n := 1) (ci := 5) hG (c_X5_fails hr k9a) gX5_daysUntilMeeting_X5_fails rfl (by decide +kernel) rfl (by decide) k9a (by decide) (cl_6 _ _ _ _) rfl dX5_daysUntilMeeting_23 rfl (Nat.le_of_ble_eq_true rfl) (by decide) ?_
      intro v23 z23 hp23
      obtain ⟨rfl, rfl⟩ := hp23
      exact v_iret hG hR dX5_daysUntilMeeting_26 (by first
  | exact Or.inr (Or.inl ⟨rfl, by omega⟩)
  | exact Or.inr (Or.inr ⟨rfl, by omega⟩)
  | exact Or.inl ⟨rfl, i0, j0, n0, w 170 57 + x3, Or.inr ⟨by omega, by omega, ⟨ind_y hv58 h61, ind_y hv75 h78⟩, i3v⟩, by rw [if_neg (by omega)]; omega⟩
  | exact Or.inl ⟨rfl, i0, j0, n0, -1, Or.inl ⟨rfl, fun d a b => i3v d a (by omega)⟩, by rw [if_pos rfl]⟩)

set_option maxHeartbeats 4000000 in
set_option maxRecDepth 100000 in
theorem c_X5_bestBarredWeekday {l : Launch} {D : va_G} {cA : Nat → ClassId} {r : Nat → Nat} {z : Zt} {w : Zt} {f : Int} (hr : Inj r) (k9a : kd 169 = 6) (hw : w = zup z 169 5 0) (hM : MI (w 170)) (hr_f : -2147483648 ≤ f ∧ f < 2147483648) : Ki l D cA r yX5_bestBarredWeekday wsX5_bestBarredWeekday 9 208 z [.ref (r 169), .int (iN f)] (fun v z1 => (w = z1 ∧ (0 ≤ f ∧ f < w 170 14) ∧ v = (bwN (fun k : Nat => qwM (upd (w 170) (15 + 4 * f + 3).toNat (k : Int)) 400) 7).2) ∨ (zup w 169 5 1 = z1 ∧ ¬ (0 ≤ f ∧ f < w 170 14))) := by
  have iW5 : ∀ w ∈ u_ws RX5 TX5 10, w ∈ wsX5_bestBarredWeekday := by decide +kernel
  have f7 : Cond.fieldLink RX5 7 (TX5 0).1 (TX5 0).2.1 (TX5 0).2.2.1 ∈ wsX5_bestBarredWeekday := by decide +kernel
  have f29 : Cond.fieldLink RX5 29 (TX5 5).1 (TX5 5).2.1 (TX5 5).2.2.1 ∈ wsX5_bestBarredWeekday := by decide +kernel
  obtain ⟨hG1, h14, hFe, h55, h56, h57⟩ := id hM
  refine Ki_of [(0, _), (1, _)] hr (by decide) rfl rfl (Nat.le_of_ble_eq_true rfl) rfl (fun Γ hG hR => ?_)
  refine v_aload_n hG dX5_bestBarredWeekday_0 0 rfl ?_
  refine v_iconst hG dX5_bestBarredWeekday_1 ?_
  refine v_putf (ci := 5) (k := 5) hG iW5 tyX5_ok nmX5 f29 rfl (by decide) rfl rfl k9a (by decide) (cl_6 _ _ _ _) (Nat.le_of_ble_eq_true rfl) rfl dX5_bestBarredWeekday_2 ?_
  rw [← hw]
  refine v_aload_n hG dX5_bestBarredWeekday_5 0 rfl ?_
  refine v_iload_n hG dX5_bestBarredWeekday_6 1 rfl ?_
  refine v_callVi (n := 1) (ci := 5) hG (c_X5_isFeast hr k9a (by omega) (by omega)) gX5_bestBarredWeekday_X5_isFeast rfl (by decide +kernel) rfl (by decide) k9a (by decide) (cl_6 _ _ _ _) rfl dX5_bestBarredWeekday_7 rfl (Nat.le_of_ble_eq_true rfl) (by decide) ?_
  intro v7 z7 hp7
  obtain ⟨rfl, hv7⟩ := hp7
  have hb7 := ind_v hv7
  refine v_if_ne hG 19 (by omega) dX5_bestBarredWeekday_10 (by decide) (fun h10 => ?_) (fun h10 => ?_)
  · have hFq : 0 ≤ f ∧ f < w 170 14 := by omega
    obtain ⟨Q, hQ⟩ : ∃ Q : Nat → Int, Q = (fun k : Nat => qwM (upd (w 170) (15 + 4 * f + 3).toNat (k : Int)) 400) := ⟨_, rfl⟩
    have hQb : ∀ k, 0 ≤ Q k ∧ Q k ≤ 400 := fun k => by
      rw [hQ]
      exact cntP_bd _ 400
    refine v_bipush hG dX5_bestBarredWeekday_19 (by decide) ?_
    refine v_iconst hG dX5_bestBarredWeekday_21 ?_
    refine v_iload_n hG dX5_bestBarredWeekday_22 1 rfl ?_
    refine v_imul hG dX5_bestBarredWeekday_23 ?_
    refine v_iadd hG dX5_bestBarredWeekday_24 ?_
    refine v_iconst hG dX5_bestBarredWeekday_25 ?_
    refine v_iadd hG dX5_bestBarredWeekday_26 ?_
    refine v_istore_n hG [(0, _), (1, _), (2, _)] dX5_bestBarredWeekday_27 (by decide) rfl ?_
    refine v_aload_n hG dX5_bestBarredWeekday_28 0 rfl ?_
    refine v_getf (ci := 5) (k := 0) hG iW5 f7 rfl (by decide) k9a (by decide) (cl_6 _ _ _ _) rfl dX5_bestBarredWeekday_29 ?_
    refine v_iload_n hG dX5_bestBarredWeekday_32 2 rfl ?_
    refine v_iald hG k_170 (by decide) (cl_162 _ _ _ _) (by decide) (by omega) dX5_bestBarredWeekday_33 ?_
    refine v_istore_n hG [(0, _), (1, _), (2, _), (3, _)] dX5_bestBarredWeekday_34 (by decide) rfl ?_
    refine v_iconst hG dX5_bestBarredWeekday_35 ?_
    refine v_istore hG [(0, _), (1, _), (2, _), (3, _), (4, _)] dX5_bestBarredWeekday_36 (by decide) rfl ?_
    refine v_iconst hG dX5_bestBarredWeekday_38 ?_
    refine v_istore hG [(0, _), (1, _), (2, _), (3, _), (4, _), (5, _)] dX5_bestBarredWeekday_39 (by decide) rfl ?_
    refine v_iconst hG dX5_bestBarredWeekday_41 ?_
    refine v_istore hG [(0, _), (1, _), (2, _), (3, _), (4, _), (5, _), (6, _)] dX5_bestBarredWeekday_42 (by decide) rfl ?_
    have L44 : ∀ (n : Nat), ∀ (x4 x5 x6 b : Int), (0 ≤ x6 ∧ x6 ≤ 7 ∧ (x6 = 0 ∨ (x5 = (bwN Q x6.toNat).1 ∧ x4 = (bwN Q x6.toNat).2)) ∧ (x6 = 0 → x5 = 0 ∧ x4 = 0)) → (7 - x6 + 1).toNat ≤ n → V Γ (zup w 170 (15 + 4 * f + 3).toNat b) 0 0 [(0, .ref (r 169)), (1, .int (iN f)), (2, .int (iN (15 + 4 * f + 3))), (3, .int (iN (w 170 (15 + 4 * f + 3).toNat))), (4, .int (iN x4)), (5, .int (iN x5)), (6, .int (iN x6))] 44 [] := by
      intro n
      induction n with
      | zero =>
        intro x4 x5 x6 b hI hm
        obtain ⟨i1, i2, i3v, i4⟩ := hI
        exact absurd hm (by omega)
      | succ n ih44 =>
        intro x4 x5 x6 b hI hm
        obtain ⟨i1, i2, i3v, i4⟩ := hI
        have hbd := bwN_bd hQb x6.toNat
        refine v_iload hG dX5_bestBarredWeekday_44 6 rfl ?_
        refine v_bipush hG dX5_bestBarredWeekday_46 (by decide) ?_
        refine v_icmp_ge hG 116 (by omega) (by omega) dX5_bestBarredWeekday_48 (by decide) (fun h48 => ?_) (fun h48 => ?_)
        · refine v_aload_n hG dX5_bestBarredWeekday_116 0 rfl ?_
          refine v_getf (ci := 5) (k := 0) hG iW5 f7 rfl (by decide) k9a (by decide) (cl_6 _ _ _ _) rfl dX5_bestBarredWeekday_117 ?_
          refine v_iload_n hG dX5_bestBarredWeekday_120 2 rfl ?_
          refine v_iload_n hG dX5_bestBarredWeekday_121 3 rfl ?_
          refine v_iast hG k_170 (by decide) (cl_162 _ _ _) (by decide) (by omega) dX5_bestBarredWeekday_122 ?_
          refine v_iload hG dX5_bestBarredWeekday_123 4 rfl ?_
          exact v_iret hG hR dX5_bestBarredWeekday_125 (by first
  | exact Or.inr ⟨rfl, by omega⟩
  | exact Or.inl ⟨by rw [zup_zup, zup_self], hFq, by rw [← hQ]; have e7 : x6.toNat = 7 := by omega
                                                     rw [e7] at i3v; omega⟩)
        · refine v_aload_n hG dX5_bestBarredWeekday_51 0 rfl ?_
          refine v_getf (ci := 5) (k := 0) hG iW5 f7 rfl (by decide) k9a (by decide) (cl_6 _ _ _ _) rfl dX5_bestBarredWeekday_52 ?_
          refine v_iload_n hG dX5_bestBarredWeekday_55 2 rfl ?_
          refine v_iload hG dX5_bestBarredWeekday_56 6 rfl ?_
          refine v_iast hG k_170 (by decide) (cl_162 _ _ _) (by decide) (by omega) dX5_bestBarredWeekday_58 ?_
          refine v_aload_n hG dX5_bestBarredWeekday_59 0 rfl ?_
          refine v_sipush hG dX5_bestBarredWeekday_60 (by decide) ?_
          refine v_callVi (n := 1) (ci := 5) hG (c_X5_quarrelsIn hr k9a (barM_MI hM hFq (b := x6) (by omega)) (by omega)) gX5_bestBarredWeekday_X5_quarrelsIn rfl (by decide +kernel) rfl (by decide) k9a (by decide) (cl_6 _ _ _ _) rfl dX5_bestBarredWeekday_63 rfl (Nat.le_of_ble_eq_true rfl) (by decide) ?_
          intro v63 z63 hp63
          obtain ⟨rfl, rfl⟩ := hp63
          have hv : cntP (fun i => quM (zup (zup w 170 (15 + 4 * f + 3).toNat b) 170 (15 + 4 * f + 3).toNat x6 170) (zup (zup w 170 (15 + 4 * f + 3).toNat b) 170 (15 + 4 * f + 3).toNat x6 170 57 + i)) (400 : Int).toNat = Q x6.toNat := by
            rw [zup_zup, hQ]
            have e6 : ((x6.toNat : Nat) : Int) = x6 := by omega
            show _ = qwM (upd (w 170) (15 + 4 * f + 3).toNat ((x6.toNat : Nat) : Int)) 400
            rw [e6]
            rfl
          rw [hv, zup_zup]
          have hqx := hQb x6.toNat
          refine v_istore hG [(0, _), (1, _), (2, _), (3, _), (4, _), (5, _), (6, _), (7, _)] dX5_bestBarredWeekday_66 (by decide) rfl ?_
          have L87 : ∀ (y : Int), y = (if x6 = 0 ∨ Q x6.toNat < x5 then x6 else x4) → V Γ (zup w 170 (15 + 4 * f + 3).toNat x6) 0 0 [(0, .ref (r 169)), (1, .int (iN f)), (2, .int (iN (15 + 4 * f + 3))), (3, .int (iN (w 170 (15 + 4 * f + 3).toNat))), (4, .int (iN x4)), (5, .int (iN x5)), (6, .int (iN x6)), (7, .int (iN (Q x6.toNat)))] 87 [.int (iN y)] := by
            intro y hI87
            refine v_istore hG [(0, _), (1, _), (2, _), (3, _), (4, _), (5, _), (6, _), (7, _)] dX5_bestBarredWeekday_87 (by decide) rfl ?_
            have L108 : ∀ (u : Int), u = (if x6 = 0 ∨ Q x6.toNat < x5 then Q x6.toNat else x5) → V Γ (zup w 170 (15 + 4 * f + 3).toNat x6) 0 0 [(0, .ref (r 169)), (1, .int (iN f)), (2, .int (iN (15 + 4 * f + 3))), (3, .int (iN (w 170 (15 + 4 * f + 3).toNat))), (4, .int (iN y)), (5, .int (iN x5)), (6, .int (iN x6)), (7, .int (iN (Q x6.toNat)))] 108 [.int (iN u)] := by
              intro u hI108
              have hy2 : (x6 = 0 ∨ Q x6.toNat < x5) → y = x6 ∧ u = Q x6.toNat := fun q9 => ⟨by rw [hI87, if_pos q9], by rw [hI108, if_pos q9]⟩
              have hy3 : ¬ (x6 = 0 ∨ Q x6.toNat < x5) → y = x4 ∧ u = x5 := fun q9 => ⟨by rw [hI87, if_neg q9], by rw [hI108, if_neg q9]⟩
              refine v_istore hG [(0, _), (1, _), (2, _), (3, _), (4, _), (5, _), (6, _), (7, _)] dX5_bestBarredWeekday_108 (by decide) rfl ?_
              refine v_iinc hG [(0, _), (1, _), (2, _), (3, _), (4, _), (5, _), (6, _), (7, _)] dX5_bestBarredWeekday_110 6 rfl (by decide) rfl ?_
              refine v_goto hG 44 dX5_bestBarredWeekday_113 (by decide) ?_
              refine v_sub hG [(0, _), (1, _), (2, _), (3, _), (4, _), (5, _), (6, _)] [0, 1, 2, 3, 4, 5, 6] rfl ?_
              refine ih44 _ _ _ x6 ?_ (by omega)
              have e9 : (x6 + 1).toNat = x6.toNat + 1 := by omega
              rw [e9]
              by_cases q9 : Q x6.toNat < (bwN Q x6.toNat).1
              · have h9 := bwN_t q9
                rw [h9.1, h9.2]
                refine ⟨by omega, by omega, Or.inr ?_, fun q8 => by omega⟩
                have e8 : ((x6.toNat : Nat) : Int) = x6 := by omega
                rw [e8]
                have hx0 : x6 = 0 → (bwN Q x6.toNat).1 = 401 := fun q7 => by rw [q7]; rfl
                omega
              · have h9 := bwN_f q9
                rw [h9]
                have hx0 : x6 = 0 → (bwN Q x6.toNat).1 = 401 := fun q7 => by rw [q7]; rfl
                refine ⟨by omega, by omega, Or.inr ?_, fun q8 => by omega⟩
                omega
            refine v_iload hG dX5_bestBarredWeekday_89 6 rfl ?_
            refine v_if_eq hG 101 (by omega) dX5_bestBarredWeekday_91 (by decide) (fun h91 => ?_) (fun h91 => ?_)
            · refine v_iload hG dX5_bestBarredWeekday_101 7 rfl ?_
              refine v_goto hG 108 dX5_bestBarredWeekday_103 (by decide) ?_
              exact L108 _ (by first | (rw [if_pos (by omega)]) | (rw [if_neg (by omega)]))
            · refine v_iload hG dX5_bestBarredWeekday_94 7 rfl ?_
              refine v_iload hG dX5_bestBarredWeekday_96 5 rfl ?_
              refine v_icmp_ge hG 106 (by omega) (by omega) dX5_bestBarredWeekday_98 (by decide) (fun h98 => ?_) (fun h98 => ?_)
              · refine v_iload hG dX5_bestBarredWeekday_106 5 rfl ?_
                exact L108 _ (by first | (rw [if_pos (by omega)]) | (rw [if_neg (by omega)]))
              · refine v_iload hG dX5_bestBarredWeekday_101 7 rfl ?_
                refine v_goto hG 108 dX5_bestBarredWeekday_103 (by decide) ?_
                exact L108 _ (by first | (rw [if_pos (by omega)]) | (rw [if_neg (by omega)]))
          refine v_iload hG dX5_bestBarredWeekday_68 6 rfl ?_
          refine v_if_eq hG 80 (by omega) dX5_bestBarredWeekday_70 (by decide) (fun h70 => ?_) (fun h70 => ?_)
          · refine v_iload hG dX5_bestBarredWeekday_80 6 rfl ?_
            refine v_goto hG 87 dX5_bestBarredWeekday_82 (by decide) ?_
            exact L87 _ (by first | (rw [if_pos (by omega)]) | (rw [if_neg (by omega)]))
          · refine v_iload hG dX5_bestBarredWeekday_73 7 rfl ?_
            refine v_iload hG dX5_bestBarredWeekday_75 5 rfl ?_
            refine v_icmp_ge hG 85 (by omega) (by omega) dX5_bestBarredWeekday_77 (by decide) (fun h77 => ?_) (fun h77 => ?_)
            · refine v_iload hG dX5_bestBarredWeekday_85 4 rfl ?_
              exact L87 _ (by first | (rw [if_pos (by omega)]) | (rw [if_neg (by omega)]))
            · refine v_iload hG dX5_bestBarredWeekday_80 6 rfl ?_
              refine v_goto hG 87 dX5_bestBarredWeekday_82 (by decide) ?_
              exact L87 _ (by first | (rw [if_pos (by omega)]) | (rw [if_neg (by omega)]))
    exact L44 _ _ _ _ (w 170 (15 + 4 * f + 3).toNat) ⟨by omega, by omega, Or.inl rfl, fun _ => ⟨rfl, rfl⟩⟩ (Nat.le_refl _)
  · refine v_aload_n hG dX5_bestBarredWeekday_13 0 rfl ?_
    refine v_iconst hG dX5_bestBarredWeekday_14 ?_
    refine v_callVi (n := 1) (ci := 5) hG (c_X5_fails hr k9a) gX5_bestBarredWeekday_X5_fails rfl (by decide +kernel) rfl (by decide) k9a (by decide) (cl_6 _ _ _ _) rfl dX5_bestBarredWeekday_15 rfl (Nat.le_of_ble_eq_true rfl) (by decide) ?_
    intro v15 z15 hp15
    obtain ⟨rfl, rfl⟩ := hp15
    exact v_iret hG hR dX5_bestBarredWeekday_18 (by first
  | exact Or.inr ⟨rfl, by omega⟩
  | exact Or.inl ⟨by rw [zup_zup, zup_self], hFq, by rw [← hQ]; have e7 : x6.toNat = 7 := by omega
                                                     rw [e7] at i3v; omega⟩)

set_option maxHeartbeats 4000000 in
set_option maxRecDepth 100000 in
theorem c_X5_passDays {l : Launch} {D : va_G} {cA : Nat → ClassId} {r : Nat → Nat} {z : Zt} {w : Zt} {q : Int} (hr : Inj r) (k9a : kd 169 = 6) (hw : w = zup z 169 5 0) (hM : MI (w 170)) (hst : 0 ≤ w 169 2 ∧ w 169 2 ≤ 6) (hr_q : -2147483648 ≤ q ∧ q < 2147483648) : Ki l D cA r yX5_passDays wsX5_passDays 7 163 z [.ref (r 169), .int (iN q)] (fun v z1 => (zset (recM w) 170 (psR (w 170) q.toNat) = z1 ∧ (1 ≤ q ∧ q ≤ 400) ∧ w 170 57 + q ≤ 9999 ∧ v = psR (w 170) q.toNat 60 - w 170 60) ∨ (zup w 169 5 1 = z1 ∧ ¬ (1 ≤ q ∧ q ≤ 400)) ∨ (zup w 169 5 2 = z1 ∧ (1 ≤ q ∧ q ≤ 400) ∧ 9999 < w 170 57 + q)) := by
  have iW5 : ∀ w ∈ u_ws RX5 TX5 10, w ∈ wsX5_passDays := by decide +kernel
  have f7 : Cond.fieldLink RX5 7 (TX5 0).1 (TX5 0).2.1 (TX5 0).2.2.1 ∈ wsX5_passDays := by decide +kernel
  have f29 : Cond.fieldLink RX5 29 (TX5 5).1 (TX5 5).2.1 (TX5 5).2.2.1 ∈ wsX5_passDays := by decide +kernel
  obtain ⟨hG1, h14, hFe, h55, h56, h57⟩ := id hM
  have e170 : recM w 170 = w 170 := recM_o (by decide) (by decide)
  refine Ki_of [(0, _), (1, _)] hr (by decide) rfl rfl (Nat.le_of_ble_eq_true rfl) rfl (fun Γ hG hR => ?_)
  refine v_aload_n hG dX5_passDays_0 0 rfl ?_
  refine v_iconst hG dX5_passDays_1 ?_
  refine v_putf (ci := 5) (k := 5) hG iW5 tyX5_ok nmX5 f29 rfl (by decide) rfl rfl k9a (by decide) (cl_6 _ _ _ _) (Nat.le_of_ble_eq_true rfl) rfl dX5_passDays_2 ?_
  rw [← hw]
  refine v_iload_n hG dX5_passDays_5 1 rfl ?_
  refine v_iconst hG dX5_passDays_6 ?_
  refine v_sipush hG dX5_passDays_7 (by decide) ?_
  refine v_callSi (n := 3) hG (c_X5_in hr (by omega) (by omega) (by omega)) gX5_passDays_X5_in rfl (by decide +kernel) rfl (by decide) dX5_passDays_10 rfl (Nat.le_of_ble_eq_true rfl) (by decide) ?_
  intro v10 z10 hp10
  obtain ⟨rfl, hv10⟩ := hp10
  have hb10 := ind_v hv10
  refine v_if_ne hG 22 (by omega) dX5_passDays_13 (by decide) (fun h13 => ?_) (fun h13 => ?_)
  · refine v_aload_n hG dX5_passDays_22 0 rfl ?_
    refine v_getf (ci := 5) (k := 0) hG iW5 f7 rfl (by decide) k9a (by decide) (cl_6 _ _ _ _) rfl dX5_passDays_23 ?_
    refine v_bipush hG dX5_passDays_26 (by decide) ?_
    refine v_iald hG k_170 (by decide) (cl_162 _ _ _ _) (by decide) (by omega) dX5_passDays_28 ?_
    rw [show w 170 (57 : Int).toNat = w 170 57 from rfl]
    refine v_iload_n hG dX5_passDays_29 1 rfl ?_
    refine v_iadd hG dX5_passDays_30 ?_
    refine v_sipush hG dX5_passDays_31 (by decide) ?_
    refine v_icmp_le hG 43 (by omega) (by omega) dX5_passDays_34 (by decide) (fun h34 => ?_) (fun h34 => ?_)
    · refine v_aload_n hG dX5_passDays_43 0 rfl ?_
      refine v_callVv (n := 0) (ci := 5) hG (c_X5_record hr k9a (by omega)) gX5_passDays_X5_record rfl (by decide +kernel) rfl (by decide) k9a (by decide) (cl_6 _ _ _ _) rfl dX5_passDays_44 rfl (Nat.le_of_ble_eq_true rfl) (by decide) ?_
      intro z44 hp44
      obtain rfl := hp44
      refine v_aload_n hG dX5_passDays_47 0 rfl ?_
      refine v_getf (ci := 5) (k := 0) hG iW5 f7 rfl (by decide) k9a (by decide) (cl_6 _ _ _ _) rfl dX5_passDays_48 ?_
      refine v_bipush hG dX5_passDays_51 (by decide) ?_
      refine v_iald hG k_170 (by decide) (cl_162 _ _ _ _) (by decide) (by omega) dX5_passDays_53 ?_
      rw [e170, show w 170 (60 : Int).toNat = w 170 60 from rfl]
      refine v_istore_n hG [(0, _), (1, _), (2, _)] dX5_passDays_54 (by decide) rfl ?_
      refine v_iconst hG dX5_passDays_55 ?_
      refine v_istore_n hG [(0, _), (1, _), (2, _), (3, _)] dX5_passDays_56 (by decide) rfl ?_
      rw [show recM w = zset (recM w) 170 (psR (w 170) (0 : Int).toNat) by rw [show (0 : Int).toNat = 0 from rfl, psR_0, ← e170, zset_same]]
      have L57 : ∀ (n : Nat), ∀ (x3 : Int), ((1 ≤ q ∧ q ≤ 400) ∧ w 170 57 + q ≤ 9999 ∧ 0 ≤ x3 ∧ x3 ≤ q) → (q - x3 + 1).toNat ≤ n → V Γ (zset (recM w) 170 (psR (w 170) x3.toNat)) 0 0 [(0, .ref (r 169)), (1, .int (iN q)), (2, .int (iN (w 170 60))), (3, .int (iN x3))] 57 [] := by
        intro n
        induction n with
        | zero =>
          intro x3 hI hm
          obtain ⟨i1, i2, i3v, i4⟩ := hI
          exact absurd hm (by omega)
        | succ n ih57 =>
          intro x3 hI hm
          obtain ⟨i1, i2, i3v, i4⟩ := hI
          have hag := psR_ag (w 170) x3.toNat
          have hMk : MI (psR (w 170) x3.toNat) := agR_MI hag hM (by rw [psR_57]; omega)
          refine v_iload_n hG dX5_passDays_57 3 rfl ?_
          refine v_iload_n hG dX5_passDays_58 1 rfl ?_
          refine v_icmp_ge hG 185 (by omega) (by omega) dX5_passDays_59 (by decide) (fun h59 => ?_) (fun h59 => ?_)
          · refine v_aload_n hG dX5_passDays_185 0 rfl ?_
            refine v_getf (ci := 5) (k := 0) hG iW5 f7 rfl (by decide) k9a (by decide) (cl_6 _ _ _ _) rfl dX5_passDays_186 ?_
            refine v_bipush hG dX5_passDays_189 (by decide) ?_
            refine v_iald hG k_170 (by decide) (cl_162 _ _ _ _) (by decide) (by omega) dX5_passDays_191 ?_
            rw [show (60 : Int).toNat = 60 from rfl, zset_at]
            refine v_iload_n hG dX5_passDays_192 2 rfl ?_
            refine v_isub hG dX5_passDays_193 ?_
            exact v_iret hG hR dX5_passDays_194 (by first | exact Or.inr (Or.inl ⟨rfl, by omega⟩) | exact Or.inr (Or.inr ⟨rfl, by omega⟩) | exact Or.inl ⟨by rw [show x3 = q by omega], by omega, by omega, by rw [show x3 = q by omega]⟩)
          · refine v_aload_n hG dX5_passDays_62 0 rfl ?_
            refine v_aload_n hG dX5_passDays_63 0 rfl ?_
            refine v_getf (ci := 5) (k := 0) hG iW5 f7 rfl (by decide) k9a (by decide) (cl_6 _ _ _ _) rfl dX5_passDays_64 ?_
            refine v_bipush hG dX5_passDays_67 (by decide) ?_
            refine v_iald hG k_170 (by decide) (cl_162 _ _ _ _) (by decide) (by omega) dX5_passDays_69 ?_
            rw [show (57 : Int).toNat = 57 from rfl, zset_at, psR_57, show ((x3.toNat : Nat) : Int) = x3 by omega]
            refine v_callVi (n := 1) (ci := 5) hG (c_X5_setOn hr k9a (by rw [zset_at]; exact hMk) (by omega)) gX5_passDays_X5_setOn rfl (by decide +kernel) rfl (by decide) k9a (by decide) (cl_6 _ _ _ _) rfl dX5_passDays_70 rfl (Nat.le_of_ble_eq_true rfl) (by decide) ?_
            intro v70 z70 hp70
            obtain ⟨rfl, hx70⟩ := hp70
            have hs70 : isSet (fun j : Nat => (j : Int) < w 170 14 ∧ onM (w 170) j (w 170 57 + x3)) v70 := isSet_congr hx70 (fun j => by
              rw [zset_at, hag 14 (by decide)]
              by_cases q9 : (j : Int) < w 170 14
              · rw [agR_on hag hG1 (by omega) (hFe j (by omega) q9)]
              · simp [q9])
            have hb70 := isSet_bd hs70
            refine v_istore hG [(0, _), (1, _), (2, _), (3, _), (4, _)] dX5_passDays_73 (by decide) rfl ?_
            refine v_aload_n hG dX5_passDays_75 0 rfl ?_
            refine v_iload hG dX5_passDays_76 4 rfl ?_
            refine v_iconst hG dX5_passDays_78 ?_
            refine v_callVi (n := 2) (ci := 5) hG (c_X5_ofTown hr k9a (by rw [zset_at]; exact hMk) hs70 (by omega)) gX5_passDays_X5_ofTown rfl (by decide +kernel) rfl (by decide) k9a (by decide) (cl_6 _ _ _ _) rfl dX5_passDays_79 rfl (Nat.le_of_ble_eq_true rfl) (by decide) ?_
            intro v79 z79 hp79
            obtain ⟨rfl, hx79⟩ := hp79
            rw [zset_at, hag 14 (by decide)] at hx79
            have hc79 : v79 = cntP (fun j => (fun j : Nat => (j : Int) < w 170 14 ∧ onM (w 170) j (w 170 57 + x3)) j ∧ mF (w 170) j 0 = 0) (w 170 14).toNat := hx79.trans (cntP_congr (fun j hj => by rw [agR_mF hag (by omega) (by decide)]))
            have hb79 := cntP_bd (fun j => (fun j : Nat => (j : Int) < w 170 14 ∧ onM (w 170) j (w 170 57 + x3)) j ∧ mF (w 170) j 0 = 0) (w 170 14).toNat
            rw [← hc79] at hb79
            refine v_istore hG [(0, _), (1, _), (2, _), (3, _), (4, _), (5, _)] dX5_passDays_82 (by decide) rfl ?_
            refine v_aload_n hG dX5_passDays_84 0 rfl ?_
            refine v_iload hG dX5_passDays_85 4 rfl ?_
            refine v_iconst hG dX5_passDays_87 ?_
            refine v_callVi (n := 2) (ci := 5) hG (c_X5_ofTown hr k9a (by rw [zset_at]; exact hMk) hs70 (by omega)) gX5_passDays_X5_ofTown rfl (by decide +kernel) rfl (by decide) k9a (by decide) (cl_6 _ _ _ _) rfl dX5_passDays_88 rfl (Nat.le_of_ble_eq_true rfl) (by decide) ?_
            intro v88 z88 hp88
            obtain ⟨rfl, hx88⟩ := hp88
            rw [zset_at, hag 14 (by decide)] at hx88
            have hc88 : v88 = cntP (fun j => (fun j : Nat => (j : Int) < w 170 14 ∧ onM (w 170) j (w 170 57 + x3)) j ∧ mF (w 170) j 0 = 1) (w 170 14).toNat := hx88.trans (cntP_congr (fun j hj => by rw [agR_mF hag (by omega) (by decide)]))
            have hb88 := cntP_bd (fun j => (fun j : Nat => (j : Int) < w 170 14 ∧ onM (w 170) j (w 170 57 + x3)) j ∧ mF (w 170) j 0 = 1) (w 170 14).toNat
            rw [← hc88] at hb88
            obtain ⟨C, hC⟩ : ∃ C : Int, C = (if 0 < v79 ∧ 0 < v88 then 1 else 0) := ⟨_, rfl⟩
            obtain ⟨E, hE⟩ : ∃ E : Int, E = (if v70 = 0 then w 170 56 else 0) := ⟨_, rfl⟩
            have hstep : psR (w 170) (x3.toNat + 1) = st5 (psR (w 170) x3.toNat) v79 v88 C E := by
              rw [hC, hE]
              have e3 : ((x3.toNat : Nat) : Int) = x3 := by omega
              exact psR_step (by rw [e3]; exact hs70) (by rw [e3]; exact hc79) (by rw [e3]; exact hc88)
            refine v_istore hG [(0, _), (1, _), (2, _), (3, _), (4, _), (5, _), (6, _)] dX5_passDays_91 (by decide) rfl ?_
            refine v_aload_n hG dX5_passDays_93 0 rfl ?_
            refine v_getf (ci := 5) (k := 0) hG iW5 f7 rfl (by decide) k9a (by decide) (cl_6 _ _ _ _) rfl dX5_passDays_94 ?_
            refine v_bipush hG dX5_passDays_97 (by decide) ?_
            refine v_dup2 hG dX5_passDays_99 rfl rfl ?_
            refine v_iald hG k_170 (by decide) (cl_162 _ _ _ _) (by decide) (by omega) dX5_passDays_100 ?_
            rw [show (58 : Int).toNat = 58 from rfl, zset_at]
            refine v_iload hG dX5_passDays_101 5 rfl ?_
            refine v_iadd hG dX5_passDays_103 ?_
            refine v_iast hG k_170 (by decide) (cl_162 _ _ _) (by decide) (by omega) dX5_passDays_104 ?_
            rw [show (58 : Int).toNat = 58 from rfl]
            refine v_aload_n hG dX5_passDays_105 0 rfl ?_
            refine v_getf (ci := 5) (k := 0) hG iW5 f7 rfl (by decide) k9a (by decide) (cl_6 _ _ _ _) rfl dX5_passDays_106 ?_
            refine v_bipush hG dX5_passDays_109 (by decide) ?_
            refine v_dup2 hG dX5_passDays_111 rfl rfl ?_
            refine v_iald hG k_170 (by decide) (cl_162 _ _ _ _) (by decide) (by omega) dX5_passDays_112 ?_
            rw [show (59 : Int).toNat = 59 from rfl, zup_r, if_neg (by decide), zset_at]
            refine v_iload hG dX5_passDays_113 6 rfl ?_
            refine v_iadd hG dX5_passDays_115 ?_
            refine v_iast hG k_170 (by decide) (cl_162 _ _ _) (by decide) (by omega) dX5_passDays_116 ?_
            rw [show (59 : Int).toNat = 59 from rfl]
            refine v_aload_n hG dX5_passDays_117 0 rfl ?_
            refine v_getf (ci := 5) (k := 0) hG iW5 f7 rfl (by decide) k9a (by decide) (cl_6 _ _ _ _) rfl dX5_passDays_118 ?_
            refine v_bipush hG dX5_passDays_121 (by decide) ?_
            refine v_dup2 hG dX5_passDays_123 rfl rfl ?_
            refine v_iald hG k_170 (by decide) (cl_162 _ _ _ _) (by decide) (by omega) dX5_passDays_124 ?_
            rw [show (60 : Int).toNat = 60 from rfl, zup_r, if_neg (by decide), zup_r, if_neg (by decide), zset_at]
            have L140 : ∀ (c : Int), c = C → V Γ (zup (zup (zset (recM w) 170 (psR (w 170) x3.toNat)) 170 58 (psR (w 170) x3.toNat 58 + v79)) 170 59 (psR (w 170) x3.toNat 59 + v88)) 0 0 [(0, .ref (r 169)), (1, .int (iN q)), (2, .int (iN (w 170 60))), (3, .int (iN x3)), (4, .int (iN v70)), (5, .int (iN v79)), (6, .int (iN v88))] 140 [.int (iN c), .int (iN (psR (w 170) x3.toNat 60)), .int (iN 60), .ref (r 170)] := by
              intro c hI140
              subst hI140
              refine v_iadd hG dX5_passDays_140 ?_
              refine v_iast hG k_170 (by decide) (cl_162 _ _ _) (by decide) (by omega) dX5_passDays_141 ?_
              rw [show (60 : Int).toNat = 60 from rfl]
              refine v_aload_n hG dX5_passDays_142 0 rfl ?_
              refine v_getf (ci := 5) (k := 0) hG iW5 f7 rfl (by decide) k9a (by decide) (cl_6 _ _ _ _) rfl dX5_passDays_143 ?_
              refine v_bipush hG dX5_passDays_146 (by decide) ?_
              refine v_dup2 hG dX5_passDays_148 rfl rfl ?_
              refine v_iald hG k_170 (by decide) (cl_162 _ _ _ _) (by decide) (by omega) dX5_passDays_149 ?_
              rw [show (61 : Int).toNat = 61 from rfl, zup_r, if_neg (by decide), zup_r, if_neg (by decide), zup_r, if_neg (by decide), zset_at]
              have L166 : ∀ (c2 : Int), c2 = E → V Γ (zup (zup (zup (zset (recM w) 170 (psR (w 170) x3.toNat)) 170 58 (psR (w 170) x3.toNat 58 + v79)) 170 59 (psR (w 170) x3.toNat 59 + v88)) 170 60 (psR (w 170) x3.toNat 60 + C)) 0 0 [(0, .ref (r 169)), (1, .int (iN q)), (2, .int (iN (w 170 60))), (3, .int (iN x3)), (4, .int (iN v70)), (5, .int (iN v79)), (6, .int (iN v88))] 166 [.int (iN c2), .int (iN (psR (w 170) x3.toNat 61)), .int (iN 61), .ref (r 170)] := by
                intro c2 hI166
                subst hI166
                refine v_iadd hG dX5_passDays_166 ?_
                refine v_iast hG k_170 (by decide) (cl_162 _ _ _) (by decide) (by omega) dX5_passDays_167 ?_
                rw [show (61 : Int).toNat = 61 from rfl]
                refine v_aload_n hG dX5_passDays_168 0 rfl ?_
                refine v_getf (ci := 5) (k := 0) hG iW5 f7 rfl (by decide) k9a (by decide) (cl_6 _ _ _ _) rfl dX5_passDays_169 ?_
                refine v_bipush hG dX5_passDays_172 (by decide) ?_
                refine v_dup2 hG dX5_passDays_174 rfl rfl ?_
                refine v_iald hG k_170 (by decide) (cl_162 _ _ _ _) (by decide) (by omega) dX5_passDays_175 ?_
                rw [show (57 : Int).toNat = 57 from rfl, zup_r, if_neg (by decide), zup_r, if_neg (by decide), zup_r, if_neg (by decide), zup_r, if_neg (by decide), zset_at]
                refine v_iconst hG dX5_passDays_176 ?_
                refine v_iadd hG dX5_passDays_177 ?_
                refine v_iast hG k_170 (by decide) (cl_162 _ _ _) (by decide) (by omega) dX5_passDays_178 ?_
                rw [show (57 : Int).toNat = 57 from rfl, st5_w, ← hstep, show x3.toNat + 1 = (x3 + 1).toNat by omega]
                refine v_iinc hG [(0, _), (1, _), (2, _), (3, _), (4, _), (5, _), (6, _)] dX5_passDays_179 3 rfl (by decide) rfl ?_
                refine v_goto hG 57 dX5_passDays_182 (by decide) ?_
                refine v_sub hG [(0, _), (1, _), (2, _), (3, _)] [0, 1, 2, 3] rfl ?_
                exact ih57 _ ⟨by omega, by omega, by omega, by omega⟩ (by omega)
              refine v_iload hG dX5_passDays_150 4 rfl ?_
              refine v_if_ne hG 165 (by omega) dX5_passDays_152 (by decide) (fun h152 => ?_) (fun h152 => ?_)
              · refine v_iconst hG dX5_passDays_165 ?_
                exact L166 _ (by rw [hE]; first | (rw [if_pos (by omega)]) | (rw [if_neg (by omega)]))
              · refine v_aload_n hG dX5_passDays_155 0 rfl ?_
                refine v_getf (ci := 5) (k := 0) hG iW5 f7 rfl (by decide) k9a (by decide) (cl_6 _ _ _ _) rfl dX5_passDays_156 ?_
                refine v_bipush hG dX5_passDays_159 (by decide) ?_
                refine v_iald hG k_170 (by decide) (cl_162 _ _ _ _) (by decide) (by omega) dX5_passDays_161 ?_
                rw [show (56 : Int).toNat = 56 from rfl, zup_r, if_neg (by decide), zup_r, if_neg (by decide), zup_r, if_neg (by decide), zset_at, psR_56]
                refine v_goto hG 166 dX5_passDays_162 (by decide) ?_
                exact L166 _ (by rw [hE]; first | (rw [if_pos (by omega)]) | (rw [if_neg (by omega)]))
            refine v_iload hG dX5_passDays_125 5 rfl ?_
            refine v_if_le hG 139 (by omega) dX5_passDays_127 (by decide) (fun h127 => ?_) (fun h127 => ?_)
            · refine v_iconst hG dX5_passDays_139 ?_
              exact L140 _ (by rw [hC]; first | (rw [if_pos (by omega)]) | (rw [if_neg (by omega)]))
            · refine v_iload hG dX5_passDays_130 6 rfl ?_
              refine v_if_le hG 139 (by omega) dX5_passDays_132 (by decide) (fun h132 => ?_) (fun h132 => ?_)
              · refine v_iconst hG dX5_passDays_139 ?_
                exact L140 _ (by rw [hC]; first | (rw [if_pos (by omega)]) | (rw [if_neg (by omega)]))
              · refine v_iconst hG dX5_passDays_135 ?_
                refine v_goto hG 140 dX5_passDays_136 (by decide) ?_
                exact L140 _ (by rw [hC]; first | (rw [if_pos (by omega)]) | (rw [if_neg (by omega)]))
      exact L57 _ _ ⟨by omega, by omega, by omega, by omega⟩ (Nat.le_refl _)
    · refine v_aload_n hG dX5_passDays_37 0 rfl ?_
      refine v_iconst hG dX5_passDays_38 ?_
      refine v_callVi (n := 1) (ci := 5) hG (c_X5_fails hr k9a) gX5_passDays_X5_fails rfl (by decide +kernel) rfl (by decide) k9a (by decide) (cl_6 _ _ _ _) rfl dX5_passDays_39 rfl (Nat.le_of_ble_eq_true rfl) (by decide) ?_
      intro v39 z39 hp39
      obtain ⟨rfl, rfl⟩ := hp39
      exact v_iret hG hR dX5_passDays_42 (by first | exact Or.inr (Or.inl ⟨rfl, by omega⟩) | exact Or.inr (Or.inr ⟨rfl, by omega⟩) | exact Or.inl ⟨by rw [show x3 = q by omega], by omega, by omega, by rw [show x3 = q by omega]⟩)
  · refine v_aload_n hG dX5_passDays_16 0 rfl ?_
    refine v_iconst hG dX5_passDays_17 ?_
    refine v_callVi (n := 1) (ci := 5) hG (c_X5_fails hr k9a) gX5_passDays_X5_fails rfl (by decide +kernel) rfl (by decide) k9a (by decide) (cl_6 _ _ _ _) rfl dX5_passDays_18 rfl (Nat.le_of_ble_eq_true rfl) (by decide) ?_
    intro v18 z18 hp18
    obtain ⟨rfl, rfl⟩ := hp18
    exact v_iret hG hR dX5_passDays_21 (by first | exact Or.inr (Or.inl ⟨rfl, by omega⟩) | exact Or.inr (Or.inr ⟨rfl, by omega⟩) | exact Or.inl ⟨by rw [show x3 = q by omega], by omega, by omega, by rw [show x3 = q by omega]⟩)

