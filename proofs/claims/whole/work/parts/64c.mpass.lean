noncomputable def psR (ρ : Nat → Int) (k : Nat) : Nat → Int := fun p =>
  if p = 58 then ρ 58 + sumN (fun i => cntP (fun j => ((j : Int) < ρ 14 ∧ onM ρ j (ρ 57 + i)) ∧ mF ρ j 0 = 0) (ρ 14).toNat) k
  else if p = 59 then ρ 59 + sumN (fun i => cntP (fun j => ((j : Int) < ρ 14 ∧ onM ρ j (ρ 57 + i)) ∧ mF ρ j 0 = 1) (ρ 14).toNat) k
  else if p = 60 then ρ 60 + qwM ρ k
  else if p = 61 then ρ 61 + sumN (fun i => ind (∀ j : Nat, ¬ ((j : Int) < ρ 14 ∧ onM ρ j (ρ 57 + i))) * ρ 56) k
  else if p = 57 then ρ 57 + k else ρ p
theorem psR_0 (ρ : Nat → Int) : psR ρ 0 = ρ := by
  funext p
  unfold psR qwM
  simp only [sumN, cntP]
  by_cases q1 : p = 58
  · subst q1; simp
  by_cases q2 : p = 59
  · subst q2; simp
  by_cases q3 : p = 60
  · subst q3; simp
  by_cases q4 : p = 61
  · subst q4; simp
  by_cases q5 : p = 57
  · subst q5; simp
  simp [q1, q2, q3, q4, q5]
theorem psR_57 (ρ : Nat → Int) (k : Nat) : psR ρ k 57 = ρ 57 + k := by simp [psR]
theorem psR_56 (ρ : Nat → Int) (k : Nat) : psR ρ k 56 = ρ 56 := by simp [psR]
theorem psR_ag (ρ : Nat → Int) (k : Nat) : agR ρ (psR ρ k) := fun p hp => by
  unfold psR
  rw [if_neg (by omega), if_neg (by omega), if_neg (by omega), if_neg (by omega), if_neg (by omega)]
def st5 (σ : Nat → Int) (a b c e : Int) : Nat → Int := fun p => if p = 58 then σ 58 + a else if p = 59 then σ 59 + b else if p = 60 then σ 60 + c else if p = 61 then σ 61 + e else if p = 57 then σ 57 + 1 else σ p
theorem st5_w (X : Zt) (σ : Nat → Int) (a b c e : Int) : zup (zup (zup (zup (zup (zset X 170 σ) 170 58 (σ 58 + a)) 170 59 (σ 59 + b)) 170 60 (σ 60 + c)) 170 61 (σ 61 + e)) 170 57 (σ 57 + 1) = zset X 170 (st5 σ a b c e) := by
  rw [zup_zset, zup_zset, zup_zset, zup_zset, zup_zset]
  congr 1
  funext p
  unfold st5
  by_cases q5 : p = 57
  · subst q5; simp
  by_cases q4 : p = 61
  · subst q4; simp
  by_cases q3 : p = 60
  · subst q3; simp
  by_cases q2 : p = 59
  · subst q2; simp
  by_cases q1 : p = 58
  · subst q1; simp
  simp [q1, q2, q3, q4, q5]
theorem psR_step {ρ : Nat → Int} {k : Nat} {v a b : Int} (hs : isSet (fun j : Nat => (j : Int) < ρ 14 ∧ onM ρ j (ρ 57 + k)) v) (ha : a = cntP (fun j => ((j : Int) < ρ 14 ∧ onM ρ j (ρ 57 + k)) ∧ mF ρ j 0 = 0) (ρ 14).toNat) (hb : b = cntP (fun j => ((j : Int) < ρ 14 ∧ onM ρ j (ρ 57 + k)) ∧ mF ρ j 0 = 1) (ρ 14).toNat) : psR ρ (k + 1) = st5 (psR ρ k) a b (if 0 < a ∧ 0 < b then 1 else 0) (if v = 0 then ρ 56 else 0) := by
  have hA : 0 < a ↔ ∃ j : Nat, ((j : Int) < ρ 14 ∧ onM ρ j (ρ 57 + k)) ∧ mF ρ j 0 = 0 := by
    rw [ha]
    refine cntP_pos_iff.trans ⟨fun ⟨j, _, h⟩ => ⟨j, h⟩, fun ⟨j, h⟩ => ⟨j, ?_, h⟩⟩
    have := h.1.1
    omega
  have hB : 0 < b ↔ ∃ j : Nat, ((j : Int) < ρ 14 ∧ onM ρ j (ρ 57 + k)) ∧ mF ρ j 0 = 1 := by
    rw [hb]
    refine cntP_pos_iff.trans ⟨fun ⟨j, _, h⟩ => ⟨j, h⟩, fun ⟨j, h⟩ => ⟨j, ?_, h⟩⟩
    have := h.1.1
    omega
  have hq : ind (quM ρ (ρ 57 + k)) = (if 0 < a ∧ 0 < b then 1 else 0) := by
    by_cases q : 0 < a ∧ 0 < b
    · rw [if_pos q]
      exact ind_t ⟨hA.mp q.1, hB.mp q.2⟩
    · rw [if_neg q]
      exact ind_f (fun h => q ⟨hA.mpr h.1, hB.mpr h.2⟩)
  have hz : ind (∀ j : Nat, ¬ ((j : Int) < ρ 14 ∧ onM ρ j (ρ 57 + k))) * ρ 56 = (if v = 0 then ρ 56 else 0) := by
    by_cases q : v = 0
    · rw [if_pos q, ind_t ((isSet_zero hs).mp q), Int.one_mul]
    · rw [if_neg q, ind_f (fun h => q ((isSet_zero hs).mpr h)), Int.zero_mul]
  funext p
  rw [← hq, ← hz, ha, hb]
  unfold st5
  by_cases q1 : p = 58
  · subst q1
    simp only [psR, sumN]
    simp
    omega
  by_cases q2 : p = 59
  · subst q2
    simp only [psR, sumN]
    simp
    omega
  by_cases q3 : p = 60
  · subst q3
    simp only [psR, qwM, cntP]
    simp
    omega
  by_cases q4 : p = 61
  · subst q4
    simp only [psR, sumN]
    simp
    omega
  by_cases q5 : p = 57
  · subst q5
    simp only [psR]
    simp
    omega
  simp [psR, q1, q2, q3, q4, q5]

set_option maxHeartbeats 4000000 in
set_option maxRecDepth 100000 in
theorem c_X5_passDays {l : Launch} {D : va_G} {cA : Nat → ClassId} {r : Nat → Nat} {z : Zt} {w : Zt} {q : Int} (hr : Inj r) (k9a : kd 169 = 6) (hw : w = zup z 169 5 0) (hM : MI (w 170)) (hst : 0 ≤ w 169 2 ∧ w 169 2 ≤ 6) (hr_q : -2147483648 ≤ q ∧ q < 2147483648) : Ki l D cA r yX5_passDays wsX5_passDays 7 163 z [.ref (r 169), .int (iN q)] (fun v z1 => (zset (recM w) 170 (psR (w 170) q.toNat) = z1 ∧ (1 ≤ q ∧ q ≤ 400) ∧ w 170 57 + q ≤ 9999 ∧ v = psR (w 170) q.toNat 60 - w 170 60) ∨ (zup w 169 5 1 = z1 ∧ ¬ (1 ≤ q ∧ q ≤ 400)) ∨ (zup w 169 5 2 = z1 ∧ (1 ≤ q ∧ q ≤ 400) ∧ 9999 < w 170 57 + q)) := by
  have iW5 : ∀ w ∈ u_ws RX5 TX5 10, w ∈ wsX5_passDays := by decide +kernel
  have f7 : Cond.fieldLink RX5 7 (TX5 0).1 (TX5 0).2.1 (TX5 0).2.2.1 ∈ wsX5_passDays := by decide +kernel
  have f29 : Cond.fieldLink RX5 29 (TX5 5).1 (TX5 5).2.1 (TX5 5).2.2.1 ∈ wsX5_passDays := by decide +kernel
  obtain ⟨hG1, h14, hFe, h55, h56, h57⟩ := id hM
  have e170 : recM w 170 = w 170 := recM_o (by decide) (by decide)
  refine Ki_of [(0, _), (1, _)] hr (by decide) rfl rfl (Nat.le_of_ble_eq_true rfl) rfl (fun Γ hG hR => ?_)
  refine v_aload_n hG dX5_passDays_0 0 rfl ?_
  refine v_iconst hG dX5_passDays_1 ?_
  refine v_putf (ci := 5) (k := 5) hG iW5 tyX5_ok nmX5 f29 rfl (by decide) rfl rfl k9a (by decide) (cl_6 _ _ _ _) (Nat.le_of_ble_eq_true rfl) rfl dX5_passDays_2 ?_
  rw [← hw]
  refine v_iload_n hG dX5_passDays_5 1 rfl ?_
  refine v_iconst hG dX5_passDays_6 ?_
  refine v_sipush hG dX5_passDays_7 (by decide) ?_
  refine v_callSi (n := 3) hG (c_X5_in hr (by omega) (by omega) (by omega)) gX5_passDays_X5_in rfl (by decide +kernel) rfl (by decide) dX5_passDays_10 rfl (Nat.le_of_ble_eq_true rfl) (by decide) ?_
  intro v10 z10 hp10
  obtain ⟨rfl, hv10⟩ := hp10
  have hb10 := ind_v hv10
  refine v_if_ne hG 22 (by omega) dX5_passDays_13 (by decide) (fun h13 => ?_) (fun h13 => ?_)
  · refine v_aload_n hG dX5_passDays_22 0 rfl ?_
    refine v_getf (ci := 5) (k := 0) hG iW5 f7 rfl (by decide) k9a (by decide) (cl_6 _ _ _ _) rfl dX5_passDays_23 ?_
    refine v_bipush hG dX5_passDays_26 (by decide) ?_
    refine v_iald hG k_170 (by decide) (cl_162 _ _ _ _) (by decide) (by omega) dX5_passDays_28 ?_
    rw [show w 170 (57 : Int).toNat = w 170 57 from rfl]
    refine v_iload_n hG dX5_passDays_29 1 rfl ?_
    refine v_iadd hG dX5_passDays_30 ?_
    refine v_sipush hG dX5_passDays_31 (by decide) ?_
    refine v_icmp_le hG 43 (by omega) (by omega) dX5_passDays_34 (by decide) (fun h34 => ?_) (fun h34 => ?_)
    · refine v_aload_n hG dX5_passDays_43 0 rfl ?_
      refine v_callVv (n := 0) (ci := 5) hG (c_X5_record hr k9a (by omega)) gX5_passDays_X5_record rfl (by decide +kernel) rfl (by decide) k9a (by decide) (cl_6 _ _ _ _) rfl dX5_passDays_44 rfl (Nat.le_of_ble_eq_true rfl) (by decide) ?_
      intro z44 hp44
      obtain rfl := hp44
      refine v_aload_n hG dX5_passDays_47 0 rfl ?_
      refine v_getf (ci := 5) (k := 0) hG iW5 f7 rfl (by decide) k9a (by decide) (cl_6 _ _ _ _) rfl dX5_passDays_48 ?_
      refine v_bipush hG dX5_passDays_51 (by decide) ?_
      refine v_iald hG k_170 (by decide) (cl_162 _ _ _ _) (by decide) (by omega) dX5_passDays_53 ?_
      rw [e170, show w 170 (60 : Int).toNat = w 170 60 from rfl]
      refine v_istore_n hG [(0, _), (1, _), (2, _)] dX5_passDays_54 (by decide) rfl ?_
      refine v_iconst hG dX5_passDays_55 ?_
      refine v_istore_n hG [(0, _), (1, _), (2, _), (3, _)] dX5_passDays_56 (by decide) rfl ?_
      rw [show recM w = zset (recM w) 170 (psR (w 170) (0 : Int).toNat) by rw [show (0 : Int).toNat = 0 from rfl, psR_0, ← e170, zset_same]]
      have L57 : ∀ (n : Nat), ∀ (x3 : Int), ((1 ≤ q ∧ q ≤ 400) ∧ w 170 57 + q ≤ 9999 ∧ 0 ≤ x3 ∧ x3 ≤ q) → (q - x3 + 1).toNat ≤ n → V Γ (zset (recM w) 170 (psR (w 170) x3.toNat)) 0 0 [(0, .ref (r 169)), (1, .int (iN q)), (2, .int (iN (w 170 60))), (3, .int (iN x3))] 57 [] := by
        intro n
        induction n with
        | zero =>
          intro x3 hI hm
          obtain ⟨i1, i2, i3v, i4⟩ := hI
          exact absurd hm (by omega)
        | succ n ih57 =>
          intro x3 hI hm
          obtain ⟨i1, i2, i3v, i4⟩ := hI
          have hag := psR_ag (w 170) x3.toNat
          have hMk : MI (psR (w 170) x3.toNat) := agR_MI hag hM (by rw [psR_57]; omega)
          refine v_iload_n hG dX5_passDays_57 3 rfl ?_
          refine v_iload_n hG dX5_passDays_58 1 rfl ?_
          refine v_icmp_ge hG 185 (by omega) (by omega) dX5_passDays_59 (by decide) (fun h59 => ?_) (fun h59 => ?_)
          · refine v_aload_n hG dX5_passDays_185 0 rfl ?_
            refine v_getf (ci := 5) (k := 0) hG iW5 f7 rfl (by decide) k9a (by decide) (cl_6 _ _ _ _) rfl dX5_passDays_186 ?_
            refine v_bipush hG dX5_passDays_189 (by decide) ?_
            refine v_iald hG k_170 (by decide) (cl_162 _ _ _ _) (by decide) (by omega) dX5_passDays_191 ?_
            rw [show (60 : Int).toNat = 60 from rfl, zset_at]
            refine v_iload_n hG dX5_passDays_192 2 rfl ?_
            refine v_isub hG dX5_passDays_193 ?_
            exact v_iret hG hR dX5_passDays_194 (by first | exact Or.inr (Or.inl ⟨rfl, by omega⟩) | exact Or.inr (Or.inr ⟨rfl, by omega⟩) | exact Or.inl ⟨by rw [show x3 = q by omega], by omega, by omega, by rw [show x3 = q by omega]⟩)
          · refine v_aload_n hG dX5_passDays_62 0 rfl ?_
            refine v_aload_n hG dX5_passDays_63 0 rfl ?_
            refine v_getf (ci := 5) (k := 0) hG iW5 f7 rfl (by decide) k9a (by decide) (cl_6 _ _ _ _) rfl dX5_passDays_64 ?_
            refine v_bipush hG dX5_passDays_67 (by decide) ?_
            refine v_iald hG k_170 (by decide) (cl_162 _ _ _ _) (by decide) (by omega) dX5_passDays_69 ?_
            rw [show (57 : Int).toNat = 57 from rfl, zset_at, psR_57, show ((x3.toNat : Nat) : Int) = x3 by omega]
            refine v_callVi (n := 1) (ci := 5) hG (c_X5_setOn hr k9a (by rw [zset_at]; exact hMk) (by omega)) gX5_passDays_X5_setOn rfl (by decide +kernel) rfl (by decide) k9a (by decide) (cl_6 _ _ _ _) rfl dX5_passDays_70 rfl (Nat.le_of_ble_eq_true rfl) (by decide) ?_
            intro v70 z70 hp70
            obtain ⟨rfl, hx70⟩ := hp70
            have hs70 : isSet (fun j : Nat => (j : Int) < w 170 14 ∧ onM (w 170) j (w 170 57 + x3)) v70 := isSet_congr hx70 (fun j => by
              rw [zset_at, hag 14 (by decide)]
              by_cases q9 : (j : Int) < w 170 14
              · rw [agR_on hag hG1 (by omega) (hFe j (by omega) q9)]
              · simp [q9])
            have hb70 := isSet_bd hs70
            refine v_istore hG [(0, _), (1, _), (2, _), (3, _), (4, _)] dX5_passDays_73 (by decide) rfl ?_
            refine v_aload_n hG dX5_passDays_75 0 rfl ?_
            refine v_iload hG dX5_passDays_76 4 rfl ?_
            refine v_iconst hG dX5_passDays_78 ?_
            refine v_callVi (n := 2) (ci := 5) hG (c_X5_ofTown hr k9a (by rw [zset_at]; exact hMk) hs70 (by omega)) gX5_passDays_X5_ofTown rfl (by decide +kernel) rfl (by decide) k9a (by decide) (cl_6 _ _ _ _) rfl dX5_passDays_79 rfl (Nat.le_of_ble_eq_true rfl) (by decide) ?_
            intro v79 z79 hp79
            obtain ⟨rfl, hx79⟩ := hp79
            rw [zset_at, hag 14 (by decide)] at hx79
            have hc79 : v79 = cntP (fun j => (fun j : Nat => (j : Int) < w 170 14 ∧ onM (w 170) j (w 170 57 + x3)) j ∧ mF (w 170) j 0 = 0) (w 170 14).toNat := hx79.trans (cntP_congr (fun j hj => by rw [agR_mF hag (by omega) (by decide)]))
            have hb79 := cntP_bd (fun j => (fun j : Nat => (j : Int) < w 170 14 ∧ onM (w 170) j (w 170 57 + x3)) j ∧ mF (w 170) j 0 = 0) (w 170 14).toNat
            rw [← hc79] at hb79
            refine v_istore hG [(0, _), (1, _), (2, _), (3, _), (4, _), (5, _)] dX5_passDays_82 (by decide) rfl ?_
            refine v_aload_n hG dX5_passDays_84 0 rfl ?_
            refine v_iload hG dX5_passDays_85 4 rfl ?_
            refine v_iconst hG dX5_passDays_87 ?_
            refine v_callVi (n := 2) (ci := 5) hG (c_X5_ofTown hr k9a (by rw [zset_at]; exact hMk) hs70 (by omega)) gX5_passDays_X5_ofTown rfl (by decide +kernel) rfl (by decide) k9a (by decide) (cl_6 _ _ _ _) rfl dX5_passDays_88 rfl (Nat.le_of_ble_eq_true rfl) (by decide) ?_
            intro v88 z88 hp88
            obtain ⟨rfl, hx88⟩ := hp88
            rw [zset_at, hag 14 (by decide)] at hx88
            have hc88 : v88 = cntP (fun j => (fun j : Nat => (j : Int) < w 170 14 ∧ onM (w 170) j (w 170 57 + x3)) j ∧ mF (w 170) j 0 = 1) (w 170 14).toNat := hx88.trans (cntP_congr (fun j hj => by rw [agR_mF hag (by omega) (by decide)]))
            have hb88 := cntP_bd (fun j => (fun j : Nat => (j : Int) < w 170 14 ∧ onM (w 170) j (w 170 57 + x3)) j ∧ mF (w 170) j 0 = 1) (w 170 14).toNat
            rw [← hc88] at hb88
            obtain ⟨C, hC⟩ : ∃ C : Int, C = (if 0 < v79 ∧ 0 < v88 then 1 else 0) := ⟨_, rfl⟩
            obtain ⟨E, hE⟩ : ∃ E : Int, E = (if v70 = 0 then w 170 56 else 0) := ⟨_, rfl⟩
            have hstep : psR (w 170) (x3.toNat + 1) = st5 (psR (w 170) x3.toNat) v79 v88 C E := by
              rw [hC, hE]
              have e3 : ((x3.toNat : Nat) : Int) = x3 := by omega
              exact psR_step (by rw [e3]; exact hs70) (by rw [e3]; exact hc79) (by rw [e3]; exact hc88)
            refine v_istore hG [(0, _), (1, _), (2, _), (3, _), (4, _), (5, _), (6, _)] dX5_passDays_91 (by decide) rfl ?_
            refine v_aload_n hG dX5_passDays_93 0 rfl ?_
            refine v_getf (ci := 5) (k := 0) hG iW5 f7 rfl (by decide) k9a (by decide) (cl_6 _ _ _ _) rfl dX5_passDays_94 ?_
            refine v_bipush hG dX5_passDays_97 (by decide) ?_
            refine v_dup2 hG dX5_passDays_99 rfl rfl ?_
            refine v_iald hG k_170 (by decide) (cl_162 _ _ _ _) (by decide) (by omega) dX5_passDays_100 ?_
            rw [show (58 : Int).toNat = 58 from rfl, zset_at]
            refine v_iload hG dX5_passDays_101 5 rfl ?_
            refine v_iadd hG dX5_passDays_103 ?_
            refine v_iast hG k_170 (by decide) (cl_162 _ _ _) (by decide) (by omega) dX5_passDays_104 ?_
            rw [show (58 : Int).toNat = 58 from rfl]
            refine v_aload_n hG dX5_passDays_105 0 rfl ?_
            refine v_getf (ci := 5) (k := 0) hG iW5 f7 rfl (by decide) k9a (by decide) (cl_6 _ _ _ _) rfl dX5_passDays_106 ?_
            refine v_bipush hG dX5_passDays_109 (by decide) ?_
            refine v_dup2 hG dX5_passDays_111 rfl rfl ?_
            refine v_iald hG k_170 (by decide) (cl_162 _ _ _ _) (by decide) (by omega) dX5_passDays_112 ?_
            rw [show (59 : Int).toNat = 59 from rfl, zup_r, if_neg (by decide), zset_at]
            refine v_iload hG dX5_passDays_113 6 rfl ?_
            refine v_iadd hG dX5_passDays_115 ?_
            refine v_iast hG k_170 (by decide) (cl_162 _ _ _) (by decide) (by omega) dX5_passDays_116 ?_
            rw [show (59 : Int).toNat = 59 from rfl]
            refine v_aload_n hG dX5_passDays_117 0 rfl ?_
            refine v_getf (ci := 5) (k := 0) hG iW5 f7 rfl (by decide) k9a (by decide) (cl_6 _ _ _ _) rfl dX5_passDays_118 ?_
            refine v_bipush hG dX5_passDays_121 (by decide) ?_
            refine v_dup2 hG dX5_passDays_123 rfl rfl ?_
            refine v_iald hG k_170 (by decide) (cl_162 _ _ _ _) (by decide) (by omega) dX5_passDays_124 ?_
            rw [show (60 : Int).toNat = 60 from rfl, zup_r, if_neg (by decide), zup_r, if_neg (by decide), zset_at]
            have L140 : ∀ (c : Int), c = C → V Γ (zup (zup (zset (recM w) 170 (psR (w 170) x3.toNat)) 170 58 (psR (w 170) x3.toNat 58 + v79)) 170 59 (psR (w 170) x3.toNat 59 + v88)) 0 0 [(0, .ref (r 169)), (1, .int (iN q)), (2, .int (iN (w 170 60))), (3, .int (iN x3)), (4, .int (iN v70)), (5, .int (iN v79)), (6, .int (iN v88))] 140 [.int (iN c), .int (iN (psR (w 170) x3.toNat 60)), .int (iN 60), .ref (r 170)] := by
              intro c hI140
              rw [hI140]
              refine v_iadd hG dX5_passDays_140 ?_
              refine v_iast hG k_170 (by decide) (cl_162 _ _ _) (by decide) (by omega) dX5_passDays_141 ?_
              rw [show (60 : Int).toNat = 60 from rfl]
              refine v_aload_n hG dX5_passDays_142 0 rfl ?_
              refine v_getf (ci := 5) (k := 0) hG iW5 f7 rfl (by decide) k9a (by decide) (cl_6 _ _ _ _) rfl dX5_passDays_143 ?_
              refine v_bipush hG dX5_passDays_146 (by decide) ?_
              refine v_dup2 hG dX5_passDays_148 rfl rfl ?_
              refine v_iald hG k_170 (by decide) (cl_162 _ _ _ _) (by decide) (by omega) dX5_passDays_149 ?_
              rw [show (61 : Int).toNat = 61 from rfl, zup_r, if_neg (by decide), zup_r, if_neg (by decide), zup_r, if_neg (by decide), zset_at]
              have L166 : ∀ (c2 : Int), c2 = E → V Γ (zup (zup (zup (zset (recM w) 170 (psR (w 170) x3.toNat)) 170 58 (psR (w 170) x3.toNat 58 + v79)) 170 59 (psR (w 170) x3.toNat 59 + v88)) 170 60 (psR (w 170) x3.toNat 60 + C)) 0 0 [(0, .ref (r 169)), (1, .int (iN q)), (2, .int (iN (w 170 60))), (3, .int (iN x3)), (4, .int (iN v70)), (5, .int (iN v79)), (6, .int (iN v88))] 166 [.int (iN c2), .int (iN (psR (w 170) x3.toNat 61)), .int (iN 61), .ref (r 170)] := by
                intro c2 hI166
                rw [hI166]
                refine v_iadd hG dX5_passDays_166 ?_
                refine v_iast hG k_170 (by decide) (cl_162 _ _ _) (by decide) (by omega) dX5_passDays_167 ?_
                rw [show (61 : Int).toNat = 61 from rfl]
                refine v_aload_n hG dX5_passDays_168 0 rfl ?_
                refine v_getf (ci := 5) (k := 0) hG iW5 f7 rfl (by decide) k9a (by decide) (cl_6 _ _ _ _) rfl dX5_passDays_169 ?_
                refine v_bipush hG dX5_passDays_172 (by decide) ?_
                refine v_dup2 hG dX5_passDays_174 rfl rfl ?_
                refine v_iald hG k_170 (by decide) (cl_162 _ _ _ _) (by decide) (by omega) dX5_passDays_175 ?_
                rw [show (57 : Int).toNat = 57 from rfl, zup_r, if_neg (by decide), zup_r, if_neg (by decide), zup_r, if_neg (by decide), zup_r, if_neg (by decide), zset_at]
                refine v_iconst hG dX5_passDays_176 ?_
                refine v_iadd hG dX5_passDays_177 ?_
                refine v_iast hG k_170 (by decide) (cl_162 _ _ _) (by decide) (by omega) dX5_passDays_178 ?_
                rw [show (57 : Int).toNat = 57 from rfl, st5_w, ← hstep, show x3.toNat + 1 = (x3 + 1).toNat by omega]
                refine v_iinc hG [(0, _), (1, _), (2, _), (3, _), (4, _), (5, _), (6, _)] dX5_passDays_179 3 rfl (by decide) rfl ?_
                refine v_goto hG 57 dX5_passDays_182 (by decide) ?_
                refine v_sub hG [(0, _), (1, _), (2, _), (3, _)] [0, 1, 2, 3] rfl ?_
                exact ih57 _ ⟨by omega, by omega, by omega, by omega⟩ (by omega)
              refine v_iload hG dX5_passDays_150 4 rfl ?_
              refine v_if_ne hG 165 (by omega) dX5_passDays_152 (by decide) (fun h152 => ?_) (fun h152 => ?_)
              · refine v_iconst hG dX5_passDays_165 ?_
                exact L166 _ (by rw [hE]; first | (rw [if_pos (by omega)]) | (rw [if_neg (by omega)]))
              · refine v_aload_n hG dX5_passDays_155 0 rfl ?_
                refine v_getf (ci := 5) (k := 0) hG iW5 f7 rfl (by decide) k9a (by decide) (cl_6 _ _ _ _) rfl dX5_passDays_156 ?_
                refine v_bipush hG dX5_passDays_159 (by decide) ?_
                refine v_iald hG k_170 (by decide) (cl_162 _ _ _ _) (by decide) (by omega) dX5_passDays_161 ?_
                rw [show (56 : Int).toNat = 56 from rfl, zup_r, if_neg (by decide), zup_r, if_neg (by decide), zup_r, if_neg (by decide), zset_at, psR_56]
                refine v_goto hG 166 dX5_passDays_162 (by decide) ?_
                exact L166 _ (by rw [hE]; first | (rw [if_pos (by omega)]) | (rw [if_neg (by omega)]))
            refine v_iload hG dX5_passDays_125 5 rfl ?_
            refine v_if_le hG 139 (by omega) dX5_passDays_127 (by decide) (fun h127 => ?_) (fun h127 => ?_)
            · refine v_iconst hG dX5_passDays_139 ?_
              exact L140 _ (by rw [hC]; first | (rw [if_pos (by omega)]) | (rw [if_neg (by omega)]))
            · refine v_iload hG dX5_passDays_130 6 rfl ?_
              refine v_if_le hG 139 (by omega) dX5_passDays_132 (by decide) (fun h132 => ?_) (fun h132 => ?_)
              · refine v_iconst hG dX5_passDays_139 ?_
                exact L140 _ (by rw [hC]; first | (rw [if_pos (by omega)]) | (rw [if_neg (by omega)]))
              · refine v_iconst hG dX5_passDays_135 ?_
                refine v_goto hG 140 dX5_passDays_136 (by decide) ?_
                exact L140 _ (by rw [hC]; first | (rw [if_pos (by omega)]) | (rw [if_neg (by omega)]))
      exact L57 _ _ ⟨by omega, by omega, by omega, by omega⟩ (Nat.le_refl _)
    · refine v_aload_n hG dX5_passDays_37 0 rfl ?_
      refine v_iconst hG dX5_passDays_38 ?_
      refine v_callVi (n := 1) (ci := 5) hG (c_X5_fails hr k9a) gX5_passDays_X5_fails rfl (by decide +kernel) rfl (by decide) k9a (by decide) (cl_6 _ _ _ _) rfl dX5_passDays_39 rfl (Nat.le_of_ble_eq_true rfl) (by decide) ?_
      intro v39 z39 hp39
      obtain ⟨rfl, rfl⟩ := hp39
      exact v_iret hG hR dX5_passDays_42 (by first | exact Or.inr (Or.inl ⟨rfl, by omega⟩) | exact Or.inr (Or.inr ⟨rfl, by omega⟩) | exact Or.inl ⟨by rw [show x3 = q by omega], by omega, by omega, by rw [show x3 = q by omega]⟩)
  · refine v_aload_n hG dX5_passDays_16 0 rfl ?_
    refine v_iconst hG dX5_passDays_17 ?_
    refine v_callVi (n := 1) (ci := 5) hG (c_X5_fails hr k9a) gX5_passDays_X5_fails rfl (by decide +kernel) rfl (by decide) k9a (by decide) (cl_6 _ _ _ _) rfl dX5_passDays_18 rfl (Nat.le_of_ble_eq_true rfl) (by decide) ?_
    intro v18 z18 hp18
    obtain ⟨rfl, rfl⟩ := hp18
    exact v_iret hG hR dX5_passDays_21 (by first | exact Or.inr (Or.inl ⟨rfl, by omega⟩) | exact Or.inr (Or.inr ⟨rfl, by omega⟩) | exact Or.inl ⟨by rw [show x3 = q by omega], by omega, by omega, by rw [show x3 = q by omega]⟩)

