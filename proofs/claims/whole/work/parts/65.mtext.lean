def ptM (z : Zt) (c : Int) : Zt := zup (zup z 174 (z 169 7).toNat c) 169 7 (z 169 7 + 1)
def pnM (z : Zt) (n : Int) : Zt := if 10 ≤ n then ptM (ptM z (48 + n / 10)) (48 + n % 10) else ptM z (48 + n % 10)
def wrM (z : Zt) (t a b c : Int) : Zt := pnM (ptM (pnM (ptM (pnM (ptM (zup z 169 7 0) (65 + t)) a) 46) b) 46) c
theorem ptM_len (z : Zt) (c : Int) : ptM z c 169 7 = z 169 7 + 1 := by simp [ptM, zup]
theorem ptM_o (z : Zt) (c : Int) {i : Nat} (h1 : i ≠ 174) (h2 : i ≠ 169) : ptM z c i = z i := by simp [ptM, zup, h1, h2]
theorem pnM_o (z : Zt) (n : Int) {i : Nat} (h1 : i ≠ 174) (h2 : i ≠ 169) : pnM z n i = z i := by
  unfold pnM
  split
  · rw [ptM_o _ _ h1 h2, ptM_o _ _ h1 h2]
  · rw [ptM_o _ _ h1 h2]
theorem pnM_len (z : Zt) (n : Int) : z 169 7 + 1 ≤ pnM z n 169 7 ∧ pnM z n 169 7 ≤ z 169 7 + 2 := by
  unfold pnM
  split
  · rw [ptM_len, ptM_len]; omega
  · rw [ptM_len]; omega
/-- a number of the date begins at s, as its part p -/
def PB (f : Nat → Int) (n s p : Int) : Prop := 0 < s ∧ s ≤ n ∧ (∀ j : Nat, (j : Int) < s → fitA f j) ∧ (dt f s.toNat).1 = p ∧ (dt f s.toNat).2 = 0
/-- it was read up to s, from s0 -/
def PE (f : Nat → Int) (n s0 s p : Int) : Prop := s0 ≤ s ∧ s ≤ n ∧ (∀ j : Nat, (j : Int) < s → fitA f j) ∧ (dt f s.toNat).1 = p ∧ (dt f s.toNat).2 = s - s0 ∧ s - s0 ≤ (if p = 3 then 3 else 2) ∧ (s - s0 = (if p = 3 then 3 else 2) ∨ (s = n ∨ ¬ ((if s = s0 then 49 else 48) ≤ f s.toNat ∧ f s.toNat ≤ 57)))
theorem PB_nu {f : Nat → Int} {n s p : Int} (h : PB f n s p) (hp : 1 ≤ p ∧ p ≤ 3) : nuN f p s.toNat = 0 := by
  obtain ⟨h1, h2, h3, h4, h5⟩ := h
  have h6 := (num_is (f := f) s.toNat (fun j hj => h3 j (by omega)) (by omega)).2.2.2.2 p
  have h7 := h6.2.2 h4.symm
  omega
theorem zup_id8 (z : Zt) (k : Nat) (x : Int) : zup (zup z 175 k x) 169 8 (z 169 8) = zup z 175 k x := by
  have h := zup_self (zup z 175 k x) 169 8
  exact h
theorem PB_1 {f : Nat → Int} {n : Int} (hn : 0 < n) (h : 65 ≤ f 0 ∧ f 0 ≤ 66) : PB f n 1 1 := by
  refine ⟨by decide, by omega, fun j hj => ?_, (dt_dot (f := f) (i := 0) (Or.inl rfl)).1, (dt_dot (f := f) (i := 0) (Or.inl rfl)).2⟩
  have e : j = 0 := by omega
  subst e
  unfold fitA fitC
  rw [if_pos (show (dt f 0).1 = 0 from rfl)]
  omega
theorem FE_at {f : Nat → Int} {n s : Int} (h0 : 0 ≤ s) (hs : s ≤ n) (hp : ∀ j : Nat, (j : Int) < s → fitA f j) (h1 : s < n → ¬ fitA f s.toNat) (h2 : s = n → ¬ ((dt f n.toNat).1 = 3 ∧ 0 < (dt f n.toNat).2)) : FE f n s := by
  by_cases q : s = n
  · refine Or.inr ⟨fun j hj => hp j (by omega), ?_⟩
    rw [if_neg (h2 q)]
    exact q
  · exact Or.inl ⟨s.toNat, by omega, by omega, h1 (by omega), fun j hj => hp j (by omega)⟩
theorem FE_0 {f : Nat → Int} {n : Int} (hn : 0 ≤ n) (h : ¬ (0 < n ∧ (65 ≤ f 0 ∧ f 0 ≤ 66))) : FE f n 0 := by
  refine FE_at (by decide) hn (fun j hj => by omega) (fun q hf => ?_) (fun q hf => ?_)
  · have hf : fitC (f 0) 0 0 := hf
    unfold fitC at hf
    rw [if_pos rfl] at hf
    omega
  · rw [← q] at hf
    have h9 : (0 : Int) = 3 := hf.1
    omega
/-- no number there -/
theorem PE_no {f : Nat → Int} {n s p : Int} (h0 : 0 < s) (hp : 1 ≤ p ∧ p ≤ 3) (h : PE f n s s p) : FE f n s := by
  obtain ⟨h1, h2, h3, h4, h5, h6, h7⟩ := h
  refine FE_at (by omega) h2 h3 (fun q hf => ?_) (fun q hf => ?_)
  · rw [if_pos rfl] at h7
    unfold fitA fitC at hf
    rw [h4, h5, if_neg (by omega)] at hf
    have hg : (if p = 3 then (3 : Int) else 2) ≥ 2 := by split <;> omega
    by_cases q2 : f s.toNat = 46
    · rw [if_pos q2] at hf
      omega
    · rw [if_neg q2, if_pos (by omega)] at hf
      omega
  · rw [← q, h5] at hf
    omega
/-- a dot behind it -/
theorem PE_dot {f : Nat → Int} {n s0 s p : Int} (h00 : 0 < s0) (hp : 1 ≤ p ∧ p < 3) (h : PE f n s0 s p) (hs : s0 < s) (hn : s < n) (hd : f s.toNat = 46) : PB f n (s + 1) (p + 1) := by
  obtain ⟨h1, h2, h3, h4, h5, h6, h7⟩ := h
  have e : (s + 1).toNat = s.toNat + 1 := by omega
  have hd2 := dt_dot (f := f) (i := s.toNat) (Or.inr hd)
  refine ⟨by omega, by omega, fun j hj => ?_, by rw [e, hd2.1, h4], by rw [e, hd2.2]⟩
  by_cases q : (j : Int) < s
  · exact h3 j q
  · have ej : j = s.toNat := by omega
    rw [ej]
    unfold fitA fitC
    rw [if_neg (by omega), if_pos hd]
    omega
/-- none behind it -/
theorem PE_nodot {f : Nat → Int} {n s0 s p : Int} (h00 : 0 < s0) (hp : 1 ≤ p ∧ p ≤ 3) (h : PE f n s0 s p) (hs : s0 < s) (hn : p = 3 ∧ s ≠ n ∨ p < 3 ∧ ¬ (s < n ∧ f s.toNat = 46)) : FE f n s := by
  obtain ⟨h1, h2, h3, h4, h5, h6, h7⟩ := h
  refine FE_at (by omega) h2 h3 (fun q hf => ?_) (fun q hf => ?_)
  · rw [if_neg (show ¬ s = s0 by omega)] at h7
    unfold fitA fitC at hf
    rw [h4, h5, if_neg (by omega)] at hf
    by_cases q2 : f s.toNat = 46
    · rw [if_pos q2] at hf
      omega
    · rw [if_neg q2, if_neg (by omega)] at hf
      by_cases q3 : p = 3
      · rw [if_pos q3] at h6 h7 hf
        omega
      · rw [if_neg q3] at h6 h7 hf
        omega
  · rw [← q, h4] at hf
    omega
theorem PE_end {f : Nat → Int} {n s0 : Int} (h : PE f n s0 n 3) (hs : s0 < n) : FE f n (-1) := by
  obtain ⟨h1, h2, h3, h4, h5, h6, h7⟩ := h
  exact Or.inr ⟨h3, (if_pos ⟨h4, by omega⟩).symm⟩
theorem nu_stay {f : Nat → Int} {w : Int} {i : Nat} (h0 : 0 < i) (hw : 1 ≤ w) : ∀ k : Nat, (∀ j : Nat, j < i + k → fitA f j) → w < (dt f i).1 → nuN f w (i + k) = nuN f w i ∧ w < (dt f (i + k)).1
  | 0, _, h => ⟨rfl, h⟩
  | k + 1, hf, h => by
    obtain ⟨h1, h2⟩ := nu_stay h0 hw k (fun j hj => hf j (by omega)) h
    have hn := num_is (f := f) (i + k) (fun j hj => hf j (by omega)) (by omega)
    have en : nuN f w (i + k + 1) = (if f (i + k) = 46 then nuN f w (i + k) else if prt f (i + k) = w then nuN f w (i + k) * 10 + f (i + k) - 48 else nuN f w (i + k)) := by
      simp only [nuN]
      rw [if_neg (by omega)]
    rw [show i + (k + 1) = i + k + 1 by omega, en]
    by_cases q : f (i + k) = 46
    · rw [if_pos q, (dt_dot (f := f) (i := i + k) (Or.inr q)).1]
      exact ⟨h1, by omega⟩
    · rw [if_neg q, if_neg (by omega), (dt_dig (f := f) (i := i + k) (by omega)).1]
      exact ⟨h1, h2⟩
/-- a number that was read up to s and has a dot behind it: so it stays -/
theorem nu_dot {f : Nat → Int} {n s0 s p : Int} (h00 : 0 < s0) (hp : 1 ≤ p ∧ p < 3) (h : PE f n s0 s p) (hd : f s.toNat = 46) (hsn : s < n) (hn : ∀ j : Nat, (j : Int) < n → fitA f j) : nuN f p n.toNat = nuN f p s.toNat := by
  obtain ⟨h1, h2, h3, h4, h5, h6, h7⟩ := h
  have e : n.toNat = (s.toNat + 1) + (n - s - 1).toNat := by omega
  have hd2 := dt_dot (f := f) (i := s.toNat) (Or.inr hd)
  have h9 := (nu_stay (f := f) (w := p) (i := s.toNat + 1) (by omega) hp.1 (n - s - 1).toNat (fun j hj => hn j (by omega)) (by rw [hd2.1]; omega)).1
  rw [e, h9]
  simp only [nuN]
  rw [if_neg (by omega), if_pos hd]
def JT (z w : Zt) (s : Int) : Prop := ((∀ a : Nat, a ≠ 169 → a ≠ 175 → w a = z a) ∧ ∀ j : Nat, j ≠ 8 → w 169 j = z 169 j) ∧ w 169 8 = s
theorem JT_8 {z w : Zt} {x : Int} (h : (∀ a : Nat, a ≠ 169 → a ≠ 175 → w a = z a) ∧ ∀ j : Nat, j ≠ 8 → w 169 j = z 169 j) : JT z (zup w 169 8 x) x := by
  refine ⟨⟨fun a h1 h2 => ?_, fun j hj => ?_⟩, zup_s _ _ _ _⟩
  · rw [zup_o h1]
    exact h.1 a h1 h2
  · rw [zup_r, if_neg hj]
    exact h.2 j hj
theorem JT_175 {z w : Zt} {s x : Int} {k : Nat} (h : JT z w s) : JT z (zup w 175 k x) s := by
  refine ⟨⟨fun a h1 h2 => ?_, fun j hj => ?_⟩, ?_⟩
  · rw [zup_o h2]
    exact h.1.1 a h1 h2
  · rw [zup_o (by decide)]
    exact h.1.2 j hj
  · rw [zup_o (by decide)]
    exact h.2
theorem JT_174 {z w : Zt} {s : Int} (h : JT z w s) : w 174 = z 174 := h.1.1 174 (by decide) (by decide)
theorem JT_7 {z w : Zt} {s : Int} (h : JT z w s) : w 169 7 = z 169 7 := h.1.2 7 (by decide)
set_option maxHeartbeats 4000000 in
set_option maxRecDepth 100000 in
theorem c_X5_write {l : Launch} {D : va_G} {cA : Nat → ClassId} {r : Nat → Nat} {z : Zt} {c : Int} (hr : Inj r) (k9a : kd 169 = 6) (hl : 0 ≤ z 169 7 ∧ z 169 7 < 80) : Kv l D cA r yX5_write wsX5_write 0 0 z [.ref (r 169), .int (iN c)] (fun z1 => ptM z c = z1) := by
  have iW5 : ∀ w ∈ u_ws RX5 TX5 10, w ∈ wsX5_write := by decide +kernel
  have f23 : Cond.fieldLink RX5 23 (TX5 6).1 (TX5 6).2.1 (TX5 6).2.2.1 ∈ wsX5_write := by decide +kernel
  have f117 : Cond.fieldLink RX5 117 (TX5 7).1 (TX5 7).2.1 (TX5 7).2.2.1 ∈ wsX5_write := by decide +kernel
  refine Kv_of [(0, _), (1, _)] hr (by decide) rfl rfl (Nat.le_of_ble_eq_true rfl) rfl (fun Γ hG hR => ?_)
  refine v_aload_n hG dX5_write_0 0 rfl ?_
  refine v_getf (ci := 5) (k := 6) hG iW5 f23 rfl (by decide) k9a (by decide) (cl_6 _ _ _ _) rfl dX5_write_1 ?_
  refine v_aload_n hG dX5_write_4 0 rfl ?_
  refine v_getf (ci := 5) (k := 7) hG iW5 f117 rfl (by decide) k9a (by decide) (cl_6 _ _ _ _) rfl dX5_write_5 ?_
  refine v_iload_n hG dX5_write_8 1 rfl ?_
  refine v_iast hG k_174 (by decide) (cl_180 _ _ _) (by decide) (by omega) dX5_write_9 ?_
  refine v_aload_n hG dX5_write_10 0 rfl ?_
  refine v_dup hG dX5_write_11 rfl ?_
  refine v_getf (ci := 5) (k := 7) hG iW5 f117 rfl (by decide) k9a (by decide) (cl_6 _ _ _ _) rfl dX5_write_12 ?_
  rw [show zup z 174 (z 169 7).toNat c 169 7 = z 169 7 from rfl]
  refine v_iconst hG dX5_write_15 ?_
  refine v_iadd hG dX5_write_16 ?_
  refine v_putf (ci := 5) (k := 7) hG iW5 tyX5_ok nmX5 f117 rfl (by decide) rfl rfl k9a (by decide) (cl_6 _ _ _ _) (Nat.le_of_ble_eq_true rfl) rfl dX5_write_17 ?_
  exact v_vret hG hR dX5_write_20 rfl

set_option maxHeartbeats 4000000 in
set_option maxRecDepth 100000 in
theorem c_X5_writeNumber {l : Launch} {D : va_G} {cA : Nat → ClassId} {r : Nat → Nat} {z : Zt} {n : Int} (hr : Inj r) (k9a : kd 169 = 6) (hl : 0 ≤ z 169 7 ∧ z 169 7 ≤ 78) (hn : 0 ≤ n ∧ n ≤ 99) : Kv l D cA r yX5_writeNumber wsX5_writeNumber 1 21 z [.ref (r 169), .int (iN n)] (fun z1 => pnM z n = z1) := by
  refine Kv_of [(0, _), (1, _)] hr (by decide) rfl rfl (Nat.le_of_ble_eq_true rfl) rfl (fun Γ hG hR => ?_)
  refine v_iload_n hG dX5_writeNumber_0 1 rfl ?_
  refine v_bipush hG dX5_writeNumber_1 (by decide) ?_
  refine v_icmp_le hG 17 (by omega) (by omega) dX5_writeNumber_3 (by decide) (fun h3 => ?_) (fun h3 => ?_)
  · refine v_iload_n hG dX5_writeNumber_17 1 rfl ?_
    refine v_bipush hG dX5_writeNumber_18 (by decide) ?_
    refine v_icmp_le hG 37 (by omega) (by omega) dX5_writeNumber_20 (by decide) (fun h20 => ?_) (fun h20 => ?_)
    · refine v_aload_n hG dX5_writeNumber_37 0 rfl ?_
      refine v_bipush hG dX5_writeNumber_38 (by decide) ?_
      refine v_iload_n hG dX5_writeNumber_40 1 rfl ?_
      refine v_bipush hG dX5_writeNumber_41 (by decide) ?_
      refine v_irem hG (by omega) (by omega) dX5_writeNumber_43 ?_
      refine v_iadd hG dX5_writeNumber_44 ?_
      refine v_callVv (n := 1) (ci := 5) hG (c_X5_write hr k9a (by first | omega | (rw [ptM_len]; omega))) gX5_writeNumber_X5_write rfl (by decide +kernel) rfl (by decide) k9a (by decide) (cl_6 _ _ _ _) rfl dX5_writeNumber_45 rfl (Nat.le_of_ble_eq_true rfl) (by decide) ?_
      intro z45 hp45
      obtain rfl := hp45
      exact v_vret hG hR dX5_writeNumber_48 (by unfold pnM; first | (rw [if_pos (by omega)]) | (rw [if_neg (by omega)]))
    · refine v_aload_n hG dX5_writeNumber_23 0 rfl ?_
      refine v_bipush hG dX5_writeNumber_24 (by decide) ?_
      refine v_iload_n hG dX5_writeNumber_26 1 rfl ?_
      refine v_bipush hG dX5_writeNumber_27 (by decide) ?_
      refine v_idiv hG (by omega) (by omega) dX5_writeNumber_29 ?_
      refine v_bipush hG dX5_writeNumber_30 (by decide) ?_
      refine v_irem hG (by omega) (by omega) dX5_writeNumber_32 ?_
      rw [show n / 10 % 10 = n / 10 by omega]
      refine v_iadd hG dX5_writeNumber_33 ?_
      refine v_callVv (n := 1) (ci := 5) hG (c_X5_write hr k9a (by omega)) gX5_writeNumber_X5_write rfl (by decide +kernel) rfl (by decide) k9a (by decide) (cl_6 _ _ _ _) rfl dX5_writeNumber_34 rfl (Nat.le_of_ble_eq_true rfl) (by decide) ?_
      intro z34 hp34
      obtain rfl := hp34
      refine v_aload_n hG dX5_writeNumber_37 0 rfl ?_
      refine v_bipush hG dX5_writeNumber_38 (by decide) ?_
      refine v_iload_n hG dX5_writeNumber_40 1 rfl ?_
      refine v_bipush hG dX5_writeNumber_41 (by decide) ?_
      refine v_irem hG (by omega) (by omega) dX5_writeNumber_43 ?_
      refine v_iadd hG dX5_writeNumber_44 ?_
      refine v_callVv (n := 1) (ci := 5) hG (c_X5_write hr k9a (by first | omega | (rw [ptM_len]; omega))) gX5_writeNumber_X5_write rfl (by decide +kernel) rfl (by decide) k9a (by decide) (cl_6 _ _ _ _) rfl dX5_writeNumber_45 rfl (Nat.le_of_ble_eq_true rfl) (by decide) ?_
      intro z45 hp45
      obtain rfl := hp45
      exact v_vret hG hR dX5_writeNumber_48 (by unfold pnM; first | (rw [if_pos (by omega)]) | (rw [if_neg (by omega)]))
  · exfalso; omega

set_option maxHeartbeats 4000000 in
set_option maxRecDepth 100000 in
theorem c_X5_writeDate {l : Launch} {D : va_G} {cA : Nat → ClassId} {r : Nat → Nat} {z : Zt} {w : Zt} {t d : Int} (hr : Inj r) (k9a : kd 169 = 6) (hw : w = zup z 169 5 0) (hM : MI (w 170)) (hr_t : -2147483648 ≤ t ∧ t < 2147483648) (hr_d : -2147483648 ≤ d ∧ d < 2147483648) : Ki l D cA r yX5_writeDate wsX5_writeDate 5 110 z [.ref (r 169), .int (iN t), .int (iN d)] (fun v z1 => ((0 ≤ t ∧ t ≤ 1) ∧ (0 ≤ d ∧ d ≤ 20000) ∧ (∃ m1 m2 : Int, isMon (1 - t) (calM (w 170) t d % yl (1 - t)) m1 ∧ isMon (1 - t) (calM (w 170) t d % yl (1 - t)) m2 ∧ wrM w t (calM (w 170) t d % yl (1 - t) - mbef (1 - t) m1 + 1) m2 (1 + calM (w 170) t d / yl (1 - t)) = z1) ∧ v = z1 169 7) ∨ (zup w 169 5 1 = z1 ∧ ¬ (0 ≤ t ∧ t ≤ 1)) ∨ (zup w 169 5 2 = z1 ∧ (0 ≤ t ∧ t ≤ 1) ∧ ¬ (0 ≤ d ∧ d ≤ 20000))) := by
  have iW5 : ∀ w ∈ u_ws RX5 TX5 10, w ∈ wsX5_writeDate := by decide +kernel
  have f29 : Cond.fieldLink RX5 29 (TX5 5).1 (TX5 5).2.1 (TX5 5).2.2.1 ∈ wsX5_writeDate := by decide +kernel
  have f117 : Cond.fieldLink RX5 117 (TX5 7).1 (TX5 7).2.1 (TX5 7).2.2.1 ∈ wsX5_writeDate := by decide +kernel
  obtain ⟨hG1, h14, hFe, h55, h56, h57⟩ := id hM
  have hcb : (0 ≤ t ∧ t ≤ 1) → d ≤ calM (w 170) t d ∧ calM (w 170) t d ≤ d + 120 := fun q9 => calM_bd hG1 (by omega) d
  refine Ki_of [(0, _), (1, _), (2, _)] hr (by decide) rfl rfl (Nat.le_of_ble_eq_true rfl) rfl (fun Γ hG hR => ?_)
  refine v_aload_n hG dX5_writeDate_0 0 rfl ?_
  refine v_iconst hG dX5_writeDate_1 ?_
  refine v_putf (ci := 5) (k := 5) hG iW5 tyX5_ok nmX5 f29 rfl (by decide) rfl rfl k9a (by decide) (cl_6 _ _ _ _) (Nat.le_of_ble_eq_true rfl) rfl dX5_writeDate_2 ?_
  rw [← hw]
  refine v_iload_n hG dX5_writeDate_5 1 rfl ?_
  refine v_callSi (n := 1) hG (c_X5_isTown hr (by omega)) gX5_writeDate_X5_isTown rfl (by decide +kernel) rfl (by decide) dX5_writeDate_6 rfl (Nat.le_of_ble_eq_true rfl) (by decide) ?_
  intro v6 z6 hp6
  obtain ⟨rfl, hv6⟩ := hp6
  have hb6 := ind_v hv6
  refine v_if_ne hG 18 (by omega) dX5_writeDate_9 (by decide) (fun h9 => ?_) (fun h9 => ?_)
  · refine v_iload_n hG dX5_writeDate_18 2 rfl ?_
    refine v_iconst hG dX5_writeDate_19 ?_
    refine v_sipush hG dX5_writeDate_20 (by decide) ?_
    refine v_callSi (n := 3) hG (c_X5_in hr (by omega) (by omega) (by omega)) gX5_writeDate_X5_in rfl (by decide +kernel) rfl (by decide) dX5_writeDate_23 rfl (Nat.le_of_ble_eq_true rfl) (by decide) ?_
    intro v23 z23 hp23
    obtain ⟨rfl, hv23⟩ := hp23
    have hb23 := ind_v hv23
    refine v_if_ne hG 35 (by omega) dX5_writeDate_26 (by decide) (fun h26 => ?_) (fun h26 => ?_)
    · refine v_aload_n hG dX5_writeDate_35 0 rfl ?_
      refine v_iconst hG dX5_writeDate_36 ?_
      refine v_putf (ci := 5) (k := 7) hG iW5 tyX5_ok nmX5 f117 rfl (by decide) rfl rfl k9a (by decide) (cl_6 _ _ _ _) (Nat.le_of_ble_eq_true rfl) rfl dX5_writeDate_37 ?_
      refine v_aload_n hG dX5_writeDate_40 0 rfl ?_
      refine v_bipush hG dX5_writeDate_41 (by decide) ?_
      refine v_iload_n hG dX5_writeDate_43 1 rfl ?_
      refine v_iadd hG dX5_writeDate_44 ?_
      refine v_callVv (n := 1) (ci := 5) hG (c_X5_write hr k9a (by rw [zup_s]; omega)) gX5_writeDate_X5_write rfl (by decide +kernel) rfl (by decide) k9a (by decide) (cl_6 _ _ _ _) rfl dX5_writeDate_45 rfl (Nat.le_of_ble_eq_true rfl) (by decide) ?_
      intro z45 hp45
      have o45 : ∀ i, i ≠ 174 → i ≠ 169 → z45 i = w i := fun i a b => by
        rw [← hp45, ptM_o _ _ a b, zup_o b]
      have e45 : z45 170 = w 170 := o45 170 (by decide) (by decide)
      have l45 : z45 169 7 = 1 := by rw [← hp45, ptM_len, zup_s]; rfl
      have hcb := hcb (by omega)
      refine v_aload_n hG dX5_writeDate_48 0 rfl ?_
      refine v_aload_n hG dX5_writeDate_49 0 rfl ?_
      refine v_iload_n hG dX5_writeDate_50 1 rfl ?_
      refine v_iload_n hG dX5_writeDate_51 2 rfl ?_
      refine v_callVi (n := 2) (ci := 5) hG (c_X5_dayAt hr k9a (by omega) (by rw [e45]; exact hG1) (by omega)) gX5_writeDate_X5_dayAt rfl (by decide +kernel) rfl (by decide) k9a (by decide) (cl_6 _ _ _ _) rfl dX5_writeDate_52 rfl (Nat.le_of_ble_eq_true rfl) (by decide) ?_
      intro v52 z52 hp52
      obtain ⟨rfl, mm52, hm52, rfl⟩ := hp52
      rw [e45] at hm52 ⊢
      have hdm := dmon_bd hm52
      refine v_callVv (n := 1) (ci := 5) hG (c_X5_writeNumber hr k9a (by omega) (by omega)) gX5_writeDate_X5_writeNumber rfl (by decide +kernel) rfl (by decide) k9a (by decide) (cl_6 _ _ _ _) rfl dX5_writeDate_55 rfl (Nat.le_of_ble_eq_true rfl) (by decide) ?_
      intro z55 hp55
      have o55 : ∀ i, i ≠ 174 → i ≠ 169 → z55 i = w i := fun i a b => by
        rw [← hp55, pnM_o _ _ a b, o45 i a b]
      have e55 : z55 170 = w 170 := o55 170 (by decide) (by decide)
      have l55 := pnM_len z45 (calM (w 170) t d % yl (1 - t) - mbef (1 - t) mm52 + 1)
      rw [hp55] at l55
      refine v_aload_n hG dX5_writeDate_58 0 rfl ?_
      refine v_bipush hG dX5_writeDate_59 (by decide) ?_
      refine v_callVv (n := 1) (ci := 5) hG (c_X5_write hr k9a (by omega)) gX5_writeDate_X5_write rfl (by decide +kernel) rfl (by decide) k9a (by decide) (cl_6 _ _ _ _) rfl dX5_writeDate_61 rfl (Nat.le_of_ble_eq_true rfl) (by decide) ?_
      intro z61 hp61
      have o61 : ∀ i, i ≠ 174 → i ≠ 169 → z61 i = w i := fun i a b => by
        rw [← hp61, ptM_o _ _ a b, o55 i a b]
      have e61 : z61 170 = w 170 := o61 170 (by decide) (by decide)
      have l61 := ptM_len z55 46
      rw [hp61] at l61
      refine v_aload_n hG dX5_writeDate_64 0 rfl ?_
      refine v_aload_n hG dX5_writeDate_65 0 rfl ?_
      refine v_iload_n hG dX5_writeDate_66 1 rfl ?_
      refine v_iload_n hG dX5_writeDate_67 2 rfl ?_
      refine v_callVi (n := 2) (ci := 5) hG (c_X5_monthAt hr k9a (by omega) (by rw [e61]; exact hG1) (by omega)) gX5_writeDate_X5_monthAt rfl (by decide +kernel) rfl (by decide) k9a (by decide) (cl_6 _ _ _ _) rfl dX5_writeDate_68 rfl (Nat.le_of_ble_eq_true rfl) (by decide) ?_
      intro v68 z68 hp68
      obtain ⟨rfl, hx68⟩ := hp68
      rw [e61] at hx68
      have ha68 := hx68.1
      have hb68 := hx68.2.1
      refine v_callVv (n := 1) (ci := 5) hG (c_X5_writeNumber hr k9a (by omega) (by omega)) gX5_writeDate_X5_writeNumber rfl (by decide +kernel) rfl (by decide) k9a (by decide) (cl_6 _ _ _ _) rfl dX5_writeDate_71 rfl (Nat.le_of_ble_eq_true rfl) (by decide) ?_
      intro z71 hp71
      have o71 : ∀ i, i ≠ 174 → i ≠ 169 → z71 i = w i := fun i a b => by
        rw [← hp71, pnM_o _ _ a b, o61 i a b]
      have e71 : z71 170 = w 170 := o71 170 (by decide) (by decide)
      have l71 := pnM_len z61 v68
      rw [hp71] at l71
      refine v_aload_n hG dX5_writeDate_74 0 rfl ?_
      refine v_bipush hG dX5_writeDate_75 (by decide) ?_
      refine v_callVv (n := 1) (ci := 5) hG (c_X5_write hr k9a (by omega)) gX5_writeDate_X5_write rfl (by decide +kernel) rfl (by decide) k9a (by decide) (cl_6 _ _ _ _) rfl dX5_writeDate_77 rfl (Nat.le_of_ble_eq_true rfl) (by decide) ?_
      intro z77 hp77
      have o77 : ∀ i, i ≠ 174 → i ≠ 169 → z77 i = w i := fun i a b => by
        rw [← hp77, ptM_o _ _ a b, o71 i a b]
      have e77 : z77 170 = w 170 := o77 170 (by decide) (by decide)
      have l77 := ptM_len z71 46
      rw [hp77] at l77
      refine v_aload_n hG dX5_writeDate_80 0 rfl ?_
      refine v_aload_n hG dX5_writeDate_81 0 rfl ?_
      refine v_iload_n hG dX5_writeDate_82 1 rfl ?_
      refine v_iload_n hG dX5_writeDate_83 2 rfl ?_
      refine v_callVi (n := 2) (ci := 5) hG (c_X5_yearAt hr k9a (by omega) (by rw [e77]; exact hG1) (by omega)) gX5_writeDate_X5_yearAt rfl (by decide +kernel) rfl (by decide) k9a (by decide) (cl_6 _ _ _ _) rfl dX5_writeDate_84 rfl (Nat.le_of_ble_eq_true rfl) (by decide) ?_
      intro v84 z84 hp84
      obtain ⟨rfl, rfl⟩ := hp84
      rw [e77]
      have hyr := yr_bd (a := 1 - t) (c := calM (w 170) t d) (by omega) (by omega)
      refine v_callVv (n := 1) (ci := 5) hG (c_X5_writeNumber hr k9a (by omega) (by omega)) gX5_writeDate_X5_writeNumber rfl (by decide +kernel) rfl (by decide) k9a (by decide) (cl_6 _ _ _ _) rfl dX5_writeDate_87 rfl (Nat.le_of_ble_eq_true rfl) (by decide) ?_
      intro z87 hp87
      refine v_aload_n hG dX5_writeDate_90 0 rfl ?_
      refine v_getf (ci := 5) (k := 7) hG iW5 f117 rfl (by decide) k9a (by decide) (cl_6 _ _ _ _) rfl dX5_writeDate_91 ?_
      exact v_iret hG hR dX5_writeDate_94 (by first | exact Or.inr (Or.inl ⟨rfl, by omega⟩) | exact Or.inr (Or.inr ⟨rfl, by omega⟩) | exact Or.inl ⟨by omega, by omega, ⟨mm52, v68, hm52, hx68, by rw [← hp87, ← hp77, ← hp71, ← hp61, ← hp55, ← hp45]; rfl⟩, rfl⟩)
    · refine v_aload_n hG dX5_writeDate_29 0 rfl ?_
      refine v_iconst hG dX5_writeDate_30 ?_
      refine v_callVi (n := 1) (ci := 5) hG (c_X5_fails hr k9a) gX5_writeDate_X5_fails rfl (by decide +kernel) rfl (by decide) k9a (by decide) (cl_6 _ _ _ _) rfl dX5_writeDate_31 rfl (Nat.le_of_ble_eq_true rfl) (by decide) ?_
      intro v31 z31 hp31
      obtain ⟨rfl, rfl⟩ := hp31
      exact v_iret hG hR dX5_writeDate_34 (by first | exact Or.inr (Or.inl ⟨rfl, by omega⟩) | exact Or.inr (Or.inr ⟨rfl, by omega⟩) | exact Or.inl ⟨by omega, by omega, ⟨mm52, v68, hm52, hx68, by rw [← hp87, ← hp77, ← hp71, ← hp61, ← hp55, ← hp45]; rfl⟩, rfl⟩)
  · refine v_aload_n hG dX5_writeDate_12 0 rfl ?_
    refine v_iconst hG dX5_writeDate_13 ?_
    refine v_callVi (n := 1) (ci := 5) hG (c_X5_fails hr k9a) gX5_writeDate_X5_fails rfl (by decide +kernel) rfl (by decide) k9a (by decide) (cl_6 _ _ _ _) rfl dX5_writeDate_14 rfl (Nat.le_of_ble_eq_true rfl) (by decide) ?_
    intro v14 z14 hp14
    obtain ⟨rfl, rfl⟩ := hp14
    exact v_iret hG hR dX5_writeDate_17 (by first | exact Or.inr (Or.inl ⟨rfl, by omega⟩) | exact Or.inr (Or.inr ⟨rfl, by omega⟩) | exact Or.inl ⟨by omega, by omega, ⟨mm52, v68, hm52, hx68, by rw [← hp87, ← hp77, ← hp71, ← hp61, ← hp55, ← hp45]; rfl⟩, rfl⟩)

set_option maxHeartbeats 4000000 in
set_option maxRecDepth 100000 in
theorem c_X5_takes {l : Launch} {D : va_G} {cA : Nat → ClassId} {r : Nat → Nat} {z : Zt} {lo hi : Int} (hr : Inj r) (k9a : kd 169 = 6) (hX : TX (z 174) (z 169 7)) (hs : 0 ≤ z 169 8 ∧ z 169 8 ≤ z 169 7) (hlo : 0 ≤ lo ∧ lo ≤ 200) (hhi : 0 ≤ hi ∧ hi ≤ 200) : Ki l D cA r yX5_takes wsX5_takes 1 22 z [.ref (r 169), .int (iN lo), .int (iN hi)] (fun v z1 => v = ind (z 169 8 < z 169 7 ∧ (lo ≤ z 174 (z 169 8).toNat ∧ z 174 (z 169 8).toNat ≤ hi)) ∧ zup z 169 8 (z 169 8 + v) = z1) := by
  have iW5 : ∀ w ∈ u_ws RX5 TX5 10, w ∈ wsX5_takes := by decide +kernel
  have f23 : Cond.fieldLink RX5 23 (TX5 6).1 (TX5 6).2.1 (TX5 6).2.2.1 ∈ wsX5_takes := by decide +kernel
  have f117 : Cond.fieldLink RX5 117 (TX5 7).1 (TX5 7).2.1 (TX5 7).2.2.1 ∈ wsX5_takes := by decide +kernel
  have f120 : Cond.fieldLink RX5 120 (TX5 8).1 (TX5 8).2.1 (TX5 8).2.2.1 ∈ wsX5_takes := by decide +kernel
  obtain ⟨hl0, hl8, hch⟩ := id hX
  refine Ki_of [(0, _), (1, _), (2, _)] hr (by decide) rfl rfl (Nat.le_of_ble_eq_true rfl) rfl (fun Γ hG hR => ?_)
  refine v_aload_n hG dX5_takes_0 0 rfl ?_
  refine v_getf (ci := 5) (k := 8) hG iW5 f120 rfl (by decide) k9a (by decide) (cl_6 _ _ _ _) rfl dX5_takes_1 ?_
  refine v_aload_n hG dX5_takes_4 0 rfl ?_
  refine v_getf (ci := 5) (k := 7) hG iW5 f117 rfl (by decide) k9a (by decide) (cl_6 _ _ _ _) rfl dX5_takes_5 ?_
  refine v_icmp_ge hG 32 (by omega) (by omega) dX5_takes_8 (by decide) (fun h8 => ?_) (fun h8 => ?_)
  · refine v_iconst hG dX5_takes_32 ?_
    refine v_istore_n hG [(0, _), (1, _), (2, _), (3, _)] dX5_takes_33 (by decide) rfl ?_
    refine v_aload_n hG dX5_takes_34 0 rfl ?_
    refine v_dup hG dX5_takes_35 rfl ?_
    refine v_getf (ci := 5) (k := 8) hG iW5 f120 rfl (by decide) k9a (by decide) (cl_6 _ _ _ _) rfl dX5_takes_36 ?_
    refine v_iload_n hG dX5_takes_39 3 rfl ?_
    refine v_if_eq hG 47 (by omega) dX5_takes_40 (by decide) (fun h40 => ?_) (fun h40 => ?_)
    · refine v_iconst hG dX5_takes_47 ?_
      refine v_iadd hG dX5_takes_48 ?_
      refine v_putf (ci := 5) (k := 8) hG iW5 tyX5_ok nmX5 f120 rfl (by decide) rfl rfl k9a (by decide) (cl_6 _ _ _ _) (Nat.le_of_ble_eq_true rfl) rfl dX5_takes_49 ?_
      refine v_iload_n hG dX5_takes_52 3 rfl ?_
      exact v_zret hG hR (by first | exact Or.inl rfl | exact Or.inr rfl | omega) dX5_takes_53 (by first
  | exact ⟨(ind_t ⟨by omega, by omega, by omega⟩).symm, rfl⟩
  | exact ⟨(ind_f (fun q9 => by omega)).symm, rfl⟩
  | (exfalso; omega))
    · refine v_iconst hG dX5_takes_43 ?_
      refine v_goto hG 48 dX5_takes_44 (by decide) ?_
      refine v_iadd hG dX5_takes_48 ?_
      refine v_putf (ci := 5) (k := 8) hG iW5 tyX5_ok nmX5 f120 rfl (by decide) rfl rfl k9a (by decide) (cl_6 _ _ _ _) (Nat.le_of_ble_eq_true rfl) rfl dX5_takes_49 ?_
      refine v_iload_n hG dX5_takes_52 3 rfl ?_
      exact v_zret hG hR (by first | exact Or.inl rfl | exact Or.inr rfl | omega) dX5_takes_53 (by first
  | exact ⟨(ind_t ⟨by omega, by omega, by omega⟩).symm, rfl⟩
  | exact ⟨(ind_f (fun q9 => by omega)).symm, rfl⟩
  | (exfalso; omega))
  · refine v_aload_n hG dX5_takes_11 0 rfl ?_
    refine v_getf (ci := 5) (k := 6) hG iW5 f23 rfl (by decide) k9a (by decide) (cl_6 _ _ _ _) rfl dX5_takes_12 ?_
    refine v_aload_n hG dX5_takes_15 0 rfl ?_
    have hb9 := hch (z 169 8).toNat (by omega)
    refine v_getf (ci := 5) (k := 8) hG iW5 f120 rfl (by decide) k9a (by decide) (cl_6 _ _ _ _) rfl dX5_takes_16 ?_
    refine v_iald hG k_174 (by decide) (cl_180 _ _ _ _) (by decide) (by omega) dX5_takes_19 ?_
    refine v_iload_n hG dX5_takes_20 1 rfl ?_
    refine v_iload_n hG dX5_takes_21 2 rfl ?_
    refine v_callSi (n := 3) hG (c_X5_in hr (by omega) (by omega) (by omega)) gX5_takes_X5_in rfl (by decide +kernel) rfl (by decide) dX5_takes_22 rfl (Nat.le_of_ble_eq_true rfl) (by decide) ?_
    intro v22 z22 hp22
    obtain ⟨rfl, hv22⟩ := hp22
    have hb22 := ind_v hv22
    refine v_if_eq hG 32 (by omega) dX5_takes_25 (by decide) (fun h25 => ?_) (fun h25 => ?_)
    · refine v_iconst hG dX5_takes_32 ?_
      refine v_istore_n hG [(0, _), (1, _), (2, _), (3, _)] dX5_takes_33 (by decide) rfl ?_
      refine v_aload_n hG dX5_takes_34 0 rfl ?_
      refine v_dup hG dX5_takes_35 rfl ?_
      refine v_getf (ci := 5) (k := 8) hG iW5 f120 rfl (by decide) k9a (by decide) (cl_6 _ _ _ _) rfl dX5_takes_36 ?_
      refine v_iload_n hG dX5_takes_39 3 rfl ?_
      refine v_if_eq hG 47 (by omega) dX5_takes_40 (by decide) (fun h40 => ?_) (fun h40 => ?_)
      · refine v_iconst hG dX5_takes_47 ?_
        refine v_iadd hG dX5_takes_48 ?_
        refine v_putf (ci := 5) (k := 8) hG iW5 tyX5_ok nmX5 f120 rfl (by decide) rfl rfl k9a (by decide) (cl_6 _ _ _ _) (Nat.le_of_ble_eq_true rfl) rfl dX5_takes_49 ?_
        refine v_iload_n hG dX5_takes_52 3 rfl ?_
        exact v_zret hG hR (by first | exact Or.inl rfl | exact Or.inr rfl | omega) dX5_takes_53 (by first
  | exact ⟨(ind_t ⟨by omega, by omega, by omega⟩).symm, rfl⟩
  | exact ⟨(ind_f (fun q9 => by omega)).symm, rfl⟩
  | (exfalso; omega))
      · refine v_iconst hG dX5_takes_43 ?_
        refine v_goto hG 48 dX5_takes_44 (by decide) ?_
        refine v_iadd hG dX5_takes_48 ?_
        refine v_putf (ci := 5) (k := 8) hG iW5 tyX5_ok nmX5 f120 rfl (by decide) rfl rfl k9a (by decide) (cl_6 _ _ _ _) (Nat.le_of_ble_eq_true rfl) rfl dX5_takes_49 ?_
        refine v_iload_n hG dX5_takes_52 3 rfl ?_
        exact v_zret hG hR (by first | exact Or.inl rfl | exact Or.inr rfl | omega) dX5_takes_53 (by first
  | exact ⟨(ind_t ⟨by omega, by omega, by omega⟩).symm, rfl⟩
  | exact ⟨(ind_f (fun q9 => by omega)).symm, rfl⟩
  | (exfalso; omega))
    · refine v_iconst hG dX5_takes_28 ?_
      refine v_goto hG 33 dX5_takes_29 (by decide) ?_
      refine v_istore_n hG [(0, _), (1, _), (2, _), (3, _)] dX5_takes_33 (by decide) rfl ?_
      refine v_aload_n hG dX5_takes_34 0 rfl ?_
      refine v_dup hG dX5_takes_35 rfl ?_
      refine v_getf (ci := 5) (k := 8) hG iW5 f120 rfl (by decide) k9a (by decide) (cl_6 _ _ _ _) rfl dX5_takes_36 ?_
      refine v_iload_n hG dX5_takes_39 3 rfl ?_
      refine v_if_eq hG 47 (by omega) dX5_takes_40 (by decide) (fun h40 => ?_) (fun h40 => ?_)
      · refine v_iconst hG dX5_takes_47 ?_
        refine v_iadd hG dX5_takes_48 ?_
        refine v_putf (ci := 5) (k := 8) hG iW5 tyX5_ok nmX5 f120 rfl (by decide) rfl rfl k9a (by decide) (cl_6 _ _ _ _) (Nat.le_of_ble_eq_true rfl) rfl dX5_takes_49 ?_
        refine v_iload_n hG dX5_takes_52 3 rfl ?_
        exact v_zret hG hR (by first | exact Or.inl rfl | exact Or.inr rfl | omega) dX5_takes_53 (by first
  | exact ⟨(ind_t ⟨by omega, by omega, by omega⟩).symm, rfl⟩
  | exact ⟨(ind_f (fun q9 => by omega)).symm, rfl⟩
  | (exfalso; omega))
      · refine v_iconst hG dX5_takes_43 ?_
        refine v_goto hG 48 dX5_takes_44 (by decide) ?_
        refine v_iadd hG dX5_takes_48 ?_
        refine v_putf (ci := 5) (k := 8) hG iW5 tyX5_ok nmX5 f120 rfl (by decide) rfl rfl k9a (by decide) (cl_6 _ _ _ _) (Nat.le_of_ble_eq_true rfl) rfl dX5_takes_49 ?_
        refine v_iload_n hG dX5_takes_52 3 rfl ?_
        exact v_zret hG hR (by first | exact Or.inl rfl | exact Or.inr rfl | omega) dX5_takes_53 (by first
  | exact ⟨(ind_t ⟨by omega, by omega, by omega⟩).symm, rfl⟩
  | exact ⟨(ind_f (fun q9 => by omega)).symm, rfl⟩
  | (exfalso; omega))

set_option maxHeartbeats 4000000 in
set_option maxRecDepth 100000 in
theorem c_X5_readsNumber {l : Launch} {D : va_G} {cA : Nat → ClassId} {r : Nat → Nat} {z : Zt} {q g : Int} (hr : Inj r) (k9a : kd 169 = 6) (hX : TX (z 174) (z 169 7)) (hq : 1 ≤ q ∧ q ≤ 3) (hg : g = (if q = 3 then 3 else 2)) (hb : PB (z 174) (z 169 7) (z 169 8) q) : Ki l D cA r yX5_readsNumber wsX5_readsNumber 2 45 z [.ref (r 169), .int (iN q), .int (iN g)] (fun v z1 => ∃ s : Int, zup (zup z 175 q.toNat (nuN (z 174) q s.toNat)) 169 8 s = z1 ∧ PE (z 174) (z 169 7) (z 169 8) s q ∧ v = ind (z 169 8 < s)) := by
  have iW5 : ∀ w ∈ u_ws RX5 TX5 10, w ∈ wsX5_readsNumber := by decide +kernel
  have f23 : Cond.fieldLink RX5 23 (TX5 6).1 (TX5 6).2.1 (TX5 6).2.2.1 ∈ wsX5_readsNumber := by decide +kernel
  have f26 : Cond.fieldLink RX5 26 (TX5 9).1 (TX5 9).2.1 (TX5 9).2.2.1 ∈ wsX5_readsNumber := by decide +kernel
  have f120 : Cond.fieldLink RX5 120 (TX5 8).1 (TX5 8).2.1 (TX5 8).2.2.1 ∈ wsX5_readsNumber := by decide +kernel
  obtain ⟨hl0, hl8, hch⟩ := id hX
  obtain ⟨b1, b2, b3, b4, b5⟩ := id hb
  have hg2 : 2 ≤ g ∧ g ≤ 3 := by
    rw [hg]
    split <;> omega
  refine Ki_of [(0, _), (1, _), (2, _)] hr (by decide) rfl rfl (Nat.le_of_ble_eq_true rfl) rfl (fun Γ hG hR => ?_)
  refine v_aload_n hG dX5_readsNumber_0 0 rfl ?_
  refine v_getf (ci := 5) (k := 8) hG iW5 f120 rfl (by decide) k9a (by decide) (cl_6 _ _ _ _) rfl dX5_readsNumber_1 ?_
  refine v_iload_n hG dX5_readsNumber_4 2 rfl ?_
  refine v_iadd hG dX5_readsNumber_5 ?_
  refine v_istore_n hG [(0, _), (1, _), (2, _), (3, _)] dX5_readsNumber_6 (by decide) rfl ?_
  refine v_aload_n hG dX5_readsNumber_7 0 rfl ?_
  refine v_getf (ci := 5) (k := 9) hG iW5 f26 rfl (by decide) k9a (by decide) (cl_6 _ _ _ _) rfl dX5_readsNumber_8 ?_
  refine v_iload_n hG dX5_readsNumber_11 1 rfl ?_
  refine v_iconst hG dX5_readsNumber_12 ?_
  refine v_iast hG k_175 (by decide) (cl_104 _ _ _) (by decide) (by omega) dX5_readsNumber_13 ?_
  have L14 : ∀ (n : Nat), ∀ (x : Int) (z1 : Zt), (zup (zup z 175 q.toNat (nuN (z 174) q x.toNat)) 169 8 x = z1 ∧ z 169 8 ≤ x ∧ x ≤ z 169 7 ∧ (∀ j : Nat, (j : Int) < x → fitA (z 174) j) ∧ (dt (z 174) x.toNat).1 = q ∧ (dt (z 174) x.toNat).2 = x - z 169 8 ∧ x - z 169 8 ≤ g) → (z 169 8 + g - x + 1).toNat ≤ n → V Γ z1 0 0 [(0, .ref (r 169)), (1, .int (iN q)), (2, .int (iN g)), (3, .int (iN (z 169 8 + g)))] 14 [] := by
    intro n
    induction n with
    | zero =>
      intro x z1 hI hm
      obtain ⟨i0, i1, i2, i3v, i4, i5, i6⟩ := hI
      exact absurd hm (by omega)
    | succ n ih14 =>
      intro x z1 hI hm
      obtain ⟨i0, i1, i2, i3v, i4, i5, i6⟩ := hI
      have e8 : z1 169 8 = x := by rw [← i0, zup_s]
      have e7 : z1 169 7 = z 169 7 := by rw [← i0]; rfl
      have e174 : z1 174 = z 174 := by rw [← i0]; rfl
      have e175 : z1 175 q.toNat = nuN (z 174) q x.toNat := by
        rw [← i0]
        exact zup_s z 175 q.toNat (nuN (z 174) q x.toNat)
      have hnq := num_is (f := z 174) x.toNat (fun j hj => i3v j (by omega)) (by omega)
      have hnu := (hnq.2.2.2.2 q).2.2 i4.symm
      refine v_aload_n hG dX5_readsNumber_14 0 rfl ?_
      refine v_getf (ci := 5) (k := 8) hG iW5 f120 rfl (by decide) k9a (by decide) (cl_6 _ _ _ _) rfl dX5_readsNumber_15 ?_
      rw [e8]
      refine v_iload_n hG dX5_readsNumber_18 3 rfl ?_
      refine v_icmp_ge hG 80 (by omega) (by omega) dX5_readsNumber_19 (by decide) (fun h19 => ?_) (fun h19 => ?_)
      · first
          | (rw [hz0 (by omega)])
          | skip
        refine v_aload_n hG dX5_readsNumber_80 0 rfl ?_
        refine v_getf (ci := 5) (k := 9) hG iW5 f26 rfl (by decide) k9a (by decide) (cl_6 _ _ _ _) rfl dX5_readsNumber_81 ?_
        refine v_iload_n hG dX5_readsNumber_84 1 rfl ?_
        refine v_iald hG k_175 (by decide) (cl_104 _ _ _ _) (by decide) (by omega) dX5_readsNumber_85 ?_
        rw [e175]
        refine v_if_le hG 93 (by omega) dX5_readsNumber_86 (by decide) (fun h86 => ?_) (fun h86 => ?_)
        · refine v_iconst hG dX5_readsNumber_93 ?_
          exact v_zret hG hR (by first | exact Or.inl rfl | exact Or.inr rfl | omega) dX5_readsNumber_94 ⟨x, i0, ⟨i1, i2, i3v, i4, i5, by rw [← hg]; exact i6, by
  rw [← hg]
  first
    | exact Or.inl (by omega)
    | (refine Or.inr ?_; rw [← hI39]; omega)⟩, by
  first
    | exact (ind_t (by omega)).symm
    | exact (ind_f (by omega)).symm⟩
        · refine v_iconst hG dX5_readsNumber_89 ?_
          refine v_goto hG 94 dX5_readsNumber_90 (by decide) ?_
          exact v_zret hG hR (by first | exact Or.inl rfl | exact Or.inr rfl | omega) dX5_readsNumber_94 ⟨x, i0, ⟨i1, i2, i3v, i4, i5, by rw [← hg]; exact i6, by
  rw [← hg]
  first
    | exact Or.inl (by omega)
    | (refine Or.inr ?_; rw [← hI39]; omega)⟩, by
  first
    | exact (ind_t (by omega)).symm
    | exact (ind_f (by omega)).symm⟩
      · have L39 : ∀ (lo : Int), lo = (if x = z 169 8 then 49 else 48) → V Γ z1 0 0 [(0, .ref (r 169)), (1, .int (iN q)), (2, .int (iN g)), (3, .int (iN (z 169 8 + g)))] 39 [.int (iN lo), .ref (r 169)] := by
          intro lo hI39
          have hlo : 48 ≤ lo ∧ lo ≤ 49 := by
            rw [hI39]
            split <;> omega
          refine v_bipush hG dX5_readsNumber_39 (by decide) ?_
          refine v_callVi (n := 2) (ci := 5) hG (c_X5_takes hr k9a (by rw [e174, e7]; exact hX) (by rw [e8, e7]; omega) (by omega) (by omega)) gX5_readsNumber_X5_takes rfl (by decide +kernel) rfl (by decide) k9a (by decide) (cl_6 _ _ _ _) rfl dX5_readsNumber_41 rfl (Nat.le_of_ble_eq_true rfl) (by decide) ?_
          intro v41 z41 hp41
          obtain ⟨hv41, hz41⟩ := hp41
          rw [e8, e7, e174] at hv41
          rw [e8] at hz41
          have hb41 := ind_v hv41
          have hz0 : v41 = 0 → z41 = z1 := fun q0 => by
            rw [← hz41, q0, Int.add_zero]
            have h7 := zup_self z1 169 8
            rw [e8] at h7
            exact h7
          refine v_if_eq hG 80 (by omega) dX5_readsNumber_44 (by decide) (fun h44 => ?_) (fun h44 => ?_)
          · first
              | (rw [hz0 (by omega)])
              | skip
            refine v_aload_n hG dX5_readsNumber_80 0 rfl ?_
            refine v_getf (ci := 5) (k := 9) hG iW5 f26 rfl (by decide) k9a (by decide) (cl_6 _ _ _ _) rfl dX5_readsNumber_81 ?_
            refine v_iload_n hG dX5_readsNumber_84 1 rfl ?_
            refine v_iald hG k_175 (by decide) (cl_104 _ _ _ _) (by decide) (by omega) dX5_readsNumber_85 ?_
            rw [e175]
            refine v_if_le hG 93 (by omega) dX5_readsNumber_86 (by decide) (fun h86 => ?_) (fun h86 => ?_)
            · refine v_iconst hG dX5_readsNumber_93 ?_
              exact v_zret hG hR (by first | exact Or.inl rfl | exact Or.inr rfl | omega) dX5_readsNumber_94 ⟨x, i0, ⟨i1, i2, i3v, i4, i5, by rw [← hg]; exact i6, by
  rw [← hg]
  first
    | exact Or.inl (by omega)
    | (refine Or.inr ?_; rw [← hI39]; omega)⟩, by
  first
    | exact (ind_t (by omega)).symm
    | exact (ind_f (by omega)).symm⟩
            · refine v_iconst hG dX5_readsNumber_89 ?_
              refine v_goto hG 94 dX5_readsNumber_90 (by decide) ?_
              exact v_zret hG hR (by first | exact Or.inl rfl | exact Or.inr rfl | omega) dX5_readsNumber_94 ⟨x, i0, ⟨i1, i2, i3v, i4, i5, by rw [← hg]; exact i6, by
  rw [← hg]
  first
    | exact Or.inl (by omega)
    | (refine Or.inr ?_; rw [← hI39]; omega)⟩, by
  first
    | exact (ind_t (by omega)).symm
    | exact (ind_f (by omega)).symm⟩
          · have e41 : z41 = zup (zup z 175 q.toNat (nuN (z 174) q x.toNat)) 169 8 (x + 1) := by
              rw [← hz41, show v41 = 1 by omega, ← i0, zup_zup]
            have f8 : z41 169 8 = x + 1 := by rw [e41, zup_s]
            have f174 : z41 174 = z 174 := by rw [e41]; rfl
            have f175 : z41 175 q.toNat = nuN (z 174) q x.toNat := by
              rw [e41]
              exact zup_s z 175 q.toNat (nuN (z 174) q x.toNat)
            refine v_aload_n hG dX5_readsNumber_47 0 rfl ?_
            refine v_getf (ci := 5) (k := 9) hG iW5 f26 rfl (by decide) k9a (by decide) (cl_6 _ _ _ _) rfl dX5_readsNumber_48 ?_
            refine v_iload_n hG dX5_readsNumber_51 1 rfl ?_
            refine v_bipush hG dX5_readsNumber_52 (by decide) ?_
            refine v_aload_n hG dX5_readsNumber_54 0 rfl ?_
            refine v_getf (ci := 5) (k := 9) hG iW5 f26 rfl (by decide) k9a (by decide) (cl_6 _ _ _ _) rfl dX5_readsNumber_55 ?_
            refine v_iload_n hG dX5_readsNumber_58 1 rfl ?_
            refine v_iald hG k_175 (by decide) (cl_104 _ _ _ _) (by decide) (by omega) dX5_readsNumber_59 ?_
            rw [f175]
            refine v_imul hG dX5_readsNumber_60 ?_
            refine v_aload_n hG dX5_readsNumber_61 0 rfl ?_
            refine v_getf (ci := 5) (k := 6) hG iW5 f23 rfl (by decide) k9a (by decide) (cl_6 _ _ _ _) rfl dX5_readsNumber_62 ?_
            refine v_aload_n hG dX5_readsNumber_65 0 rfl ?_
            refine v_getf (ci := 5) (k := 8) hG iW5 f120 rfl (by decide) k9a (by decide) (cl_6 _ _ _ _) rfl dX5_readsNumber_66 ?_
            rw [f8]
            refine v_iconst hG dX5_readsNumber_69 ?_
            refine v_isub hG dX5_readsNumber_70 ?_
            refine v_iald hG k_174 (by decide) (cl_180 _ _ _ _) (by decide) (by omega) dX5_readsNumber_71 ?_
            rw [f174, show (x + 1 - 1).toNat = x.toNat by omega]
            refine v_iadd hG dX5_readsNumber_72 ?_
            refine v_bipush hG dX5_readsNumber_73 (by decide) ?_
            refine v_isub hG dX5_readsNumber_75 ?_
            refine v_iast hG k_175 (by decide) (cl_104 _ _ _) (by decide) (by omega) dX5_readsNumber_76 ?_
            refine v_goto hG 14 dX5_readsNumber_77 (by decide) ?_
            refine ih14 (x + 1) _ ?_ (by omega)
            have hf9 : fitA (z 174) x.toNat := by
              unfold fitA fitC
              rw [if_neg (by omega), if_neg (by omega), i4, i5, ← hg]
              have e9 : (if x - z 169 8 = 0 then (49 : Int) else 48) = lo := by
                rw [hI39]
                by_cases q8 : x = z 169 8
                · rw [if_pos (by omega), if_pos q8]
                · rw [if_neg (by omega), if_neg q8]
              rw [e9]
              omega
            have hd9 := dt_dig (f := z 174) (i := x.toNat) (by omega)
            have e9 : (x + 1).toNat = x.toNat + 1 := by omega
            refine ⟨?_, by omega, by omega, fun j hj => ?_, ?_, ?_, by omega⟩
            · have h5 := zup_c (z := zup z 175 q.toNat (nuN (z 174) q x.toNat)) (i := 169) (k := 8) (a := 175) (b := q.toNat) (x := x + 1) (y := 10 * nuN (z 174) q x.toNat + z 174 x.toNat - 48) (by decide)
              rw [e41, h5, zup_zup, e9]
              congr 2
              simp only [nuN]
              rw [if_neg (by omega), if_neg (by omega), if_pos (by omega)]
              omega
            · by_cases q8 : (j : Int) < x
              · exact i3v j q8
              · have e8 : j = x.toNat := by omega
                rw [e8]
                exact hf9
            · rw [e9, hd9.1]
              exact i4
            · rw [e9, hd9.2]
              omega
        refine v_aload_n hG dX5_readsNumber_22 0 rfl ?_
        refine v_aload_n hG dX5_readsNumber_23 0 rfl ?_
        refine v_getf (ci := 5) (k := 9) hG iW5 f26 rfl (by decide) k9a (by decide) (cl_6 _ _ _ _) rfl dX5_readsNumber_24 ?_
        refine v_iload_n hG dX5_readsNumber_27 1 rfl ?_
        refine v_iald hG k_175 (by decide) (cl_104 _ _ _ _) (by decide) (by omega) dX5_readsNumber_28 ?_
        rw [e175]
        refine v_if_ne hG 37 (by omega) dX5_readsNumber_29 (by decide) (fun h29 => ?_) (fun h29 => ?_)
        · refine v_bipush hG dX5_readsNumber_37 (by decide) ?_
          exact L39 _ (by first | (rw [if_pos (by omega)]) | (rw [if_neg (by omega)]))
        · refine v_bipush hG dX5_readsNumber_32 (by decide) ?_
          refine v_goto hG 39 dX5_readsNumber_34 (by decide) ?_
          exact L39 _ (by first | (rw [if_pos (by omega)]) | (rw [if_neg (by omega)]))
  exact L14 _ _ _ ⟨by rw [show nuN (z 174) q (z 169 8).toNat = 0 from PB_nu hb hq]; exact (zup_id8 z q.toNat 0), by omega, by omega, b3, b4, by omega, by omega⟩ (Nat.le_refl _)

set_option maxHeartbeats 4000000 in
set_option maxRecDepth 100000 in
theorem c_X5_isDate {l : Launch} {D : va_G} {cA : Nat → ClassId} {r : Nat → Nat} {z : Zt}  (hr : Inj r) (k9a : kd 169 = 6) (hX : TX (z 174) (z 169 7))  : Ki l D cA r yX5_isDate wsX5_isDate 3 68 z [.ref (r 169)] (fun v z1 => (v = 1 ∧ FE (z 174) (z 169 7) (-1) ∧ JT z z1 (z 169 7) ∧ z1 175 0 = z 174 0 - 65 ∧ z1 175 1 = nuN (z 174) 1 (z 169 7).toNat ∧ z1 175 2 = nuN (z 174) 2 (z 169 7).toNat ∧ z1 175 3 = nuN (z 174) 3 (z 169 7).toNat ∧ (0 < z 169 7 ∧ 65 ≤ z 174 0 ∧ z 174 0 ≤ 66)) ∨ (v = 0 ∧ ∃ e : Int, e ≠ -1 ∧ FE (z 174) (z 169 7) e ∧ JT z z1 e)) := by
  have iW5 : ∀ w ∈ u_ws RX5 TX5 10, w ∈ wsX5_isDate := by decide +kernel
  have f23 : Cond.fieldLink RX5 23 (TX5 6).1 (TX5 6).2.1 (TX5 6).2.2.1 ∈ wsX5_isDate := by decide +kernel
  have f26 : Cond.fieldLink RX5 26 (TX5 9).1 (TX5 9).2.1 (TX5 9).2.2.1 ∈ wsX5_isDate := by decide +kernel
  have f117 : Cond.fieldLink RX5 117 (TX5 7).1 (TX5 7).2.1 (TX5 7).2.2.1 ∈ wsX5_isDate := by decide +kernel
  have f120 : Cond.fieldLink RX5 120 (TX5 8).1 (TX5 8).2.1 (TX5 8).2.2.1 ∈ wsX5_isDate := by decide +kernel
  obtain ⟨hl0, hl8, hch⟩ := id hX
  refine Ki_of [(0, _)] hr (by decide) rfl rfl (Nat.le_of_ble_eq_true rfl) rfl (fun Γ hG hR => ?_)
  refine v_aload_n hG dX5_isDate_0 0 rfl ?_
  refine v_iconst hG dX5_isDate_1 ?_
  refine v_putf (ci := 5) (k := 8) hG iW5 tyX5_ok nmX5 f120 rfl (by decide) rfl rfl k9a (by decide) (cl_6 _ _ _ _) (Nat.le_of_ble_eq_true rfl) rfl dX5_isDate_2 ?_
  refine v_aload_n hG dX5_isDate_5 0 rfl ?_
  refine v_bipush hG dX5_isDate_6 (by decide) ?_
  refine v_bipush hG dX5_isDate_8 (by decide) ?_
  refine v_callVi (n := 2) (ci := 5) hG (c_X5_takes hr k9a hX (show (0 : Int) ≤ 0 ∧ 0 ≤ z 169 7 from ⟨by decide, hl0⟩) (by omega) (by omega)) gX5_isDate_X5_takes rfl (by decide +kernel) rfl (by decide) k9a (by decide) (cl_6 _ _ _ _) rfl dX5_isDate_10 rfl (Nat.le_of_ble_eq_true rfl) (by decide) ?_
  intro v10 z10 hp10
  obtain ⟨hv10, hz10⟩ := hp10
  have hv10 : v10 = ind (0 < z 169 7 ∧ (65 ≤ z 174 0 ∧ z 174 0 ≤ 66)) := hv10
  have hb10 := ind_v hv10
  have j10 : JT z z10 (0 + v10) := by
    rw [← hz10, zup_s, zup_zup]
    exact JT_8 ⟨fun a _ _ => rfl, fun j _ => rfl⟩
  refine v_if_ne hG 18 (by omega) dX5_isDate_13 (by decide) (fun h13 => ?_) (fun h13 => ?_)
  · refine v_aload_n hG dX5_isDate_18 0 rfl ?_
    refine v_getf (ci := 5) (k := 9) hG iW5 f26 rfl (by decide) k9a (by decide) (cl_6 _ _ _ _) rfl dX5_isDate_19 ?_
    refine v_iconst hG dX5_isDate_22 ?_
    refine v_aload_n hG dX5_isDate_23 0 rfl ?_
    refine v_getf (ci := 5) (k := 6) hG iW5 f23 rfl (by decide) k9a (by decide) (cl_6 _ _ _ _) rfl dX5_isDate_24 ?_
    refine v_iconst hG dX5_isDate_27 ?_
    refine v_iald hG k_174 (by decide) (cl_180 _ _ _ _) (by decide) (by decide) dX5_isDate_28 ?_
    rw [JT_174 j10, show z 174 (0 : Int).toNat = z 174 0 from rfl]
    refine v_bipush hG dX5_isDate_29 (by decide) ?_
    refine v_isub hG dX5_isDate_31 ?_
    refine v_iast hG k_175 (by decide) (cl_104 _ _ _) (by decide) (by decide) dX5_isDate_32 ?_
    rw [show (0 : Int).toNat = 0 from rfl]
    have j32 : JT z (zup z10 175 0 (z 174 0 - 65)) 1 := by
      have h8 := j10
      rw [show 0 + v10 = 1 by omega] at h8
      exact JT_175 h8
    refine v_aload_n hG dX5_isDate_33 0 rfl ?_
    refine v_iconst hG dX5_isDate_34 ?_
    refine v_iconst hG dX5_isDate_35 ?_
    refine v_callVi (n := 2) (ci := 5) hG (c_X5_readsNumber hr k9a (by rw [JT_174 j32, JT_7 j32]; exact hX) (by decide) (by decide) (by rw [JT_174 j32, JT_7 j32, j32.2]; exact PB_1 (by omega) (by omega))) gX5_isDate_X5_readsNumber rfl (by decide +kernel) rfl (by decide) k9a (by decide) (cl_6 _ _ _ _) rfl dX5_isDate_36 rfl (Nat.le_of_ble_eq_true rfl) (by decide) ?_
    intro v36 z36 hp36
    obtain ⟨s36, hz36, hE36, hv36⟩ := hp36
    rw [JT_174 j32, JT_7 j32, j32.2] at hE36
    rw [JT_174 j32, show (1 : Int).toNat = 1 from rfl] at hz36
    rw [j32.2] at hv36
    have hb36 := ind_v hv36
    have j36 : JT z z36 s36 := by
      rw [← hz36]
      exact JT_8 (JT_175 j32).1
    have n36_1 : z36 175 1 = nuN (z 174) 1 s36.toNat := by
      rw [← hz36]
      exact zup_s (zup z10 175 0 (z 174 0 - 65)) 175 1 _
    have n36_0 : z36 175 0 = z 174 0 - 65 := by
      rw [← hz36]
      exact rfl
    have p36 := hE36.1
    have q36 := hE36.2.1
    refine v_if_eq hG 97 (by omega) dX5_isDate_39 (by decide) (fun h39 => ?_) (fun h39 => ?_)
    · refine v_iconst hG dX5_isDate_97 ?_
      exact v_zret hG hR (by first | exact Or.inl rfl | exact Or.inr rfl | omega) dX5_isDate_98 (by
  first
    | exact Or.inr ⟨rfl, s76, by omega, PE_nodot (by omega) (by decide) hE76 (by omega) (Or.inl ⟨rfl, by omega⟩), j76⟩
    | (have e76 : s76 = z 169 7 := by omega
       have hE9 := hE76
       rw [e76] at hE9
       have hfit := hE9.2.2.1
       exact Or.inl ⟨rfl, PE_end hE9 (by omega), by rw [← e76]; exact j76, n76_0, n76_1.trans (nu_dot (by decide) (by decide) hE36 (by omega) (by omega) hfit).symm, n76_2.trans (nu_dot (by omega) (by decide) hE56 (by omega) (by omega) hfit).symm, by rw [n76_3, e76], by omega⟩)
    | exact Or.inr ⟨rfl, s76, by omega, by (have hE9 := hE76; rw [show s56 + 1 = s76 by omega] at hE9; exact PE_no (by omega) (by decide) hE9), j76⟩
    | exact Or.inr ⟨rfl, s56, by omega, PE_nodot (by omega) (by decide) hE56 (by omega) (Or.inr ⟨by decide, by omega⟩), by (have h8 := j67; rw [show s56 + v67 = s56 by omega] at h8; exact h8)⟩
    | exact Or.inr ⟨rfl, s56, by omega, by (have hE9 := hE56; rw [show s36 + 1 = s56 by omega] at hE9; exact PE_no (by omega) (by decide) hE9), j56⟩
    | exact Or.inr ⟨rfl, s36, by omega, PE_nodot (by decide) (by decide) hE36 (by omega) (Or.inr ⟨by decide, by omega⟩), by (have h8 := j47; rw [show s36 + v47 = s36 by omega] at h8; exact h8)⟩
    | exact Or.inr ⟨rfl, s36, by omega, by (have hE9 := hE36; rw [show (1 : Int) = s36 by omega] at hE9; exact PE_no (by omega) (by omega) hE9), j36⟩)
    · refine v_aload_n hG dX5_isDate_42 0 rfl ?_
      refine v_bipush hG dX5_isDate_43 (by decide) ?_
      refine v_bipush hG dX5_isDate_45 (by decide) ?_
      refine v_callVi (n := 2) (ci := 5) hG (c_X5_takes hr k9a (by rw [JT_174 j36, JT_7 j36]; exact hX) (by rw [j36.2, JT_7 j36]; omega) (by omega) (by omega)) gX5_isDate_X5_takes rfl (by decide +kernel) rfl (by decide) k9a (by decide) (cl_6 _ _ _ _) rfl dX5_isDate_47 rfl (Nat.le_of_ble_eq_true rfl) (by decide) ?_
      intro v47 z47 hp47
      obtain ⟨hv47, hz47⟩ := hp47
      rw [j36.2, JT_7 j36, JT_174 j36] at hv47
      rw [j36.2] at hz47
      have hb47 := ind_v hv47
      have j47 : JT z z47 (s36 + v47) := by
        rw [← hz47]
        exact JT_8 j36.1
      have n47_0 : z47 175 0 = z 174 0 - 65 := by
        rw [← hz47]
        exact n36_0
      have n47_1 : z47 175 1 = nuN (z 174) 1 s36.toNat := by
        rw [← hz47]
        exact n36_1
      refine v_if_eq hG 97 (by omega) dX5_isDate_50 (by decide) (fun h50 => ?_) (fun h50 => ?_)
      · refine v_iconst hG dX5_isDate_97 ?_
        exact v_zret hG hR (by first | exact Or.inl rfl | exact Or.inr rfl | omega) dX5_isDate_98 (by
  first
    | exact Or.inr ⟨rfl, s76, by omega, PE_nodot (by omega) (by decide) hE76 (by omega) (Or.inl ⟨rfl, by omega⟩), j76⟩
    | (have e76 : s76 = z 169 7 := by omega
       have hE9 := hE76
       rw [e76] at hE9
       have hfit := hE9.2.2.1
       exact Or.inl ⟨rfl, PE_end hE9 (by omega), by rw [← e76]; exact j76, n76_0, n76_1.trans (nu_dot (by decide) (by decide) hE36 (by omega) (by omega) hfit).symm, n76_2.trans (nu_dot (by omega) (by decide) hE56 (by omega) (by omega) hfit).symm, by rw [n76_3, e76], by omega⟩)
    | exact Or.inr ⟨rfl, s76, by omega, by (have hE9 := hE76; rw [show s56 + 1 = s76 by omega] at hE9; exact PE_no (by omega) (by decide) hE9), j76⟩
    | exact Or.inr ⟨rfl, s56, by omega, PE_nodot (by omega) (by decide) hE56 (by omega) (Or.inr ⟨by decide, by omega⟩), by (have h8 := j67; rw [show s56 + v67 = s56 by omega] at h8; exact h8)⟩
    | exact Or.inr ⟨rfl, s56, by omega, by (have hE9 := hE56; rw [show s36 + 1 = s56 by omega] at hE9; exact PE_no (by omega) (by decide) hE9), j56⟩
    | exact Or.inr ⟨rfl, s36, by omega, PE_nodot (by decide) (by decide) hE36 (by omega) (Or.inr ⟨by decide, by omega⟩), by (have h8 := j47; rw [show s36 + v47 = s36 by omega] at h8; exact h8)⟩
    | exact Or.inr ⟨rfl, s36, by omega, by (have hE9 := hE36; rw [show (1 : Int) = s36 by omega] at hE9; exact PE_no (by omega) (by omega) hE9), j36⟩)
      · have hB2 : PB (z 174) (z 169 7) (s36 + 1) 2 := PE_dot (by decide) (by decide) hE36 (by omega) (by omega) (by omega)
        refine v_aload_n hG dX5_isDate_53 0 rfl ?_
        refine v_iconst hG dX5_isDate_54 ?_
        refine v_iconst hG dX5_isDate_55 ?_
        refine v_callVi (n := 2) (ci := 5) hG (c_X5_readsNumber hr k9a (by rw [JT_174 j47, JT_7 j47]; exact hX) (by decide) (by decide) (by rw [JT_174 j47, JT_7 j47, j47.2, show s36 + v47 = s36 + 1 by omega]; exact hB2)) gX5_isDate_X5_readsNumber rfl (by decide +kernel) rfl (by decide) k9a (by decide) (cl_6 _ _ _ _) rfl dX5_isDate_56 rfl (Nat.le_of_ble_eq_true rfl) (by decide) ?_
        intro v56 z56 hp56
        obtain ⟨s56, hz56, hE56, hv56⟩ := hp56
        rw [show s36 + v47 = s36 + 1 by omega] at j47
        rw [JT_174 j47, JT_7 j47, j47.2] at hE56
        rw [JT_174 j47, show (2 : Int).toNat = 2 from rfl] at hz56
        rw [j47.2] at hv56
        have hb56 := ind_v hv56
        have j56 : JT z z56 s56 := by
          rw [← hz56]
          exact JT_8 (JT_175 j47).1
        have n56_2 : z56 175 2 = nuN (z 174) 2 s56.toNat := by
          rw [← hz56]
          exact zup_s z47 175 2 _
        have n56_0 : z56 175 0 = z 174 0 - 65 := by
          rw [← hz56]
          exact n47_0
        have n56_1 : z56 175 1 = nuN (z 174) 1 s36.toNat := by
          rw [← hz56]
          exact n47_1
        have p56 := hE56.1
        have q56 := hE56.2.1
        refine v_if_eq hG 97 (by omega) dX5_isDate_59 (by decide) (fun h59 => ?_) (fun h59 => ?_)
        · refine v_iconst hG dX5_isDate_97 ?_
          exact v_zret hG hR (by first | exact Or.inl rfl | exact Or.inr rfl | omega) dX5_isDate_98 (by
  first
    | exact Or.inr ⟨rfl, s76, by omega, PE_nodot (by omega) (by decide) hE76 (by omega) (Or.inl ⟨rfl, by omega⟩), j76⟩
    | (have e76 : s76 = z 169 7 := by omega
       have hE9 := hE76
       rw [e76] at hE9
       have hfit := hE9.2.2.1
       exact Or.inl ⟨rfl, PE_end hE9 (by omega), by rw [← e76]; exact j76, n76_0, n76_1.trans (nu_dot (by decide) (by decide) hE36 (by omega) (by omega) hfit).symm, n76_2.trans (nu_dot (by omega) (by decide) hE56 (by omega) (by omega) hfit).symm, by rw [n76_3, e76], by omega⟩)
    | exact Or.inr ⟨rfl, s76, by omega, by (have hE9 := hE76; rw [show s56 + 1 = s76 by omega] at hE9; exact PE_no (by omega) (by decide) hE9), j76⟩
    | exact Or.inr ⟨rfl, s56, by omega, PE_nodot (by omega) (by decide) hE56 (by omega) (Or.inr ⟨by decide, by omega⟩), by (have h8 := j67; rw [show s56 + v67 = s56 by omega] at h8; exact h8)⟩
    | exact Or.inr ⟨rfl, s56, by omega, by (have hE9 := hE56; rw [show s36 + 1 = s56 by omega] at hE9; exact PE_no (by omega) (by decide) hE9), j56⟩
    | exact Or.inr ⟨rfl, s36, by omega, PE_nodot (by decide) (by decide) hE36 (by omega) (Or.inr ⟨by decide, by omega⟩), by (have h8 := j47; rw [show s36 + v47 = s36 by omega] at h8; exact h8)⟩
    | exact Or.inr ⟨rfl, s36, by omega, by (have hE9 := hE36; rw [show (1 : Int) = s36 by omega] at hE9; exact PE_no (by omega) (by omega) hE9), j36⟩)
        · refine v_aload_n hG dX5_isDate_62 0 rfl ?_
          refine v_bipush hG dX5_isDate_63 (by decide) ?_
          refine v_bipush hG dX5_isDate_65 (by decide) ?_
          refine v_callVi (n := 2) (ci := 5) hG (c_X5_takes hr k9a (by rw [JT_174 j56, JT_7 j56]; exact hX) (by rw [j56.2, JT_7 j56]; omega) (by omega) (by omega)) gX5_isDate_X5_takes rfl (by decide +kernel) rfl (by decide) k9a (by decide) (cl_6 _ _ _ _) rfl dX5_isDate_67 rfl (Nat.le_of_ble_eq_true rfl) (by decide) ?_
          intro v67 z67 hp67
          obtain ⟨hv67, hz67⟩ := hp67
          rw [j56.2, JT_7 j56, JT_174 j56] at hv67
          rw [j56.2] at hz67
          have hb67 := ind_v hv67
          have j67 : JT z z67 (s56 + v67) := by
            rw [← hz67]
            exact JT_8 j56.1
          have n67_0 : z67 175 0 = z 174 0 - 65 := by
            rw [← hz67]
            exact n56_0
          have n67_1 : z67 175 1 = nuN (z 174) 1 s36.toNat := by
            rw [← hz67]
            exact n56_1
          have n67_2 : z67 175 2 = nuN (z 174) 2 s56.toNat := by
            rw [← hz67]
            exact n56_2
          refine v_if_eq hG 97 (by omega) dX5_isDate_70 (by decide) (fun h70 => ?_) (fun h70 => ?_)
          · refine v_iconst hG dX5_isDate_97 ?_
            exact v_zret hG hR (by first | exact Or.inl rfl | exact Or.inr rfl | omega) dX5_isDate_98 (by
  first
    | exact Or.inr ⟨rfl, s76, by omega, PE_nodot (by omega) (by decide) hE76 (by omega) (Or.inl ⟨rfl, by omega⟩), j76⟩
    | (have e76 : s76 = z 169 7 := by omega
       have hE9 := hE76
       rw [e76] at hE9
       have hfit := hE9.2.2.1
       exact Or.inl ⟨rfl, PE_end hE9 (by omega), by rw [← e76]; exact j76, n76_0, n76_1.trans (nu_dot (by decide) (by decide) hE36 (by omega) (by omega) hfit).symm, n76_2.trans (nu_dot (by omega) (by decide) hE56 (by omega) (by omega) hfit).symm, by rw [n76_3, e76], by omega⟩)
    | exact Or.inr ⟨rfl, s76, by omega, by (have hE9 := hE76; rw [show s56 + 1 = s76 by omega] at hE9; exact PE_no (by omega) (by decide) hE9), j76⟩
    | exact Or.inr ⟨rfl, s56, by omega, PE_nodot (by omega) (by decide) hE56 (by omega) (Or.inr ⟨by decide, by omega⟩), by (have h8 := j67; rw [show s56 + v67 = s56 by omega] at h8; exact h8)⟩
    | exact Or.inr ⟨rfl, s56, by omega, by (have hE9 := hE56; rw [show s36 + 1 = s56 by omega] at hE9; exact PE_no (by omega) (by decide) hE9), j56⟩
    | exact Or.inr ⟨rfl, s36, by omega, PE_nodot (by decide) (by decide) hE36 (by omega) (Or.inr ⟨by decide, by omega⟩), by (have h8 := j47; rw [show s36 + v47 = s36 by omega] at h8; exact h8)⟩
    | exact Or.inr ⟨rfl, s36, by omega, by (have hE9 := hE36; rw [show (1 : Int) = s36 by omega] at hE9; exact PE_no (by omega) (by omega) hE9), j36⟩)
          · have hB3 : PB (z 174) (z 169 7) (s56 + 1) 3 := PE_dot (by omega) (by decide) hE56 (by omega) (by omega) (by omega)
            refine v_aload_n hG dX5_isDate_73 0 rfl ?_
            refine v_iconst hG dX5_isDate_74 ?_
            refine v_iconst hG dX5_isDate_75 ?_
            refine v_callVi (n := 2) (ci := 5) hG (c_X5_readsNumber hr k9a (by rw [JT_174 j67, JT_7 j67]; exact hX) (by decide) (by decide) (by rw [JT_174 j67, JT_7 j67, j67.2, show s56 + v67 = s56 + 1 by omega]; exact hB3)) gX5_isDate_X5_readsNumber rfl (by decide +kernel) rfl (by decide) k9a (by decide) (cl_6 _ _ _ _) rfl dX5_isDate_76 rfl (Nat.le_of_ble_eq_true rfl) (by decide) ?_
            intro v76 z76 hp76
            obtain ⟨s76, hz76, hE76, hv76⟩ := hp76
            rw [show s56 + v67 = s56 + 1 by omega] at j67
            rw [JT_174 j67, JT_7 j67, j67.2] at hE76
            rw [JT_174 j67, show (3 : Int).toNat = 3 from rfl] at hz76
            rw [j67.2] at hv76
            have hb76 := ind_v hv76
            have j76 : JT z z76 s76 := by
              rw [← hz76]
              exact JT_8 (JT_175 j67).1
            have n76_3 : z76 175 3 = nuN (z 174) 3 s76.toNat := by
              rw [← hz76]
              exact zup_s z67 175 3 _
            have n76_0 : z76 175 0 = z 174 0 - 65 := by
              rw [← hz76]
              exact n67_0
            have n76_1 : z76 175 1 = nuN (z 174) 1 s36.toNat := by
              rw [← hz76]
              exact n67_1
            have n76_2 : z76 175 2 = nuN (z 174) 2 s56.toNat := by
              rw [← hz76]
              exact n67_2
            have p76 := hE76.1
            have q76 := hE76.2.1
            refine v_if_eq hG 97 (by omega) dX5_isDate_79 (by decide) (fun h79 => ?_) (fun h79 => ?_)
            · refine v_iconst hG dX5_isDate_97 ?_
              exact v_zret hG hR (by first | exact Or.inl rfl | exact Or.inr rfl | omega) dX5_isDate_98 (by
  first
    | exact Or.inr ⟨rfl, s76, by omega, PE_nodot (by omega) (by decide) hE76 (by omega) (Or.inl ⟨rfl, by omega⟩), j76⟩
    | (have e76 : s76 = z 169 7 := by omega
       have hE9 := hE76
       rw [e76] at hE9
       have hfit := hE9.2.2.1
       exact Or.inl ⟨rfl, PE_end hE9 (by omega), by rw [← e76]; exact j76, n76_0, n76_1.trans (nu_dot (by decide) (by decide) hE36 (by omega) (by omega) hfit).symm, n76_2.trans (nu_dot (by omega) (by decide) hE56 (by omega) (by omega) hfit).symm, by rw [n76_3, e76], by omega⟩)
    | exact Or.inr ⟨rfl, s76, by omega, by (have hE9 := hE76; rw [show s56 + 1 = s76 by omega] at hE9; exact PE_no (by omega) (by decide) hE9), j76⟩
    | exact Or.inr ⟨rfl, s56, by omega, PE_nodot (by omega) (by decide) hE56 (by omega) (Or.inr ⟨by decide, by omega⟩), by (have h8 := j67; rw [show s56 + v67 = s56 by omega] at h8; exact h8)⟩
    | exact Or.inr ⟨rfl, s56, by omega, by (have hE9 := hE56; rw [show s36 + 1 = s56 by omega] at hE9; exact PE_no (by omega) (by decide) hE9), j56⟩
    | exact Or.inr ⟨rfl, s36, by omega, PE_nodot (by decide) (by decide) hE36 (by omega) (Or.inr ⟨by decide, by omega⟩), by (have h8 := j47; rw [show s36 + v47 = s36 by omega] at h8; exact h8)⟩
    | exact Or.inr ⟨rfl, s36, by omega, by (have hE9 := hE36; rw [show (1 : Int) = s36 by omega] at hE9; exact PE_no (by omega) (by omega) hE9), j36⟩)
            · refine v_aload_n hG dX5_isDate_82 0 rfl ?_
              refine v_getf (ci := 5) (k := 8) hG iW5 f120 rfl (by decide) k9a (by decide) (cl_6 _ _ _ _) rfl dX5_isDate_83 ?_
              rw [j76.2]
              refine v_aload_n hG dX5_isDate_86 0 rfl ?_
              refine v_getf (ci := 5) (k := 7) hG iW5 f117 rfl (by decide) k9a (by decide) (cl_6 _ _ _ _) rfl dX5_isDate_87 ?_
              rw [JT_7 j76]
              refine v_icmp_ne hG 97 (by omega) (by omega) dX5_isDate_90 (by decide) (fun h90 => ?_) (fun h90 => ?_)
              · refine v_iconst hG dX5_isDate_97 ?_
                exact v_zret hG hR (by first | exact Or.inl rfl | exact Or.inr rfl | omega) dX5_isDate_98 (by
  first
    | exact Or.inr ⟨rfl, s76, by omega, PE_nodot (by omega) (by decide) hE76 (by omega) (Or.inl ⟨rfl, by omega⟩), j76⟩
    | (have e76 : s76 = z 169 7 := by omega
       have hE9 := hE76
       rw [e76] at hE9
       have hfit := hE9.2.2.1
       exact Or.inl ⟨rfl, PE_end hE9 (by omega), by rw [← e76]; exact j76, n76_0, n76_1.trans (nu_dot (by decide) (by decide) hE36 (by omega) (by omega) hfit).symm, n76_2.trans (nu_dot (by omega) (by decide) hE56 (by omega) (by omega) hfit).symm, by rw [n76_3, e76], by omega⟩)
    | exact Or.inr ⟨rfl, s76, by omega, by (have hE9 := hE76; rw [show s56 + 1 = s76 by omega] at hE9; exact PE_no (by omega) (by decide) hE9), j76⟩
    | exact Or.inr ⟨rfl, s56, by omega, PE_nodot (by omega) (by decide) hE56 (by omega) (Or.inr ⟨by decide, by omega⟩), by (have h8 := j67; rw [show s56 + v67 = s56 by omega] at h8; exact h8)⟩
    | exact Or.inr ⟨rfl, s56, by omega, by (have hE9 := hE56; rw [show s36 + 1 = s56 by omega] at hE9; exact PE_no (by omega) (by decide) hE9), j56⟩
    | exact Or.inr ⟨rfl, s36, by omega, PE_nodot (by decide) (by decide) hE36 (by omega) (Or.inr ⟨by decide, by omega⟩), by (have h8 := j47; rw [show s36 + v47 = s36 by omega] at h8; exact h8)⟩
    | exact Or.inr ⟨rfl, s36, by omega, by (have hE9 := hE36; rw [show (1 : Int) = s36 by omega] at hE9; exact PE_no (by omega) (by omega) hE9), j36⟩)
              · refine v_iconst hG dX5_isDate_93 ?_
                refine v_goto hG 98 dX5_isDate_94 (by decide) ?_
                exact v_zret hG hR (by first | exact Or.inl rfl | exact Or.inr rfl | omega) dX5_isDate_98 (by
  first
    | exact Or.inr ⟨rfl, s76, by omega, PE_nodot (by omega) (by decide) hE76 (by omega) (Or.inl ⟨rfl, by omega⟩), j76⟩
    | (have e76 : s76 = z 169 7 := by omega
       have hE9 := hE76
       rw [e76] at hE9
       have hfit := hE9.2.2.1
       exact Or.inl ⟨rfl, PE_end hE9 (by omega), by rw [← e76]; exact j76, n76_0, n76_1.trans (nu_dot (by decide) (by decide) hE36 (by omega) (by omega) hfit).symm, n76_2.trans (nu_dot (by omega) (by decide) hE56 (by omega) (by omega) hfit).symm, by rw [n76_3, e76], by omega⟩)
    | exact Or.inr ⟨rfl, s76, by omega, by (have hE9 := hE76; rw [show s56 + 1 = s76 by omega] at hE9; exact PE_no (by omega) (by decide) hE9), j76⟩
    | exact Or.inr ⟨rfl, s56, by omega, PE_nodot (by omega) (by decide) hE56 (by omega) (Or.inr ⟨by decide, by omega⟩), by (have h8 := j67; rw [show s56 + v67 = s56 by omega] at h8; exact h8)⟩
    | exact Or.inr ⟨rfl, s56, by omega, by (have hE9 := hE56; rw [show s36 + 1 = s56 by omega] at hE9; exact PE_no (by omega) (by decide) hE9), j56⟩
    | exact Or.inr ⟨rfl, s36, by omega, PE_nodot (by decide) (by decide) hE36 (by omega) (Or.inr ⟨by decide, by omega⟩), by (have h8 := j47; rw [show s36 + v47 = s36 by omega] at h8; exact h8)⟩
    | exact Or.inr ⟨rfl, s36, by omega, by (have hE9 := hE36; rw [show (1 : Int) = s36 by omega] at hE9; exact PE_no (by omega) (by omega) hE9), j36⟩)
  · refine v_iconst hG dX5_isDate_16 ?_
    exact v_zret hG hR (by first | exact Or.inl rfl | exact Or.inr rfl | omega) dX5_isDate_17 (Or.inr ⟨rfl, 0, by decide, FE_0 (by omega) (ind_n hv10 h13), by have h8 := j10; rw [show 0 + v10 = 0 by omega] at h8; exact h8⟩)

set_option maxHeartbeats 4000000 in
set_option maxRecDepth 100000 in
theorem c_X5_textError {l : Launch} {D : va_G} {cA : Nat → ClassId} {r : Nat → Nat} {z : Zt} {w : Zt}  (hr : Inj r) (k9a : kd 169 = 6) (hw : w = zup z 169 5 0) (hX : TX (w 174) (w 169 7)) : Ki l D cA r yX5_textError wsX5_textError 4 88 z [.ref (r 169)] (fun v z1 => (JT w z1 (z1 169 8) ∧ FE (w 174) (w 169 7) v)) := by
  have iW5 : ∀ w ∈ u_ws RX5 TX5 10, w ∈ wsX5_textError := by decide +kernel
  have f29 : Cond.fieldLink RX5 29 (TX5 5).1 (TX5 5).2.1 (TX5 5).2.2.1 ∈ wsX5_textError := by decide +kernel
  have f120 : Cond.fieldLink RX5 120 (TX5 8).1 (TX5 8).2.1 (TX5 8).2.2.1 ∈ wsX5_textError := by decide +kernel
  obtain ⟨hl0, hl8, hch⟩ := id hX
  refine Ki_of [(0, _)] hr (by decide) rfl rfl (Nat.le_of_ble_eq_true rfl) rfl (fun Γ hG hR => ?_)
  refine v_aload_n hG dX5_textError_0 0 rfl ?_
  refine v_iconst hG dX5_textError_1 ?_
  refine v_putf (ci := 5) (k := 5) hG iW5 tyX5_ok nmX5 f29 rfl (by decide) rfl rfl k9a (by decide) (cl_6 _ _ _ _) (Nat.le_of_ble_eq_true rfl) rfl dX5_textError_2 ?_
  rw [← hw]
  refine v_aload_n hG dX5_textError_5 0 rfl ?_
  refine v_callVi (n := 0) (ci := 5) hG (c_X5_isDate hr k9a hX) gX5_textError_X5_isDate rfl (by decide +kernel) rfl (by decide) k9a (by decide) (cl_6 _ _ _ _) rfl dX5_textError_6 rfl (Nat.le_of_ble_eq_true rfl) (by decide) ?_
  intro v6 z6 hp6
  have hd6v : v6 = 0 ∨ v6 = 1 := by
    rcases hp6 with q | q
    · exact Or.inr q.1
    · exact Or.inl q.1
  refine v_if_eq hG 16 (by omega) dX5_textError_9 (by decide) (fun h9 => ?_) (fun h9 => ?_)
  · refine v_aload_n hG dX5_textError_16 0 rfl ?_
    refine v_getf (ci := 5) (k := 8) hG iW5 f120 rfl (by decide) k9a (by decide) (cl_6 _ _ _ _) rfl dX5_textError_17 ?_
    exact v_iret hG hR dX5_textError_20 (by
  rcases hp6 with ⟨q1, q2, q3, -⟩ | ⟨q1, e, q2, q3, q4⟩
  · first
      | (exfalso; omega)
      | exact ⟨by rw [q3.2]; exact q3, q2⟩
  · first
      | (exfalso; omega)
      | exact ⟨by rw [q4.2]; exact q4, by rw [q4.2]; exact q3⟩)
  · refine v_iconst hG dX5_textError_12 ?_
    refine v_goto hG 20 dX5_textError_13 (by decide) ?_
    exact v_iret hG hR dX5_textError_20 (by
  rcases hp6 with ⟨q1, q2, q3, -⟩ | ⟨q1, e, q2, q3, q4⟩
  · first
      | (exfalso; omega)
      | exact ⟨by rw [q3.2]; exact q3, q2⟩
  · first
      | (exfalso; omega)
      | exact ⟨by rw [q4.2]; exact q4, by rw [q4.2]; exact q3⟩)

set_option maxHeartbeats 4000000 in
set_option maxRecDepth 100000 in
theorem c_X5_dayOfText {l : Launch} {D : va_G} {cA : Nat → ClassId} {r : Nat → Nat} {z : Zt} {w : Zt} {tt : Int} (hr : Inj r) (k9a : kd 169 = 6) (hw : w = zup z 169 5 0) (hM : MI (w 170)) (hX : TX (w 174) (w 169 7)) (htt : tt = w 174 0 - 65) : Ki l D cA r yX5_dayOfText wsX5_dayOfText 4 90 z [.ref (r 169)] (fun v z1 => (FE (w 174) (w 169 7) (-1) ∧ JT w z1 (w 169 7) ∧ (0 < w 169 7 ∧ 65 ≤ w 174 0 ∧ w 174 0 ≤ 66) ∧ v = (if 12 < nuN (w 174) 2 (w 169 7).toNat ∨ mlen (1 - tt) (nuN (w 174) 2 (w 169 7).toNat) < nuN (w 174) 1 (w 169 7).toNat then -1 else if calM (w 170) tt (fdM (w 170) tt (dof (1 - tt) (nuN (w 174) 3 (w 169 7).toNat) (nuN (w 174) 2 (w 169 7).toNat) (nuN (w 174) 1 (w 169 7).toNat))) = dof (1 - tt) (nuN (w 174) 3 (w 169 7).toNat) (nuN (w 174) 2 (w 169 7).toNat) (nuN (w 174) 1 (w 169 7).toNat) then fdM (w 170) tt (dof (1 - tt) (nuN (w 174) 3 (w 169 7).toNat) (nuN (w 174) 2 (w 169 7).toNat) (nuN (w 174) 1 (w 169 7).toNat)) else -1)) ∨ (∃ e : Int, e ≠ -1 ∧ FE (w 174) (w 169 7) e ∧ ∃ z2, JT w z2 e ∧ zup z2 169 5 1 = z1)) := by
  have iW5 : ∀ w ∈ u_ws RX5 TX5 10, w ∈ wsX5_dayOfText := by decide +kernel
  have f26 : Cond.fieldLink RX5 26 (TX5 9).1 (TX5 9).2.1 (TX5 9).2.2.1 ∈ wsX5_dayOfText := by decide +kernel
  have f29 : Cond.fieldLink RX5 29 (TX5 5).1 (TX5 5).2.1 (TX5 5).2.2.1 ∈ wsX5_dayOfText := by decide +kernel
  obtain ⟨hG1, h14, hFe, h55, h56, h57⟩ := id hM
  obtain ⟨hl0, hl8, hch⟩ := id hX
  refine Ki_of [(0, _)] hr (by decide) rfl rfl (Nat.le_of_ble_eq_true rfl) rfl (fun Γ hG hR => ?_)
  refine v_aload_n hG dX5_dayOfText_0 0 rfl ?_
  refine v_iconst hG dX5_dayOfText_1 ?_
  refine v_putf (ci := 5) (k := 5) hG iW5 tyX5_ok nmX5 f29 rfl (by decide) rfl rfl k9a (by decide) (cl_6 _ _ _ _) (Nat.le_of_ble_eq_true rfl) rfl dX5_dayOfText_2 ?_
  rw [← hw]
  refine v_aload_n hG dX5_dayOfText_5 0 rfl ?_
  refine v_callVi (n := 0) (ci := 5) hG (c_X5_isDate hr k9a hX) gX5_dayOfText_X5_isDate rfl (by decide +kernel) rfl (by decide) k9a (by decide) (cl_6 _ _ _ _) rfl dX5_dayOfText_6 rfl (Nat.le_of_ble_eq_true rfl) (by decide) ?_
  intro v6 z6 hp6
  have hd6v : v6 = 0 ∨ v6 = 1 := by
    rcases hp6 with q | q
    · exact Or.inr q.1
    · exact Or.inl q.1
  refine v_if_eq hG 43 (by omega) dX5_dayOfText_9 (by decide) (fun h9 => ?_) (fun h9 => ?_)
  · obtain ⟨-, e9, q2, q3, q4⟩ : v6 = 0 ∧ ∃ e : Int, e ≠ -1 ∧ FE (w 174) (w 169 7) e ∧ JT w z6 e := by
      rcases hp6 with q | q
      · exfalso
        have := q.1
        omega
      · exact q
    refine v_aload_n hG dX5_dayOfText_43 0 rfl ?_
    refine v_iconst hG dX5_dayOfText_44 ?_
    refine v_callVi (n := 1) (ci := 5) hG (c_X5_fails hr k9a) gX5_dayOfText_X5_fails rfl (by decide +kernel) rfl (by decide) k9a (by decide) (cl_6 _ _ _ _) rfl dX5_dayOfText_45 rfl (Nat.le_of_ble_eq_true rfl) (by decide) ?_
    intro v45 z45 hp45
    obtain ⟨rfl, rfl⟩ := hp45
    exact v_iret hG hR dX5_dayOfText_48 (by first | exact Or.inl ⟨q2, q3, q8, rfl⟩ | exact Or.inr ⟨e9, q2, q3, _, q4, rfl⟩)
  · obtain ⟨q1, q2, q3, q4, q5, q6, q7, q8⟩ : v6 = 1 ∧ FE (w 174) (w 169 7) (-1) ∧ JT w z6 (w 169 7) ∧ z6 175 0 = w 174 0 - 65 ∧ z6 175 1 = nuN (w 174) 1 (w 169 7).toNat ∧ z6 175 2 = nuN (w 174) 2 (w 169 7).toNat ∧ z6 175 3 = nuN (w 174) 3 (w 169 7).toNat ∧ (0 < w 169 7 ∧ 65 ≤ w 174 0 ∧ w 174 0 ≤ 66) := by
      rcases hp6 with q | q
      · exact q
      · exact absurd q.1 h9
    have hno := num_ok q2 hl0
    refine v_aload_n hG dX5_dayOfText_12 0 rfl ?_
    refine v_aload_n hG dX5_dayOfText_13 0 rfl ?_
    refine v_getf (ci := 5) (k := 9) hG iW5 f26 rfl (by decide) k9a (by decide) (cl_6 _ _ _ _) rfl dX5_dayOfText_14 ?_
    refine v_iconst hG dX5_dayOfText_17 ?_
    refine v_iald hG k_175 (by decide) (cl_104 _ _ _ _) (by decide) (by decide) dX5_dayOfText_18 ?_
    rw [show (0 : Int).toNat = 0 from rfl, q4, ← htt]
    refine v_aload_n hG dX5_dayOfText_19 0 rfl ?_
    refine v_getf (ci := 5) (k := 9) hG iW5 f26 rfl (by decide) k9a (by decide) (cl_6 _ _ _ _) rfl dX5_dayOfText_20 ?_
    refine v_iconst hG dX5_dayOfText_23 ?_
    refine v_iald hG k_175 (by decide) (cl_104 _ _ _ _) (by decide) (by decide) dX5_dayOfText_24 ?_
    rw [show (3 : Int).toNat = 3 from rfl, q7]
    refine v_aload_n hG dX5_dayOfText_25 0 rfl ?_
    refine v_getf (ci := 5) (k := 9) hG iW5 f26 rfl (by decide) k9a (by decide) (cl_6 _ _ _ _) rfl dX5_dayOfText_26 ?_
    refine v_iconst hG dX5_dayOfText_29 ?_
    refine v_iald hG k_175 (by decide) (cl_104 _ _ _ _) (by decide) (by decide) dX5_dayOfText_30 ?_
    rw [show (2 : Int).toNat = 2 from rfl, q6]
    refine v_aload_n hG dX5_dayOfText_31 0 rfl ?_
    refine v_getf (ci := 5) (k := 9) hG iW5 f26 rfl (by decide) k9a (by decide) (cl_6 _ _ _ _) rfl dX5_dayOfText_32 ?_
    refine v_iconst hG dX5_dayOfText_35 ?_
    refine v_iald hG k_175 (by decide) (cl_104 _ _ _ _) (by decide) (by decide) dX5_dayOfText_36 ?_
    rw [show (1 : Int).toNat = 1 from rfl, q5]
    refine v_callVi (n := 4) (ci := 5) hG (c_X5_dayWith hr k9a (by omega) (by rw [q3.1.1 170 (by decide) (by decide)]; exact hG1) (by omega) (by omega) (by omega)) gX5_dayOfText_X5_dayWith rfl (by decide +kernel) rfl (by decide) k9a (by decide) (cl_6 _ _ _ _) rfl dX5_dayOfText_37 rfl (Nat.le_of_ble_eq_true rfl) (by decide) ?_
    intro v37 z37 hp37
    obtain ⟨rfl, rfl⟩ := hp37
    rw [q3.1.1 170 (by decide) (by decide)]
    refine v_goto hG 48 dX5_dayOfText_40 (by decide) ?_
    exact v_iret hG hR dX5_dayOfText_48 (by first | exact Or.inl ⟨q2, q3, q8, rfl⟩ | exact Or.inr ⟨e9, q2, q3, _, q4, rfl⟩)

