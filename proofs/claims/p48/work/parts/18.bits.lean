/-! sets' bits, rows replaced -/
theorem ind_0 {p : Prop} : ind p = 0 ↔ ¬ p := by
  by_cases h : p
  · rw [ind_t h]; simp [h]
  · rw [ind_f h]; simp [h]
theorem bit_of {P : Nat → Prop} {v k : Int} (h : isSet P v) (hk : 0 ≤ k ∧ k < 31) : (iN v >>> (iN k &&& 31)) &&& iN 1 = iN (ind (P k.toNat)) := by
  obtain ⟨n, rfl, h1, h2⟩ := h
  have e2 : iN k = nI k.toNat := by
    rw [← iN_nI]
    exact congrArg iN (by omega)
  have e1 : iN 1 = nI 1 := iN_nI 1
  rw [iN_nI, e2, pk_shrN (by omega) _ k.toNat (s_l _ (by omega)), e1, fa_and, Nat.and_one_is_mod]
  have h3 := Nat.testBit_eq_decide_div_mod_eq (x := n) (i := k.toNat)
  by_cases q : P k.toNat
  · rw [(h2 k.toNat).mpr q] at h3
    have h4 : n / 2 ^ k.toNat % 2 = 1 := of_decide_eq_true h3.symm
    rw [h4, ind_t q]
    exact (iN_nI 1).symm
  · have h4 : ¬ n / 2 ^ k.toNat % 2 = 1 := fun e => q ((h2 k.toNat).mp (by rw [h3]; exact decide_eq_true e))
    have h5 : n / 2 ^ k.toNat % 2 = 0 := by omega
    rw [h5, ind_f q]
    exact (iN_nI 0).symm
/-! rows replaced, copied piece by piece -/
def zset (z : Zt) (a : Nat) (f : Nat → Int) : Zt := fun i => if i = a then f else z i
def fcp (A B : Nat → Int) (ca cb k : Nat) : Nat → Int := fun p => if ca ≤ p ∧ p < ca + k then B (p - ca + cb) else A p
theorem fcp_0 (A B : Nat → Int) (ca cb : Nat) : fcp A B ca cb 0 = A := by
  funext p
  unfold fcp
  rw [if_neg (by omega)]
theorem fcp_s (A B : Nat → Int) (ca cb k : Nat) : (fun j => if j = ca + k then B (cb + k) else fcp A B ca cb k j) = fcp A B ca cb (k + 1) := by
  funext p
  unfold fcp
  by_cases q : p = ca + k
  · subst q
    rw [if_pos rfl, if_pos (by omega), show ca + k - ca + cb = cb + k by omega]
  · rw [if_neg q]
    by_cases q2 : ca ≤ p ∧ p < ca + k
    · rw [if_pos q2, if_pos (by omega)]
    · rw [if_neg q2, if_neg (by omega)]
theorem zset_same (z : Zt) (a : Nat) : zset z a (z a) = z := by
  funext i
  unfold zset
  by_cases q : i = a
  · subst q; simp
  · simp [q]
theorem zset_at (z : Zt) (a : Nat) (f : Nat → Int) : zset z a f a = f := by simp [zset]
theorem zset_o {z : Zt} {a i : Nat} {f : Nat → Int} (h : i ≠ a) : zset z a f i = z i := by simp [zset, h]
theorem zup_zset (z : Zt) (a k : Nat) (f : Nat → Int) (x : Int) : zup (zset z a f) a k x = zset z a (fun j => if j = k then x else f j) := by
  funext i
  unfold zup zset
  by_cases q : i = a
  · subst q; simp
  · simp [q]
