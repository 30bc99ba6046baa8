theorem z0_19 (i : Nat) : z0 19 i = 25 + 18 * (i : Int) := by
  unfold z0
  rw [if_neg (by decide), if_neg (by decide), if_neg (by decide), if_pos (by decide)]
theorem z0_SI : SI z0 1 := by
  have hF : ∀ k, k < 10 → (z0 (1 + 8 + k) 0 = 0 ∨ z0 (1 + 8 + k) 0 = 1) ∧ 1 ≤ z0 (1 + 8 + k) 1 ∧ z0 (1 + 8 + k) 1 ≤ 12 ∧ 1 ≤ z0 (1 + 8 + k) 2 ∧ z0 (1 + 8 + k) 2 ≤ 31 ∧ -1 ≤ z0 (1 + 8 + k) 3 ∧ z0 (1 + 8 + k) 3 ≤ 6 := by decide +kernel
  have g : ∀ t : Nat, z0 t 3 = 0 → GI (z0 t 3) (z0 (t + 1)) (z0 (t + 2)) := fun t e => by
    rw [e]
    exact ⟨by decide, by decide, fun k hk => absurd hk (by omega), fun k hk => absurd hk (by omega)⟩
  exact ⟨⟨Or.inr (by decide +kernel), g _ (by decide +kernel)⟩, ⟨Or.inl (by decide +kernel), g _ (by decide +kernel)⟩, by decide +kernel, by decide +kernel, by decide +kernel, by decide +kernel, by decide +kernel, by decide +kernel, fun k hk => hF k hk⟩
theorem z0_RB : RB z0 1 (z0 170) := by
  have e14 : z0 170 14 = 0 := by decide +kernel
  refine ⟨z0_SI, fun t ht => ?_, by decide +kernel, fun j hj => absurd hj (by omega)⟩
  rcases ht with rfl | rfl
  · have e : mN (z0 170) 0 = 0 := by decide +kernel
    rw [e]
    exact ⟨by decide +kernel, by decide +kernel, fun k hk => absurd hk (by omega)⟩
  · have e : mN (z0 170) 1 = 0 := by decide +kernel
    rw [e]
    exact ⟨by decide +kernel, by decide +kernel, fun k hk => absurd hk (by omega)⟩
theorem Rel_z0 : Rel z0 := by
  have e02 : z0 0 2 = 0 := by decide +kernel
  have e221 : z0 22 1 = 0 := by decide +kernel
  have hfl : ∀ i : Nat, i < 2 → z0 21 i = z0 173 i ∧ z0 21 i = 0 := by decide +kernel
  have hA : ∀ j : Nat, j < 8 → z0 (25 + 18 * j + 1) 0 = 1 ∧ z0 (25 + 18 * j + 4) 0 = 0 := by decide +kernel
  have hK : ∀ i : Nat, i < 6 → kd (25 + 18 * (i : Int)).toNat = 2 := by decide +kernel
  refine ⟨z0_RB, ⟨fun i hi => ?_, fun i j _ _ e => ?_, by rw [e02]; decide, by rw [e02]; decide⟩, fun q hq => ?_, ⟨by decide +kernel, fun i hi => absurd hi (by omega)⟩, by decide +kernel, fun i hi => ⟨(hfl i hi).1, Or.inl (hfl i hi).2⟩, fun i hi h1 => absurd ((hfl i hi).2.symm.trans h1) (by decide), ⟨by rw [e221]; decide, by rw [e221]; decide, fun i hi => absurd hi (by omega)⟩, by decide +kernel, fun j hj => absurd hj (by omega)⟩
  · rw [z0_19]
    exact ⟨by omega, by omega, hK i hi⟩
  · rw [z0_19, z0_19] at e
    omega
  · rcases S_base hq with rfl | ⟨j, hj, rfl⟩
    · decide +kernel
    · exact hA j hj

