theorem isSet_yes {Q : Nat → Prop} {k v : Int} (hk : 0 ≤ k) (h : isSet (fun j => ((j : Int) < k ∧ Q j) ∨ j = k.toNat) v) (hq : Q k.toNat) : isSet (fun j => (j : Int) < k + 1 ∧ Q j) v := by
  refine isSet_congr h (fun j => ?_)
  constructor
  · rintro (⟨a, b⟩ | rfl)
    · exact ⟨by omega, b⟩
    · exact ⟨by omega, hq⟩
  · rintro ⟨a, b⟩
    by_cases q : (j : Int) < k
    · exact Or.inl ⟨q, b⟩
    · exact Or.inr (by omega)
theorem isSet_no {Q : Nat → Prop} {k v : Int} (hk : 0 ≤ k) (h : isSet (fun j => (j : Int) < k ∧ Q j) v) (hq : ¬ Q k.toNat) : isSet (fun j => (j : Int) < k + 1 ∧ Q j) v := by
  refine isSet_congr h (fun j => ?_)
  constructor
  · rintro ⟨a, b⟩
    exact ⟨by omega, b⟩
  · rintro ⟨a, b⟩
    by_cases q : (j : Int) < k
    · exact ⟨q, b⟩
    · have e : j = k.toNat := by omega
      exact absurd (e ▸ b) hq
