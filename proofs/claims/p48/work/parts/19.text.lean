/-! the text: part and digits behind so many characters -/
def dt (f : Nat → Int) : Nat → Int × Int
  | 0 => (0, 0)
  | i + 1 => if (dt f i).1 = 0 ∨ f i = 46 then ((dt f i).1 + 1, 0) else ((dt f i).1, (dt f i).2 + 1)
def fitC (c p d : Int) : Prop := if p = 0 then (c = 65 ∨ c = 66) else if c = 46 then (p ≠ 3 ∧ 0 < d) else ((if d = 0 then 49 else 48) ≤ c ∧ c ≤ 57 ∧ d < (if p = 3 then 3 else 2))
theorem dt_bd (f : Nat → Int) : ∀ i : Nat, 0 ≤ (dt f i).1 ∧ (dt f i).1 ≤ i ∧ 0 ≤ (dt f i).2 ∧ (dt f i).2 ≤ i
  | 0 => by simp [dt]
  | i + 1 => by
    have := dt_bd f i
    simp only [dt]
    split
    · show 0 ≤ (dt f i).1 + 1 ∧ (dt f i).1 + 1 ≤ ((i + 1 : Nat) : Int) ∧ (0 : Int) ≤ 0 ∧ (0 : Int) ≤ ((i + 1 : Nat) : Int)
      omega
    · show 0 ≤ (dt f i).1 ∧ (dt f i).1 ≤ ((i + 1 : Nat) : Int) ∧ 0 ≤ (dt f i).2 + 1 ∧ (dt f i).2 + 1 ≤ ((i + 1 : Nat) : Int)
      omega
theorem dt_dot {f : Nat → Int} {i : Nat} (h : (dt f i).1 = 0 ∨ f i = 46) : (dt f (i + 1)).1 = (dt f i).1 + 1 ∧ (dt f (i + 1)).2 = 0 := by
  simp only [dt]
  rw [if_pos h]
  exact ⟨rfl, rfl⟩
theorem dt_dig {f : Nat → Int} {i : Nat} (h : ¬ ((dt f i).1 = 0 ∨ f i = 46)) : (dt f (i + 1)).1 = (dt f i).1 ∧ (dt f (i + 1)).2 = (dt f i).2 + 1 := by
  simp only [dt]
  rw [if_neg h]
  exact ⟨rfl, rfl⟩
def fitA (f : Nat → Int) (j : Nat) : Prop := fitC (f j) (dt f j).1 (dt f j).2
/-- x is the place of the first error of the n characters f -/
def FE (f : Nat → Int) (n x : Int) : Prop := (∃ i : Nat, (i : Int) < n ∧ x = i ∧ ¬ fitA f i ∧ ∀ j : Nat, j < i → fitA f j) ∨ ((∀ j : Nat, (j : Int) < n → fitA f j) ∧ x = (if (dt f n.toNat).1 = 3 ∧ 0 < (dt f n.toNat).2 then -1 else n))
theorem FE_one {f : Nat → Int} {n x y : Int} (h : FE f n x) (h2 : FE f n y) : x = y := by
  rcases h with ⟨i, a1, a2, a3, a4⟩ | ⟨a1, a2⟩ <;> rcases h2 with ⟨k, b1, b2, b3, b4⟩ | ⟨b1, b2⟩
  · rcases Nat.lt_trichotomy i k with q | q | q
    · exact absurd (b4 i q) a3
    · rw [a2, b2, q]
    · exact absurd (a4 k q) b3
  · exact absurd (b1 i a1) a3
  · exact absurd (a1 k b1) b3
  · rw [a2, b2]
theorem FE_congr {f g : Nat → Int} {n x : Int} (h : ∀ j : Nat, (j : Int) < n → f j = g j) (hx : FE f n x) : FE g n x := by
  have e : ∀ i : Nat, (i : Int) ≤ n → dt f i = dt g i := fun i => by
    induction i with
    | zero => intro _; rfl
    | succ i ih =>
      intro hi
      simp only [dt]
      rw [ih (by omega), h i (by omega)]
  have e2 : ∀ j : Nat, (j : Int) < n → (fitA f j ↔ fitA g j) := fun j hj => by
    unfold fitA
    rw [e j (by omega), h j hj]
  rcases hx with ⟨i, a1, a2, a3, a4⟩ | ⟨a1, a2⟩
  · exact Or.inl ⟨i, a1, a2, fun q => a3 ((e2 i a1).mpr q), fun j hj => (e2 j (by omega)).mp (a4 j hj)⟩
  · refine Or.inr ⟨fun j hj => (e2 j hj).mp (a1 j hj), ?_⟩
    rw [a2]
    by_cases q : 0 ≤ n
    · rw [e n.toNat (by omega)]
    · have e9 : n.toNat = 0 := by omega
      rw [e9]
      rfl
def TX (f : Nat → Int) (n : Int) : Prop := 0 ≤ n ∧ n ≤ 80 ∧ ∀ i : Nat, (i : Int) < n → 33 ≤ f i ∧ f i ≤ 126
def prt (f : Nat → Int) : Nat → Int
  | 0 => 1
  | i + 1 => if i = 0 then 1 else if f i = 46 then prt f i + 1 else prt f i
def nuN (f : Nat → Int) (w : Int) : Nat → Int
  | 0 => 0
  | i + 1 => if i = 0 then 0 else if f i = 46 then nuN f w i else if prt f i = w then nuN f w i * 10 + f i - 48 else nuN f w i
theorem prt_bd (f : Nat → Int) : ∀ i : Nat, 1 ≤ prt f i ∧ prt f i ≤ i + 1
  | 0 => by simp [prt]
  | i + 1 => by
    have := prt_bd f i
    simp only [prt]
    split
    · omega
    · split <;> omega
def putZ (z : Zt) (c : Int) : Zt := zup (zup z 23 (z 22 1).toNat c) 22 1 (z 22 1 + 1)
def pnZ (z : Zt) (n : Int) : Zt := if 10 ≤ n then putZ (putZ z (48 + n / 10)) (48 + n % 10) else putZ z (48 + n % 10)
theorem putZ_len (z : Zt) (c : Int) : putZ z c 22 1 = z 22 1 + 1 := by simp [putZ, zup]
