/-! the object's own world: the state at 1, six recorded ones, two slots -/
def tid (t : Int) : Nat := if t = 0 then 2 else 5
theorem tid_is {t : Int} : (if t = 0 then 1 + 1 else 1 + 4 : Nat) = tid t := rfl
theorem TI_tid {z : Zt} (h : SI z 1) (t : Int) : TI z (tid t) := by
  unfold tid
  split
  · exact h.1
  · exact h.2.1
theorem kd_tid (t : Int) : kd (tid t) = 3 := by
  unfold tid
  split <;> decide
theorem isA_tid {z : Zt} (h : SI z 1) {t : Int} (ht : 0 ≤ t ∧ t ≤ 1) : z (tid t) 0 = 1 - t := by
  unfold tid
  split
  · rename_i q
    have := h.2.2.1
    rw [q]
    exact this
  · have := h.2.2.2.1
    have e : t = 1 := by omega
    rw [e]
    exact this
def PI (z : Zt) : Prop := (∀ i : Nat, i < 6 → 25 ≤ z 19 i ∧ kd (z 19 i).toNat = 2) ∧ (∀ i j : Nat, i < 6 → j < 6 → z 19 i = z 19 j → i = j) ∧ 0 ≤ z 0 2 ∧ z 0 2 ≤ 6
def AI (z : Zt) : Prop := ∀ q : Nat, kd q = 2 → z (q + 1) 0 = 1 ∧ z (q + 4) 0 = 0
def rot (f : Nat → Int) : Nat → Int := fun i => if i < 5 then f (i + 1) else if i = 5 then f 0 else f i
def drZ (z : Zt) : Zt := zup (zset z 19 (rot (z 19))) 0 2 5
def rc0 (z : Zt) : Zt := if 6 ≤ z 0 2 then drZ z else z
def recQ (z : Zt) : Nat := (rc0 z 19 (rc0 z 0 2).toNat).toNat
def recZ (z : Zt) : Zt := zup (cpB (rc0 z) (recQ z) 1) 0 2 (rc0 z 0 2 + 1)
theorem drZ_o {z : Zt} {i : Nat} (h0 : i ≠ 0) (h1 : i ≠ 19) : drZ z i = z i := by simp [drZ, zup, zset, h0, h1]
theorem drZ_19 (z : Zt) : drZ z 19 = rot (z 19) := by simp [drZ, zup, zset]
theorem drZ_2 (z : Zt) : drZ z 0 2 = 5 := by simp [drZ, zup]
theorem rc0_o {z : Zt} {i : Nat} (h0 : i ≠ 0) (h1 : i ≠ 19) : rc0 z i = z i := by
  unfold rc0
  split
  · exact drZ_o h0 h1
  · rfl
theorem rc0_2 {z : Zt} (h : PI z) : 0 ≤ rc0 z 0 2 ∧ rc0 z 0 2 ≤ 5 := by
  obtain ⟨-, -, h1, h2⟩ := h
  unfold rc0
  split
  · rw [drZ_2]; omega
  · omega
theorem rc0_19 {z : Zt} (h : PI z) : (∀ i : Nat, i < 6 → 25 ≤ rc0 z 19 i ∧ kd (rc0 z 19 i).toNat = 2) ∧ ∀ i j : Nat, i < 6 → j < 6 → rc0 z 19 i = rc0 z 19 j → i = j := by
  obtain ⟨h1, h2, -, -⟩ := h
  unfold rc0
  split
  · rw [drZ_19]
    constructor
    · intro i hi
      unfold rot
      split
      · exact h1 _ (by omega)
      · split
        · exact h1 0 (by decide)
        · exact h1 _ hi
    · intro i j hi hj e
      unfold rot at e
      split at e
      · split at e
        · have := h2 _ _ (by omega) (by omega) e
          omega
        · rw [if_pos (by omega)] at e
          have := h2 _ _ (by omega) (by omega) e
          omega
      · rw [if_pos (by omega)] at e
        split at e
        · have := h2 _ _ (by omega) (by omega) e
          omega
        · omega
  · exact ⟨h1, h2⟩
theorem recQ_is {z : Zt} (h : PI z) : kd (recQ z) = 2 ∧ recQ z ≠ 1 ∧ 25 ≤ recQ z := by
  have h1 := rc0_2 h
  have h2 := (rc0_19 h).1 (rc0 z 0 2).toNat (by omega)
  unfold recQ
  exact ⟨h2.2, by omega, by omega⟩
theorem AI_rc0 {z : Zt} (h : AI z) : AI (rc0 z) := fun q hq => by
  have h1 := (S_ne (j := 1) hq (by decide))
  have h4 := (S_ne (j := 4) hq (by decide))
  have n1 : q + 1 ≠ 19 ∧ q + 4 ≠ 19 := by
    rcases S_base hq with e | ⟨j, -, e⟩ <;> omega
  rw [rc0_o h1.2.1 n1.1, rc0_o h4.2.1 n1.2]
  exact h q hq
/-- what a recording leaves untouched: all but the counter, the row of the recorded and the block written -/
theorem recZ_o {z : Zt} {i : Nat} (h0 : i ≠ 0) (h1 : i ≠ 19) (h2 : i < recQ z ∨ recQ z + 18 ≤ i) : recZ z i = z i := by
  have e : recZ z i = cpB (rc0 z) (recQ z) 1 i := by simp [recZ, zup, h0]
  rw [e]
  unfold cpB
  rw [if_neg (by omega)]
  exact rc0_o h0 h1
theorem recZ_1 {z : Zt} (h : PI z) {j : Nat} (hj : j < 18) : recZ z (1 + j) = z (1 + j) := by
  have := recQ_is h
  exact recZ_o (by omega) (by omega) (Or.inl (by omega))
theorem recZ_blk {z : Zt} (h : PI z) : blkE z (recZ z) 1 := fun j hj => recZ_1 h hj
