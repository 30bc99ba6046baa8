/-! recording, on both sides -/
theorem recM_eq {z w : Zt} (h1 : w 171 = z 171) (h2 : w 169 2 = z 169 2) (h3 : w 170 = z 170) : recM w 171 = recM z 171 ∧ recM w 169 2 = recM z 169 2 := by
  have a1 : mr0 w 171 = mr0 z 171 := by
    unfold mr0
    rw [h2]
    split
    · rw [h1]
      rfl
    · exact h1
  have a2 : mr0 w 169 2 = mr0 z 169 2 := by
    unfold mr0
    rw [h2]
    split
    · rfl
    · exact h2
  unfold recM
  constructor
  · show fcp (mr0 w 171) (w 170) (62 * (mr0 w 169 2).toNat) 0 62 = fcp (mr0 z 171) (z 170) (62 * (mr0 z 169 2).toNat) 0 62
    rw [a1, a2, h3]
  · rw [zup_s, zup_s, a2]
theorem recM_o5 {w : Zt} {j : Nat} (hj : j ≠ 2) : recM w 169 j = w 169 j := by
  have e : recM w 169 j = mr0 w 169 j := by
    unfold recM
    rw [zup_r, if_neg hj, zset_o (by decide)]
  rw [e]
  unfold mr0
  split
  · rw [zup_r, if_neg hj, zset_o (by decide)]
  · rfl
theorem rec_n {z : Zt} (hR : Rel z) : rc0 z 0 2 = mr0 z 169 2 ∧ 0 ≤ rc0 z 0 2 ∧ rc0 z 0 2 ≤ 5 := by
  obtain ⟨-, r2, -, ⟨r4, -⟩, -⟩ := hR
  have h2 := rc0_2 (PJ_PI r2)
  refine ⟨?_, h2⟩
  unfold rc0 mr0
  obtain ⟨-, -, h3, h4⟩ := r2
  by_cases q : 6 ≤ z 0 2
  · rw [if_pos q, if_pos (by omega), drZ_2, zup_s]
  · rw [if_neg q, if_neg (by omega)]
    exact r4
theorem recZ_19 {z : Zt} (h : PI z) : recZ z 19 = rc0 z 19 := by
  have hq := recQ_is h
  unfold recZ
  rw [zup_o (by decide)]
  unfold cpB
  rw [if_neg (by omega)]
theorem recZ_2 (z : Zt) : recZ z 0 2 = rc0 z 0 2 + 1 := by
  unfold recZ
  rw [zup_s]
/-- the recorded part: of a world that has the blocks, counts and rows that a recording leaves -/
theorem rec_ok {z z4 : Zt} (hR : Rel z) (h0 : z4 0 2 = recZ z 0 2) (h19 : z4 19 = recZ z 19) (hb : ∀ q, kd q = 2 → q ≠ 1 → blkE (recZ z) z4 q) (h171 : z4 171 = recM z 171) (h2 : z4 169 2 = recM z 169 2) : PJ z4 ∧ z4 0 2 = z4 169 2 ∧ ∀ i : Nat, (i : Int) < z4 0 2 → RB z4 (z4 19 i).toNat (fun p => z4 171 (62 * i + p)) := by
  have hn := rec_n hR
  obtain ⟨r1, r2, r3, ⟨r4, r5⟩, -⟩ := hR
  have hP := PJ_PI r2
  have hq := recQ_is hP
  have hrc := rc0_19 hP
  have e19 : z4 19 = rc0 z 19 := h19.trans (recZ_19 hP)
  have e2 : recM z 169 2 = mr0 z 169 2 + 1 := by
    unfold recM
    rw [zup_s]
  have hid : ∀ i : Nat, i < 6 → 25 ≤ rc0 z 19 i ∧ rc0 z 19 i < 133 ∧ kd (rc0 z 19 i).toNat = 2 := fun i hi => by
    have h7 := hrc.1 i hi
    refine ⟨h7.1, ?_, h7.2⟩
    unfold rc0
    by_cases q : 6 ≤ z 0 2
    · rw [if_pos q, drZ_19]
      unfold rot
      by_cases q2 : i < 5
      · rw [if_pos q2]
        exact (r2.1 _ (by omega)).2.1
      · rw [if_neg q2, if_pos (by omega)]
        exact (r2.1 0 (by decide)).2.1
    · rw [if_neg q]
      exact (r2.1 i hi).2.1
  refine ⟨⟨by rw [e19]; exact hid, by rw [e19]; exact hrc.2, by rw [h0, recZ_2]; omega, by rw [h0, recZ_2]; omega⟩, by rw [h0, h2, recZ_2, e2, hn.1], fun i hi => ?_⟩
  rw [h0, recZ_2] at hi
  rw [e19, h171]
  have hk := hid i (by omega)
  have e171 : ∀ p : Nat, recM z 171 p = fcp (mr0 z 171) (z 170) (62 * (mr0 z 169 2).toNat) 0 62 p := fun p => rfl
  by_cases qi : (i : Int) = rc0 z 0 2
  · have eq : (rc0 z 19 i).toNat = recQ z := by
      unfold recQ
      rw [show (rc0 z 0 2).toNat = i by omega]
    rw [eq]
    have hbq := hb (recQ z) hq.1 hq.2.1
    refine RB_row (ρ := z 170) (fun p hp => ?_) (RB_cp (a := recQ z) (b := 1) (fun j hj => ?_) r1)
    · show recM z 171 (62 * i + p) = z 170 p
      rw [e171]
      unfold fcp
      rw [if_pos (by omega)]
      exact congrArg (z 170) (by omega)
    · rw [hbq j hj]
      unfold recZ
      rw [zup_o (by omega)]
      unfold cpB
      rw [if_pos (by omega), show recQ z + j - recQ z + 1 = 1 + j by omega]
      exact rc0_o (by omega) (by omega)
  · have hne : (rc0 z 19 i).toNat ≠ recQ z := fun e => by
      have h8 := hrc.2 i (rc0 z 0 2).toNat (by omega) (by omega) (by
        unfold recQ at e
        have := (hrc.1 (rc0 z 0 2).toNat (by omega)).1
        omega)
      omega
    have hne1 : (rc0 z 19 i).toNat ≠ 1 := by omega
    have hbq := hb _ hk.2.2 hne1
    have far := SS_far hk.2.2 hq.1 hne
    have eb : blkE z z4 (rc0 z 19 i).toNat := fun j hj => by
      rw [hbq j hj]
      exact recZ_o (by omega) (by omega) (by omega)
    have e171b : ∀ p : Nat, p < 62 → recM z 171 (62 * i + p) = mr0 z 171 (62 * i + p) := fun p hp => by
      rw [e171]
      unfold fcp
      rw [if_neg (by omega)]
    by_cases q6 : 6 ≤ z 0 2
    · have h5 : rc0 z 0 2 = 5 := by
        unfold rc0
        rw [if_pos q6, drZ_2]
      have ei : rc0 z 19 i = z 19 (i + 1) := by
        unfold rc0
        rw [if_pos q6, drZ_19]
        unfold rot
        rw [if_pos (by omega)]
      rw [ei] at eb ⊢
      refine RB_row (ρ := fun p => z 171 (62 * (i + 1) + p)) (fun p hp => ?_) (RB_blk eb (r5 (i + 1) (by have := r2.2.2.2; omega)))
      show recM z 171 (62 * i + p) = z 171 (62 * (i + 1) + p)
      rw [e171b p hp]
      unfold mr0
      rw [if_pos (by have := r2.2.2.2; omega), zup_o (by decide), zset_at, if_pos (by omega)]
      exact congrArg (z 171) (by omega)
    · have ei : rc0 z 19 i = z 19 i := by
        unfold rc0
        rw [if_neg q6]
      have e2n : rc0 z 0 2 = z 0 2 := by
        unfold rc0
        rw [if_neg q6]
      rw [ei] at eb ⊢
      refine RB_row (ρ := fun p => z 171 (62 * i + p)) (fun p hp => ?_) (RB_blk eb (r5 i (by omega)))
      show recM z 171 (62 * i + p) = z 171 (62 * i + p)
      rw [e171b p hp]
      unfold mr0
      rw [if_neg (by omega)]
/-- what a recording leaves of the slots' blocks -/
theorem recZ_slot {z : Zt} (hR : Rel z) {i : Nat} (hi : i < 2) : blkE z (recZ z) (133 + 18 * i) := fun j hj => by
  have hP := PJ_PI hR.2.1
  have hq := recQ_is hP
  have hn := rec_n hR
  have h9 : recQ z < 133 := by
    have h7 := (rc0_19 hP).1 (rc0 z 0 2).toNat (by omega)
    unfold recQ
    unfold rc0
    by_cases q : 6 ≤ z 0 2
    · rw [if_pos q, drZ_19, drZ_2]
      have := (hR.2.1.1 0 (by decide)).2.1
      have := (hR.2.1.1 0 (by decide)).1
      show (rot (z 19) 5).toNat < 133
      unfold rot
      rw [if_neg (by decide), if_pos rfl]
      omega
    · rw [if_neg q]
      have := hR.2.1.2.2
      have h8 := (hR.2.1.1 (z 0 2).toNat (by omega))
      omega
  have far := SS_far (kd_s2 hi) hq.1 (by omega)
  exact recZ_o (by omega) (by omega) (by omega)
/-- the same for a world: all that a changed state after a recording must show -/
theorem Rel_rec {z z4 : Zt} (hR : Rel z) (h0 : z4 0 2 = recZ z 0 2) (h19 : z4 19 = recZ z 19) (hb : ∀ q, kd q = 2 → q ≠ 1 → blkE (recZ z) z4 q) (h171 : z4 171 = recM z 171) (h2 : z4 169 2 = recM z 169 2)
    (hA : z4 2 0 = 1 ∧ z4 5 0 = 0) (h20 : z4 20 = z 20) (h21 : z4 21 = z 21) (h173 : z4 173 = z 173) (h172 : z4 172 = z 172) (h22 : z4 22 1 = z 22 1) (h23 : z4 23 = z 23) (h7 : z4 169 7 = z 169 7) (h174 : z4 174 = z 174) (hRB : RB z4 1 (z4 170)) : Rel z4 := by
  obtain ⟨p1, p2, p3⟩ := rec_ok hR h0 h19 hb h171 h2
  have hR2 := hR
  obtain ⟨r1, r2, r3, ⟨r4, r5⟩, r6, r7, r8, r9, r10, r11⟩ := hR
  have hRA := recZ_AI (PJ_PI r2) r3
  refine ⟨hRB, p1, fun q hq => ?_, ⟨p2, p3⟩, by rw [h20]; exact r6, by rw [h21, h173]; exact r7, fun i hi hf => ?_, by rw [h22, h23]; exact r9, by rw [h22, h7]; exact r10, by rw [h22, h23, h174]; exact r11⟩
  · by_cases q1 : q = 1
    · rw [q1]
      exact hA
    · have b := hb q hq q1
      rw [b 1 (by decide), b 4 (by decide)]
      exact hRA q hq
  · rw [h21] at hf
    rw [h172]
    refine RB_blk (fun j hj => ?_) (r8 i hi hf)
    rw [hb _ (kd_s2 hi) (by omega) j hj]
    exact recZ_slot hR2 hi j hj
