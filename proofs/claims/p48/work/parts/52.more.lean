/-! a state that agrees: its quarrels -/
theorem blk_quS {z z1 : Zt} {s : Nat} (h : blkE z z1 s) (h10 : z s 3 ≤ 10) (d : Int) : quS z1 s d ↔ quS z s d := by
  have e0 : z1 s = z s := h 0 (by decide)
  have key : ∀ (j : Nat) (a : Int), (((j : Int) < z1 s 3 ∧ onS z1 s (s + 8 + j) d) ∧ ((j : Int) < z1 s 3 ∧ z1 (s + 8 + j) 0 = a)) ↔ (((j : Int) < z s 3 ∧ onS z s (s + 8 + j) d) ∧ ((j : Int) < z s 3 ∧ z (s + 8 + j) 0 = a)) := fun j a => by
    rw [e0]
    by_cases q : (j : Int) < z s 3
    · have e1 := blk_onS h (k := j) (by omega)
      have e2 : z1 (s + 8 + j) = z (s + 8 + j) := by
        rw [show s + 8 + j = s + (8 + j) by omega]
        exact h _ (by omega)
      rw [e1, e2]
    · simp [q]
  unfold quS
  constructor
  · rintro ⟨⟨j, a1⟩, k, b1⟩
    exact ⟨⟨j, (key j 0).mp a1⟩, k, (key k 1).mp b1⟩
  · rintro ⟨⟨j, a1⟩, k, b1⟩
    exact ⟨⟨j, (key j 0).mpr a1⟩, k, (key k 1).mpr b1⟩
theorem tid_or (t : Int) : tid t = 2 ∨ tid t = 5 := by
  unfold tid
  split
  · exact Or.inl rfl
  · exact Or.inr rfl
theorem recZ_tid {z : Zt} (h : PI z) (t : Int) {k : Nat} (hk : k < 3) : recZ z (tid t + k) = z (tid t + k) := by
  rcases tid_or t with q | q
  · rw [q, show 2 + k = 1 + (1 + k) by omega]
    exact recZ_1 h (by omega)
  · rw [q, show 5 + k = 1 + (4 + k) by omega]
    exact recZ_1 h (by omega)
theorem recZ_f {z : Zt} (h : PI z) {k : Nat} (hk : k < 10) : recZ z (9 + k) = z (9 + k) := by
  rw [show 9 + k = 1 + (8 + k) by omega]
  exact recZ_1 h (by omega)
theorem recZ_s {z : Zt} (h : PI z) : recZ z 1 = z 1 := recZ_1 (j := 0) h (by decide)
/-- the best of the first k, by the least count -/
def bwN (Q : Nat → Int) : Nat → Int × Int
  | 0 => (401, -1)
  | k + 1 => if Q k < (bwN Q k).1 then (Q k, (k : Int)) else bwN Q k
theorem bwN_bd {Q : Nat → Int} (hQ : ∀ k, 0 ≤ Q k ∧ Q k ≤ 400) : ∀ k, 0 ≤ (bwN Q k).1 ∧ (bwN Q k).1 ≤ 401 ∧ (0 < k → (bwN Q k).1 ≤ 400) ∧ -1 ≤ (bwN Q k).2 ∧ (bwN Q k).2 < k
  | 0 => by simp [bwN]
  | k + 1 => by
    have h1 := bwN_bd hQ k
    have h2 := hQ k
    simp only [bwN]
    split
    · show 0 ≤ Q k ∧ Q k ≤ 401 ∧ (0 < k + 1 → Q k ≤ 400) ∧ -1 ≤ (k : Int) ∧ (k : Int) < ((k + 1 : Nat) : Int)
      omega
    · omega
theorem bwN_t {Q : Nat → Int} {k : Nat} (h : Q k < (bwN Q k).1) : (bwN Q (k + 1)).1 = Q k ∧ (bwN Q (k + 1)).2 = k := by
  simp only [bwN]
  rw [if_pos h]
  exact ⟨rfl, rfl⟩
theorem bwN_f {Q : Nat → Int} {k : Nat} (h : ¬ Q k < (bwN Q k).1) : bwN Q (k + 1) = bwN Q k := by
  simp only [bwN]
  rw [if_neg h]
/-- quarrels of the next days -/
noncomputable def qwS (z : Zt) (n : Nat) : Int := cntP (fun i => quS z 1 (z 1 6 + i)) n
theorem qwS_blk {z z1 : Zt} (h : blkE z z1 1) (h10 : z 1 3 ≤ 10) (n : Nat) : qwS z1 n = qwS z n := by
  have e0 : z1 1 = z 1 := h 0 (by decide)
  unfold qwS
  rw [e0]
  exact cntP_congr (fun i _ => blk_quS h h10 _)
def barZ (z : Zt) (f : Nat) (w : Int) : Zt := zup z f 3 w
theorem barZ_SI {z : Zt} {k : Nat} {w : Int} (h : SI z 1) (hk : k < 10) (hw : -1 ≤ w ∧ w ≤ 6) : SI (zup z (9 + k) 3 w) 1 := by
  obtain ⟨h1, h2, h3, h4, h5, h6, h7, h8, h9⟩ := h
  have o : ∀ i, i ≠ 9 + k → zup z (9 + k) 3 w i = z i := fun i hi => by simp [zup, hi]
  refine ⟨?_, ?_, ?_, ?_, ?_, ?_, ?_, ?_, fun j hj => ?_⟩
  · unfold TI
    rw [o _ (by omega), o _ (by omega), o _ (by omega)]
    exact h1
  · unfold TI
    rw [o _ (by omega), o _ (by omega), o _ (by omega)]
    exact h2
  · rw [o _ (by omega)]; exact h3
  · rw [o _ (by omega)]; exact h4
  · rw [o _ (by omega)]; exact h5
  · rw [o _ (by omega)]; exact h6
  · rw [o _ (by omega)]; exact h7
  · rw [o _ (by omega)]; exact h8
  · have h := h9 j hj
    by_cases q : j = k
    · subst q
      unfold FI at h ⊢
      rw [show 1 + 8 + j = 9 + j by omega] at h ⊢
      have e : ∀ a, a ≠ 3 → zup z (9 + j) 3 w (9 + j) a = z (9 + j) a := fun a ha => by simp [zup, ha]
      rw [e 0 (by decide), e 1 (by decide), e 2 (by decide), zup_s]
      omega
    · unfold FI
      rw [o _ (by omega)]
      exact h
theorem ag24_refl (z : Zt) : ag24 z z := fun _ _ => rfl
theorem ag24_put {z z1 : Zt} {i k : Nat} {a b : Int} (h : ag24 (zup z i k a) z1) (hi : i ≠ 24) : ag24 (zup z i k b) (zup z1 i k b) := fun c hc => by
  have h1 := h c hc
  funext j
  unfold zup at h1 ⊢
  by_cases q : c = i
  · subst q
    rw [if_pos rfl] at h1
    rw [if_pos rfl, if_pos rfl]
    by_cases q2 : j = k
    · rw [if_pos q2, if_pos q2]
    · rw [if_neg q2, if_neg q2, h1]
      simp [q2]
  · rw [if_neg q] at h1
    rw [if_neg q, if_neg q, h1]
theorem TI_eq {z w : Zt} {t : Nat} (h0 : w t = z t) (h1 : w (t + 1) = z (t + 1)) (h2 : w (t + 2) = z (t + 2)) : (TI z t → TI w t) ∧ (∀ d, calT w t d = calT z t d) ∧ ∀ d, fdT w t d = fdT z t d := by
  unfold TI calT fdT
  rw [h0, h1, h2]
  exact ⟨id, fun _ => rfl, fun _ => rfl⟩
theorem putZ_o (z : Zt) (c : Int) {i : Nat} (h1 : i ≠ 22) (h2 : i ≠ 23) : putZ z c i = z i := by simp [putZ, zup, h1, h2]
theorem pnZ_o (z : Zt) (n : Int) {i : Nat} (h1 : i ≠ 22) (h2 : i ≠ 23) : pnZ z n i = z i := by
  unfold pnZ
  split
  · rw [putZ_o _ _ h1 h2, putZ_o _ _ h1 h2]
  · rw [putZ_o _ _ h1 h2]
theorem pnZ_len (z : Zt) (n : Int) : z 22 1 + 1 ≤ pnZ z n 22 1 ∧ pnZ z n 22 1 ≤ z 22 1 + 2 := by
  unfold pnZ
  split
  · rw [putZ_len, putZ_len]; omega
  · rw [putZ_len]; omega
/-- the numbers of a text that fits so far -/
theorem num_is {f : Nat → Int} : ∀ i : Nat, (∀ j : Nat, j < i → fitA f j) → 0 < i → prt f i = (dt f i).1 ∧ 1 ≤ (dt f i).1 ∧ (dt f i).1 ≤ 3 ∧ 0 ≤ (dt f i).2 ∧ ∀ w : Int, ((w < (dt f i).1 → 1 ≤ w → 1 ≤ nuN f w i ∧ nuN f w i ≤ 99) ∧ ((dt f i).1 < w → nuN f w i = 0) ∧ (w = (dt f i).1 → ((dt f i).2 = 0 ∧ nuN f w i = 0) ∨ ((dt f i).2 = 1 ∧ 1 ≤ nuN f w i ∧ nuN f w i ≤ 9) ∨ ((dt f i).2 = 2 ∧ 10 ≤ nuN f w i ∧ nuN f w i ≤ 99) ∨ ((dt f i).2 = 3 ∧ w = 3 ∧ 100 ≤ nuN f w i ∧ nuN f w i ≤ 999)))
  | 0, _, h => absurd h (by omega)
  | i + 1, hf, _ => by
    by_cases q : i = 0
    · subst q
      have e := dt_dot (f := f) (i := 0) (Or.inl rfl)
      have e1 : (dt f (0 + 1)).1 = 1 := e.1
      have e2 : (dt f (0 + 1)).2 = 0 := e.2
      rw [e1, e2]
      refine ⟨rfl, by omega, by omega, by omega, fun w => ⟨fun a b => by omega, fun _ => rfl, fun _ => Or.inl ⟨rfl, rfl⟩⟩⟩
    · obtain ⟨h1, h2, h3, h4, h5⟩ := num_is i (fun j hj => hf j (by omega)) (by omega)
      have hfi := hf i (by omega)
      unfold fitA fitC at hfi
      rw [if_neg (by omega)] at hfi
      have ep : prt f (i + 1) = (if f i = 46 then prt f i + 1 else prt f i) := by
        simp only [prt]
        rw [if_neg q]
      have en : ∀ w, nuN f w (i + 1) = (if f i = 46 then nuN f w i else if prt f i = w then nuN f w i * 10 + f i - 48 else nuN f w i) := fun w => by
        simp only [nuN]
        rw [if_neg q]
      by_cases q2 : f i = 46
      · rw [if_pos q2] at hfi
        have e := dt_dot (f := f) (i := i) (Or.inr q2)
        rw [ep, if_pos q2, e.1, e.2]
        refine ⟨by omega, by omega, by omega, by omega, fun w => ?_⟩
        rw [en, if_pos q2]
        obtain ⟨a1, a2, a3⟩ := h5 w
        refine ⟨fun b1 b2 => ?_, fun b1 => a2 (by omega), fun b1 => Or.inl ⟨rfl, a2 (by omega)⟩⟩
        by_cases q3 : w = (dt f i).1
        · rcases a3 q3 with b | b | b | b <;> omega
        · exact a1 (by omega) b2
      · rw [if_neg q2] at hfi
        have e := dt_dig (f := f) (i := i) (by omega)
        rw [ep, if_neg q2, e.1, e.2]
        refine ⟨by omega, by omega, by omega, by omega, fun w => ?_⟩
        rw [en, if_neg q2]
        obtain ⟨a1, a2, a3⟩ := h5 w
        refine ⟨fun b1 b2 => ?_, fun b1 => ?_, fun b1 => ?_⟩
        · rw [if_neg (by omega)]
          exact a1 b1 b2
        · rw [if_neg (by omega)]
          exact a2 b1
        · rw [if_pos (by omega)]
          have a3 := a3 b1
          by_cases q5 : (dt f i).1 = 3
          · rw [if_pos q5] at hfi
            by_cases q6 : (dt f i).2 = 0
            · rw [if_pos q6] at hfi
              omega
            · rw [if_neg q6] at hfi
              omega
          · rw [if_neg q5] at hfi
            by_cases q6 : (dt f i).2 = 0
            · rw [if_pos q6] at hfi
              omega
            · rw [if_neg q6] at hfi
              omega
theorem num_ok {f : Nat → Int} {n : Int} (h : FE f n (-1)) (hn : 0 ≤ n) : 1 ≤ n ∧ (1 ≤ nuN f 1 n.toNat ∧ nuN f 1 n.toNat ≤ 99) ∧ (1 ≤ nuN f 2 n.toNat ∧ nuN f 2 n.toNat ≤ 99) ∧ (1 ≤ nuN f 3 n.toNat ∧ nuN f 3 n.toNat ≤ 999) := by
  rcases h with ⟨i, -, a, -⟩ | ⟨a, b⟩
  · omega
  · by_cases q : (dt f n.toNat).1 = 3 ∧ 0 < (dt f n.toNat).2
    · have hb := dt_bd f n.toNat
      have h1 := num_is n.toNat (fun j hj => a j (by omega)) (by omega)
      have h2 := h1.2.2.2.2
      have h3 := (h2 1).1
      have h4 := (h2 2).1
      have h5 := (h2 3).2.2
      omega
    · rw [if_neg q] at b
      omega

