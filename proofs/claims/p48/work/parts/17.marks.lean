/-! marking days: by years -/
theorem mk_skip {A : Nat → Prop} {K : Int → Int} {k : Nat} {y0 x d v : Int} (h : isSet (fun j => A j ∨ (j = k ∧ ∃ y, y0 ≤ y ∧ y < x ∧ K y = d)) v) (hx : K x ≠ d) : isSet (fun j => A j ∨ (j = k ∧ ∃ y, y0 ≤ y ∧ y < x + 1 ∧ K y = d)) v := by
  refine isSet_congr h (fun j => ?_)
  constructor
  · rintro (a | ⟨a, y, b1, b2, b3⟩)
    · exact Or.inl a
    · exact Or.inr ⟨a, y, b1, by omega, b3⟩
  · rintro (a | ⟨a, y, b1, b2, b3⟩)
    · exact Or.inl a
    · by_cases q : y < x
      · exact Or.inr ⟨a, y, b1, q, b3⟩
      · have e : y = x := by omega
        rw [e] at b3
        exact absurd b3 hx
theorem mk_hit {A : Nat → Prop} {K : Int → Int} {k : Nat} {y0 x d v : Int} (h : isSet (fun j => (A j ∨ (j = k ∧ ∃ y, y0 ≤ y ∧ y < x ∧ K y = d)) ∨ j = k) v) (hy : y0 ≤ x) (hx : K x = d) : isSet (fun j => A j ∨ (j = k ∧ ∃ y, y0 ≤ y ∧ y < x + 1 ∧ K y = d)) v := by
  refine isSet_congr h (fun j => ?_)
  constructor
  · rintro ((a | ⟨a, y, b1, b2, b3⟩) | a)
    · exact Or.inl a
    · exact Or.inr ⟨a, y, b1, by omega, b3⟩
    · exact Or.inr ⟨a, x, hy, by omega, hx⟩
  · rintro (a | ⟨a, -⟩)
    · exact Or.inl (Or.inl a)
    · exact Or.inr a
theorem mk_begin {A : Nat → Prop} {K : Int → Int} {k : Nat} {y0 d v : Int} (h : isSet A v) : isSet (fun j => A j ∨ (j = k ∧ ∃ y, y0 ≤ y ∧ y < y0 ∧ K y = d)) v := by
  refine isSet_congr h (fun j => ⟨Or.inl, ?_⟩)
  rintro (a | ⟨-, y, b1, b2, -⟩)
  · exact a
  · omega
theorem mk_done {O : Nat → Prop} {K : Int → Int} {kk : Int} {y0 x d v : Int} (h : isSet (fun j => ((j : Int) < kk ∧ O j) ∨ (j = kk.toNat ∧ ∃ y, y0 ≤ y ∧ y < x ∧ K y = d)) v) (hk : 0 ≤ kk) (ho : O kk.toNat ↔ ∃ y, y0 ≤ y ∧ y < x ∧ K y = d) : isSet (fun j => (j : Int) < kk + 1 ∧ O j) v := by
  refine isSet_congr h (fun j => ?_)
  constructor
  · rintro (⟨a, b⟩ | ⟨a, b⟩)
    · exact ⟨by omega, b⟩
    · rw [a]
      exact ⟨by omega, ho.mpr b⟩
  · rintro ⟨a, b⟩
    by_cases q : (j : Int) < kk
    · exact Or.inl ⟨q, b⟩
    · have e : j = kk.toNat := by omega
      rw [e] at b
      exact Or.inr ⟨e, ho.mp b⟩
/-- agreement but for the row of the days -/
def ag24 (z z1 : Zt) : Prop := ∀ a : Nat, a ≠ 24 → z1 a = z a
theorem ag24_blk {z z1 : Zt} {s : Nat} (h : ag24 z z1) (hs : kd s = 2) : blkE z z1 s := fun j hj => h _ (S_ne hs hj).1
theorem ag24_s {z z1 : Zt} {s : Nat} (h : ag24 z z1) (hs : kd s = 2) : z1 s = z s := by
  have := (S_ne (j := 0) hs (by decide)).1
  exact h s this
theorem ag24_up {z z1 : Zt} {k : Nat} {x : Int} (h : ag24 z z1) : ag24 z (zup z1 24 k x) := fun a ha => by
  have : zup z1 24 k x a = z1 a := by simp [zup, ha]
  rw [this]
  exact h a ha
theorem zup24_s (z : Zt) (k : Nat) (x : Int) : zup z 24 k x 24 k = x := by simp [zup]
theorem zup24_n (z : Zt) {k j : Nat} (x : Int) (h : j ≠ k) : zup z 24 k x 24 j = z 24 j := by simp [zup, h]
/-- both towns keep a feast on the day -/
def quS (z : Zt) (s : Nat) (d : Int) : Prop := (∃ j : Nat, ((j : Int) < z s 3 ∧ onS z s (s + 8 + j) d) ∧ ((j : Int) < z s 3 ∧ z (s + 8 + j) 0 = 0)) ∧ ∃ j : Nat, ((j : Int) < z s 3 ∧ onS z s (s + 8 + j) d) ∧ ((j : Int) < z s 3 ∧ z (s + 8 + j) 0 = 1)
theorem cntP_y {Q : Nat → Prop} {x : Int} (hx : 0 ≤ x) (h : Q x.toNat) : cntP Q (x + 1).toNat = cntP Q x.toNat + 1 := by
  rw [show (x + 1).toNat = x.toNat + 1 by omega]
  simp only [cntP]
  rw [ind_t h]
theorem cntP_n {Q : Nat → Prop} {x : Int} (hx : 0 ≤ x) (h : ¬ Q x.toNat) : cntP Q (x + 1).toNat = cntP Q x.toNat := by
  rw [show (x + 1).toNat = x.toNat + 1 by omega]
  simp only [cntP]
  rw [ind_f h]
  omega
theorem not_all {P : Nat → Prop} (h : ¬ ∀ j, ¬ P j) : ∃ j, P j := Classical.byContradiction fun q => h fun j hj => q ⟨j, hj⟩
def sumN (f : Nat → Int) : Nat → Int
  | 0 => 0
  | n + 1 => sumN f n + f n
theorem sumN_s {f : Nat → Int} {x : Int} (hx : 0 ≤ x) : sumN f (x + 1).toNat = sumN f x.toNat + f x.toNat := by
  rw [show (x + 1).toNat = x.toNat + 1 by omega]
  rfl
theorem sumN_congr {f g : Nat → Int} : ∀ {n : Nat}, (∀ j, j < n → f j = g j) → sumN f n = sumN g n
  | 0, _ => rfl
  | n + 1, h => by
    simp only [sumN]
    rw [sumN_congr (fun j hj => h j (by omega)), h n (by omega)]
/-- a state whose counts have grown -/
def psZ (z : Zt) (s : Nat) (a b c : Int) : Zt := fun i => if i = s + 1 then (fun j => if j = 4 then z (s + 1) 4 + a else z (s + 1) j) else if i = s + 4 then (fun j => if j = 4 then z (s + 4) 4 + b else z (s + 4) j) else if i = s then (fun j => if j = 8 then z s 8 + c else z s j) else z i
theorem psZ_0 (z : Zt) (s : Nat) : psZ z s 0 0 0 = z := by
  funext i j
  unfold psZ
  by_cases q1 : i = s + 1
  · subst q1
    by_cases q : j = 4
    · subst q; simp
    · simp [q]
  · by_cases q2 : i = s + 4
    · subst q2
      by_cases q : j = 4
      · subst q; simp
      · simp [q]
    · by_cases q3 : i = s
      · subst q3
        by_cases q : j = 8
        · subst q; simp
        · simp [q]
      · simp [q1, q2, q3]
theorem psZ_A (z : Zt) (s : Nat) (a b c x : Int) : zup (psZ z s a b c) (s + 1) 4 (psZ z s a b c (s + 1) 4 + x) = psZ z s (a + x) b c := by
  funext i j
  unfold psZ zup
  by_cases q1 : i = s + 1
  · subst q1
    by_cases q : j = 4
    · subst q; simp; omega
    · simp [q]
  · simp [q1]
theorem psZ_B (z : Zt) (s : Nat) (a b c x : Int) : zup (psZ z s a b c) (s + 4) 4 (psZ z s a b c (s + 4) 4 + x) = psZ z s a (b + x) c := by
  funext i j
  unfold psZ zup
  by_cases q1 : i = s + 4
  · subst q1
    by_cases q : j = 4
    · subst q; simp; omega
    · simp [q]
  · simp [q1]
theorem psZ_C (z : Zt) (s : Nat) (a b c x : Int) : zup (psZ z s a b c) s 8 (psZ z s a b c s 8 + x) = psZ z s a b (c + x) := by
  funext i j
  unfold psZ zup
  by_cases q1 : i = s
  · subst q1
    by_cases q : j = 8
    · subst q; simp; omega
    · simp [q]
  · simp [q1]
theorem psZ_o {z : Zt} {s i : Nat} {a b c : Int} (h1 : i ≠ s + 1) (h2 : i ≠ s + 4) (h3 : i ≠ s) : psZ z s a b c i = z i := by
  unfold psZ
  rw [if_neg h1, if_neg h2, if_neg h3]
theorem psZ_5 {z : Zt} {s : Nat} {a b c : Int} : psZ z s a b c s 5 = z s 5 ∧ psZ z s a b c s 3 = z s 3 := by
  unfold psZ
  rw [if_neg (by omega), if_neg (by omega), if_pos rfl]
  exact ⟨rfl, rfl⟩
