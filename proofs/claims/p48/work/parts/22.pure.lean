/-! truth as a number; the first of a span -/
theorem ind_v {p : Prop} {v : Int} (h : v = ind p) : (v = 0 ∨ v = 1) ∧ (v = 0 ↔ ¬ p) := by
  rw [h]
  refine ⟨?_, ind_0⟩
  have := ind_bd p
  omega
theorem ind_y {p : Prop} {v : Int} (h : v = ind p) (h0 : ¬ v = 0) : p := Classical.byContradiction (fun q => h0 ((ind_v h).2.mpr q))
theorem ind_n {p : Prop} {v : Int} (h : v = ind p) (h0 : v = 0) : ¬ p := (ind_v h).2.mp h0
theorem zup_r (z : Zt) (i k j : Nat) (x : Int) : zup z i k x i j = if j = k then x else z i j := by simp [zup]
theorem zup_o {z : Zt} {i a : Nat} (h : a ≠ i) (k : Nat) (x : Int) : zup z i k x a = z a := by simp [zup, h]
theorem zup_zup (z : Zt) (i k : Nat) (x y : Int) : zup (zup z i k x) i k y = zup z i k y := by
  funext a j
  unfold zup
  by_cases q : a = i
  · subst q
    rw [if_pos rfl, if_pos rfl, if_pos rfl]
    by_cases q2 : j = k
    · rw [if_pos q2, if_pos q2]
    · rw [if_neg q2, if_neg q2, if_neg q2]
  · rw [if_neg q, if_neg q, if_neg q]
theorem zup_c {z : Zt} {i k a b : Nat} {x y : Int} (h : i ≠ a) : zup (zup z i k x) a b y = zup (zup z a b y) i k x := by
  funext c j
  unfold zup
  by_cases q : c = i
  · subst q
    simp [h]
  · by_cases q2 : c = a
    · subst q2
      simp [q, Ne.symm h]
    · simp [q, q2]
/-- the first of a span -/
def FD (P : Int → Prop) (fr to x : Int) : Prop := (x = -1 ∧ ∀ d, fr ≤ d → d ≤ to → ¬ P d) ∨ (fr ≤ x ∧ x ≤ to ∧ P x ∧ ∀ d, fr ≤ d → d < x → ¬ P d)
theorem FD_one {P Q : Int → Prop} {fr to x y : Int} (h0 : 0 ≤ fr) (e : ∀ d, fr ≤ d → d ≤ to → (P d ↔ Q d)) (h : FD P fr to x) (h2 : FD Q fr to y) : x = y := by
  rcases h with ⟨a1, a2⟩ | ⟨a1, a2, a3, a4⟩ <;> rcases h2 with ⟨b1, b2⟩ | ⟨b1, b2, b3, b4⟩
  · omega
  · exact absurd ((e y b1 b2).mpr b3) (a2 y b1 b2)
  · exact absurd ((e x a1 a2).mp a3) (b2 x a1 a2)
  · rcases Int.lt_trichotomy x y with q | q | q
    · exact absurd ((e x a1 a2).mp a3) (b4 x a1 q)
    · exact q
    · exact absurd ((e y b1 b2).mpr b3) (a4 y b1 q)
theorem FKP_FD {K Y : Int → Int} {P : Int → Prop} {fr to x : Int} (h : FKP K Y P fr to x) : FD (fun d => onK K Y d ∧ P d) fr to x := h
theorem calN_congr {f g f' g' : Nat → Int} {d : Int} : ∀ {n : Nat}, (∀ k, k < n → f k = f' k ∧ g k = g' k) → calN f g d n = calN f' g' d n
  | 0, _ => rfl
  | n + 1, h => by
    simp only [calN]
    rw [calN_congr (fun k hk => h k (by omega)), (h n (by omega)).1, (h n (by omega)).2]
theorem fdN_congr {f g f' g' : Nat → Int} {d : Int} : ∀ {n : Nat}, (∀ k, k < n → f k = f' k ∧ g k = g' k) → fdN f g d n = fdN f' g' d n
  | 0, _ => rfl
  | n + 1, h => by
    simp only [fdN]
    rw [fdN_congr (fun k hk => h k (by omega)), (h n (by omega)).1, (h n (by omega)).2]
theorem yG_congr {a n : Int} {f g f' g' : Nat → Int} (h : ∀ k : Nat, (k : Int) < n → f k = f' k ∧ g k = g' k) (hn : 0 ≤ n) (d : Int) : yG a n f g d = yG a n f' g' d := by
  unfold yG
  rw [calN_congr (n := n.toNat) (fun k hk => h k (by omega))]
theorem dueG_congr {a n m dd y : Int} {f g f' g' : Nat → Int} (h : ∀ k : Nat, (k : Int) < n → f k = f' k ∧ g k = g' k) (hn : 0 ≤ n) : dueG a n f g m dd y = dueG a n f' g' m dd y := by
  unfold dueG
  rw [fdN_congr (n := n.toNat) (fun k hk => h k (by omega)), yG_congr h hn]
theorem kG_congr {a n sh m dd b y : Int} {f g f' g' : Nat → Int} (h : ∀ k : Nat, (k : Int) < n → f k = f' k ∧ g k = g' k) (hn : 0 ≤ n) : kG a n f g sh m dd b y = kG a n f' g' sh m dd b y := by
  unfold kG
  rw [dueG_congr h hn]
