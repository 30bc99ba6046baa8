/-! the reference's calls: truth as a number, what a recording makes of it -/
theorem ind_v {p : Prop} {v : Int} (h : v = ind p) : (v = 0 ∨ v = 1) ∧ (v = 0 ↔ ¬ p) := by
  rw [h]
  refine ⟨?_, ind_0⟩
  have := ind_bd p
  omega
theorem ind_y {p : Prop} {v : Int} (h : v = ind p) (h0 : ¬ v = 0) : p := Classical.byContradiction (fun q => h0 ((ind_v h).2.mpr q))
theorem ind_n {p : Prop} {v : Int} (h : v = ind p) (h0 : v = 0) : ¬ p := (ind_v h).2.mp h0
def mr0 (z : Zt) : Zt := if z 169 2 = 6 then zup (zset z 171 (fun p => if p < 310 then z 171 (p + 62) else z 171 p)) 169 2 5 else z
def recM (z : Zt) : Zt := zup (zset (mr0 z) 171 (fcp (mr0 z 171) (z 170) (62 * (mr0 z 169 2).toNat) 0 62)) 169 2 (mr0 z 169 2 + 1)
theorem mr0_o {z : Zt} {i : Nat} (h1 : i ≠ 169) (h2 : i ≠ 171) : mr0 z i = z i := by
  unfold mr0
  split
  · simp [zup, zset, h1, h2]
  · rfl
theorem mr0_2 {z : Zt} (h : 0 ≤ z 169 2 ∧ z 169 2 ≤ 6) : 0 ≤ mr0 z 169 2 ∧ mr0 z 169 2 ≤ 5 := by
  unfold mr0
  split
  · rw [zup_s]; omega
  · omega
theorem recM_o {z : Zt} {i : Nat} (h1 : i ≠ 169) (h2 : i ≠ 171) : recM z i = z i := by
  have e : recM z i = mr0 z i := by simp [recM, zup, zset, h1, h2]
  rw [e, mr0_o h1 h2]
theorem zup_r (z : Zt) (i k j : Nat) (x : Int) : zup z i k x i j = if j = k then x else z i j := by simp [zup]
theorem zup_o {z : Zt} {i a : Nat} (h : a ≠ i) (k : Nat) (x : Int) : zup z i k x a = z a := by simp [zup, h]
theorem zup_zup (z : Zt) (i k : Nat) (x y : Int) : zup (zup z i k x) i k y = zup z i k y := by
  funext a j
  unfold zup
  by_cases q : a = i
  · subst q
    rw [if_pos rfl, if_pos rfl, if_pos rfl]
    by_cases q2 : j = k
    · rw [if_pos q2, if_pos q2]
    · rw [if_neg q2, if_neg q2, if_neg q2]
  · rw [if_neg q, if_neg q, if_neg q]
theorem zup_c {z : Zt} {i k a b : Nat} {x y : Int} (h : i ≠ a) : zup (zup z i k x) a b y = zup (zup z a b y) i k x := by
  funext c j
  unfold zup
  by_cases q : c = i
  · subst q
    simp [h]
  · by_cases q2 : c = a
    · subst q2
      simp [q, Ne.symm h]
    · simp [q, q2]
/-- the first of a span -/
def FD (P : Int → Prop) (fr to x : Int) : Prop := (x = -1 ∧ ∀ d, fr ≤ d → d ≤ to → ¬ P d) ∨ (fr ≤ x ∧ x ≤ to ∧ P x ∧ ∀ d, fr ≤ d → d < x → ¬ P d)
theorem FD_one {P Q : Int → Prop} {fr to x y : Int} (h0 : 0 ≤ fr) (e : ∀ d, fr ≤ d → d ≤ to → (P d ↔ Q d)) (h : FD P fr to x) (h2 : FD Q fr to y) : x = y := by
  rcases h with ⟨a1, a2⟩ | ⟨a1, a2, a3, a4⟩ <;> rcases h2 with ⟨b1, b2⟩ | ⟨b1, b2, b3, b4⟩
  · omega
  · exact absurd ((e y b1 b2).mpr b3) (a2 y b1 b2)
  · exact absurd ((e x a1 a2).mp a3) (b2 x a1 a2)
  · rcases Int.lt_trichotomy x y with q | q | q
    · exact absurd ((e x a1 a2).mp a3) (b4 x a1 q)
    · exact q
    · exact absurd ((e y b1 b2).mpr b3) (a4 y b1 q)
theorem FKP_FD {K Y : Int → Int} {P : Int → Prop} {fr to x : Int} (h : FKP K Y P fr to x) : FD (fun d => onK K Y d ∧ P d) fr to x := h
/-- rows that agree on the days' part -/
def agR (ρ σ : Nat → Int) : Prop := ∀ p : Nat, p < 57 → σ p = ρ p
theorem agR_mN {ρ σ : Nat → Int} (h : agR ρ σ) {t : Int} (ht : t = 0 ∨ t = 1) : mN σ t = mN ρ t := by
  unfold mN
  rcases ht with rfl | rfl
  · exact h 0 (by decide)
  · exact h 7 (by decide)
theorem agR_mD {ρ σ : Nat → Int} (h : agR ρ σ) {t : Int} (ht : t = 0 ∨ t = 1) {k : Nat} (hk : k < 3) : mD σ t k = mD ρ t k ∧ mL σ t k = mL ρ t k := by
  unfold mD mL
  exact ⟨h _ (by omega), h _ (by omega)⟩
theorem agR_mF {ρ σ : Nat → Int} (h : agR ρ σ) {f w : Int} (hf : 0 ≤ f ∧ f < 10) (hw : 0 ≤ w ∧ w ≤ 3) : mF σ f w = mF ρ f w := by
  unfold mF
  exact h _ (by omega)
theorem calN_congr {f g f' g' : Nat → Int} {d : Int} : ∀ {n : Nat}, (∀ k, k < n → f k = f' k ∧ g k = g' k) → calN f g d n = calN f' g' d n
  | 0, _ => rfl
  | n + 1, h => by
    simp only [calN]
    rw [calN_congr (fun k hk => h k (by omega)), (h n (by omega)).1, (h n (by omega)).2]
theorem fdN_congr {f g f' g' : Nat → Int} {d : Int} : ∀ {n : Nat}, (∀ k, k < n → f k = f' k ∧ g k = g' k) → fdN f g d n = fdN f' g' d n
  | 0, _ => rfl
  | n + 1, h => by
    simp only [fdN]
    rw [fdN_congr (fun k hk => h k (by omega)), (h n (by omega)).1, (h n (by omega)).2]
theorem yG_congr {a n : Int} {f g f' g' : Nat → Int} (h : ∀ k : Nat, (k : Int) < n → f k = f' k ∧ g k = g' k) (hn : 0 ≤ n) (d : Int) : yG a n f g d = yG a n f' g' d := by
  unfold yG
  rw [calN_congr (n := n.toNat) (fun k hk => h k (by omega))]
theorem dueG_congr {a n m dd y : Int} {f g f' g' : Nat → Int} (h : ∀ k : Nat, (k : Int) < n → f k = f' k ∧ g k = g' k) (hn : 0 ≤ n) : dueG a n f g m dd y = dueG a n f' g' m dd y := by
  unfold dueG
  rw [fdN_congr (n := n.toNat) (fun k hk => h k (by omega)), yG_congr h hn]
theorem kG_congr {a n sh m dd b y : Int} {f g f' g' : Nat → Int} (h : ∀ k : Nat, (k : Int) < n → f k = f' k ∧ g k = g' k) (hn : 0 ≤ n) : kG a n f g sh m dd b y = kG a n f' g' sh m dd b y := by
  unfold kG
  rw [dueG_congr h hn]
theorem agR_kM {ρ σ : Nat → Int} (h : agR ρ σ) (hM : MG ρ) {f : Int} (hf : 0 ≤ f ∧ f < 10) (hF : MF ρ f) : (∀ y, kM σ f y = kM ρ f y) ∧ ∀ d, yM σ f d = yM ρ f d := by
  have e0 := agR_mF h hf (w := 0) (by decide)
  have e1 := agR_mF h hf (w := 1) (by decide)
  have e2 := agR_mF h hf (w := 2) (by decide)
  have e3 := agR_mF h hf (w := 3) (by decide)
  have ht := hF.1
  have en := agR_mN h ht
  have hg := hM _ ht
  have eD : ∀ k : Nat, (k : Int) < mN ρ (mF ρ f 0) → mD σ (mF ρ f 0) k = mD ρ (mF ρ f 0) k ∧ mL σ (mF ρ f 0) k = mL ρ (mF ρ f 0) k := fun k hk => agR_mD h ht (by have := hg.2.1; omega)
  have e55 := h 55 (by decide)
  constructor
  · intro y
    unfold kM
    rw [e0, e1, e2, e3, en, e55, kG_congr eD hg.1]
  · intro d
    unfold yM
    rw [e0, en, yG_congr eD hg.1]
theorem agR_on {ρ σ : Nat → Int} (h : agR ρ σ) (hM : MG ρ) {f : Int} (hf : 0 ≤ f ∧ f < 10) (hF : MF ρ f) (d : Int) : onM σ f d ↔ onM ρ f d := by
  obtain ⟨h1, h2⟩ := agR_kM h hM hf hF
  unfold onM onK
  rw [h2, h1, h1]
theorem agR_MI {ρ σ : Nat → Int} (h : agR ρ σ) (hM : MI ρ) (h57 : 0 ≤ σ 57 ∧ σ 57 ≤ 9999) : MI σ := by
  obtain ⟨a1, a2, a3, a4, a5, a6⟩ := hM
  have e14 := h 14 (by decide)
  refine ⟨fun t ht => ?_, by rw [e14]; exact a2, fun f f1 f2 => ?_, by rw [h 55 (by decide)]; exact a4, by rw [h 56 (by decide)]; exact a5, h57⟩
  · have hg := a1 t ht
    obtain ⟨g1, g2, g3, g4⟩ := hg
    have en := agR_mN h ht
    unfold GI
    rw [en]
    refine ⟨g1, g2, fun k hk => ?_, fun k hk => ?_⟩
    · have := agR_mD h ht (k := k) (by omega)
      rw [this.1, this.2]
      exact g3 k hk
    · rw [(agR_mD h ht (k := k) (by omega)).1, (agR_mD h ht (k := k + 1) (by omega)).1]
      exact g4 k hk
  · rw [e14] at f2
    have h9 := a3 f f1 f2
    unfold MF at h9 ⊢
    rw [agR_mF h (f := f) (by omega) (by decide), agR_mF h (f := f) (by omega) (by decide), agR_mF h (f := f) (by omega) (by decide), agR_mF h (f := f) (by omega) (by decide)]
    exact h9
