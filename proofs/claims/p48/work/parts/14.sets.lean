theorem fa_and (a b : Nat) : nI a &&& nI b = nI (a &&& b) := by
  apply Int32.toBitVec_inj.1
  show BitVec.ofNat 32 a &&& BitVec.ofNat 32 b = BitVec.ofNat 32 (a &&& b)
  apply BitVec.eq_of_getLsbD_eq
  intro i hi
  simp [hi]
theorem fa_or (a b : Nat) : nI a ||| nI b = nI (a ||| b) := by
  apply Int32.toBitVec_inj.1
  show BitVec.ofNat 32 a ||| BitVec.ofNat 32 b = BitVec.ofNat 32 (a ||| b)
  apply BitVec.eq_of_getLsbD_eq
  intro i hi
  simp [hi]
theorem s_l : ∀ n, n < 32 → ((nI n &&& 31).toBitVec.smod 32).toNat = n := by decide +kernel
/-! sets of feasts, as numbers -/
def isSet (P : Nat → Prop) (v : Int) : Prop := ∃ n : Nat, v = (n : Int) ∧ n < 1024 ∧ ∀ j : Nat, n.testBit j = true ↔ P j
theorem isSet_bd {P : Nat → Prop} {v : Int} (h : isSet P v) : 0 ≤ v ∧ v < 1024 := by
  obtain ⟨n, rfl, h1, -⟩ := h
  omega
theorem isSet_congr {P Q : Nat → Prop} {v : Int} (h : isSet P v) (e : ∀ j, P j ↔ Q j) : isSet Q v := by
  obtain ⟨n, h0, h1, h2⟩ := h
  exact ⟨n, h0, h1, fun j => (h2 j).trans (e j)⟩
theorem isSet_one {P : Nat → Prop} {v w : Int} (h : isSet P v) (h2 : isSet P w) : v = w := by
  obtain ⟨n, rfl, -, a⟩ := h
  obtain ⟨m, rfl, -, b⟩ := h2
  have e : n = m := Nat.eq_of_testBit_eq fun j => by
    have h3 := (a j).trans (b j).symm
    cases h4 : n.testBit j <;> cases h5 : m.testBit j
    · rfl
    · rw [h4, h5] at h3; simp at h3
    · rw [h4, h5] at h3; simp at h3
    · rfl
  rw [e]
theorem isSet_0 {P : Nat → Prop} (h : ∀ j, ¬ P j) : isSet P 0 := ⟨0, rfl, by decide, fun j => by simp [h j]⟩
theorem isSet_zero {P : Nat → Prop} {v : Int} (h : isSet P v) : v = 0 ↔ ∀ j, ¬ P j := by
  constructor
  · intro e
    subst e
    obtain ⟨n, h0, h1, h2⟩ := h
    have : n = 0 := by omega
    subst this
    intro j hj
    have := (h2 j).mpr hj
    simp at this
  · intro e
    exact isSet_one h (isSet_0 e)
theorem isSet_lt {P : Nat → Prop} {v : Int} (h : isSet P v) {j : Nat} (hj : P j) : j < 10 := by
  obtain ⟨n, h0, h1, h2⟩ := h
  have h3 := (h2 j).mpr hj
  rcases Nat.lt_or_ge j 10 with q | q
  · exact q
  · have h4 : n < 2 ^ j := Nat.lt_of_lt_of_le h1 (by
      have : (2 : Nat) ^ 10 ≤ 2 ^ j := Nat.pow_le_pow_right (by decide) q
      omega)
    rw [Nat.testBit_lt_two_pow h4] at h3
    cases h3
theorem shl_1 {k : Int} (hk : 0 ≤ k ∧ k < 31) : iN 1 <<< (iN k &&& 31) = nI (2 ^ k.toNat) := by
  have e1 : iN 1 = nI 1 := iN_nI 1
  have e2 : iN k = nI k.toNat := by
    rw [← iN_nI]
    exact congrArg iN (by omega)
  have h2 : (2 : Nat) ^ k.toNat < 2 ^ 31 := Nat.pow_lt_pow_right (by decide) (by omega)
  rw [e1, e2, pk_shlN _ k.toNat (s_l _ (by omega)) (by omega), Nat.one_mul]
theorem set_or {P : Nat → Prop} {v k : Int} (h : isSet P v) (hk : 0 ≤ k ∧ k < 10) : ∃ v', iN v ||| (iN 1 <<< (iN k &&& 31)) = iN v' ∧ isSet (fun j => P j ∨ j = k.toNat) v' := by
  obtain ⟨n, rfl, h1, h2⟩ := h
  have h3 : (2 : Nat) ^ k.toNat < 2 ^ 10 := Nat.pow_lt_pow_right (by decide) (by omega)
  refine ⟨((n ||| 2 ^ k.toNat : Nat) : Int), ?_, _, rfl, Nat.or_lt_two_pow (n := 10) h1 h3, fun j => ?_⟩
  · rw [shl_1 (by omega), iN_nI, iN_nI, fa_or]
  · rw [Nat.testBit_or, Bool.or_eq_true, h2 j, Nat.testBit_two_pow, decide_eq_true_eq]
    exact or_congr_right eq_comm
theorem set_and {P Q : Nat → Prop} {v w : Int} (h : isSet P v) (g : isSet Q w) : ∃ u, iN v &&& iN w = iN u ∧ isSet (fun j => P j ∧ Q j) u := by
  obtain ⟨n, rfl, h1, h2⟩ := h
  obtain ⟨m, rfl, g1, g2⟩ := g
  refine ⟨((n &&& m : Nat) : Int), ?_, _, rfl, Nat.lt_of_le_of_lt Nat.and_le_left h1, fun j => ?_⟩
  · rw [iN_nI, iN_nI, iN_nI, fa_and]
  · rw [Nat.testBit_and, Bool.and_eq_true, h2 j, g2 j]
/-! counting -/
noncomputable def ind (p : Prop) : Int := @ite Int p (Classical.propDecidable p) 1 0
theorem ind_t {p : Prop} (h : p) : ind p = 1 := if_pos h
theorem ind_f {p : Prop} (h : ¬ p) : ind p = 0 := if_neg h
theorem ind_c {p q : Prop} (h : p ↔ q) : ind p = ind q := by rw [propext h]
theorem ind_bd (p : Prop) : 0 ≤ ind p ∧ ind p ≤ 1 := by
  by_cases h : p
  · rw [ind_t h]; omega
  · rw [ind_f h]; omega
noncomputable def cntP (Q : Nat → Prop) : Nat → Int
  | 0 => 0
  | n + 1 => cntP Q n + ind (Q n)
theorem cntP_bd (Q : Nat → Prop) : ∀ n, 0 ≤ cntP Q n ∧ cntP Q n ≤ n
  | 0 => by simp [cntP]
  | n + 1 => by
    have := cntP_bd Q n
    have := ind_bd (Q n)
    simp only [cntP]
    omega
theorem cntP_congr {P Q : Nat → Prop} : ∀ {n : Nat}, (∀ j, j < n → (P j ↔ Q j)) → cntP P n = cntP Q n
  | 0, _ => rfl
  | n + 1, h => by
    simp only [cntP]
    rw [cntP_congr (fun j hj => h j (by omega)), ind_c (h n (by omega))]
theorem cntP_none {P : Nat → Prop} : ∀ {n : Nat}, (∀ j, j < n → ¬ P j) → cntP P n = 0
  | 0, _ => rfl
  | n + 1, h => by
    simp only [cntP]
    rw [cntP_none (fun j hj => h j (by omega)), ind_f (h n (by omega))]
    rfl
theorem cntP_cut {P : Nat → Prop} {n : Nat} : ∀ {m : Nat}, (∀ j, n ≤ j → ¬ P j) → cntP P (n + m) = cntP P n
  | 0, _ => rfl
  | m + 1, h => by
    show cntP P (n + m) + ind (P (n + m)) = _
    rw [cntP_cut h, ind_f (h _ (by omega))]
    omega
theorem cntP_pos {P : Nat → Prop} : ∀ {n : Nat}, (∃ j, j < n ∧ P j) → 0 < cntP P n
  | 0, h => by obtain ⟨j, hj, -⟩ := h; omega
  | n + 1, h => by
    obtain ⟨j, hj, hp⟩ := h
    have h1 := cntP_bd P n
    have h2 := ind_bd (P n)
    simp only [cntP]
    by_cases q : j < n
    · have := cntP_pos ⟨j, q, hp⟩
      omega
    · have e : j = n := by omega
      subst e
      rw [ind_t hp]
      omega
theorem cntP_pos_iff {P : Nat → Prop} {n : Nat} : 0 < cntP P n ↔ ∃ j, j < n ∧ P j := by
  refine ⟨fun h => Classical.byContradiction fun q => ?_, cntP_pos⟩
  rw [cntP_none (fun j hj hp => q ⟨j, hj, hp⟩)] at h
  omega
/-! blocks: a state's eighteen cells -/
theorem S_ne {s j : Nat} (h : kd s = 2) (hj : j < 18) : s + j ≠ 24 ∧ s + j ≠ 0 ∧ s + j < 169 := by
  have := kd_all (P := fun i k => k != 2 || (List.range 18).all (fun j => decide (i + j ≠ 24 ∧ i + j ≠ 0 ∧ i + j < 169))) (by decide +kernel) h (by decide)
  have h2 : (List.range 18).all (fun j => decide (s + j ≠ 24 ∧ s + j ≠ 0 ∧ s + j < 169)) = true := by simpa using this
  exact of_decide_eq_true (List.all_eq_true.mp h2 j (List.mem_range.mpr hj))
def blkE (z z1 : Zt) (s : Nat) : Prop := ∀ j : Nat, j < 18 → z1 (s + j) = z (s + j)
theorem blk_tw {z z1 : Zt} {s k : Nat} (h : blkE z z1 s) (hk : k < 10) : tw z1 s (s + 8 + k) = tw z s (s + 8 + k) := by
  unfold tw
  rw [show s + 8 + k = s + (8 + k) by omega, h (8 + k) (by omega)]
theorem blk_town {z z1 : Zt} {s : Nat} (h : blkE z z1 s) (f : Nat) : z1 (tw z s f) = z (tw z s f) ∧ z1 (tw z s f + 1) = z (tw z s f + 1) ∧ z1 (tw z s f + 2) = z (tw z s f + 2) := by
  unfold tw
  split
  · exact ⟨h 1 (by decide), h 2 (by decide), h 3 (by decide)⟩
  · exact ⟨h 4 (by decide), h 5 (by decide), h 6 (by decide)⟩
theorem blk_kS {z z1 : Zt} {s k : Nat} (h : blkE z z1 s) (hk : k < 10) : kS z1 s (s + 8 + k) = kS z s (s + 8 + k) ∧ yS z1 s (s + 8 + k) = yS z s (s + 8 + k) := by
  obtain ⟨h1, h2, h3⟩ := blk_town h (s + 8 + k)
  have h4 : z1 (s + 8 + k) = z (s + 8 + k) := by
    rw [show s + 8 + k = s + (8 + k) by omega]
    exact h (8 + k) (by omega)
  have h5 : z1 s = z s := h 0 (by decide)
  constructor
  · funext y
    unfold kS
    rw [blk_tw h hk, h1, h2, h3, h4, h5]
  · funext y
    unfold yS
    rw [blk_tw h hk, h1, h2, h3]
theorem blk_onS {z z1 : Zt} {s k : Nat} (h : blkE z z1 s) (hk : k < 10) : onS z1 s (s + 8 + k) = onS z s (s + 8 + k) := by
  obtain ⟨h1, h2⟩ := blk_kS h hk
  funext d
  unfold onS
  rw [h1, h2]
theorem blk_TI {z z1 : Zt} {t : Nat} (h0 : z1 t = z t) (h1 : z1 (t + 1) = z (t + 1)) (h2 : z1 (t + 2) = z (t + 2)) (h : TI z t) : TI z1 t := by
  unfold TI
  rw [h0, h1, h2]
  exact h
theorem blk_SI {z z1 : Zt} {s : Nat} (h : blkE z z1 s) (hS : SI z s) : SI z1 s := by
  have h0 : z1 s = z s := h 0 (by decide)
  obtain ⟨a1, a2, a3, a4, a5, a6, a7, a8, a9⟩ := hS
  refine ⟨blk_TI (h 1 (by decide)) (h 2 (by decide)) (h 3 (by decide)) a1, blk_TI (h 4 (by decide)) (h 5 (by decide)) (h 6 (by decide)) a2, by rw [h 1 (by decide)]; exact a3, by rw [h 4 (by decide)]; exact a4, by rw [h0]; exact a5, by rw [h0]; exact a6, by rw [h0]; exact a7, by rw [h0]; exact a8, fun k hk => ?_⟩
  unfold FI
  rw [show s + 8 + k = s + (8 + k) by omega, h (8 + k) (by omega)]
  have := a9 k hk
  rw [show s + 8 + k = s + (8 + k) by omega] at this
  exact this
/-- which days of a span are on: by the years that are looked at -/
theorem on_span {K Y : Int → Int} (h : Kok K Y) {fr to d : Int} (hf : 0 ≤ fr) (h1 : fr ≤ d) (h2 : d ≤ to) : onK K Y d ↔ ∃ y, y0of Y fr ≤ y ∧ y < Y to + 1 ∧ K y = d := by
  have hY1 : 1 ≤ y0of Y fr := h.2.1 _ (by split <;> omega)
  rw [on_ex h (by omega)]
  obtain ⟨g1, g2, g3, g4, g5, g6⟩ := h
  constructor
  · rintro ⟨y, k1, k2⟩
    have a1 := g5 y d (if 0 < fr - 9 then fr - 9 else 0) k1 (by omega) k2 (by split <;> omega) (by split <;> omega)
    have a2 := g6 y d k1 (by omega) k2
    have a3 := g1 d to (by omega) h2
    exact ⟨y, a1, by omega, k2⟩
  · rintro ⟨y, k1, k2, k3⟩
    exact ⟨y, by omega, k3⟩
theorem fkp_bd {K Y : Int → Int} {P : Int → Prop} {fr to x : Int} (h : FKP K Y P fr to x) (hf : 0 ≤ fr) (ht : -1 ≤ to) : -1 ≤ x ∧ x ≤ to := by
  rcases h with ⟨h1, -⟩ | ⟨h1, h2, -⟩ <;> omega
theorem fkp_pt {K Y : Int → Int} {d x : Int} (h : FKP K Y (fun _ => True) d d x) (hd : 0 ≤ d) : (x = -1 → ¬ onK K Y d) ∧ (x ≠ -1 → onK K Y d) := by
  rcases h with ⟨h1, h2⟩ | ⟨h1, h2, h3, -⟩
  · exact ⟨fun _ q => h2 d (by omega) (by omega) ⟨q, trivial⟩, fun q => absurd h1 q⟩
  · have e : x = d := by omega
    subst e
    exact ⟨fun q => by omega, fun _ => h3.1⟩
theorem y0_le {K Y : Int → Int} (h : Kok K Y) {fr to : Int} (hf : 0 ≤ fr) (ht : fr ≤ to) : 1 ≤ y0of Y fr ∧ y0of Y fr ≤ Y to := ⟨h.2.1 _ (by split <;> omega), h.1 _ _ (by split <;> omega) (by split <;> omega)⟩
theorem dG_bd {z : Zt} {t f : Nat} (h : TI z t) (hf : FI z f) {y : Int} (hy : 1 ≤ y ∧ y ≤ 1000) : -1 ≤ dueG (z t 0) (z t 3) (z (t + 1)) (z (t + 2)) (z f 1) (z f 2) y ∧ dueG (z t 0) (z t 3) (z (t + 1)) (z (t + 2)) (z f 1) (z f 2) y ≤ 400000 := by
  rcases due_is (a := z t 0) h.2 ⟨hf.2.1, hf.2.2.1⟩ ⟨hf.2.2.2.1, hf.2.2.2.2.1⟩ hy.1 with q | ⟨u, q1, q2, -, -, -, q3⟩
  · rw [q]; omega
  · have h2 := (dofN_bd (a := z t 0) (y := y) ⟨hf.2.1, hf.2.2.1⟩ hf.2.2.2.1).2
    have h3 : y * yl (z t 0) ≤ 366000 := by
      unfold yl
      split <;> omega
    rw [q1]
    omega
theorem yT_bd {z : Zt} {t : Nat} (h : TI z t) {d : Int} (hd : 0 ≤ d ∧ d ≤ 1000000) : 1 ≤ 1 + calT z t d / yl (z t 0) ∧ 1 + calT z t d / yl (z t 0) ≤ 3000 := by
  have h1 := calT_bd h d
  unfold yl
  split <;> omega
