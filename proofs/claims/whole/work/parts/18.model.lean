/-! the reference's row, read as a town's gaps and as feasts -/
def mN (ρ : Nat → Int) (t : Int) : Int := ρ (7 * t).toNat
def mD (ρ : Nat → Int) (t : Int) (k : Nat) : Int := ρ (7 * t + 1 + 2 * k).toNat
def mL (ρ : Nat → Int) (t : Int) (k : Nat) : Int := ρ (7 * t + 2 + 2 * k).toNat
def mF (ρ : Nat → Int) (f w : Int) : Int := ρ (15 + 4 * f + w).toNat
def MF (ρ : Nat → Int) (f : Int) : Prop := (mF ρ f 0 = 0 ∨ mF ρ f 0 = 1) ∧ 1 ≤ mF ρ f 1 ∧ mF ρ f 1 ≤ 12 ∧ 1 ≤ mF ρ f 2 ∧ mF ρ f 2 ≤ 31 ∧ -1 ≤ mF ρ f 3 ∧ mF ρ f 3 ≤ 6
def MG (ρ : Nat → Int) : Prop := ∀ t : Int, (t = 0 ∨ t = 1) → GI (mN ρ t) (mD ρ t) (mL ρ t)
def MI (ρ : Nat → Int) : Prop := MG ρ ∧ (0 ≤ ρ 14 ∧ ρ 14 ≤ 10) ∧ (∀ f : Int, 0 ≤ f → f < ρ 14 → MF ρ f) ∧ (1 ≤ ρ 55 ∧ ρ 55 ≤ 9) ∧ (0 ≤ ρ 56 ∧ ρ 56 ≤ 9) ∧ (0 ≤ ρ 57 ∧ ρ 57 ≤ 9999)
def calM (ρ : Nat → Int) (t d : Int) : Int := calN (mD ρ t) (mL ρ t) d (mN ρ t).toNat
def fdM (ρ : Nat → Int) (t d : Int) : Int := fdN (mD ρ t) (mL ρ t) d (mN ρ t).toNat
def yM (ρ : Nat → Int) (f d : Int) : Int := yG (1 - mF ρ f 0) (mN ρ (mF ρ f 0)) (mD ρ (mF ρ f 0)) (mL ρ (mF ρ f 0)) d
def dM (ρ : Nat → Int) (f y : Int) : Int := dueG (1 - mF ρ f 0) (mN ρ (mF ρ f 0)) (mD ρ (mF ρ f 0)) (mL ρ (mF ρ f 0)) (mF ρ f 1) (mF ρ f 2) y
def kM (ρ : Nat → Int) (f y : Int) : Int := kG (1 - mF ρ f 0) (mN ρ (mF ρ f 0)) (mD ρ (mF ρ f 0)) (mL ρ (mF ρ f 0)) (ρ 55) (mF ρ f 1) (mF ρ f 2) (mF ρ f 3) y
def onM (ρ : Nat → Int) (f d : Int) : Prop := onK (kM ρ f) (yM ρ f) d
theorem calM_bd {ρ : Nat → Int} (h : MG ρ) {t : Int} (ht : t = 0 ∨ t = 1) (d : Int) : d ≤ calM ρ t d ∧ calM ρ t d ≤ d + 120 := by
  have h := h t ht
  have h1 := calN_bd h d (mN ρ t).toNat (by have := h.1; omega)
  have h2 := h.2.1
  unfold calM
  omega
theorem fdM_bd {ρ : Nat → Int} (h : MG ρ) {t : Int} (ht : t = 0 ∨ t = 1) {d : Int} (hd : 0 ≤ d) : 0 ≤ fdM ρ t d ∧ fdM ρ t d ≤ d := by
  have h := h t ht
  exact fdN_bd h hd (mN ρ t).toNat (by have := h.1; omega)
theorem kM_ok {ρ : Nat → Int} (h : MI ρ) {f : Int} (hf : MF ρ f) : Kok (kM ρ f) (yM ρ f) := kG_ok _ (h.1 _ hf.1) h.2.2.2.1 ⟨hf.2.1, hf.2.2.1⟩ ⟨hf.2.2.2.1, hf.2.2.2.2.1⟩
theorem due_lt {a n : Int} {f g : Nat → Int} {m dd y : Int} (h : GI n f g) (hm : 1 ≤ m ∧ m ≤ 12) (hd : 1 ≤ dd) :
    (calN f g (fdN f g (dof a y m (nd a m dd)) n.toNat) n.toNat < (y - 1) * yl a + yl a ↔ yG a n f g (fdN f g (dof a y m (nd a m dd)) n.toNat) = y) := by
  have h0 := h.1
  have h1 := (fdN_is h (dof a y m (nd a m dd)) n.toNat (by omega)).1
  have h2 := (dofN_bd (a := a) (y := y) hm hd).1
  have hyl := yl_bd a
  have key : ∀ c : Int, (y - 1) * yl a ≤ c → (c < (y - 1) * yl a + yl a ↔ 1 + c / yl a = y) := fun c hc => by
    by_cases q : a = 0
    · have e : yl a = 336 := by
        unfold yl
        rw [if_pos q]
      rw [e] at hc ⊢
      omega
    · have e : yl a = 366 := by
        unfold yl
        rw [if_neg q]
      rw [e] at hc ⊢
      omega
  exact key _ (by omega)
theorem dM_bd {ρ : Nat → Int} (h : MG ρ) {f : Int} (hf : MF ρ f) {y : Int} (hy : 1 ≤ y ∧ y ≤ 1000) : -1 ≤ dM ρ f y ∧ dM ρ f y ≤ 400000 := by
  rcases due_is (a := 1 - mF ρ f 0) (h _ hf.1) ⟨hf.2.1, hf.2.2.1⟩ ⟨hf.2.2.2.1, hf.2.2.2.2.1⟩ hy.1 with q | ⟨u, q1, q2, -, -, -, q3⟩
  · unfold dM
    rw [q]; omega
  · have h2 := (dofN_bd (a := 1 - mF ρ f 0) (y := y) ⟨hf.2.1, hf.2.2.1⟩ hf.2.2.2.1).2
    have h3 : y * yl (1 - mF ρ f 0) ≤ 366000 := by
      unfold yl
      split <;> omega
    unfold dM
    rw [q1]
    omega
theorem kM_bd {ρ : Nat → Int} (h : MG ρ) (hs : 1 ≤ ρ 55 ∧ ρ 55 ≤ 9) {f : Int} (hf : MF ρ f) {y : Int} (hy : 1 ≤ y ∧ y ≤ 1000) : -1 ≤ kM ρ f y ∧ kM ρ f y ≤ 400009 := by
  have h1 := dM_bd h hf hy
  have e : kM ρ f y = keG (ρ 55) (mF ρ f 3) (dM ρ f y) := rfl
  rw [e]
  by_cases q : dM ρ f y = -1
  · unfold keG
    rw [if_pos q]
    omega
  · have := keG_bd (b := mF ρ f 3) (u := dM ρ f y) hs (by omega)
    omega
theorem yM_bd {ρ : Nat → Int} (h : MG ρ) {f : Int} (hf : MF ρ f) {x : Int} (hx : 0 ≤ x ∧ x ≤ 100000) : 1 ≤ yM ρ f x ∧ yM ρ f x ≤ 300 := yG_bd (h _ hf.1) hx
def quM (ρ : Nat → Int) (d : Int) : Prop := (∃ j : Nat, ((j : Int) < ρ 14 ∧ onM ρ j d) ∧ mF ρ j 0 = 0) ∧ ∃ j : Nat, ((j : Int) < ρ 14 ∧ onM ρ j d) ∧ mF ρ j 0 = 1
theorem ind_0 {p : Prop} : ind p = 0 ↔ ¬ p := by
  by_cases h : p
  · rw [ind_t h]; simp [h]
  · rw [ind_f h]; simp [h]
theorem bit_of {P : Nat → Prop} {v k : Int} (h : isSet P v) (hk : 0 ≤ k ∧ k < 31) : (iN v >>> (iN k &&& 31)) &&& iN 1 = iN (ind (P k.toNat)) := by
  obtain ⟨n, rfl, h1, h2⟩ := h
  have e2 : iN k = nI k.toNat := by
    rw [← iN_nI]
    exact congrArg iN (by omega)
  have e1 : iN 1 = nI 1 := iN_nI 1
  rw [iN_nI, e2, pk_shrN (by omega) _ k.toNat (s_l _ (by omega)), e1, fa_and, Nat.and_one_is_mod]
  have h3 := Nat.testBit_eq_decide_div_mod_eq (x := n) (i := k.toNat)
  by_cases q : P k.toNat
  · rw [(h2 k.toNat).mpr q] at h3
    have h4 : n / 2 ^ k.toNat % 2 = 1 := of_decide_eq_true h3.symm
    rw [h4, ind_t q]
    exact (iN_nI 1).symm
  · have h4 : ¬ n / 2 ^ k.toNat % 2 = 1 := fun e => q ((h2 k.toNat).mp (by rw [h3]; exact decide_eq_true e))
    have h5 : n / 2 ^ k.toNat % 2 = 0 := by omega
    rw [h5, ind_f q]
    exact (iN_nI 0).symm
/-! rows replaced, copied piece by piece -/
def zset (z : Zt) (a : Nat) (f : Nat → Int) : Zt := fun i => if i = a then f else z i
def fcp (A B : Nat → Int) (ca cb k : Nat) : Nat → Int := fun p => if ca ≤ p ∧ p < ca + k then B (p - ca + cb) else A p
theorem fcp_0 (A B : Nat → Int) (ca cb : Nat) : fcp A B ca cb 0 = A := by
  funext p
  unfold fcp
  rw [if_neg (by omega)]
theorem fcp_s (A B : Nat → Int) (ca cb k : Nat) : (fun j => if j = ca + k then B (cb + k) else fcp A B ca cb k j) = fcp A B ca cb (k + 1) := by
  funext p
  unfold fcp
  by_cases q : p = ca + k
  · subst q
    rw [if_pos rfl, if_pos (by omega), show ca + k - ca + cb = cb + k by omega]
  · rw [if_neg q]
    by_cases q2 : ca ≤ p ∧ p < ca + k
    · rw [if_pos q2, if_pos (by omega)]
    · rw [if_neg q2, if_neg (by omega)]
theorem zset_same (z : Zt) (a : Nat) : zset z a (z a) = z := by
  funext i
  unfold zset
  by_cases q : i = a
  · subst q; simp
  · simp [q]
theorem zset_at (z : Zt) (a : Nat) (f : Nat → Int) : zset z a f a = f := by simp [zset]
theorem zset_o {z : Zt} {a i : Nat} {f : Nat → Int} (h : i ≠ a) : zset z a f i = z i := by simp [zset, h]
theorem zup_zset (z : Zt) (a k : Nat) (f : Nat → Int) (x : Int) : zup (zset z a f) a k x = zset z a (fun j => if j = k then x else f j) := by
  funext i
  unfold zup zset
  by_cases q : i = a
  · subst q; simp
  · simp [q]
