/-! more rows: values as they are; cells that agree where it counts -/
def ksz (K j : Nat) : Prop := if K = 1 then j = 2 else if K = 2 then 3 ≤ j ∧ j ≤ 8 else if K = 3 then j = 0 ∨ j = 3 ∨ j = 4 else if K = 4 then j < 4 else if K = 5 then j = 1 else if K = 20 then j < 2 else if K = 32 then j < 2 else if K = 36 then j < 6 else if K = 40 then False else j < K - 100
theorem arrV_eq {cI : ClassId} {N : Nat} {f g : Nat → Value} (h : ∀ j, j < N → f j = g j) : arrV cI N f = arrV cI N g := by
  unfold arrV
  congr 2
  funext j
  exact h j.val j.isLt
theorem cl_re {D : va_G} {K a i : Nat} {r : Nat → Nat} {cA : Nat → ClassId} {f g : Nat → Int} {H : Heap} (h : ∀ j, ksz K j → f j = g j) (hv : va_at D vwCl (a, cl K r cA i f) H) : va_at D vwCl (a, cl K r cA i g) H := by
  by_cases q1 : K = 1
  · subst q1
    have e : cl 1 r cA i g = cl 1 r cA i f := by rw [cl_1, cl_1, h 2 (by simp [ksz])]
    rw [e]
    exact hv
  by_cases q2 : K = 2
  · subst q2
    have e : cl 2 r cA i g = cl 2 r cA i f := by rw [cl_2, cl_2, h 3 (by simp [ksz]), h 4 (by simp [ksz]), h 5 (by simp [ksz]), h 6 (by simp [ksz]), h 7 (by simp [ksz]), h 8 (by simp [ksz])]
    rw [e]
    exact hv
  by_cases q3 : K = 3
  · subst q3
    have e : cl 3 r cA i g = cl 3 r cA i f := by rw [cl_3, cl_3, h 0 (by simp [ksz]), h 3 (by simp [ksz]), h 4 (by simp [ksz])]
    rw [e]
    exact hv
  by_cases q4 : K = 4
  · subst q4
    have e : cl 4 r cA i g = cl 4 r cA i f := by rw [cl_4, cl_4, h 0 (by simp [ksz]), h 1 (by simp [ksz]), h 2 (by simp [ksz]), h 3 (by simp [ksz])]
    rw [e]
    exact hv
  by_cases q5 : K = 5
  · subst q5
    have e : cl 5 r cA i g = cl 5 r cA i f := by rw [cl_5, cl_5, h 1 (by simp [ksz])]
    rw [e]
    exact hv
  by_cases q20 : K = 20
  · subst q20
    have h1 : H[a]? = some (arrV (cA 1) 2 (fun j => .int (iN (f j)))) := hv
    have h2 : arrV (cA 1) 2 (fun j => .int (iN (f j))) = arrV (cA 1) 2 (fun j => .int (iN (g j))) := arrV_eq (fun j hj => by rw [h j hj])
    have h3 : H[a]? = some (arrV (cA 1) 2 (fun j => .int (iN (g j)))) := h1.trans (congrArg some h2)
    exact h3
  by_cases q32 : K = 32
  · subst q32
    have h1 : H[a]? = some (arrV (cA 4) 2 (fun j => va_rf (some (r (f j).toNat)))) := hv
    have h2 : arrV (cA 4) 2 (fun j => va_rf (some (r (f j).toNat))) = arrV (cA 4) 2 (fun j => va_rf (some (r (g j).toNat))) := arrV_eq (fun j hj => by rw [h j hj])
    have h3 : H[a]? = some (arrV (cA 4) 2 (fun j => va_rf (some (r (g j).toNat)))) := h1.trans (congrArg some h2)
    exact h3
  by_cases q36 : K = 36
  · subst q36
    have h1 : H[a]? = some (arrV (cA 4) 6 (fun j => va_rf (some (r (f j).toNat)))) := hv
    have h2 : arrV (cA 4) 6 (fun j => va_rf (some (r (f j).toNat))) = arrV (cA 4) 6 (fun j => va_rf (some (r (g j).toNat))) := arrV_eq (fun j hj => by rw [h j hj])
    have h3 : H[a]? = some (arrV (cA 4) 6 (fun j => va_rf (some (r (g j).toNat)))) := h1.trans (congrArg some h2)
    exact h3
  by_cases q40 : K = 40
  · subst q40
    exact hv
  have e1 : ∀ f : Nat → Int, cl K r cA i f = .inl (cA 0, K - 100, .inl (fun j => iN (f j))) := fun f => by
    unfold cl
    rw [if_neg q1, if_neg q2, if_neg q3, if_neg q4, if_neg q5, if_neg q20, if_neg q32, if_neg q36, if_neg q40]
  have e2 : ∀ j, ksz K j = (j < K - 100) := fun j => by
    unfold ksz
    rw [if_neg q1, if_neg q2, if_neg q3, if_neg q4, if_neg q5, if_neg q20, if_neg q32, if_neg q36, if_neg q40]
  rw [e1] at hv ⊢
  have h := fun j hj => h j (by rw [e2]; exact hj)
  have h1 : H[a]? = some (arrV (cA 0) (K - 100) (fun j => .int (iN (f j)))) := hv
  have h2 : arrV (cA 0) (K - 100) (fun j => .int (iN (f j))) = arrV (cA 0) (K - 100) (fun j => .int (iN (g j))) := arrV_eq (fun j hj => by rw [h j hj])
  have h3 : H[a]? = some (arrV (cA 0) (K - 100) (fun j => .int (iN (g j)))) := h1.trans (congrArg some h2)
  exact h3
theorem va_rez {D : va_G} {H : Heap} {r : Nat → Nat} {cA : Nat → ClassId} {z1 z2 : Zt} (h : ∀ i j, i < NN → ksz (kd i) j → z1 i j = z2 i j) (hP : va_P D vwCl (wz r cA z1) H) : va_P D vwCl (wz r cA z2) H := by
  intro k q hk
  obtain ⟨hk1, rfl⟩ := wl_key hk
  exact cl_re (fun j hj => h k j hk1 hj) (hP k _ (wl_at hk1))
section VS
variable {l : Launch} {D : va_G} {cA : Nat → ClassId} {r : Nat → Nat} {Rm : Room} {Γ : Cx} {cc : ByteArray} {own : String} {Ts : List Cond} {mL : Nat} {z : Zt} {kc ks : Nat} {lv : List (Nat × Value)} {pc : Nat} {st : List Value}

theorem v_re (G : Cok l D cA r Rm Γ cc own Ts mL) (z2 : Zt) (h : ∀ i j, i < NN → ksz (kd i) j → z i j = z2 i j) (kk : V Γ z2 kc ks lv pc st) : V Γ z kc ks lv pc st := by
  obtain ⟨p, l', e, R, s, m, args, below, meth, c, Q, A, D', cA', nL, r'⟩ := Γ
  obtain ⟨⟨rfl, rfl, rfl, rfl, rfl, rfl⟩, ⟨hx, hb, hml, hown, hts⟩, hK, hN, hr, hA⟩ := G
  intro H locs ls hP hS hL
  exact kk H locs ls (va_rez h hP) hS hL

theorem v_iadd0 (G : Cok l D cA r Rm Γ cc own Ts mL) {x y : Int32} (d : decode cc pc = .ok (.iadd, 1)) (kk : V Γ z kc ks lv (pc + 1) (.int (x + y) :: st)) : V Γ z kc ks lv pc (.int y :: .int x :: st) := by
  obtain ⟨p, l', e, R, s, m, args, below, meth, c, Q, A, D', cA', nL, r'⟩ := Γ
  obtain ⟨⟨rfl, rfl, rfl, rfl, rfl, rfl⟩, ⟨hx, hb, hml, hown, hts⟩, hK, hN, hr, hA⟩ := G
  intro H locs ls hP hS hL
  exact lv_iadd hx hb d (kk H locs ls hP hS hL)

theorem v_isub0 (G : Cok l D cA r Rm Γ cc own Ts mL) {x y : Int32} (d : decode cc pc = .ok (.isub, 1)) (kk : V Γ z kc ks lv (pc + 1) (.int (x - y) :: st)) : V Γ z kc ks lv pc (.int y :: .int x :: st) := by
  obtain ⟨p, l', e, R, s, m, args, below, meth, c, Q, A, D', cA', nL, r'⟩ := Γ
  obtain ⟨⟨rfl, rfl, rfl, rfl, rfl, rfl⟩, ⟨hx, hb, hml, hown, hts⟩, hK, hN, hr, hA⟩ := G
  intro H locs ls hP hS hL
  exact lv_isub hx hb d (kk H locs ls hP hS hL)

theorem v_iushr0 (G : Cok l D cA r Rm Γ cc own Ts mL) {x y : Int32} (d : decode cc pc = .ok (.iushr, 1)) (kk : V Γ z kc ks lv (pc + 1) (.int ((x.toUInt32 >>> (y.toUInt32 &&& Int32.toUInt32 31)).toInt32) :: st)) : V Γ z kc ks lv pc (.int y :: .int x :: st) := by
  obtain ⟨p, l', e, R, s, m, args, below, meth, c, Q, A, D', cA', nL, r'⟩ := Γ
  obtain ⟨⟨rfl, rfl, rfl, rfl, rfl, rfl⟩, ⟨hx, hb, hml, hown, hts⟩, hK, hN, hr, hA⟩ := G
  intro H locs ls hP hS hL
  exact lv_iushr hx hb d rfl (kk H locs ls hP hS hL)

theorem v_ldcw (G : Cok l D cA r Rm Γ cc own Ts mL) {v : Int32} {idx : Nat} (hc : Cond.constant own idx v ∈ Ts) (d : decode cc pc = .ok (.ldc_w idx, 3)) (kk : V Γ z kc ks lv (pc + 3) (.int v :: st)) : V Γ z kc ks lv pc st := by
  obtain ⟨p, l', e, R, s, m, args, below, meth, c, Q, A, D', cA', nL, r'⟩ := Γ
  obtain ⟨⟨rfl, rfl, rfl, rfl, rfl, rfl⟩, ⟨hx, hb, hml, hown, hts⟩, hK, hN, hr, hA⟩ := G
  intro H locs ls hP hS hL
  exact lv_ldcw hx hb hown (hts _ hc) d (kk H locs ls hP hS hL)

end VS
/-! the bits of a number, counted -/
def popK (n : Nat) : Nat → Nat
  | 0 => 0
  | k + 1 => popK n k + (n.testBit k).toNat
theorem popK_cnt {n : Nat} {Q : Nat → Prop} (h : ∀ j : Nat, n.testBit j = true ↔ Q j) : ∀ k, (popK n k : Int) = cntP Q k
  | 0 => rfl
  | k + 1 => by
    simp only [popK, cntP]
    rw [← popK_cnt h k]
    by_cases q : Q k
    · rw [ind_t q, (h k).mpr q]
      simp
    · rw [ind_f q, Bool.eq_false_iff.mpr (fun e => q ((h k).mp e))]
      simp
def bc1 (x : Int32) : Int32 := x - ((x.toUInt32 >>> ((iN 1).toUInt32 &&& Int32.toUInt32 31)).toInt32 &&& 1431655765)
def bc2 (x : Int32) : Int32 := (x &&& 858993459) + ((x.toUInt32 >>> ((iN 2).toUInt32 &&& Int32.toUInt32 31)).toInt32 &&& 858993459)
def bc3 (x : Int32) : Int32 := (x + (x.toUInt32 >>> ((iN 4).toUInt32 &&& Int32.toUInt32 31)).toInt32) &&& 252645135
def bc4 (x : Int32) : Int32 := x + (x.toUInt32 >>> ((iN 8).toUInt32 &&& Int32.toUInt32 31)).toInt32
def bc5 (x : Int32) : Int32 := x + (x.toUInt32 >>> ((iN 16).toUInt32 &&& Int32.toUInt32 31)).toInt32
def bc6 (x : Int32) : Int32 := x &&& iN 63
set_option maxRecDepth 100000 in
theorem bc_all : ∀ n, n < 1024 → bc6 (bc5 (bc4 (bc3 (bc2 (bc1 (nI n)))))) = nI (popK n 10) := by decide +kernel
theorem bc_ok {Q : Nat → Prop} {v : Int} (h : isSet Q v) : bc6 (bc5 (bc4 (bc3 (bc2 (bc1 (iN v)))))) = iN (cntP Q 10) := by
  obtain ⟨n, rfl, h1, h2⟩ := h
  rw [iN_nI, bc_all n h1, ← iN_nI, popK_cnt h2 10]
/-! copies -/
def cpy (z : Zt) (a b : Nat) : Zt := fun i => if i = a then z b else z i
def cpT (z : Zt) (t u : Nat) : Zt := fun i => if i = t then z u else if i = t + 1 then z (u + 1) else if i = t + 2 then z (u + 2) else z i
def cpS (z : Zt) (s q k : Nat) : Zt := fun i => if s + 1 ≤ i ∧ i < s + 7 then z (i - s + q) else if s + 8 ≤ i ∧ i < s + 8 + k then z (i - s + q) else z i
def cpB (z : Zt) (s q : Nat) : Zt := fun i => if s ≤ i ∧ i < s + 18 then z (i - s + q) else z i
theorem TT_ne {t u : Nat} (ht : kd t = 3) (hu : kd u = 3) : u ≠ t + 1 ∧ u ≠ t + 2 ∧ t ≠ u + 1 ∧ t ≠ u + 2 := by
  refine ⟨fun e => ?_, fun e => ?_, fun e => ?_, fun e => ?_⟩
  · rw [e, kT_D ht] at hu; cases hu
  · rw [e, kT_L ht] at hu; cases hu
  · rw [e, kT_D hu] at ht; cases ht
  · rw [e, kT_L hu] at ht; cases ht
theorem S_base {s : Nat} (h : kd s = 2) : s = 1 ∨ ∃ j : Nat, j < 8 ∧ s = 25 + 18 * j := by
  have h1 := kd_all (P := fun i k => k != 2 || decide (i = 1 ∨ ((25 ≤ i ∧ i < 169) ∧ (i - 25) % 18 = 0))) (by decide +kernel) h (by decide)
  have h2 : s = 1 ∨ ((25 ≤ s ∧ s < 169) ∧ (s - 25) % 18 = 0) := by simpa using h1
  rcases h2 with q | ⟨q1, q2⟩
  · exact Or.inl q
  · exact Or.inr ⟨(s - 25) / 18, by omega, by omega⟩
theorem SS_far {s q : Nat} (hs : kd s = 2) (hq : kd q = 2) (h : s ≠ q) : s + 18 ≤ q ∨ q + 18 ≤ s := by
  rcases S_base hs with a | ⟨j, a1, a2⟩ <;> rcases S_base hq with b | ⟨k, b1, b2⟩ <;> omega
theorem cpS_0 {z : Zt} {s q : Nat} (h : s + 18 ≤ q ∨ q + 18 ≤ s) : cpT (cpT z (s + 1) (q + 1)) (s + 4) (q + 4) = cpS z s q 0 := by
  funext i
  unfold cpT cpS
  by_cases a1 : i = s + 1
  · subst a1; rw [if_neg (by omega), if_neg (by omega), if_neg (by omega), if_pos rfl, if_pos (by omega), show s + 1 - s + q = q + 1 by omega]
  by_cases a2 : i = s + 2
  · subst a2; rw [if_neg (by omega), if_neg (by omega), if_neg (by omega), if_neg (by omega), if_pos rfl, if_pos (by omega), show s + 2 - s + q = q + 1 + 1 by omega]
  by_cases a3 : i = s + 3
  · subst a3; rw [if_neg (by omega), if_neg (by omega), if_neg (by omega), if_neg (by omega), if_neg (by omega), if_pos rfl, if_pos (by omega), show s + 3 - s + q = q + 1 + 2 by omega]
  by_cases a4 : i = s + 4
  · subst a4; rw [if_pos rfl, if_neg (by omega), if_neg (by omega), if_neg (by omega), if_pos (by omega), show s + 4 - s + q = q + 4 by omega]
  by_cases a5 : i = s + 5
  · subst a5; rw [if_neg (by omega), if_pos rfl, if_neg (by omega), if_neg (by omega), if_neg (by omega), if_pos (by omega), show s + 5 - s + q = q + 4 + 1 by omega]
  by_cases a6 : i = s + 6
  · subst a6; rw [if_neg (by omega), if_neg (by omega), if_pos rfl, if_neg (by omega), if_neg (by omega), if_neg (by omega), if_pos (by omega), show s + 6 - s + q = q + 4 + 2 by omega]
  rw [if_neg (by omega), if_neg (by omega), if_neg (by omega), if_neg (by omega), if_neg (by omega), if_neg (by omega), if_neg (by omega), if_neg (by omega)]
theorem cpS_s {z : Zt} {s q k : Nat} (h : s + 18 ≤ q ∨ q + 18 ≤ s) (hk : k < 10) : cpy (cpS z s q k) (s + 7 + 1 + k) (q + 7 + 1 + k) = cpS z s q (k + 1) := by
  funext i
  unfold cpy cpS
  by_cases a1 : i = s + 7 + 1 + k
  · subst a1
    rw [if_pos rfl, if_neg (by omega), if_neg (by omega), if_neg (by omega), if_pos (by omega), show s + 7 + 1 + k - s + q = q + 7 + 1 + k by omega]
  · rw [if_neg a1]
    by_cases a2 : s + 1 ≤ i ∧ i < s + 7
    · rw [if_pos a2, if_pos a2]
    · rw [if_neg a2, if_neg a2]
      by_cases a3 : s + 8 ≤ i ∧ i < s + 8 + k
      · rw [if_pos a3, if_pos (by omega)]
      · rw [if_neg a3, if_neg (by omega)]
theorem cpS_q {z : Zt} {s q k i : Nat} (h : s + 18 ≤ q ∨ q + 18 ≤ s) (hk : k ≤ 10) (hi : i < 18) : cpS z s q k (q + i) = z (q + i) := by
  unfold cpS
  rw [if_neg (by omega), if_neg (by omega)]
theorem cpS_own {z : Zt} {s q k : Nat} : cpS z s q k s = z s ∧ cpS z s q k (s + 7) = z (s + 7) := by
  unfold cpS
  constructor
  · rw [if_neg (by omega), if_neg (by omega)]
  · rw [if_neg (by omega), if_neg (by omega)]
theorem cpT_o {z : Zt} {t u i : Nat} (h1 : i ≠ t) (h2 : i ≠ t + 1) (h3 : i ≠ t + 2) : cpT z t u i = z i := by
  unfold cpT
  rw [if_neg h1, if_neg h2, if_neg h3]

