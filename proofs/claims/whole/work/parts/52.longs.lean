/-! longs as numbers below 2^64 -/
theorem wb_tb (n : Nat) : (lN n).toBitVec = BitVec.ofNat 64 n := rfl
theorem wb_inj {a b : Int64} (h : a.toBitVec = b.toBitVec) : a = b := Int64.toBitVec_inj.mp h
theorem wb_tn {n : Nat} (h : n < 2 ^ 64) : (lN n).toBitVec.toNat = n := by rw [wb_tb, BitVec.toNat_ofNat, Nat.mod_eq_of_lt h]
theorem wb_of (x : Int64) : ∃ n, n < 2 ^ 64 ∧ x = lN n := ⟨x.toBitVec.toNat, x.toBitVec.isLt, wb_inj (by rw [wb_tb]; simp)⟩
theorem wb_of32 (x : Int32) : ∃ n, n < 2 ^ 32 ∧ x = nI n := ⟨x.toBitVec.toNat, x.toBitVec.isLt, Int32.toBitVec_inj.mp (by show _ = BitVec.ofNat 32 _; simp)⟩
theorem wb_c : ∀ k, k < 64 → ((nI k).toInt64 &&& 63) = lN k := by decide +kernel
theorem wb_cu : ∀ k, k < 64 → ((nI k).toInt64.toUInt64 &&& Int64.toUInt64 63) = UInt64.ofNat k := by decide +kernel
theorem wb_sm : ∀ k, k < 64 → (BitVec.ofNat 64 k).smod 64 = BitVec.ofNat 64 k := by decide +kernel
theorem wb_lt2 {a b : Nat} (h : a < b) : 2 ^ a < 2 ^ b := Nat.pow_lt_pow_right (by decide) h
theorem wb_mod (n : Nat) : lN n = lN (n % 2 ^ 64) := wb_inj (by rw [wb_tb, wb_tb]; apply BitVec.eq_of_toNat_eq; rw [BitVec.toNat_ofNat, BitVec.toNat_ofNat, Nat.mod_mod])
theorem wb_shr {n k : Nat} (hn : n < 2 ^ 64) (hk : k < 64) : ((lN n).toUInt64 >>> ((nI k).toInt64.toUInt64 &&& Int64.toUInt64 63)).toInt64 = lN (n / 2 ^ k) := by
  rw [wb_cu k hk]
  apply wb_inj
  apply BitVec.eq_of_toNat_eq
  show ((lN n).toUInt64 >>> UInt64.ofNat k).toNat = (BitVec.ofNat 64 _).toNat
  have h1 : (UInt64.ofNat k).toNat = k := by
    show (BitVec.ofNat 64 k).toNat = k
    rw [BitVec.toNat_ofNat, Nat.mod_eq_of_lt (by omega)]
  have h2 : (lN n).toUInt64.toNat = n := wb_tn hn
  rw [UInt64.toNat_shiftRight, h1, h2, Nat.mod_eq_of_lt hk, Nat.shiftRight_eq_div_pow, BitVec.toNat_ofNat, Nat.mod_eq_of_lt (Nat.lt_of_le_of_lt (Nat.div_le_self _ _) hn)]
theorem wb_and {a b : Nat} (ha : a < 2 ^ 64) (hb : b < 2 ^ 64) : lN a &&& lN b = lN (a &&& b) := by
  apply wb_inj
  rw [Int64.toBitVec_and, wb_tb, wb_tb, wb_tb]
  apply BitVec.eq_of_toNat_eq
  rw [BitVec.toNat_and, BitVec.toNat_ofNat, BitVec.toNat_ofNat, BitVec.toNat_ofNat, Nat.mod_eq_of_lt ha, Nat.mod_eq_of_lt hb, Nat.mod_eq_of_lt (Nat.and_lt_two_pow _ hb)]
theorem wb_mask {n k : Nat} (hn : n < 2 ^ 64) (hk : k < 64) : lN n &&& lN (2 ^ k - 1) = lN (n % 2 ^ k) := by
  rw [wb_and hn (by have := wb_lt2 hk; omega), Nat.and_two_pow_sub_one_eq_mod]
theorem lN_inj {a b : Nat} (ha : a < 2 ^ 64) (hb : b < 2 ^ 64) (h : lN a = lN b) : a = b := by
  have h2 := congrArg (fun x : Int64 => x.toBitVec.toNat) h
  simp only [wb_tn ha, wb_tn hb] at h2
  exact h2
def lcr (x y : Int64) : Int := if x = y then 0 else if x > y then 1 else -1
theorem lcr_bd (x y : Int64) : -1 ≤ lcr x y ∧ lcr x y ≤ 1 := by
  unfold lcr
  split
  · omega
  · split <;> omega
theorem lcr_rg (x y : Int64) : -2147483648 ≤ lcr x y ∧ lcr x y < 2147483648 := by
  have := lcr_bd x y
  omega
theorem lcr_0 {x y : Int64} : lcr x y = 0 ↔ x = y := by
  unfold lcr
  by_cases q : x = y
  · simp [q]
  · rw [if_neg q]
    constructor
    · intro h
      split at h <;> omega
    · intro h
      exact absurd h q
/-- a byte of it -/
def bt8 (n p : Nat) : Int := ((n / 2 ^ (8 * p) % 256 : Nat) : Int)
theorem bt8_bd (n p : Nat) : 0 ≤ bt8 n p ∧ bt8 n p ≤ 255 := by
  unfold bt8
  have := Nat.mod_lt (n / 2 ^ (8 * p)) (show 0 < 256 by decide)
  omega
theorem bt8_0 {n c p : Nat} (h : n / 2 ^ (8 * c) = 0) (hp : c ≤ p) : n / 2 ^ (8 * p) = 0 ∧ bt8 n p = 0 := by
  have h1 : n < 2 ^ (8 * c) := by
    rcases Nat.lt_or_ge n (2 ^ (8 * c)) with q | q
    · exact q
    · have := Nat.div_pos q (Nat.two_pow_pos (8 * c))
      omega
  have h2 : 2 ^ (8 * c) ≤ 2 ^ (8 * p) := Nat.pow_le_pow_right (by decide) (by omega)
  have h3 : n / 2 ^ (8 * p) = 0 := Nat.div_eq_of_lt (by omega)
  refine ⟨h3, ?_⟩
  unfold bt8
  rw [h3]
  rfl
def goodC (n c : Nat) : Prop := 1 ≤ c ∧ c ≤ 8 ∧ (∀ p : Nat, p < c → 33 ≤ bt8 n p ∧ bt8 n p ≤ 126) ∧ n / 2 ^ (8 * c) = 0
theorem goodC_one {n c e : Nat} (h : goodC n c) (h2 : goodC n e) : c = e := by
  obtain ⟨a1, a2, a3, a4⟩ := h
  obtain ⟨b1, b2, b3, b4⟩ := h2
  rcases Nat.lt_trichotomy c e with q | q | q
  · have := b3 c q
    have := (bt8_0 a4 (Nat.le_refl c)).2
    omega
  · exact q
  · have := a3 e q
    have := (bt8_0 b4 (Nat.le_refl e)).2
    omega
/-- the first k characters are proper, the next is none: no other count can be good -/
theorem goodC_no {n k : Nat} (hb : ¬ (33 ≤ bt8 n k ∧ bt8 n k ≤ 126)) (h0 : n / 2 ^ (8 * k) ≠ 0) : ∀ c, ¬ goodC n c := fun c hc => by
  obtain ⟨a1, a2, a3, a4⟩ := hc
  rcases Nat.lt_or_ge k c with q | q
  · exact hb (a3 k q)
  · exact h0 (bt8_0 a4 q).1
theorem goodC_no0 {n : Nat} (h0 : bt8 n 0 = 0) : ∀ c, ¬ goodC n c := fun c hc => by
  have := hc.2.2.1 0 (by have := hc.1; omega)
  omega
theorem bt8_ne {n k : Nat} (h : bt8 n k ≠ 0) : n / 2 ^ (8 * k) ≠ 0 := fun e => h (bt8_0 (c := k) e (Nat.le_refl k)).2
theorem n8_0 {n : Nat} (hn : n < 2 ^ 64) {k : Nat} (hk : 8 ≤ k) : n / 2 ^ (8 * k) = 0 := (bt8_0 (c := 8) (Nat.div_eq_of_lt hn) hk).1
/-- so many of the characters stand behind the text -/
def apG (A L k : Nat) (z : Zt) (n c m : Nat) : Zt := zup (zset z A (fun j => if (z L k).toNat ≤ j ∧ j < (z L k).toNat + m then bt8 n ((z L k).toNat + c - 1 - j) else z A j)) L k (z L k + m)
theorem zup_self (z : Zt) (i k : Nat) : zup z i k (z i k) = z := by
  funext a j
  unfold zup
  by_cases q : a = i
  · subst q
    rw [if_pos rfl]
    by_cases q2 : j = k
    · subst q2; rw [if_pos rfl]
    · rw [if_neg q2]
  · rw [if_neg q]
theorem apG_0 {A L k : Nat} (z : Zt) (n c : Nat) : apG A L k z n c 0 = z := by
  unfold apG
  have e : (fun j => if (z L k).toNat ≤ j ∧ j < (z L k).toNat + 0 then bt8 n ((z L k).toNat + c - 1 - j) else z A j) = z A := by
    funext j
    rw [if_neg (by omega)]
  rw [e, zset_same, show z L k + ((0 : Nat) : Int) = z L k by omega, zup_self]
theorem apG_L {A L k : Nat} (z : Zt) (n c m : Nat) : apG A L k z n c m L k = z L k + m := by
  simp [apG, zup]
theorem apG_s {A L k : Nat} {z : Zt} {n c m : Nat} (hAL : A ≠ L) (h0 : 0 ≤ z L k) (hm : m < c) : zup (zup (apG A L k z n c m) A (apG A L k z n c m L k).toNat (bt8 n (c - 1 - m))) L k (apG A L k z n c m L k + 1) = apG A L k z n c (m + 1) := by
  rw [apG_L]
  funext a j
  by_cases qL : a = L
  · subst qL
    by_cases qk : j = k
    · subst qk
      simp [zup, apG]
      omega
    · simp [zup, apG, qk, zset, Ne.symm hAL]
  · by_cases qA : a = A
    · subst qA
      have e : (z L k + (m : Int)).toNat = (z L k).toNat + m := by omega
      by_cases qj : j = (z L k).toNat + m
      · subst qj
        simp only [zup, apG, zset, if_neg hAL, if_pos, e]
        rw [if_pos (by omega), show (z L k).toNat + c - 1 - ((z L k).toNat + m) = c - 1 - m by omega]
      · simp only [zup, apG, zset, if_neg hAL, if_pos, e, if_neg qj]
        by_cases q2 : (z L k).toNat ≤ j ∧ j < (z L k).toNat + m
        · rw [if_pos q2, if_pos (by omega)]
        · rw [if_neg q2, if_neg (by omega)]
    · simp [zup, apG, zset, qL, qA]
section VL
variable {l : Launch} {D : va_G} {cA : Nat → ClassId} {r : Nat → Nat} {Rm : Room} {Γ : Cx} {cc : ByteArray} {own : String} {Ts : List Cond} {mL : Nat} {z : Zt} {kc ks : Nat} {lv : List (Nat × Value)} {pc : Nat} {st : List Value}

theorem v_lconst (G : Cok l D cA r Rm Γ cc own Ts mL) {n : Fin 2} (d : decode cc pc = .ok (.lconst n, 1)) (kk : V Γ z kc ks lv (pc + 1) (.long (lN (n : Nat)) :: st)) : V Γ z kc ks lv pc st := by
  obtain ⟨p, l', e, R, s, m, args, below, meth, c, Q, A, D', cA', nL, r'⟩ := Γ
  obtain ⟨⟨rfl, rfl, rfl, rfl, rfl, rfl⟩, ⟨hx, hb, hml, hown, hts⟩, hK, hN, hr, hA⟩ := G
  intro H locs ls hP hS hL
  exact lv_lconst hx hb d rfl (kk H locs ls hP hS hL)

theorem v_ldc2 (G : Cok l D cA r Rm Γ cc own Ts mL) {v : Int64} {idx : Nat} (hc : Cond.constantLong own idx v ∈ Ts) (d : decode cc pc = .ok (.ldc2_w idx, 3)) (kk : V Γ z kc ks lv (pc + 3) (.long v :: st)) : V Γ z kc ks lv pc st := by
  obtain ⟨p, l', e, R, s, m, args, below, meth, c, Q, A, D', cA', nL, r'⟩ := Γ
  obtain ⟨⟨rfl, rfl, rfl, rfl, rfl, rfl⟩, ⟨hx, hb, hml, hown, hts⟩, hK, hN, hr, hA⟩ := G
  intro H locs ls hP hS hL
  exact lv_ldc2 hx hb hown (hts _ hc) d (kk H locs ls hP hS hL)

theorem v_eql (G : Cok l D cA r Rm Γ cc own Ts mL) {x y : Int64} (h : x = y) (kk : V Γ z kc ks lv pc (.long y :: st)) : V Γ z kc ks lv pc (.long x :: st) := by
  obtain ⟨p, l', e, R, s, m, args, below, meth, c, Q, A, D', cA', nL, r'⟩ := Γ
  obtain ⟨⟨rfl, rfl, rfl, rfl, rfl, rfl⟩, ⟨hx, hb, hml, hown, hts⟩, hK, hN, hr, hA⟩ := G
  intro H locs ls hP hS hL
  rw [h]
  exact kk H locs ls hP hS hL

theorem v_land0 (G : Cok l D cA r Rm Γ cc own Ts mL) {x y : Int64} (d : decode cc pc = .ok (.land, 1)) (kk : V Γ z kc ks lv (pc + 1) (.long (x &&& y) :: st)) : V Γ z kc ks lv pc (.long y :: .long x :: st) := by
  obtain ⟨p, l', e, R, s, m, args, below, meth, c, Q, A, D', cA', nL, r'⟩ := Γ
  obtain ⟨⟨rfl, rfl, rfl, rfl, rfl, rfl⟩, ⟨hx, hb, hml, hown, hts⟩, hK, hN, hr, hA⟩ := G
  intro H locs ls hP hS hL
  exact lv_land hx hb d (kk H locs ls hP hS hL)

theorem v_land255 (G : Cok l D cA r Rm Γ cc own Ts mL) {n : Nat} (hn : n < 2 ^ 64) (d : decode cc pc = .ok (.land, 1)) (kk : V Γ z kc ks lv (pc + 1) (.long (lN (n % 256)) :: st)) : V Γ z kc ks lv pc (.long (lN 255) :: .long (lN n) :: st) := by
  obtain ⟨p, l', e, R, s, m, args, below, meth, c, Q, A, D', cA', nL, r'⟩ := Γ
  obtain ⟨⟨rfl, rfl, rfl, rfl, rfl, rfl⟩, ⟨hx, hb, hml, hown, hts⟩, hK, hN, hr, hA⟩ := G
  intro H locs ls hP hS hL
  refine lv_land hx hb d ?_
  rw [show (255 : Nat) = 2 ^ 8 - 1 from rfl, wb_mask hn (by decide)]
  exact kk H locs ls hP hS hL

theorem v_l2iN (G : Cok l D cA r Rm Γ cc own Ts mL) {n : Nat} (d : decode cc pc = .ok (.l2i, 1)) (kk : V Γ z kc ks lv (pc + 1) (.int (iN (n : Int)) :: st)) : V Γ z kc ks lv pc (.long (lN n) :: st) := by
  obtain ⟨p, l', e, R, s, m, args, below, meth, c, Q, A, D', cA', nL, r'⟩ := Γ
  obtain ⟨⟨rfl, rfl, rfl, rfl, rfl, rfl⟩, ⟨hx, hb, hml, hown, hts⟩, hK, hN, hr, hA⟩ := G
  intro H locs ls hP hS hL
  exact lv_l2i hx hb d ((lN_i n).trans (iN_nI n).symm) (kk H locs ls hP hS hL)

theorem v_lushrN (G : Cok l D cA r Rm Γ cc own Ts mL) {n : Nat} {k : Int} (hn : n < 2 ^ 64) (hk : 0 ≤ k ∧ k < 64) (d : decode cc pc = .ok (.lushr, 1)) (kk : V Γ z kc ks lv (pc + 1) (.long (lN (n / 2 ^ k.toNat)) :: st)) : V Γ z kc ks lv pc (.int (iN k) :: .long (lN n) :: st) := by
  obtain ⟨p, l', e, R, s, m, args, below, meth, c, Q, A, D', cA', nL, r'⟩ := Γ
  obtain ⟨⟨rfl, rfl, rfl, rfl, rfl, rfl⟩, ⟨hx, hb, hml, hown, hts⟩, hK, hN, hr, hA⟩ := G
  intro H locs ls hP hS hL
  have ek : iN k = nI k.toNat := by
    rw [← iN_nI]
    exact congrArg iN (by omega)
  rw [ek]
  exact lv_lushr hx hb d (wb_shr hn (by omega)) (kk H locs ls hP hS hL)

theorem v_lcmp (G : Cok l D cA r Rm Γ cc own Ts mL) {x y : Int64} (d : decode cc pc = .ok (.lcmp, 1)) (kk : V Γ z kc ks lv (pc + 1) (.int (iN (lcr x y)) :: st)) : V Γ z kc ks lv pc (.long y :: .long x :: st) := by
  obtain ⟨p, l', e, R, s, m, args, below, meth, c, Q, A, D', cA', nL, r'⟩ := Γ
  obtain ⟨⟨rfl, rfl, rfl, rfl, rfl, rfl⟩, ⟨hx, hb, hml, hown, hts⟩, hK, hN, hr, hA⟩ := G
  intro H locs ls hP hS hL
  intro T hT X
  obtain ⟨t, a, b⟩ := kk H locs ls hP hS hL T hT X
  refine ⟨t, ?_, b⟩
  by_cases h2 : x = y
  · have e9 : iN (lcr x y) = 0 := by
      unfold lcr
      rw [if_pos h2]
      rfl
    rw [e9] at a
    have h1 : ¬ x > y := by
      rw [h2]
      exact Int64.lt_irrefl
    have h3 : (x == y) = true := beq_iff_eq.mpr h2
    jvm_step X.here [X.here.top, hx, hb, d]
    simp only [h1, h3, if_true, if_false]
    rw [if_pos h2]
    exact a
  · have h3 : (x == y) = false := beq_eq_false_iff_ne.mpr h2
    by_cases h1 : x > y
    · have e9 : iN (lcr x y) = 1 := by
        unfold lcr
        rw [if_neg h2, if_pos h1]
        rfl
      rw [e9] at a
      jvm_step X.here [X.here.top, hx, hb, d]
      simp only [h1, if_true]
      exact a
    · have e9 : iN (lcr x y) = -1 := by
        unfold lcr
        rw [if_neg h2, if_neg h1]
        rfl
      rw [e9] at a
      jvm_step X.here [X.here.top, hx, hb, d]
      simp only [h1, h3, if_false]
      rw [if_neg h2]
      exact a

theorem v_lstore (G : Cok l D cA r Rm Γ cc own Ts mL) {i : Nat} {x : Int64} (lv' : List (Nat × Value)) (d : decode cc pc = .ok (.lstore i, 2)) (hq : i + 1 < mL) (h5 : lv.all (fun q => !(q.1 == i + 1)) = true) (hl : lput lv i (.long x) = lv') (kk : V Γ z kc ks lv' (pc + 2) st) : V Γ z kc ks lv pc (.long x :: st) := by
  obtain ⟨p, l', e, R, s, m, args, below, meth, c, Q, A, D', cA', nL, r'⟩ := Γ
  obtain ⟨⟨rfl, rfl, rfl, rfl, rfl, rfl⟩, ⟨hx, hb, hml, hown, hts⟩, hK, hN, hr, hA⟩ := G
  intro H locs ls hP hS hL
  have e9 : lv.filter (fun q => !(q.1 == i) && (!(q.1 == i + 1) && !(q.1 + 1 == i && q.2.category == 2))) = lv.filter (fun q => !(q.1 == i) && !(q.1 + 1 == i && q.2.category == 2)) := by
    refine List.filter_congr (fun q hq => ?_)
    have h6 := List.all_eq_true.mp h5 q hq
    rw [h6, Bool.true_and]
  exact lv_lstore hx hb d hL hq rfl (fun ls' h' => kk H locs ls' hP hS (hl ▸ lput_has (e9 ▸ h')))

end VL
/-! a state that agrees: its quarrels -/
theorem blk_quS {z z1 : Zt} {s : Nat} (h : blkE z z1 s) (h10 : z s 3 ≤ 10) (d : Int) : quS z1 s d ↔ quS z s d := by
  have e0 : z1 s = z s := h 0 (by decide)
  have key : ∀ (j : Nat) (a : Int), (((j : Int) < z1 s 3 ∧ onS z1 s (s + 8 + j) d) ∧ ((j : Int) < z1 s 3 ∧ z1 (s + 8 + j) 0 = a)) ↔ (((j : Int) < z s 3 ∧ onS z s (s + 8 + j) d) ∧ ((j : Int) < z s 3 ∧ z (s + 8 + j) 0 = a)) := fun j a => by
    rw [e0]
    by_cases q : (j : Int) < z s 3
    · have e1 := blk_onS h (k := j) (by omega)
      have e2 : z1 (s + 8 + j) = z (s + 8 + j) := by
        rw [show s + 8 + j = s + (8 + j) by omega]
        exact h _ (by omega)
      rw [e1, e2]
    · simp [q]
  unfold quS
  constructor
  · rintro ⟨⟨j, a1⟩, k, b1⟩
    exact ⟨⟨j, (key j 0).mp a1⟩, k, (key k 1).mp b1⟩
  · rintro ⟨⟨j, a1⟩, k, b1⟩
    exact ⟨⟨j, (key j 0).mpr a1⟩, k, (key k 1).mpr b1⟩
theorem tid_or (t : Int) : tid t = 2 ∨ tid t = 5 := by
  unfold tid
  split
  · exact Or.inl rfl
  · exact Or.inr rfl
theorem recZ_tid {z : Zt} (h : PI z) (t : Int) {k : Nat} (hk : k < 3) : recZ z (tid t + k) = z (tid t + k) := by
  rcases tid_or t with q | q
  · rw [q, show 2 + k = 1 + (1 + k) by omega]
    exact recZ_1 h (by omega)
  · rw [q, show 5 + k = 1 + (4 + k) by omega]
    exact recZ_1 h (by omega)
theorem recZ_f {z : Zt} (h : PI z) {k : Nat} (hk : k < 10) : recZ z (9 + k) = z (9 + k) := by
  rw [show 9 + k = 1 + (8 + k) by omega]
  exact recZ_1 h (by omega)
theorem recZ_s {z : Zt} (h : PI z) : recZ z 1 = z 1 := recZ_1 (j := 0) h (by decide)
/-- the best of the first k, by the least count -/
def bwN (Q : Nat → Int) : Nat → Int × Int
  | 0 => (401, -1)
  | k + 1 => if Q k < (bwN Q k).1 then (Q k, (k : Int)) else bwN Q k
theorem bwN_bd {Q : Nat → Int} (hQ : ∀ k, 0 ≤ Q k ∧ Q k ≤ 400) : ∀ k, 0 ≤ (bwN Q k).1 ∧ (bwN Q k).1 ≤ 401 ∧ (0 < k → (bwN Q k).1 ≤ 400) ∧ -1 ≤ (bwN Q k).2 ∧ (bwN Q k).2 < k
  | 0 => by simp [bwN]
  | k + 1 => by
    have h1 := bwN_bd hQ k
    have h2 := hQ k
    simp only [bwN]
    split
    · show 0 ≤ Q k ∧ Q k ≤ 401 ∧ (0 < k + 1 → Q k ≤ 400) ∧ -1 ≤ (k : Int) ∧ (k : Int) < ((k + 1 : Nat) : Int)
      omega
    · omega
theorem bwN_t {Q : Nat → Int} {k : Nat} (h : Q k < (bwN Q k).1) : (bwN Q (k + 1)).1 = Q k ∧ (bwN Q (k + 1)).2 = k := by
  simp only [bwN]
  rw [if_pos h]
  exact ⟨rfl, rfl⟩
theorem bwN_f {Q : Nat → Int} {k : Nat} (h : ¬ Q k < (bwN Q k).1) : bwN Q (k + 1) = bwN Q k := by
  simp only [bwN]
  rw [if_neg h]
/-- quarrels of the next days -/
noncomputable def qwS (z : Zt) (n : Nat) : Int := cntP (fun i => quS z 1 (z 1 6 + i)) n
theorem qwS_blk {z z1 : Zt} (h : blkE z z1 1) (h10 : z 1 3 ≤ 10) (n : Nat) : qwS z1 n = qwS z n := by
  have e0 : z1 1 = z 1 := h 0 (by decide)
  unfold qwS
  rw [e0]
  exact cntP_congr (fun i _ => blk_quS h h10 _)
def barZ (z : Zt) (f : Nat) (w : Int) : Zt := zup z f 3 w
theorem barZ_SI {z : Zt} {k : Nat} {w : Int} (h : SI z 1) (hk : k < 10) (hw : -1 ≤ w ∧ w ≤ 6) : SI (zup z (9 + k) 3 w) 1 := by
  obtain ⟨h1, h2, h3, h4, h5, h6, h7, h8, h9⟩ := h
  have o : ∀ i, i ≠ 9 + k → zup z (9 + k) 3 w i = z i := fun i hi => by simp [zup, hi]
  refine ⟨?_, ?_, ?_, ?_, ?_, ?_, ?_, ?_, fun j hj => ?_⟩
  · unfold TI
    rw [o _ (by omega), o _ (by omega), o _ (by omega)]
    exact h1
  · unfold TI
    rw [o _ (by omega), o _ (by omega), o _ (by omega)]
    exact h2
  · rw [o _ (by omega)]; exact h3
  · rw [o _ (by omega)]; exact h4
  · rw [o _ (by omega)]; exact h5
  · rw [o _ (by omega)]; exact h6
  · rw [o _ (by omega)]; exact h7
  · rw [o _ (by omega)]; exact h8
  · have h := h9 j hj
    by_cases q : j = k
    · subst q
      unfold FI at h ⊢
      rw [show 1 + 8 + j = 9 + j by omega] at h ⊢
      have e : ∀ a, a ≠ 3 → zup z (9 + j) 3 w (9 + j) a = z (9 + j) a := fun a ha => by simp [zup, ha]
      rw [e 0 (by decide), e 1 (by decide), e 2 (by decide), zup_s]
      omega
    · unfold FI
      rw [o _ (by omega)]
      exact h
theorem ag24_refl (z : Zt) : ag24 z z := fun _ _ => rfl
theorem ag24_put {z z1 : Zt} {i k : Nat} {a b : Int} (h : ag24 (zup z i k a) z1) (hi : i ≠ 24) : ag24 (zup z i k b) (zup z1 i k b) := fun c hc => by
  have h1 := h c hc
  funext j
  unfold zup at h1 ⊢
  by_cases q : c = i
  · subst q
    rw [if_pos rfl] at h1
    rw [if_pos rfl, if_pos rfl]
    by_cases q2 : j = k
    · rw [if_pos q2, if_pos q2]
    · rw [if_neg q2, if_neg q2, h1]
      simp [q2]
  · rw [if_neg q] at h1
    rw [if_neg q, if_neg q, h1]
theorem TI_eq {z w : Zt} {t : Nat} (h0 : w t = z t) (h1 : w (t + 1) = z (t + 1)) (h2 : w (t + 2) = z (t + 2)) : (TI z t → TI w t) ∧ (∀ d, calT w t d = calT z t d) ∧ ∀ d, fdT w t d = fdT z t d := by
  unfold TI calT fdT
  rw [h0, h1, h2]
  exact ⟨id, fun _ => rfl, fun _ => rfl⟩
theorem putZ_o (z : Zt) (c : Int) {i : Nat} (h1 : i ≠ 22) (h2 : i ≠ 23) : putZ z c i = z i := by simp [putZ, zup, h1, h2]
theorem pnZ_o (z : Zt) (n : Int) {i : Nat} (h1 : i ≠ 22) (h2 : i ≠ 23) : pnZ z n i = z i := by
  unfold pnZ
  split
  · rw [putZ_o _ _ h1 h2, putZ_o _ _ h1 h2]
  · rw [putZ_o _ _ h1 h2]
theorem pnZ_len (z : Zt) (n : Int) : z 22 1 + 1 ≤ pnZ z n 22 1 ∧ pnZ z n 22 1 ≤ z 22 1 + 2 := by
  unfold pnZ
  split
  · rw [putZ_len, putZ_len]; omega
  · rw [putZ_len]; omega
/-- the numbers of a text that fits so far -/
theorem num_is {f : Nat → Int} : ∀ i : Nat, (∀ j : Nat, j < i → fitA f j) → 0 < i → prt f i = (dt f i).1 ∧ 1 ≤ (dt f i).1 ∧ (dt f i).1 ≤ 3 ∧ 0 ≤ (dt f i).2 ∧ ∀ w : Int, ((w < (dt f i).1 → 1 ≤ w → 1 ≤ nuN f w i ∧ nuN f w i ≤ 99) ∧ ((dt f i).1 < w → nuN f w i = 0) ∧ (w = (dt f i).1 → ((dt f i).2 = 0 ∧ nuN f w i = 0) ∨ ((dt f i).2 = 1 ∧ 1 ≤ nuN f w i ∧ nuN f w i ≤ 9) ∨ ((dt f i).2 = 2 ∧ 10 ≤ nuN f w i ∧ nuN f w i ≤ 99) ∨ ((dt f i).2 = 3 ∧ w = 3 ∧ 100 ≤ nuN f w i ∧ nuN f w i ≤ 999)))
  | 0, _, h => absurd h (by omega)
  | i + 1, hf, _ => by
    by_cases q : i = 0
    · subst q
      have e := dt_dot (f := f) (i := 0) (Or.inl rfl)
      have e1 : (dt f (0 + 1)).1 = 1 := e.1
      have e2 : (dt f (0 + 1)).2 = 0 := e.2
      rw [e1, e2]
      refine ⟨rfl, by omega, by omega, by omega, fun w => ⟨fun a b => by omega, fun _ => rfl, fun _ => Or.inl ⟨rfl, rfl⟩⟩⟩
    · obtain ⟨h1, h2, h3, h4, h5⟩ := num_is i (fun j hj => hf j (by omega)) (by omega)
      have hfi := hf i (by omega)
      unfold fitA fitC at hfi
      rw [if_neg (by omega)] at hfi
      have ep : prt f (i + 1) = (if f i = 46 then prt f i + 1 else prt f i) := by
        simp only [prt]
        rw [if_neg q]
      have en : ∀ w, nuN f w (i + 1) = (if f i = 46 then nuN f w i else if prt f i = w then nuN f w i * 10 + f i - 48 else nuN f w i) := fun w => by
        simp only [nuN]
        rw [if_neg q]
      by_cases q2 : f i = 46
      · rw [if_pos q2] at hfi
        have e := dt_dot (f := f) (i := i) (Or.inr q2)
        rw [ep, if_pos q2, e.1, e.2]
        refine ⟨by omega, by omega, by omega, by omega, fun w => ?_⟩
        rw [en, if_pos q2]
        obtain ⟨a1, a2, a3⟩ := h5 w
        refine ⟨fun b1 b2 => ?_, fun b1 => a2 (by omega), fun b1 => Or.inl ⟨rfl, a2 (by omega)⟩⟩
        by_cases q3 : w = (dt f i).1
        · rcases a3 q3 with b | b | b | b <;> omega
        · exact a1 (by omega) b2
      · rw [if_neg q2] at hfi
        have e := dt_dig (f := f) (i := i) (by omega)
        rw [ep, if_neg q2, e.1, e.2]
        refine ⟨by omega, by omega, by omega, by omega, fun w => ?_⟩
        rw [en, if_neg q2]
        obtain ⟨a1, a2, a3⟩ := h5 w
        refine ⟨fun b1 b2 => ?_, fun b1 => ?_, fun b1 => ?_⟩
        · rw [if_neg (by omega)]
          exact a1 b1 b2
        · rw [if_neg (by omega)]
          exact a2 b1
        · rw [if_pos (by omega)]
          have a3 := a3 b1
          by_cases q5 : (dt f i).1 = 3
          · rw [if_pos q5] at hfi
            by_cases q6 : (dt f i).2 = 0
            · rw [if_pos q6] at hfi
              omega
            · rw [if_neg q6] at hfi
              omega
          · rw [if_neg q5] at hfi
            by_cases q6 : (dt f i).2 = 0
            · rw [if_pos q6] at hfi
              omega
            · rw [if_neg q6] at hfi
              omega
theorem num_ok {f : Nat → Int} {n : Int} (h : FE f n (-1)) (hn : 0 ≤ n) : 1 ≤ n ∧ (1 ≤ nuN f 1 n.toNat ∧ nuN f 1 n.toNat ≤ 99) ∧ (1 ≤ nuN f 2 n.toNat ∧ nuN f 2 n.toNat ≤ 99) ∧ (1 ≤ nuN f 3 n.toNat ∧ nuN f 3 n.toNat ≤ 999) := by
  rcases h with ⟨i, -, a, -⟩ | ⟨a, b⟩
  · omega
  · by_cases q : (dt f n.toNat).1 = 3 ∧ 0 < (dt f n.toNat).2
    · have hb := dt_bd f n.toNat
      have h1 := num_is n.toNat (fun j hj => a j (by omega)) (by omega)
      have h2 := h1.2.2.2.2
      have h3 := (h2 1).1
      have h4 := (h2 2).1
      have h5 := (h2 3).2.2
      omega
    · rw [if_neg q] at b
      omega

