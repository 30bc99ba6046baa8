/-! numbers: an Int as an Int32 -/
def iN (x : Int) : Int32 := Int32.ofInt x
theorem iN_add (a b : Int) : iN a + iN b = iN (a + b) := (Int32.ofInt_add a b).symm
theorem iN_sub (a b : Int) : iN a - iN b = iN (a - b) := (Int32.ofInt_sub a b).symm
theorem iN_mul (a b : Int) : iN a * iN b = iN (a * b) := (Int32.ofInt_mul a b).symm
theorem iN_int {a : Int} (h : -2147483648 ≤ a ∧ a < 2147483648) : (iN a).toInt = a := Int32.toInt_ofInt_of_le (by omega) (by omega)
theorem iN_of (x : Int32) : iN x.toInt = x := Int32.ofInt_toInt x
theorem iN_lt {a b : Int} (ha : -2147483648 ≤ a ∧ a < 2147483648) (hb : -2147483648 ≤ b ∧ b < 2147483648) : iN a < iN b ↔ a < b := by
  rw [Int32.lt_iff_toInt_lt, iN_int ha, iN_int hb]
theorem iN_le {a b : Int} (ha : -2147483648 ≤ a ∧ a < 2147483648) (hb : -2147483648 ≤ b ∧ b < 2147483648) : iN a ≤ iN b ↔ a ≤ b := by
  rw [Int32.le_iff_toInt_le, iN_int ha, iN_int hb]
theorem iN_eq {a b : Int} (ha : -2147483648 ≤ a ∧ a < 2147483648) (hb : -2147483648 ≤ b ∧ b < 2147483648) : iN a = iN b ↔ a = b := by
  rw [← Int32.toInt_inj, iN_int ha, iN_int hb]
theorem iN_nI (n : Nat) : iN (n : Int) = nI n := Int32.ofInt_eq_ofNat
theorem iN_div {a b : Int} (ha : 0 ≤ a ∧ a < 2147483648) (hb : 0 < b ∧ b < 2147483648) : iN a / iN b = iN (a / b) := by
  obtain ⟨n, rfl⟩ := Int.eq_ofNat_of_zero_le ha.1
  obtain ⟨d, rfl⟩ := Int.eq_ofNat_of_zero_le (show 0 ≤ b by omega)
  rw [iN_nI, iN_nI, pk_div (by omega) (by omega) (by omega), ← iN_nI]
  exact congrArg iN (Int.natCast_ediv n d)
theorem iN_mod {a b : Int} (ha : 0 ≤ a ∧ a < 2147483648) (hb : 0 < b ∧ b < 2147483648) : iN a - iN a / iN b * iN b = iN (a % b) := by
  rw [iN_div ha hb, iN_mul, iN_sub]
  exact congrArg iN (by rw [Int.emod_def, Int.mul_comm])
theorem iN_in {i : Int} {n : Nat} (h : 0 ≤ i ∧ i < (n : Int)) (hn : n < 2147483648) : vp_in (iN i) n := by
  rw [vp_in_iff, iN_int (by omega)]
  exact h
theorem iN_cl {i : Int} (h : 0 ≤ i ∧ i < 2147483648) : (iN i).toNatClampNeg = i.toNat := Int32.toNatClampNeg_ofInt_of_le (by omega) (by omega)
/-! the world: 172 cells, each of a kind; what they hold is Z: cell, place, number -/
abbrev Zt : Type := Nat → Nat → Int
def NN : Nat := 172
def kb (k : Nat) : Nat := if k = 0 then 2 else if k = 1 then 3 else if k = 4 then 3 else if k = 7 then 40 else if k < 7 then 103 else 4
def kd (i : Nat) : Nat := if i = 0 then 1 else if i < 19 then kb (i - 1) else if i < 25 then (if i = 19 then 36 else if i = 20 then 32 else if i = 21 then 20 else if i = 22 then 5 else if i = 23 then 180 else 500) else if i < 169 then kb ((i - 25) % 18) else if i < 172 then (if i = 169 then 114 else if i = 170 then 140 else 108) else 0
theorem kd_big {i : Nat} (h : 172 ≤ i) : kd i = 0 := by
  unfold kd
  rw [if_neg (by omega), if_neg (by omega), if_neg (by omega), if_neg (by omega), if_neg (by omega)]
theorem kd_lt {i K : Nat} (h : kd i = K) (hK : K ≠ 0) : i < NN := by
  rcases Nat.lt_or_ge i 172 with q | q
  · exact q
  · exact absurd ((kd_big q).symm.trans h) (Ne.symm hK)
def cl (k : Nat) (r : Nat → Nat) (cA : Nat → ClassId) (i : Nat) (f : Nat → Int) : va_E :=
  if k = 1 then .inr (4, [.ref (r 1), .ref (r 19), .int (iN (f 2)), .ref (r 20), .ref (r 21), .ref (r 22), .ref (r 24)])
  else if k = 2 then .inr (2, [.ref (r (i + 1)), .ref (r (i + 4)), .ref (r (i + 7)), .int (iN (f 3)), .int (iN (f 4)), .int (iN (f 5)), .int (iN (f 6)), .int (iN (f 7)), .int (iN (f 8))])
  else if k = 3 then .inr (3, [.int (iN (f 0)), .ref (r (i + 1)), .ref (r (i + 2)), .int (iN (f 3)), .int (iN (f 4))])
  else if k = 4 then .inr (1, [.int (iN (f 0)), .int (iN (f 1)), .int (iN (f 2)), .int (iN (f 3))])
  else if k = 5 then .inr (0, [.ref (r 23), .int (iN (f 1))])
  else if k = 20 then .inl (cA 1, 2, .inl (fun j => iN (f j)))
  else if k = 32 then .inl (cA 4, 2, .inr (.inr (.inr (.inr (fun j => some (r (f j).toNat))))))
  else if k = 36 then .inl (cA 4, 6, .inr (.inr (.inr (.inr (fun j => some (r (f j).toNat))))))
  else if k = 40 then .inl (cA 3, 10, .inr (.inr (.inr (.inr (fun j => some (r (i + 1 + j)))))))
  else .inl (cA 0, k - 100, .inl (fun j => iN (f j)))
def Ez (r : Nat → Nat) (cA : Nat → ClassId) (z : Zt) (i : Nat) : va_E := cl (kd i) r cA i (z i)
def wl (N : Nat) (r : Nat → Nat) (E : Nat → va_E) : va_W := (List.range N).map fun i => (r i, E i)
theorem wl_at {N : Nat} {r : Nat → Nat} {E : Nat → va_E} {i : Nat} (h : i < N) : (wl N r E)[i]? = some (r i, E i) := by
  simp [wl, h]
theorem wl_len {N : Nat} {r : Nat → Nat} {E : Nat → va_E} : (wl N r E).length = N := by simp [wl]
theorem wl_key {N : Nat} {r : Nat → Nat} {E : Nat → va_E} {k : Nat} {q : Nat × va_E} (h : (wl N r E)[k]? = some q) : k < N ∧ q = (r k, E k) := by
  have hl := (List.getElem?_eq_some_iff.mp h).1
  rw [wl_len] at hl
  rw [wl_at hl] at h
  exact ⟨hl, (Option.some.inj h).symm⟩
theorem wl_set {N : Nat} {r : Nat → Nat} {E : Nat → va_E} {i : Nat} {e : va_E} (h : i < N) : (wl N r E).set i (r i, e) = wl N r (va_up E i e) := by
  apply List.ext_getElem?
  intro j
  by_cases hj : j < N
  · by_cases q : i = j
    · subst q
      rw [List.getElem?_set_self (by rw [wl_len]; exact h), wl_at h]
      simp [va_up]
    · rw [List.getElem?_set_ne q, wl_at hj, wl_at hj]
      simp [va_up, Ne.symm q]
  · rw [List.getElem?_eq_none (by rw [List.length_set, wl_len]; omega), List.getElem?_eq_none (by rw [wl_len]; omega)]
def zup (z : Zt) (i k : Nat) (x : Int) : Zt := fun a => if a = i then (fun j => if j = k then x else z i j) else z a
theorem zup_s (z : Zt) (i k : Nat) (x : Int) : zup z i k x i k = x := by simp [zup]
theorem zup_n (z : Zt) {i k a j : Nat} (x : Int) (h : ¬ (a = i ∧ j = k)) : zup z i k x a j = z a j := by
  unfold zup
  by_cases q : a = i
  · subst q
    rw [if_pos rfl, if_neg (fun e => h ⟨rfl, e⟩)]
  · rw [if_neg q]
theorem Ez_up {r : Nat → Nat} {cA : Nat → ClassId} {z : Zt} {i k K : Nat} {x : Int} {e : va_E} (hk : kd i = K) (he : cl K r cA i (fun j => if j = k then x else z i j) = e) : va_up (Ez r cA z) i e = Ez r cA (zup z i k x) := by
  funext j
  by_cases hj : j = i
  · subst hj
    simp [va_up, Ez, zup, hk, he]
  · simp [va_up, Ez, zup, hj]
def Inj (r : Nat → Nat) : Prop := ∀ i j : Nat, i < NN → j < NN → r i = r j → i = j
def rng (r : Nat → Nat) : Nat → Prop := fun q => ∃ i, i < NN ∧ q = r i
theorem wl_D {r : Nat → Nat} {E : Nat → va_E} {A : Nat → Prop} (hr : Inj r) (hA : ∀ i, i < NN → A (r i)) : va_D A (wl NN r E) := by
  refine ⟨fun i j p q hi hj hpq => ?_, fun k q hk => ?_⟩
  · obtain ⟨h1, rfl⟩ := wl_key hi
    obtain ⟨h2, rfl⟩ := wl_key hj
    exact hr i j h1 h2 hpq
  · obtain ⟨h1, rfl⟩ := wl_key hk
    exact hA k h1
def tysOf (cA : Nat → ClassId) : List (ClassId × FieldType) := [(cA 0, .int), (cA 1, .boolean), (cA 2, .int), (cA 3, .object RX1), (cA 4, .object RX2)]
def wz (r : Nat → Nat) (cA : Nat → ClassId) (z : Zt) : va_W := wl NN r (Ez r cA z)
/-! the fields of nest mates -/
def nwF : List Cond := [
  .fieldLinkNest RX4 82 "TwoTownAlmanac$Town" "gapDays" "[I" "TwoTownAlmanac",
  .fieldLinkNest RX4 85 "TwoTownAlmanac$Town" "gapLengths" "[I" "TwoTownAlmanac",
  .fieldLinkNest RX4 63 "TwoTownAlmanac$Town" "gaps" "I" "TwoTownAlmanac",
  .fieldLinkNest RX2 99 "TwoTownAlmanac$Town" "keptCount" "I" "TwoTownAlmanac",
  .fieldLinkNest RX4 166 "TwoTownAlmanac$Town" "keptCount" "I" "TwoTownAlmanac",
  .fieldLinkNest RX2 56 "TwoTownAlmanac$Feast" "town" "I" "TwoTownAlmanac",
  .fieldLinkNest RX4 124 "TwoTownAlmanac$Feast" "town" "I" "TwoTownAlmanac",
  .fieldLinkNest RX2 59 "TwoTownAlmanac$Feast" "month" "I" "TwoTownAlmanac",
  .fieldLinkNest RX3 56 "TwoTownAlmanac$Feast" "month" "I" "TwoTownAlmanac",
  .fieldLinkNest RX2 62 "TwoTownAlmanac$Feast" "dayOfMonth" "I" "TwoTownAlmanac",
  .fieldLinkNest RX3 61 "TwoTownAlmanac$Feast" "dayOfMonth" "I" "TwoTownAlmanac",
  .fieldLinkNest RX2 65 "TwoTownAlmanac$Feast" "barred" "I" "TwoTownAlmanac",
  .fieldLinkNest RX4 117 "TwoTownAlmanac$Feast" "barred" "I" "TwoTownAlmanac",
  .fieldLinkNest RX4 228 "TwoTownAlmanac$State" "feasts" "[LTwoTownAlmanac$Feast;" "TwoTownAlmanac",
  .fieldLinkNest RX4 105 "TwoTownAlmanac$State" "feastsAdded" "I" "TwoTownAlmanac",
  .fieldLinkNest RX4 148 "TwoTownAlmanac$State" "shiftDays" "I" "TwoTownAlmanac",
  .fieldLinkNest RX4 151 "TwoTownAlmanac$State" "copiesEachDay" "I" "TwoTownAlmanac",
  .fieldLinkNest RX4 154 "TwoTownAlmanac$State" "dayNow" "I" "TwoTownAlmanac",
  .fieldLinkNest RX4 159 "TwoTownAlmanac$State" "quarrels" "I" "TwoTownAlmanac",
  .fieldLinkNest RX4 169 "TwoTownAlmanac$State" "copies" "I" "TwoTownAlmanac",
  .fieldLinkNest RX4 200 "TwoTownAlmanac$DateText" "codes" "[I" "TwoTownAlmanac",
  .fieldLinkNest RX4 184 "TwoTownAlmanac$DateText" "length" "I" "TwoTownAlmanac"]
theorem nwF_is : ∀ w ∈ nwF, ∃ (a : String) (i : Nat) (b n d h : String), w = .fieldLinkNest a i b n d h := by
  intro w hw
  unfold nwF at hw
  repeat (rcases List.mem_cons.mp hw with rfl | hw; exact ⟨_, _, _, _, _, _, rfl⟩)
  cases hw
def NwK (U : State) : Prop := ∀ w ∈ nwF, va_Nw w U
theorem NwK.warm {s U : State} (hW : s.WarmedH U.vm) (h : NwK s) : NwK U := fun w hw => by
  obtain ⟨a, i, b, n, d, k, rfl⟩ := nwF_is w hw
  exact va_Nw.warmF hW (h _ hw)
theorem NwK.same {u U : State} (hv : u.vm = U.vm) (h : NwK u) : NwK U := fun w hw => by
  obtain ⟨a, i, b, n, d, k, rfl⟩ := nwF_is w hw
  exact va_Nw.same rfl hv (h _ hw)
/-! the judgement -/
abbrev Cx : Type := Program × Launch × Env × Room × State × MethodId × Array Value × List Frame × Method × Code × (State → Prop) × (Nat → Prop) × va_G × (Nat → ClassId) × Nat × (Nat → Nat)
def V (Γ : Cx) (z : Zt) (kc ks : Nat) (lv : List (Nat × Value)) (pc : Nat) (st : List Value) : Prop :=
  match Γ with
  | (p, l, e, R, s, m, args, below, meth, c, Q, A, D, cA, nL, r) =>
    ∀ (H : Heap) (locs : List Loc) (ls : Array Slot), va_P D vwCl (wz r cA z) H → va_S A s.heap H locs → lv_has ls nL lv →
      W p l e R s m args below meth c H locs kc ks Q (F0 m pc ls st)
def Cok (l : Launch) (D : va_G) (cA : Nat → ClassId) (r : Nat → Nat) (Rm : Room) (Γ : Cx) (cc : ByteArray) (own : String) (Ts : List Cond) (mL : Nat) : Prop :=
  match Γ with
  | (p, l', _, R, s, m, args, _, _, c, _, A, D', cA', nL, r') =>
    (l' = l ∧ D' = D ∧ cA' = cA ∧ r' = r ∧ R = Rm ∧ nL = mL) ∧ (p.tables.exec = Jvm.exec ∧ c.code = cc ∧ c.maxLocals = nL ∧ s.vm.findClass own = some m.cls ∧ ∀ w ∈ Ts, w.before args s = true) ∧ va_K D' vwCl (tysOf cA') s ∧ NwK s ∧ Inj r' ∧ ∀ i, i < NN → A (r' i)
/-- locals in their order: a store keeps the place -/
def lput (l : List (Nat × Value)) (i : Nat) (v : Value) : List (Nat × Value) :=
  if l.any (fun q => q.1 == i) then (l.filter (fun q => !(q.1 + 1 == i && q.2.category == 2))).map (fun q => if q.1 == i then (i, v) else q)
  else (l.filter (fun q => !(q.1 + 1 == i && q.2.category == 2))) ++ [(i, v)]
theorem lput_has {ls : Array Slot} {nL i : Nat} {v : Value} {l : List (Nat × Value)} (h : lv_has ls nL ((i, v) :: l.filter (fun q => !(q.1 == i) && !(q.1 + 1 == i && q.2.category == 2)))) : lv_has ls nL (lput l i v) := by
  refine ⟨h.1, h.2.1, fun q hq => ?_⟩
  unfold lput at hq
  split at hq
  · obtain ⟨a, ha, rfl⟩ := List.mem_map.mp hq
    by_cases e : (a.1 == i) = true
    · rw [if_pos e]
      exact h.2.2 _ List.mem_cons_self
    · rw [if_neg e]
      refine h.2.2 _ (List.mem_cons_of_mem _ (List.mem_filter.mpr ⟨(List.mem_filter.mp ha).1, ?_⟩))
      have h2 := (List.mem_filter.mp ha).2
      rw [h2, Bool.and_true]
      simpa using e
  · rename_i hn
    rcases List.mem_append.mp hq with h1 | h1
    · refine h.2.2 _ (List.mem_cons_of_mem _ (List.mem_filter.mpr ⟨(List.mem_filter.mp h1).1, ?_⟩))
      have h2 := (List.mem_filter.mp h1).2
      rw [h2, Bool.and_true]
      have h3 : ¬ (q.1 == i) = true := fun e => hn (List.any_eq_true.mpr ⟨q, (List.mem_filter.mp h1).1, e⟩)
      simpa using h3
    · rw [List.mem_singleton.mp h1]
      exact h.2.2 _ List.mem_cons_self
section VR
variable {l : Launch} {D : va_G} {cA : Nat → ClassId} {r : Nat → Nat} {Rm : Room} {Γ : Cx} {cc : ByteArray} {own : String} {Ts : List Cond} {mL : Nat} {z : Zt} {kc ks : Nat} {lv : List (Nat × Value)} {pc : Nat} {st : List Value}

theorem v_iconst (G : Cok l D cA r Rm Γ cc own Ts mL) {n : Int} (d : decode cc pc = .ok (.iconst n, 1)) (kk : V Γ z kc ks lv (pc + 1) (.int (iN n) :: st)) : V Γ z kc ks lv pc st := by
  obtain ⟨p, l', e, R, s, m, args, below, meth, c, Q, A, D', cA', nL, r'⟩ := Γ
  obtain ⟨⟨rfl, rfl, rfl, rfl, rfl, rfl⟩, ⟨hx, hb, hml, hown, hts⟩, hK, hN, hr, hA⟩ := G
  intro H locs ls hP hS hL
  exact lv_iconst hx hb d rfl (kk H locs ls hP hS hL)

theorem v_bipush (G : Cok l D cA r Rm Γ cc own Ts mL) {n : Int} (d : decode cc pc = .ok (.bipush n, 2)) (h : (Int8.ofInt n).toInt32 = Int32.ofInt n) (kk : V Γ z kc ks lv (pc + 2) (.int (iN n) :: st)) : V Γ z kc ks lv pc st := by
  obtain ⟨p, l', e, R, s, m, args, below, meth, c, Q, A, D', cA', nL, r'⟩ := Γ
  obtain ⟨⟨rfl, rfl, rfl, rfl, rfl, rfl⟩, ⟨hx, hb, hml, hown, hts⟩, hK, hN, hr, hA⟩ := G
  intro H locs ls hP hS hL
  exact lv_bipush hx hb d h (kk H locs ls hP hS hL)

theorem v_sipush (G : Cok l D cA r Rm Γ cc own Ts mL) {n : Int} (d : decode cc pc = .ok (.sipush n, 3)) (h : (Int16.ofInt n).toInt32 = Int32.ofInt n) (kk : V Γ z kc ks lv (pc + 3) (.int (iN n) :: st)) : V Γ z kc ks lv pc st := by
  obtain ⟨p, l', e, R, s, m, args, below, meth, c, Q, A, D', cA', nL, r'⟩ := Γ
  obtain ⟨⟨rfl, rfl, rfl, rfl, rfl, rfl⟩, ⟨hx, hb, hml, hown, hts⟩, hK, hN, hr, hA⟩ := G
  intro H locs ls hP hS hL
  exact lv_sipush hx hb d h (kk H locs ls hP hS hL)

theorem v_iload_n (G : Cok l D cA r Rm Γ cc own Ts mL) {q : Fin 4} {x : Int32} (d : decode cc pc = .ok (.iload_n q, 1)) (j : Nat) (hl : lv[j]? = some ((q : Nat), .int x)) (kk : V Γ z kc ks lv (pc + 1) (.int x :: st)) : V Γ z kc ks lv pc st := by
  obtain ⟨p, l', e, R, s, m, args, below, meth, c, Q, A, D', cA', nL, r'⟩ := Γ
  obtain ⟨⟨rfl, rfl, rfl, rfl, rfl, rfl⟩, ⟨hx, hb, hml, hown, hts⟩, hK, hN, hr, hA⟩ := G
  intro H locs ls hP hS hL
  exact lv_iload_n hx hb d rfl (lv_at hL j hl) (kk H locs ls hP hS hL)

theorem v_iload (G : Cok l D cA r Rm Γ cc own Ts mL) {i : Nat} {x : Int32} (d : decode cc pc = .ok (.iload i, 2)) (j : Nat) (hl : lv[j]? = some (i, .int x)) (kk : V Γ z kc ks lv (pc + 2) (.int x :: st)) : V Γ z kc ks lv pc st := by
  obtain ⟨p, l', e, R, s, m, args, below, meth, c, Q, A, D', cA', nL, r'⟩ := Γ
  obtain ⟨⟨rfl, rfl, rfl, rfl, rfl, rfl⟩, ⟨hx, hb, hml, hown, hts⟩, hK, hN, hr, hA⟩ := G
  intro H locs ls hP hS hL
  exact lv_iload hx hb d (lv_at hL j hl) (kk H locs ls hP hS hL)

theorem v_aload_n (G : Cok l D cA r Rm Γ cc own Ts mL) {q : Fin 4} {x : Nat} (d : decode cc pc = .ok (.aload_n q, 1)) (j : Nat) (hl : lv[j]? = some ((q : Nat), .ref x)) (kk : V Γ z kc ks lv (pc + 1) (.ref x :: st)) : V Γ z kc ks lv pc st := by
  obtain ⟨p, l', e, R, s, m, args, below, meth, c, Q, A, D', cA', nL, r'⟩ := Γ
  obtain ⟨⟨rfl, rfl, rfl, rfl, rfl, rfl⟩, ⟨hx, hb, hml, hown, hts⟩, hK, hN, hr, hA⟩ := G
  intro H locs ls hP hS hL
  exact lv_aload_n hx hb d rfl (lv_at hL j hl) (kk H locs ls hP hS hL)

theorem v_aload (G : Cok l D cA r Rm Γ cc own Ts mL) {i : Nat} {x : Nat} (d : decode cc pc = .ok (.aload i, 2)) (j : Nat) (hl : lv[j]? = some (i, .ref x)) (kk : V Γ z kc ks lv (pc + 2) (.ref x :: st)) : V Γ z kc ks lv pc st := by
  obtain ⟨p, l', e, R, s, m, args, below, meth, c, Q, A, D', cA', nL, r'⟩ := Γ
  obtain ⟨⟨rfl, rfl, rfl, rfl, rfl, rfl⟩, ⟨hx, hb, hml, hown, hts⟩, hK, hN, hr, hA⟩ := G
  intro H locs ls hP hS hL
  exact lv_aload hx hb d (lv_at hL j hl) (kk H locs ls hP hS hL)

theorem v_lload_n (G : Cok l D cA r Rm Γ cc own Ts mL) {q : Fin 4} {x : Int64} (d : decode cc pc = .ok (.lload_n q, 1)) (j : Nat) (hl : lv[j]? = some ((q : Nat), .long x)) (kk : V Γ z kc ks lv (pc + 1) (.long x :: st)) : V Γ z kc ks lv pc st := by
  obtain ⟨p, l', e, R, s, m, args, below, meth, c, Q, A, D', cA', nL, r'⟩ := Γ
  obtain ⟨⟨rfl, rfl, rfl, rfl, rfl, rfl⟩, ⟨hx, hb, hml, hown, hts⟩, hK, hN, hr, hA⟩ := G
  intro H locs ls hP hS hL
  exact lv_lload_n hx hb d rfl (lv_at hL j hl) (kk H locs ls hP hS hL)

theorem v_lload (G : Cok l D cA r Rm Γ cc own Ts mL) {i : Nat} {x : Int64} (d : decode cc pc = .ok (.lload i, 2)) (j : Nat) (hl : lv[j]? = some (i, .long x)) (kk : V Γ z kc ks lv (pc + 2) (.long x :: st)) : V Γ z kc ks lv pc st := by
  obtain ⟨p, l', e, R, s, m, args, below, meth, c, Q, A, D', cA', nL, r'⟩ := Γ
  obtain ⟨⟨rfl, rfl, rfl, rfl, rfl, rfl⟩, ⟨hx, hb, hml, hown, hts⟩, hK, hN, hr, hA⟩ := G
  intro H locs ls hP hS hL
  exact lv_lload hx hb d (lv_at hL j hl) (kk H locs ls hP hS hL)

theorem v_istore_n (G : Cok l D cA r Rm Γ cc own Ts mL) {q : Fin 4} {x : Int32} (lv' : List (Nat × Value)) (d : decode cc pc = .ok (.istore_n q, 1)) (hq : (q : Nat) < mL) (hl : lput lv q (.int x) = lv') (kk : V Γ z kc ks lv' (pc + 1) st) : V Γ z kc ks lv pc (.int x :: st) := by
  obtain ⟨p, l', e, R, s, m, args, below, meth, c, Q, A, D', cA', nL, r'⟩ := Γ
  obtain ⟨⟨rfl, rfl, rfl, rfl, rfl, rfl⟩, ⟨hx, hb, hml, hown, hts⟩, hK, hN, hr, hA⟩ := G
  intro H locs ls hP hS hL
  exact lv_istore_n hx hb d rfl hL hq rfl (fun ls' h' => kk H locs ls' hP hS (hl ▸ lput_has h'))

theorem v_istore (G : Cok l D cA r Rm Γ cc own Ts mL) {i : Nat} {x : Int32} (lv' : List (Nat × Value)) (d : decode cc pc = .ok (.istore i, 2)) (hq : i < mL) (hl : lput lv i (.int x) = lv') (kk : V Γ z kc ks lv' (pc + 2) st) : V Γ z kc ks lv pc (.int x :: st) := by
  obtain ⟨p, l', e, R, s, m, args, below, meth, c, Q, A, D', cA', nL, r'⟩ := Γ
  obtain ⟨⟨rfl, rfl, rfl, rfl, rfl, rfl⟩, ⟨hx, hb, hml, hown, hts⟩, hK, hN, hr, hA⟩ := G
  intro H locs ls hP hS hL
  exact lv_istore hx hb d hL hq rfl (fun ls' h' => kk H locs ls' hP hS (hl ▸ lput_has h'))

theorem v_astore_n (G : Cok l D cA r Rm Γ cc own Ts mL) {q : Fin 4} {x : Nat} (lv' : List (Nat × Value)) (d : decode cc pc = .ok (.astore_n q, 1)) (hq : (q : Nat) < mL) (hl : lput lv q (.ref x) = lv') (kk : V Γ z kc ks lv' (pc + 1) st) : V Γ z kc ks lv pc (.ref x :: st) := by
  obtain ⟨p, l', e, R, s, m, args, below, meth, c, Q, A, D', cA', nL, r'⟩ := Γ
  obtain ⟨⟨rfl, rfl, rfl, rfl, rfl, rfl⟩, ⟨hx, hb, hml, hown, hts⟩, hK, hN, hr, hA⟩ := G
  intro H locs ls hP hS hL
  exact lv_astore_n hx hb d rfl hL hq rfl (fun ls' h' => kk H locs ls' hP hS (hl ▸ lput_has h'))

theorem v_astore (G : Cok l D cA r Rm Γ cc own Ts mL) {i : Nat} {x : Nat} (lv' : List (Nat × Value)) (d : decode cc pc = .ok (.astore i, 2)) (hq : i < mL) (hl : lput lv i (.ref x) = lv') (kk : V Γ z kc ks lv' (pc + 2) st) : V Γ z kc ks lv pc (.ref x :: st) := by
  obtain ⟨p, l', e, R, s, m, args, below, meth, c, Q, A, D', cA', nL, r'⟩ := Γ
  obtain ⟨⟨rfl, rfl, rfl, rfl, rfl, rfl⟩, ⟨hx, hb, hml, hown, hts⟩, hK, hN, hr, hA⟩ := G
  intro H locs ls hP hS hL
  exact lv_astore hx hb d hL hq rfl (fun ls' h' => kk H locs ls' hP hS (hl ▸ lput_has h'))

theorem v_iinc (G : Cok l D cA r Rm Γ cc own Ts mL) {i : Nat} {n x : Int} (lv' : List (Nat × Value)) (d : decode cc pc = .ok (.iinc i n, 3)) (j : Nat) (hj : lv[j]? = some (i, .int (iN x))) (hq : i < mL) (hl : lput lv i (.int (iN (x + n))) = lv') (kk : V Γ z kc ks lv' (pc + 3) st) : V Γ z kc ks lv pc st := by
  obtain ⟨p, l', e, R, s, m, args, below, meth, c, Q, A, D', cA', nL, r'⟩ := Γ
  obtain ⟨⟨rfl, rfl, rfl, rfl, rfl, rfl⟩, ⟨hx, hb, hml, hown, hts⟩, hK, hN, hr, hA⟩ := G
  intro H locs ls hP hS hL
  exact lv_iinc hx hb d hL hj (iN_add x n) hq rfl (fun ls' h' => kk H locs ls' hP hS (hl ▸ lput_has h'))

theorem v_iadd (G : Cok l D cA r Rm Γ cc own Ts mL) {x y : Int} (d : decode cc pc = .ok (.iadd, 1)) (kk : V Γ z kc ks lv (pc + 1) (.int (iN (x + y)) :: st)) : V Γ z kc ks lv pc (.int (iN y) :: .int (iN x) :: st) := by
  obtain ⟨p, l', e, R, s, m, args, below, meth, c, Q, A, D', cA', nL, r'⟩ := Γ
  obtain ⟨⟨rfl, rfl, rfl, rfl, rfl, rfl⟩, ⟨hx, hb, hml, hown, hts⟩, hK, hN, hr, hA⟩ := G
  intro H locs ls hP hS hL
  refine lv_iadd hx hb d ?_
  rw [iN_add]
  exact kk H locs ls hP hS hL

theorem v_isub (G : Cok l D cA r Rm Γ cc own Ts mL) {x y : Int} (d : decode cc pc = .ok (.isub, 1)) (kk : V Γ z kc ks lv (pc + 1) (.int (iN (x - y)) :: st)) : V Γ z kc ks lv pc (.int (iN y) :: .int (iN x) :: st) := by
  obtain ⟨p, l', e, R, s, m, args, below, meth, c, Q, A, D', cA', nL, r'⟩ := Γ
  obtain ⟨⟨rfl, rfl, rfl, rfl, rfl, rfl⟩, ⟨hx, hb, hml, hown, hts⟩, hK, hN, hr, hA⟩ := G
  intro H locs ls hP hS hL
  refine lv_isub hx hb d ?_
  rw [iN_sub]
  exact kk H locs ls hP hS hL

theorem v_imul (G : Cok l D cA r Rm Γ cc own Ts mL) {x y : Int} (d : decode cc pc = .ok (.imul, 1)) (kk : V Γ z kc ks lv (pc + 1) (.int (iN (x * y)) :: st)) : V Γ z kc ks lv pc (.int (iN y) :: .int (iN x) :: st) := by
  obtain ⟨p, l', e, R, s, m, args, below, meth, c, Q, A, D', cA', nL, r'⟩ := Γ
  obtain ⟨⟨rfl, rfl, rfl, rfl, rfl, rfl⟩, ⟨hx, hb, hml, hown, hts⟩, hK, hN, hr, hA⟩ := G
  intro H locs ls hP hS hL
  refine lv_imul hx hb d ?_
  rw [iN_mul]
  exact kk H locs ls hP hS hL

theorem v_idiv (G : Cok l D cA r Rm Γ cc own Ts mL) {x y : Int} (h1 : 0 ≤ x ∧ x < 2147483648) (h2 : 0 < y ∧ y < 2147483648) (d : decode cc pc = .ok (.idiv, 1)) (kk : V Γ z kc ks lv (pc + 1) (.int (iN (x / y)) :: st)) : V Γ z kc ks lv pc (.int (iN y) :: .int (iN x) :: st) := by
  obtain ⟨p, l', e, R, s, m, args, below, meth, c, Q, A, D', cA', nL, r'⟩ := Γ
  obtain ⟨⟨rfl, rfl, rfl, rfl, rfl, rfl⟩, ⟨hx, hb, hml, hown, hts⟩, hK, hN, hr, hA⟩ := G
  intro H locs ls hP hS hL
  refine lv_idiv hx hb d (fun q => by have h9 := congrArg Int32.toInt q; rw [iN_int (by omega), show (0 : Int32).toInt = 0 from rfl] at h9; omega) ?_
  rw [iN_div h1 h2]
  exact kk H locs ls hP hS hL

theorem v_irem (G : Cok l D cA r Rm Γ cc own Ts mL) {x y : Int} (h1 : 0 ≤ x ∧ x < 2147483648) (h2 : 0 < y ∧ y < 2147483648) (d : decode cc pc = .ok (.irem, 1)) (kk : V Γ z kc ks lv (pc + 1) (.int (iN (x % y)) :: st)) : V Γ z kc ks lv pc (.int (iN y) :: .int (iN x) :: st) := by
  obtain ⟨p, l', e, R, s, m, args, below, meth, c, Q, A, D', cA', nL, r'⟩ := Γ
  obtain ⟨⟨rfl, rfl, rfl, rfl, rfl, rfl⟩, ⟨hx, hb, hml, hown, hts⟩, hK, hN, hr, hA⟩ := G
  intro H locs ls hP hS hL
  refine lv_irem hx hb d (fun q => by have h9 := congrArg Int32.toInt q; rw [iN_int (by omega), show (0 : Int32).toInt = 0 from rfl] at h9; omega) ?_
  rw [iN_mod h1 h2]
  exact kk H locs ls hP hS hL

theorem v_iand0 (G : Cok l D cA r Rm Γ cc own Ts mL) {x y : Int32} (d : decode cc pc = .ok (.iand, 1)) (kk : V Γ z kc ks lv (pc + 1) (.int (x &&& y) :: st)) : V Γ z kc ks lv pc (.int y :: .int x :: st) := by
  obtain ⟨p, l', e, R, s, m, args, below, meth, c, Q, A, D', cA', nL, r'⟩ := Γ
  obtain ⟨⟨rfl, rfl, rfl, rfl, rfl, rfl⟩, ⟨hx, hb, hml, hown, hts⟩, hK, hN, hr, hA⟩ := G
  intro H locs ls hP hS hL
  exact lv_iand hx hb d (kk H locs ls hP hS hL)

theorem v_ior0 (G : Cok l D cA r Rm Γ cc own Ts mL) {x y : Int32} (d : decode cc pc = .ok (.ior, 1)) (kk : V Γ z kc ks lv (pc + 1) (.int (x ||| y) :: st)) : V Γ z kc ks lv pc (.int y :: .int x :: st) := by
  obtain ⟨p, l', e, R, s, m, args, below, meth, c, Q, A, D', cA', nL, r'⟩ := Γ
  obtain ⟨⟨rfl, rfl, rfl, rfl, rfl, rfl⟩, ⟨hx, hb, hml, hown, hts⟩, hK, hN, hr, hA⟩ := G
  intro H locs ls hP hS hL
  exact lv_ior hx hb d (kk H locs ls hP hS hL)

theorem v_ishl0 (G : Cok l D cA r Rm Γ cc own Ts mL) {x y : Int32} (d : decode cc pc = .ok (.ishl, 1)) (kk : V Γ z kc ks lv (pc + 1) (.int (x <<< (y &&& 31)) :: st)) : V Γ z kc ks lv pc (.int y :: .int x :: st) := by
  obtain ⟨p, l', e, R, s, m, args, below, meth, c, Q, A, D', cA', nL, r'⟩ := Γ
  obtain ⟨⟨rfl, rfl, rfl, rfl, rfl, rfl⟩, ⟨hx, hb, hml, hown, hts⟩, hK, hN, hr, hA⟩ := G
  intro H locs ls hP hS hL
  exact lv_ishl hx hb d (kk H locs ls hP hS hL)

theorem v_ishr0 (G : Cok l D cA r Rm Γ cc own Ts mL) {x y : Int32} (d : decode cc pc = .ok (.ishr, 1)) (kk : V Γ z kc ks lv (pc + 1) (.int (x >>> (y &&& 31)) :: st)) : V Γ z kc ks lv pc (.int y :: .int x :: st) := by
  obtain ⟨p, l', e, R, s, m, args, below, meth, c, Q, A, D', cA', nL, r'⟩ := Γ
  obtain ⟨⟨rfl, rfl, rfl, rfl, rfl, rfl⟩, ⟨hx, hb, hml, hown, hts⟩, hK, hN, hr, hA⟩ := G
  intro H locs ls hP hS hL
  exact lv_ishr hx hb d (kk H locs ls hP hS hL)

theorem v_eqi (G : Cok l D cA r Rm Γ cc own Ts mL) {x y : Int32} (h : x = y) (kk : V Γ z kc ks lv pc (.int y :: st)) : V Γ z kc ks lv pc (.int x :: st) := by
  obtain ⟨p, l', e, R, s, m, args, below, meth, c, Q, A, D', cA', nL, r'⟩ := Γ
  obtain ⟨⟨rfl, rfl, rfl, rfl, rfl, rfl⟩, ⟨hx, hb, hml, hown, hts⟩, hK, hN, hr, hA⟩ := G
  intro H locs ls hP hS hL
  rw [h]
  exact kk H locs ls hP hS hL

theorem v_dup (G : Cok l D cA r Rm Γ cc own Ts mL) {v : Value} (d : decode cc pc = .ok (.dup, 1)) (hv : v.category = 1) (kk : V Γ z kc ks lv (pc + 1) (v :: v :: st)) : V Γ z kc ks lv pc (v :: st) := by
  obtain ⟨p, l', e, R, s, m, args, below, meth, c, Q, A, D', cA', nL, r'⟩ := Γ
  obtain ⟨⟨rfl, rfl, rfl, rfl, rfl, rfl⟩, ⟨hx, hb, hml, hown, hts⟩, hK, hN, hr, hA⟩ := G
  intro H locs ls hP hS hL
  exact lv_dup hx hb d hv (kk H locs ls hP hS hL)

theorem v_pop (G : Cok l D cA r Rm Γ cc own Ts mL) {v : Value} (d : decode cc pc = .ok (.pop, 1)) (hv : v.category = 1) (kk : V Γ z kc ks lv (pc + 1) st) : V Γ z kc ks lv pc (v :: st) := by
  obtain ⟨p, l', e, R, s, m, args, below, meth, c, Q, A, D', cA', nL, r'⟩ := Γ
  obtain ⟨⟨rfl, rfl, rfl, rfl, rfl, rfl⟩, ⟨hx, hb, hml, hown, hts⟩, hK, hN, hr, hA⟩ := G
  intro H locs ls hP hS hL
  exact lv_pop hx hb d hv (kk H locs ls hP hS hL)

theorem v_dup2 (G : Cok l D cA r Rm Γ cc own Ts mL) {v w : Value} (d : decode cc pc = .ok (.dup2, 1)) (hv : v.category = 1) (hw : w.category = 1) (kk : V Γ z kc ks lv (pc + 1) (v :: w :: v :: w :: st)) : V Γ z kc ks lv pc (v :: w :: st) := by
  obtain ⟨p, l', e, R, s, m, args, below, meth, c, Q, A, D', cA', nL, r'⟩ := Γ
  obtain ⟨⟨rfl, rfl, rfl, rfl, rfl, rfl⟩, ⟨hx, hb, hml, hown, hts⟩, hK, hN, hr, hA⟩ := G
  intro H locs ls hP hS hL
  exact lv_dup2_11 hx hb d hv hw (kk H locs ls hP hS hL)

theorem v_goto (G : Cok l D cA r Rm Γ cc own Ts mL) {off : Int} (tgt : Nat) (d : decode cc pc = .ok (.goto off, 3)) (ht : (pc : Int) + off = (tgt : Int)) (kk : V Γ z kc ks lv tgt st) : V Γ z kc ks lv pc st := by
  obtain ⟨p, l', e, R, s, m, args, below, meth, c, Q, A, D', cA', nL, r'⟩ := Γ
  obtain ⟨⟨rfl, rfl, rfl, rfl, rfl, rfl⟩, ⟨hx, hb, hml, hown, hts⟩, hK, hN, hr, hA⟩ := G
  intro H locs ls hP hS hL
  exact lv_goto hx hb d ht (kk H locs ls hP hS hL)

theorem v_icmp_eq (G : Cok l D cA r Rm Γ cc own Ts mL) {x y : Int} {off : Int} (tgt : Nat) (hxx : -2147483648 ≤ x ∧ x < 2147483648) (hyy : -2147483648 ≤ y ∧ y < 2147483648) (d : decode cc pc = .ok (.if_icmp .eq off, 3)) (ht : (pc : Int) + off = (tgt : Int)) (kt : x = y → V Γ z kc ks lv tgt st) (kf : ¬ x = y → V Γ z kc ks lv (pc + 3) st) : V Γ z kc ks lv pc (.int (iN y) :: .int (iN x) :: st) := by
  obtain ⟨p, l', e, R, s, m, args, below, meth, c, Q, A, D', cA', nL, r'⟩ := Γ
  obtain ⟨⟨rfl, rfl, rfl, rfl, rfl, rfl⟩, ⟨hx, hb, hml, hown, hts⟩, hK, hN, hr, hA⟩ := G
  intro H locs ls hP hS hL
  exact lv_icmp_eq hx hb d ht (fun q => kt ((iN_eq hxx hyy).mp q) H locs ls hP hS hL) (fun q => kf (fun q2 => q ((iN_eq hxx hyy).mpr q2)) H locs ls hP hS hL)

theorem v_if_eq (G : Cok l D cA r Rm Γ cc own Ts mL) {x : Int} {off : Int} (tgt : Nat) (hxx : -2147483648 ≤ x ∧ x < 2147483648) (d : decode cc pc = .ok (.ifCond .eq off, 3)) (ht : (pc : Int) + off = (tgt : Int)) (kt : x = 0 → V Γ z kc ks lv tgt st) (kf : ¬ x = 0 → V Γ z kc ks lv (pc + 3) st) : V Γ z kc ks lv pc (.int (iN x) :: st) := by
  obtain ⟨p, l', e, R, s, m, args, below, meth, c, Q, A, D', cA', nL, r'⟩ := Γ
  obtain ⟨⟨rfl, rfl, rfl, rfl, rfl, rfl⟩, ⟨hx, hb, hml, hown, hts⟩, hK, hN, hr, hA⟩ := G
  intro H locs ls hP hS hL
  have b0 : -2147483648 ≤ (0 : Int) ∧ (0 : Int) < 2147483648 := by omega
  exact lv_if_eq hx hb d ht (fun q => kt ((iN_eq hxx b0).mp q) H locs ls hP hS hL) (fun q => kf (fun q2 => q ((iN_eq hxx b0).mpr q2)) H locs ls hP hS hL)

theorem v_icmp_ne (G : Cok l D cA r Rm Γ cc own Ts mL) {x y : Int} {off : Int} (tgt : Nat) (hxx : -2147483648 ≤ x ∧ x < 2147483648) (hyy : -2147483648 ≤ y ∧ y < 2147483648) (d : decode cc pc = .ok (.if_icmp .ne off, 3)) (ht : (pc : Int) + off = (tgt : Int)) (kt : ¬ x = y → V Γ z kc ks lv tgt st) (kf : x = y → V Γ z kc ks lv (pc + 3) st) : V Γ z kc ks lv pc (.int (iN y) :: .int (iN x) :: st) := by
  obtain ⟨p, l', e, R, s, m, args, below, meth, c, Q, A, D', cA', nL, r'⟩ := Γ
  obtain ⟨⟨rfl, rfl, rfl, rfl, rfl, rfl⟩, ⟨hx, hb, hml, hown, hts⟩, hK, hN, hr, hA⟩ := G
  intro H locs ls hP hS hL
  exact lv_icmp_ne hx hb d ht (fun q => kt (fun q2 => q ((iN_eq hxx hyy).mpr q2)) H locs ls hP hS hL) (fun q => kf ((iN_eq hxx hyy).mp q) H locs ls hP hS hL)

theorem v_if_ne (G : Cok l D cA r Rm Γ cc own Ts mL) {x : Int} {off : Int} (tgt : Nat) (hxx : -2147483648 ≤ x ∧ x < 2147483648) (d : decode cc pc = .ok (.ifCond .ne off, 3)) (ht : (pc : Int) + off = (tgt : Int)) (kt : ¬ x = 0 → V Γ z kc ks lv tgt st) (kf : x = 0 → V Γ z kc ks lv (pc + 3) st) : V Γ z kc ks lv pc (.int (iN x) :: st) := by
  obtain ⟨p, l', e, R, s, m, args, below, meth, c, Q, A, D', cA', nL, r'⟩ := Γ
  obtain ⟨⟨rfl, rfl, rfl, rfl, rfl, rfl⟩, ⟨hx, hb, hml, hown, hts⟩, hK, hN, hr, hA⟩ := G
  intro H locs ls hP hS hL
  have b0 : -2147483648 ≤ (0 : Int) ∧ (0 : Int) < 2147483648 := by omega
  exact lv_if_ne hx hb d ht (fun q => kt (fun q2 => q ((iN_eq hxx b0).mpr q2)) H locs ls hP hS hL) (fun q => kf ((iN_eq hxx b0).mp q) H locs ls hP hS hL)

theorem v_icmp_lt (G : Cok l D cA r Rm Γ cc own Ts mL) {x y : Int} {off : Int} (tgt : Nat) (hxx : -2147483648 ≤ x ∧ x < 2147483648) (hyy : -2147483648 ≤ y ∧ y < 2147483648) (d : decode cc pc = .ok (.if_icmp .lt off, 3)) (ht : (pc : Int) + off = (tgt : Int)) (kt : x < y → V Γ z kc ks lv tgt st) (kf : y ≤ x → V Γ z kc ks lv (pc + 3) st) : V Γ z kc ks lv pc (.int (iN y) :: .int (iN x) :: st) := by
  obtain ⟨p, l', e, R, s, m, args, below, meth, c, Q, A, D', cA', nL, r'⟩ := Γ
  obtain ⟨⟨rfl, rfl, rfl, rfl, rfl, rfl⟩, ⟨hx, hb, hml, hown, hts⟩, hK, hN, hr, hA⟩ := G
  intro H locs ls hP hS hL
  exact lv_icmp_lt hx hb d ht (fun q => kt ((iN_lt hxx hyy).mp q) H locs ls hP hS hL) (fun q => kf (Int.not_lt.mp (fun q2 => q ((iN_lt hxx hyy).mpr q2))) H locs ls hP hS hL)

theorem v_if_lt (G : Cok l D cA r Rm Γ cc own Ts mL) {x : Int} {off : Int} (tgt : Nat) (hxx : -2147483648 ≤ x ∧ x < 2147483648) (d : decode cc pc = .ok (.ifCond .lt off, 3)) (ht : (pc : Int) + off = (tgt : Int)) (kt : x < 0 → V Γ z kc ks lv tgt st) (kf : 0 ≤ x → V Γ z kc ks lv (pc + 3) st) : V Γ z kc ks lv pc (.int (iN x) :: st) := by
  obtain ⟨p, l', e, R, s, m, args, below, meth, c, Q, A, D', cA', nL, r'⟩ := Γ
  obtain ⟨⟨rfl, rfl, rfl, rfl, rfl, rfl⟩, ⟨hx, hb, hml, hown, hts⟩, hK, hN, hr, hA⟩ := G
  intro H locs ls hP hS hL
  have b0 : -2147483648 ≤ (0 : Int) ∧ (0 : Int) < 2147483648 := by omega
  exact lv_if_lt hx hb d ht (fun q => kt ((iN_lt hxx b0).mp q) H locs ls hP hS hL) (fun q => kf (Int.not_lt.mp (fun q2 => q ((iN_lt hxx b0).mpr q2))) H locs ls hP hS hL)

theorem v_icmp_ge (G : Cok l D cA r Rm Γ cc own Ts mL) {x y : Int} {off : Int} (tgt : Nat) (hxx : -2147483648 ≤ x ∧ x < 2147483648) (hyy : -2147483648 ≤ y ∧ y < 2147483648) (d : decode cc pc = .ok (.if_icmp .ge off, 3)) (ht : (pc : Int) + off = (tgt : Int)) (kt : y ≤ x → V Γ z kc ks lv tgt st) (kf : x < y → V Γ z kc ks lv (pc + 3) st) : V Γ z kc ks lv pc (.int (iN y) :: .int (iN x) :: st) := by
  obtain ⟨p, l', e, R, s, m, args, below, meth, c, Q, A, D', cA', nL, r'⟩ := Γ
  obtain ⟨⟨rfl, rfl, rfl, rfl, rfl, rfl⟩, ⟨hx, hb, hml, hown, hts⟩, hK, hN, hr, hA⟩ := G
  intro H locs ls hP hS hL
  exact lv_icmp_ge hx hb d ht (fun q => kt ((iN_le hyy hxx).mp q) H locs ls hP hS hL) (fun q => kf (Int.not_le.mp (fun q2 => q ((iN_le hyy hxx).mpr q2))) H locs ls hP hS hL)

theorem v_if_ge (G : Cok l D cA r Rm Γ cc own Ts mL) {x : Int} {off : Int} (tgt : Nat) (hxx : -2147483648 ≤ x ∧ x < 2147483648) (d : decode cc pc = .ok (.ifCond .ge off, 3)) (ht : (pc : Int) + off = (tgt : Int)) (kt : 0 ≤ x → V Γ z kc ks lv tgt st) (kf : x < 0 → V Γ z kc ks lv (pc + 3) st) : V Γ z kc ks lv pc (.int (iN x) :: st) := by
  obtain ⟨p, l', e, R, s, m, args, below, meth, c, Q, A, D', cA', nL, r'⟩ := Γ
  obtain ⟨⟨rfl, rfl, rfl, rfl, rfl, rfl⟩, ⟨hx, hb, hml, hown, hts⟩, hK, hN, hr, hA⟩ := G
  intro H locs ls hP hS hL
  have b0 : -2147483648 ≤ (0 : Int) ∧ (0 : Int) < 2147483648 := by omega
  exact lv_if_ge hx hb d ht (fun q => kt ((iN_le b0 hxx).mp q) H locs ls hP hS hL) (fun q => kf (Int.not_le.mp (fun q2 => q ((iN_le b0 hxx).mpr q2))) H locs ls hP hS hL)

theorem v_icmp_gt (G : Cok l D cA r Rm Γ cc own Ts mL) {x y : Int} {off : Int} (tgt : Nat) (hxx : -2147483648 ≤ x ∧ x < 2147483648) (hyy : -2147483648 ≤ y ∧ y < 2147483648) (d : decode cc pc = .ok (.if_icmp .gt off, 3)) (ht : (pc : Int) + off = (tgt : Int)) (kt : y < x → V Γ z kc ks lv tgt st) (kf : x ≤ y → V Γ z kc ks lv (pc + 3) st) : V Γ z kc ks lv pc (.int (iN y) :: .int (iN x) :: st) := by
  obtain ⟨p, l', e, R, s, m, args, below, meth, c, Q, A, D', cA', nL, r'⟩ := Γ
  obtain ⟨⟨rfl, rfl, rfl, rfl, rfl, rfl⟩, ⟨hx, hb, hml, hown, hts⟩, hK, hN, hr, hA⟩ := G
  intro H locs ls hP hS hL
  exact lv_icmp_gt hx hb d ht (fun q => kt ((iN_lt hyy hxx).mp q) H locs ls hP hS hL) (fun q => kf (Int.not_lt.mp (fun q2 => q ((iN_lt hyy hxx).mpr q2))) H locs ls hP hS hL)

theorem v_if_gt (G : Cok l D cA r Rm Γ cc own Ts mL) {x : Int} {off : Int} (tgt : Nat) (hxx : -2147483648 ≤ x ∧ x < 2147483648) (d : decode cc pc = .ok (.ifCond .gt off, 3)) (ht : (pc : Int) + off = (tgt : Int)) (kt : 0 < x → V Γ z kc ks lv tgt st) (kf : x ≤ 0 → V Γ z kc ks lv (pc + 3) st) : V Γ z kc ks lv pc (.int (iN x) :: st) := by
  obtain ⟨p, l', e, R, s, m, args, below, meth, c, Q, A, D', cA', nL, r'⟩ := Γ
  obtain ⟨⟨rfl, rfl, rfl, rfl, rfl, rfl⟩, ⟨hx, hb, hml, hown, hts⟩, hK, hN, hr, hA⟩ := G
  intro H locs ls hP hS hL
  have b0 : -2147483648 ≤ (0 : Int) ∧ (0 : Int) < 2147483648 := by omega
  exact lv_if_gt hx hb d ht (fun q => kt ((iN_lt b0 hxx).mp q) H locs ls hP hS hL) (fun q => kf (Int.not_lt.mp (fun q2 => q ((iN_lt b0 hxx).mpr q2))) H locs ls hP hS hL)

theorem v_icmp_le (G : Cok l D cA r Rm Γ cc own Ts mL) {x y : Int} {off : Int} (tgt : Nat) (hxx : -2147483648 ≤ x ∧ x < 2147483648) (hyy : -2147483648 ≤ y ∧ y < 2147483648) (d : decode cc pc = .ok (.if_icmp .le off, 3)) (ht : (pc : Int) + off = (tgt : Int)) (kt : x ≤ y → V Γ z kc ks lv tgt st) (kf : y < x → V Γ z kc ks lv (pc + 3) st) : V Γ z kc ks lv pc (.int (iN y) :: .int (iN x) :: st) := by
  obtain ⟨p, l', e, R, s, m, args, below, meth, c, Q, A, D', cA', nL, r'⟩ := Γ
  obtain ⟨⟨rfl, rfl, rfl, rfl, rfl, rfl⟩, ⟨hx, hb, hml, hown, hts⟩, hK, hN, hr, hA⟩ := G
  intro H locs ls hP hS hL
  exact lv_icmp_le hx hb d ht (fun q => kt ((iN_le hxx hyy).mp q) H locs ls hP hS hL) (fun q => kf (Int.not_le.mp (fun q2 => q ((iN_le hxx hyy).mpr q2))) H locs ls hP hS hL)

theorem v_if_le (G : Cok l D cA r Rm Γ cc own Ts mL) {x : Int} {off : Int} (tgt : Nat) (hxx : -2147483648 ≤ x ∧ x < 2147483648) (d : decode cc pc = .ok (.ifCond .le off, 3)) (ht : (pc : Int) + off = (tgt : Int)) (kt : x ≤ 0 → V Γ z kc ks lv tgt st) (kf : 0 < x → V Γ z kc ks lv (pc + 3) st) : V Γ z kc ks lv pc (.int (iN x) :: st) := by
  obtain ⟨p, l', e, R, s, m, args, below, meth, c, Q, A, D', cA', nL, r'⟩ := Γ
  obtain ⟨⟨rfl, rfl, rfl, rfl, rfl, rfl⟩, ⟨hx, hb, hml, hown, hts⟩, hK, hN, hr, hA⟩ := G
  intro H locs ls hP hS hL
  have b0 : -2147483648 ≤ (0 : Int) ∧ (0 : Int) < 2147483648 := by omega
  exact lv_if_le hx hb d ht (fun q => kt ((iN_le hxx b0).mp q) H locs ls hP hS hL) (fun q => kf (Int.not_le.mp (fun q2 => q ((iN_le hxx b0).mpr q2))) H locs ls hP hS hL)

theorem v_getf (G : Cok l D cA r Rm Γ cc own Ts mL) {C : String} {T : u_T} {N ci K t k idx : Nat} {fs : List Value} {v : Value} (hin : ∀ w ∈ u_ws C T N, w ∈ Ts) (hlk : Cond.fieldLink own idx (T k).1 (T k).2.1 (T k).2.2.1 ∈ Ts) (hc : vwCl[ci]? = some (C, T, N)) (hk : k < N) (ht : kd t = K) (hK0 : K ≠ 0) (hcl : cl K r cA t (z t) = .inr (ci, fs)) (hv : fs[k]? = some v) (d : decode cc pc = .ok (.getfield idx, 3)) (kk : V Γ z kc ks lv (pc + 3) (v :: st)) : V Γ z kc ks lv pc (.ref (r t) :: st) := by
  obtain ⟨p, l', e, R, s, m, args, below, meth, c, Q, A, D', cA', nL, r'⟩ := Γ
  obtain ⟨⟨rfl, rfl, rfl, rfl, rfl, rfl⟩, ⟨hx, hb, hml, hown, hts⟩, hK, hN, hr, hA⟩ := G
  intro H locs ls hP hS hL
  exact va_get hx hb hts hin hown hK hP t ((wl_at (kd_lt ht hK0)).trans (by rw [Ez, ht, hcl])) hc k hk (hts _ hlk) (fun _ h => h) hv d (kk H locs ls hP hS hL)

theorem v_putf (G : Cok l D cA r Rm Γ cc own Ts mL) {C : String} {T : u_T} {N ci K t k idx : Nat} {x : Int} {fs : List Value} {ty0 : Nat → FieldType} (hin : ∀ w ∈ u_ws C T N, w ∈ Ts) (hty : ∀ k, k < N → parseFieldDescriptor (T k).2.2.1 = some (ty0 k)) (hnm : ∀ a, a < N → ∀ b, b < N → a ≠ b → (T a).2.1 ≠ (T b).2.1) (hlk : Cond.fieldLink own idx (T k).1 (T k).2.1 (T k).2.2.1 ∈ Ts) (hc : vwCl[ci]? = some (C, T, N)) (hk : k < N) (hfin : (T k).2.2.2 = false) (hdd : parseFieldDescriptor (T k).2.2.1 = some .int) (ht : kd t = K) (hK0 : K ≠ 0) (hcl : cl K r cA t (z t) = .inr (ci, fs)) (hlen : k < fs.length) (hcl2 : cl K r cA t (fun j => if j = k then x else z t j) = .inr (ci, fs.set k (.int (iN x)))) (d : decode cc pc = .ok (.putfield idx, 3)) (kk : V Γ (zup z t k x) kc ks lv (pc + 3) st) : V Γ z kc ks lv pc (.int (iN x) :: .ref (r t) :: st) := by
  obtain ⟨p, l', e, R, s, m, args, below, meth, c, Q, A, D', cA', nL, r'⟩ := Γ
  obtain ⟨⟨rfl, rfl, rfl, rfl, rfl, rfl⟩, ⟨hx, hb, hml, hown, hts⟩, hK, hN, hr, hA⟩ := G
  intro H locs ls hP hS hL
  refine va_put (v := .int (iN x)) hx hb hts hin ty0 hty hnm hown hK hP (wl_D hr hA) hS t ((wl_at (kd_lt ht hK0)).trans (by rw [Ez, ht, hcl])) hc k hk (hts _ hlk) (fun _ h => h) hfin hdd rfl rfl hlen d (fun H1 locs1 hP1 _ hS1 => kk H1 locs1 ls ?_ hS1 hL)
  rw [wz, ← Ez_up ht hcl2, ← wl_set (kd_lt ht hK0)]
  exact hP1

theorem v_getfN (G : Cok l D cA r Rm Γ cc own Ts mL) {C host : String} {T : u_T} {N ci K t k idx : Nat} {fs : List Value} {v : Value} (hin : ∀ w ∈ u_ws C T N, w ∈ Ts) (hlk : Cond.fieldLinkNest own idx (T k).1 (T k).2.1 (T k).2.2.1 host ∈ nwF) (hc : vwCl[ci]? = some (C, T, N)) (hk : k < N) (ht : kd t = K) (hK0 : K ≠ 0) (hcl : cl K r cA t (z t) = .inr (ci, fs)) (hv : fs[k]? = some v) (d : decode cc pc = .ok (.getfield idx, 3)) (kk : V Γ z kc ks lv (pc + 3) (v :: st)) : V Γ z kc ks lv pc (.ref (r t) :: st) := by
  obtain ⟨p, l', e, R, s, m, args, below, meth, c, Q, A, D', cA', nL, r'⟩ := Γ
  obtain ⟨⟨rfl, rfl, rfl, rfl, rfl, rfl⟩, ⟨hx, hb, hml, hown, hts⟩, hK, hN, hr, hA⟩ := G
  intro H locs ls hP hS hL
  exact va_getN hx hb hts hin hown hK hP t ((wl_at (kd_lt ht hK0)).trans (by rw [Ez, ht, hcl])) hc k hk (va_Nw.use rfl (hN _ hlk)) (fun _ h => h) hv d (kk H locs ls hP hS hL)

theorem v_putfN (G : Cok l D cA r Rm Γ cc own Ts mL) {C host : String} {T : u_T} {N ci K t k idx : Nat} {x : Int} {fs : List Value} {ty0 : Nat → FieldType} (hin : ∀ w ∈ u_ws C T N, w ∈ Ts) (hty : ∀ k, k < N → parseFieldDescriptor (T k).2.2.1 = some (ty0 k)) (hnm : ∀ a, a < N → ∀ b, b < N → a ≠ b → (T a).2.1 ≠ (T b).2.1) (hlk : Cond.fieldLinkNest own idx (T k).1 (T k).2.1 (T k).2.2.1 host ∈ nwF) (hc : vwCl[ci]? = some (C, T, N)) (hk : k < N) (hfin : (T k).2.2.2 = false) (hdd : parseFieldDescriptor (T k).2.2.1 = some .int) (ht : kd t = K) (hK0 : K ≠ 0) (hcl : cl K r cA t (z t) = .inr (ci, fs)) (hlen : k < fs.length) (hcl2 : cl K r cA t (fun j => if j = k then x else z t j) = .inr (ci, fs.set k (.int (iN x)))) (d : decode cc pc = .ok (.putfield idx, 3)) (kk : V Γ (zup z t k x) kc ks lv (pc + 3) st) : V Γ z kc ks lv pc (.int (iN x) :: .ref (r t) :: st) := by
  obtain ⟨p, l', e, R, s, m, args, below, meth, c, Q, A, D', cA', nL, r'⟩ := Γ
  obtain ⟨⟨rfl, rfl, rfl, rfl, rfl, rfl⟩, ⟨hx, hb, hml, hown, hts⟩, hK, hN, hr, hA⟩ := G
  intro H locs ls hP hS hL
  refine va_putN (v := .int (iN x)) hx hb hts hin ty0 hty hnm hown hK hP (wl_D hr hA) hS t ((wl_at (kd_lt ht hK0)).trans (by rw [Ez, ht, hcl])) hc k hk (va_Nw.use rfl (hN _ hlk)) (fun _ h => h) hfin hdd rfl rfl hlen d (fun H1 locs1 hP1 _ hS1 => kk H1 locs1 ls ?_ hS1 hL)
  rw [wz, ← Ez_up ht hcl2, ← wl_set (kd_lt ht hK0)]
  exact hP1

theorem v_iald (G : Cok l D cA r Rm Γ cc own Ts mL) {K a n : Nat} {i : Int} (ht : kd a = K) (hK0 : K ≠ 0) (hcl : cl K r cA a (z a) = .inl (cA 0, n, .inl (fun j => iN (z a j)))) (hn : n < 2147483648) (hi : 0 ≤ i ∧ i < (n : Int)) (d : decode cc pc = .ok (.iaload, 1)) (kk : V Γ z kc ks lv (pc + 1) (.int (iN (z a i.toNat)) :: st)) : V Γ z kc ks lv pc (.int (iN i) :: .ref (r a) :: st) := by
  obtain ⟨p, l', e, R, s, m, args, below, meth, c, Q, A, D', cA', nL, r'⟩ := Γ
  obtain ⟨⟨rfl, rfl, rfl, rfl, rfl, rfl⟩, ⟨hx, hb, hml, hown, hts⟩, hK, hN, hr, hA⟩ := G
  intro H locs ls hP hS hL
  refine va_iald hx hb hK hP a 0 (f := fun j => iN (z a j)) ((wl_at (kd_lt ht hK0)).trans (by rw [Ez, ht, hcl])) rfl (iN_in hi hn) d ?_
  rw [iN_cl ⟨hi.1, by omega⟩]
  exact kk H locs ls hP hS hL

theorem v_zald (G : Cok l D cA r Rm Γ cc own Ts mL) {a : Nat} {i : Int} (ht : kd a = 20) (hi : 0 ≤ i ∧ i < 2) (d : decode cc pc = .ok (.baload, 1)) (kk : V Γ z kc ks lv (pc + 1) (.int (iN (z a i.toNat)) :: st)) : V Γ z kc ks lv pc (.int (iN i) :: .ref (r a) :: st) := by
  obtain ⟨p, l', e, R, s, m, args, below, meth, c, Q, A, D', cA', nL, r'⟩ := Γ
  obtain ⟨⟨rfl, rfl, rfl, rfl, rfl, rfl⟩, ⟨hx, hb, hml, hown, hts⟩, hK, hN, hr, hA⟩ := G
  intro H locs ls hP hS hL
  refine va_zald hx hb hK hP a 1 (f := fun j => iN (z a j)) (n := 2) ((wl_at (kd_lt ht (by decide))).trans (by rw [Ez, ht]; rfl)) rfl (iN_in (n := 2) hi (by decide)) d ?_
  rw [iN_cl ⟨hi.1, by omega⟩]
  exact kk H locs ls hP hS hL

theorem v_aaldF (G : Cok l D cA r Rm Γ cc own Ts mL) {a : Nat} {i : Int} (ht : kd a = 40) (hi : 0 ≤ i ∧ i < 10) (d : decode cc pc = .ok (.aaload, 1)) (kk : V Γ z kc ks lv (pc + 1) (.ref (r (a + 1 + i.toNat)) :: st)) : V Γ z kc ks lv pc (.int (iN i) :: .ref (r a) :: st) := by
  obtain ⟨p, l', e, R, s, m, args, below, meth, c, Q, A, D', cA', nL, r'⟩ := Γ
  obtain ⟨⟨rfl, rfl, rfl, rfl, rfl, rfl⟩, ⟨hx, hb, hml, hown, hts⟩, hK, hN, hr, hA⟩ := G
  intro H locs ls hP hS hL
  refine va_aldq hx hb hK hP a 3 (f := fun j => some (r' (a + 1 + j))) (n := 10) (C := RX1) ((wl_at (kd_lt ht (by decide))).trans (by rw [Ez, ht]; rfl)) rfl (iN_in (n := 10) hi (by decide)) d ?_
  rw [iN_cl ⟨hi.1, by omega⟩]
  exact kk H locs ls hP hS hL

theorem v_aaldS (G : Cok l D cA r Rm Γ cc own Ts mL) {a K n : Nat} {i : Int} (ht : kd a = K) (hK0 : K ≠ 0) (hcl : cl K r cA a (z a) = .inl (cA 4, n, .inr (.inr (.inr (.inr (fun j => some (r (z a j).toNat))))))) (hn : n < 2147483648) (hi : 0 ≤ i ∧ i < (n : Int)) (d : decode cc pc = .ok (.aaload, 1)) (kk : V Γ z kc ks lv (pc + 1) (.ref (r (z a i.toNat).toNat) :: st)) : V Γ z kc ks lv pc (.int (iN i) :: .ref (r a) :: st) := by
  obtain ⟨p, l', e, R, s, m, args, below, meth, c, Q, A, D', cA', nL, r'⟩ := Γ
  obtain ⟨⟨rfl, rfl, rfl, rfl, rfl, rfl⟩, ⟨hx, hb, hml, hown, hts⟩, hK, hN, hr, hA⟩ := G
  intro H locs ls hP hS hL
  refine va_aldq hx hb hK hP a 4 (f := fun j => some (r' (z a j).toNat)) (C := RX2) ((wl_at (kd_lt ht hK0)).trans (by rw [Ez, ht, hcl])) rfl (iN_in hi hn) d ?_
  rw [iN_cl ⟨hi.1, by omega⟩]
  exact kk H locs ls hP hS hL

theorem v_iast (G : Cok l D cA r Rm Γ cc own Ts mL) {K a n : Nat} {i x : Int} (ht : kd a = K) (hK0 : K ≠ 0) (hcl : ∀ f : Nat → Int, cl K r cA a f = .inl (cA 0, n, .inl (fun j => iN (f j)))) (hn : n < 2147483648) (hi : 0 ≤ i ∧ i < (n : Int)) (d : decode cc pc = .ok (.iastore, 1)) (kk : V Γ (zup z a i.toNat x) kc ks lv (pc + 1) st) : V Γ z kc ks lv pc (.int (iN x) :: .int (iN i) :: .ref (r a) :: st) := by
  obtain ⟨p, l', e, R, s, m, args, below, meth, c, Q, A, D', cA', nL, r'⟩ := Γ
  obtain ⟨⟨rfl, rfl, rfl, rfl, rfl, rfl⟩, ⟨hx, hb, hml, hown, hts⟩, hK, hN, hr, hA⟩ := G
  intro H locs ls hP hS hL
  refine va_iast hx hb hK hP (wl_D hr hA) hS a 0 (f := fun j => iN (z a j)) ((wl_at (kd_lt ht hK0)).trans (by rw [Ez, ht, hcl])) rfl (iN_in hi hn) d (fun H1 locs1 hP1 _ hS1 => kk H1 locs1 ls ?_ hS1 hL)
  rw [wz, ← Ez_up ht (hcl _), ← wl_set (kd_lt ht hK0)]
  rw [iN_cl ⟨hi.1, by omega⟩] at hP1
  refine Eq.mp (congrArg (fun f => va_P _ vwCl ((wl NN _ _).set a (_, .inl (_, n, .inl f))) H1) ?_) hP1
  funext j
  by_cases hj : j = i.toNat
  · simp [upd, hj]
  · simp [upd, hj]

theorem v_zast (G : Cok l D cA r Rm Γ cc own Ts mL) {a : Nat} {i : Int} (ht : kd a = 20) (hi : 0 ≤ i ∧ i < 2) (d : decode cc pc = .ok (.bastore, 1)) (kk : V Γ (zup z a i.toNat 1) kc ks lv (pc + 1) st) : V Γ z kc ks lv pc (.int (iN 1) :: .int (iN i) :: .ref (r a) :: st) := by
  obtain ⟨p, l', e, R, s, m, args, below, meth, c, Q, A, D', cA', nL, r'⟩ := Γ
  obtain ⟨⟨rfl, rfl, rfl, rfl, rfl, rfl⟩, ⟨hx, hb, hml, hown, hts⟩, hK, hN, hr, hA⟩ := G
  intro H locs ls hP hS hL
  refine va_zast hx hb hK hP (wl_D hr hA) hS a 1 (f := fun j => iN (z a j)) (n := 2) ((wl_at (kd_lt ht (by decide))).trans (by rw [Ez, ht]; rfl)) rfl (iN_in (n := 2) hi (by decide)) d (fun H1 locs1 hP1 _ hS1 => kk H1 locs1 ls ?_ hS1 hL)
  rw [wz, ← Ez_up ht rfl, ← wl_set (kd_lt ht (by decide))]
  rw [iN_cl ⟨hi.1, by omega⟩, show vp_nar .boolean (iN 1) = iN 1 from by decide] at hP1
  refine Eq.mp (congrArg (fun f => va_P _ vwCl ((wl NN _ _).set a (_, .inl (_, 2, .inl f))) H1) ?_) hP1
  funext j
  by_cases hj : j = i.toNat
  · simp [upd, hj]
  · simp [upd, hj]

theorem v_aastS (G : Cok l D cA r Rm Γ cc own Ts mL) {a b K n : Nat} {i : Int} (ht : kd a = K) (hK0 : K ≠ 0) (hcl : ∀ f : Nat → Int, cl K r cA a f = .inl (cA 4, n, .inr (.inr (.inr (.inr (fun j => some (r (f j).toNat))))))) (hn : n < 2147483648) (hb2 : kd b = 2) (hi : 0 ≤ i ∧ i < (n : Int)) (d : decode cc pc = .ok (.aastore, 1)) (kk : V Γ (zup z a i.toNat (b : Int)) kc ks lv (pc + 1) st) : V Γ z kc ks lv pc (.ref (r b) :: .int (iN i) :: .ref (r a) :: st) := by
  obtain ⟨p, l', e, R, s, m, args, below, meth, c, Q, A, D', cA', nL, r'⟩ := Γ
  obtain ⟨⟨rfl, rfl, rfl, rfl, rfl, rfl⟩, ⟨hx, hb, hml, hown, hts⟩, hK, hN, hr, hA⟩ := G
  intro H locs ls hP hS hL
  refine va_astq hx hb hK hP (wl_D hr hA) hS a 4 b 2 (f := fun j => some (r' (z a j).toNat)) (r := (RX2, TX2, 9)) ((wl_at (kd_lt ht hK0)).trans (by rw [Ez, ht, hcl])) rfl ((wl_at (kd_lt hb2 (by decide))).trans (by rw [Ez, hb2]; rfl)) rfl (iN_in hi hn) d (fun H1 locs1 hP1 _ hS1 => kk H1 locs1 ls ?_ hS1 hL)
  rw [wz, ← Ez_up ht (hcl _), ← wl_set (kd_lt ht hK0)]
  rw [iN_cl ⟨hi.1, by omega⟩] at hP1
  refine Eq.mp (congrArg (fun f => va_P _ vwCl ((wl NN _ _).set a (_, .inl (_, n, .inr (.inr (.inr (.inr f)))))) H1) ?_) hP1
  funext j
  by_cases hj : j = i.toNat
  · simp [va_up, hj]
  · simp [va_up, hj]

theorem v_alen (G : Cok l D cA r Rm Γ cc own Ts mL) {K a n : Nat} {x : vp_A} (ht : kd a = K) (hK0 : K ≠ 0) (hcl : cl K r cA a (z a) = .inl (cA 0, x)) (hx2 : x.1 = n) (d : decode cc pc = .ok (.arraylength, 1)) (kk : V Γ z kc ks lv (pc + 1) (.int (iN (n : Int)) :: st)) : V Γ z kc ks lv pc (.ref (r a) :: st) := by
  obtain ⟨p, l', e, R, s, m, args, below, meth, c, Q, A, D', cA', nL, r'⟩ := Γ
  obtain ⟨⟨rfl, rfl, rfl, rfl, rfl, rfl⟩, ⟨hx, hb, hml, hown, hts⟩, hK, hN, hr, hA⟩ := G
  intro H locs ls hP hS hL
  exact va_alen hx hb hK hP a 0 (x := x) ((wl_at (kd_lt ht hK0)).trans (by rw [Ez, ht, hcl])) rfl (by rw [hx2]; exact (iN_nI n).symm) d (kk H locs ls hP hS hL)

theorem v_sub (G : Cok l D cA r Rm Γ cc own Ts mL) (lv' : List (Nat × Value)) (js : List Nat) (hl : lv_pick lv js = lv') (kk : V Γ z kc ks lv' pc st) : V Γ z kc ks lv pc st := by
  obtain ⟨p, l', e, R, s, m, args, below, meth, c, Q, A, D', cA', nL, r'⟩ := Γ
  obtain ⟨⟨rfl, rfl, rfl, rfl, rfl, rfl⟩, ⟨hx, hb, hml, hown, hts⟩, hK, hN, hr, hA⟩ := G
  intro H locs ls hP hS hL
  exact kk H locs ls hP hS (lv_sub hL js hl)

end VR
