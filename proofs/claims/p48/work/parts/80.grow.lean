/-! a world that grows: its cells are 0 .. n-1, at addresses that follow each other -/
def Sq (r : Nat → Nat) : Prop := ∀ i : Nat, r i = r 0 + i
theorem Sq.inj {r : Nat → Nat} (h : Sq r) : Inj r := fun i j _ _ e => by
  have a := h i
  have b := h j
  omega
theorem Sq.s {r : Nat → Nat} (h : Sq r) (n : Nat) : r (n + 1) = r n + 1 := by
  have a := h n
  have b := h (n + 1)
  omega
def GK (U : State) : Prop := va_Nw (.methodLinkNest RX2 48 yX1_init RX4) U ∧ va_Nw (.methodLinkNest RX4 33 yX0_init RX4) U ∧ va_AO RX1 U ∧ va_AO RX2 U
theorem GK.warm {s U : State} (hW : s.WarmedH U.vm) (h : GK s) : GK U := ⟨va_Nw.warmM hW h.1, va_Nw.warmM hW h.2.1, va_AO.moved hW.alike h.2.2.1, va_AO.moved hW.alike h.2.2.2⟩
theorem GK.same {u U : State} (hv : u.vm = U.vm) (h : GK u) : GK U := ⟨va_Nw.same rfl hv h.1, va_Nw.same rfl hv h.2.1, va_AO.moved (hv ▸ Vm.Alike.refl u.vm) h.2.2.1, va_AO.moved (hv ▸ Vm.Alike.refl u.vm) h.2.2.2⟩
def VG (Γ : Cx) (n : Nat) (E : Nat → va_E) (kc ks : Nat) (lv : List (Nat × Value)) (pc : Nat) (st : List Value) : Prop :=
  match Γ with
  | (p, l, e, R, s, m, args, below, meth, c, Q, A, D, _, nL, r) =>
    ∀ (H : Heap) (locs : List Loc) (ls : Array Slot), va_P D vwCl (wl n r E) H → H.size = r n → va_S A s.heap H locs → lv_has ls nL lv →
      W p l e R s m args below meth c H locs kc ks Q (F0 m pc ls st)
def CoG (l : Launch) (D : va_G) (cA : Nat → ClassId) (r : Nat → Nat) (Rm : Room) (Γ : Cx) (cc : ByteArray) (own : String) (Ts : List Cond) (mL : Nat) : Prop :=
  Cok l D cA r Rm Γ cc own Ts mL ∧ match Γ with
  | (_, _, _, _, s, _, _, _, _, _, _, _, _, _, _, r') => GK s ∧ Sq r'
def Nmi (Γ : Cx) : Prop := match Γ with
  | (_, _, _, _, _, _, _, _, meth, _, _, _, _, _, _, _) => meth.name = "<init>"
theorem wl_Dn {n : Nat} {r : Nat → Nat} {E : Nat → va_E} {A : Nat → Prop} (hn : n ≤ NN) (hr : Inj r) (hA : ∀ i, i < NN → A (r i)) : va_D A (wl n r E) := by
  refine ⟨fun i j p q hi hj hpq => ?_, fun k q hk => ?_⟩
  · obtain ⟨h1, rfl⟩ := wl_key hi
    obtain ⟨h2, rfl⟩ := wl_key hj
    exact hr i j (Nat.lt_of_lt_of_le h1 hn) (Nat.lt_of_lt_of_le h2 hn) hpq
  · obtain ⟨h1, rfl⟩ := wl_key hk
    exact hA k (Nat.lt_of_lt_of_le h1 hn)
theorem wl_push {n : Nat} {r : Nat → Nat} {E : Nat → va_E} {e : va_E} : wl (n + 1) r (va_up E n e) = wl n r E ++ [(r n, e)] := by
  apply List.ext_getElem?
  intro j
  by_cases hj : j < n
  · rw [List.getElem?_append_left (by rw [wl_len]; exact hj), wl_at hj, wl_at (by omega)]
    simp [va_up, show ¬ j = n by omega]
  · rw [List.getElem?_append_right (by rw [wl_len]; omega), wl_len]
    by_cases q : j = n
    · subst q
      rw [wl_at (by omega)]
      simp [va_up]
    · rw [List.getElem?_eq_none (by rw [wl_len]; omega), List.getElem?_eq_none (by simp; omega)]
theorem va_up_s (E : Nat → va_E) (i : Nat) (e : va_E) : va_up E i e i = e := by simp [va_up]
theorem va_up_o {E : Nat → va_E} {i j : Nat} {e : va_E} (h : j ≠ i) : va_up E i e j = E j := by simp [va_up, h]
theorem va_up_up (E : Nat → va_E) (i : Nat) (e f : va_E) : va_up (va_up E i e) i f = va_up E i f := by
  funext j
  unfold va_up
  by_cases q : j = i
  · rw [if_pos q, if_pos q]
  · rw [if_neg q, if_neg q, if_neg q]
/-- contents that the heap can't tell apart -/
def eqE (a b : va_E) : Prop := ∀ (D : va_G) (q : Nat) (H : Heap), va_at D vwCl (q, a) H → va_at D vwCl (q, b) H
theorem eqE.rf (a : va_E) : eqE a a := fun _ _ _ h => h
theorem eqE.refs {c : ClassId} {n : Nat} {f g : Nat → Option Nat} (h : ∀ j, j < n → f j = g j) : eqE (.inl (c, n, .inr (.inr (.inr (.inr f))))) (.inl (c, n, .inr (.inr (.inr (.inr g))))) := fun D q H hv => by
  have h1 : H[q]? = some (arrV c n (fun j => va_rf (f j))) := hv
  have h2 : arrV c n (fun j => va_rf (f j)) = arrV c n (fun j => va_rf (g j)) := arrV_eq (fun j hj => by rw [h j hj])
  have h3 : H[q]? = some (arrV c n (fun j => va_rf (g j))) := h1.trans (congrArg some h2)
  exact h3
section VGR
variable {l : Launch} {D : va_G} {cA : Nat → ClassId} {r : Nat → Nat} {Rm : Room} {Γ : Cx} {cc : ByteArray} {own : String} {Ts : List Cond} {mL : Nat} {n : Nat} {E : Nat → va_E} {kc ks : Nat} {lv : List (Nat × Value)} {pc : Nat} {st : List Value}

theorem g_iconst (G : CoG l D cA r Rm Γ cc own Ts mL) {k : Int} (d : decode cc pc = .ok (.iconst k, 1)) (kk : VG Γ n E kc ks lv (pc + 1) (.int (iN k) :: st)) : VG Γ n E kc ks lv pc st := by
  obtain ⟨p, l', e, R, s, m, args, below, meth, c, Q, A, D', cA', nL, r'⟩ := Γ
  obtain ⟨⟨⟨rfl, rfl, rfl, rfl, rfl, rfl⟩, ⟨hx, hb, hml, hown, hts⟩, hK, hN, hr, hA⟩, hGK, hsq⟩ := G
  intro H locs ls hP hZ hS hL
  exact lv_iconst hx hb d rfl (kk H locs ls hP hZ hS hL)

theorem g_bipush (G : CoG l D cA r Rm Γ cc own Ts mL) {k : Int} (d : decode cc pc = .ok (.bipush k, 2)) (h : (Int8.ofInt k).toInt32 = Int32.ofInt k) (kk : VG Γ n E kc ks lv (pc + 2) (.int (iN k) :: st)) : VG Γ n E kc ks lv pc st := by
  obtain ⟨p, l', e, R, s, m, args, below, meth, c, Q, A, D', cA', nL, r'⟩ := Γ
  obtain ⟨⟨⟨rfl, rfl, rfl, rfl, rfl, rfl⟩, ⟨hx, hb, hml, hown, hts⟩, hK, hN, hr, hA⟩, hGK, hsq⟩ := G
  intro H locs ls hP hZ hS hL
  exact lv_bipush hx hb d h (kk H locs ls hP hZ hS hL)

theorem g_sipush (G : CoG l D cA r Rm Γ cc own Ts mL) {k : Int} (d : decode cc pc = .ok (.sipush k, 3)) (h : (Int16.ofInt k).toInt32 = Int32.ofInt k) (kk : VG Γ n E kc ks lv (pc + 3) (.int (iN k) :: st)) : VG Γ n E kc ks lv pc st := by
  obtain ⟨p, l', e, R, s, m, args, below, meth, c, Q, A, D', cA', nL, r'⟩ := Γ
  obtain ⟨⟨⟨rfl, rfl, rfl, rfl, rfl, rfl⟩, ⟨hx, hb, hml, hown, hts⟩, hK, hN, hr, hA⟩, hGK, hsq⟩ := G
  intro H locs ls hP hZ hS hL
  exact lv_sipush hx hb d h (kk H locs ls hP hZ hS hL)

theorem g_iload_n (G : CoG l D cA r Rm Γ cc own Ts mL) {q : Fin 4} {x : Int32} (d : decode cc pc = .ok (.iload_n q, 1)) (j : Nat) (hl : lv[j]? = some ((q : Nat), .int x)) (kk : VG Γ n E kc ks lv (pc + 1) (.int x :: st)) : VG Γ n E kc ks lv pc st := by
  obtain ⟨p, l', e, R, s, m, args, below, meth, c, Q, A, D', cA', nL, r'⟩ := Γ
  obtain ⟨⟨⟨rfl, rfl, rfl, rfl, rfl, rfl⟩, ⟨hx, hb, hml, hown, hts⟩, hK, hN, hr, hA⟩, hGK, hsq⟩ := G
  intro H locs ls hP hZ hS hL
  exact lv_iload_n hx hb d rfl (lv_at hL j hl) (kk H locs ls hP hZ hS hL)

theorem g_aload_n (G : CoG l D cA r Rm Γ cc own Ts mL) {q : Fin 4} {x : Nat} (d : decode cc pc = .ok (.aload_n q, 1)) (j : Nat) (hl : lv[j]? = some ((q : Nat), .ref x)) (kk : VG Γ n E kc ks lv (pc + 1) (.ref x :: st)) : VG Γ n E kc ks lv pc st := by
  obtain ⟨p, l', e, R, s, m, args, below, meth, c, Q, A, D', cA', nL, r'⟩ := Γ
  obtain ⟨⟨⟨rfl, rfl, rfl, rfl, rfl, rfl⟩, ⟨hx, hb, hml, hown, hts⟩, hK, hN, hr, hA⟩, hGK, hsq⟩ := G
  intro H locs ls hP hZ hS hL
  exact lv_aload_n hx hb d rfl (lv_at hL j hl) (kk H locs ls hP hZ hS hL)

theorem g_istore_n (G : CoG l D cA r Rm Γ cc own Ts mL) {q : Fin 4} {x : Int32} (lv' : List (Nat × Value)) (d : decode cc pc = .ok (.istore_n q, 1)) (hq : (q : Nat) < mL) (hl : lput lv q (.int x) = lv') (kk : VG Γ n E kc ks lv' (pc + 1) st) : VG Γ n E kc ks lv pc (.int x :: st) := by
  obtain ⟨p, l', e, R, s, m, args, below, meth, c, Q, A, D', cA', nL, r'⟩ := Γ
  obtain ⟨⟨⟨rfl, rfl, rfl, rfl, rfl, rfl⟩, ⟨hx, hb, hml, hown, hts⟩, hK, hN, hr, hA⟩, hGK, hsq⟩ := G
  intro H locs ls hP hZ hS hL
  exact lv_istore_n hx hb d rfl hL hq rfl (fun ls' h' => kk H locs ls' hP hZ hS (hl ▸ lput_has h'))

theorem g_astore_n (G : CoG l D cA r Rm Γ cc own Ts mL) {q : Fin 4} {x : Nat} (lv' : List (Nat × Value)) (d : decode cc pc = .ok (.astore_n q, 1)) (hq : (q : Nat) < mL) (hl : lput lv q (.ref x) = lv') (kk : VG Γ n E kc ks lv' (pc + 1) st) : VG Γ n E kc ks lv pc (.ref x :: st) := by
  obtain ⟨p, l', e, R, s, m, args, below, meth, c, Q, A, D', cA', nL, r'⟩ := Γ
  obtain ⟨⟨⟨rfl, rfl, rfl, rfl, rfl, rfl⟩, ⟨hx, hb, hml, hown, hts⟩, hK, hN, hr, hA⟩, hGK, hsq⟩ := G
  intro H locs ls hP hZ hS hL
  exact lv_astore_n hx hb d rfl hL hq rfl (fun ls' h' => kk H locs ls' hP hZ hS (hl ▸ lput_has h'))

theorem g_iinc (G : CoG l D cA r Rm Γ cc own Ts mL) {i : Nat} {k x : Int} (lv' : List (Nat × Value)) (d : decode cc pc = .ok (.iinc i k, 3)) (j : Nat) (hj : lv[j]? = some (i, .int (iN x))) (hq : i < mL) (hl : lput lv i (.int (iN (x + k))) = lv') (kk : VG Γ n E kc ks lv' (pc + 3) st) : VG Γ n E kc ks lv pc st := by
  obtain ⟨p, l', e, R, s, m, args, below, meth, c, Q, A, D', cA', nL, r'⟩ := Γ
  obtain ⟨⟨⟨rfl, rfl, rfl, rfl, rfl, rfl⟩, ⟨hx, hb, hml, hown, hts⟩, hK, hN, hr, hA⟩, hGK, hsq⟩ := G
  intro H locs ls hP hZ hS hL
  exact lv_iinc hx hb d hL hj (iN_add x k) hq rfl (fun ls' h' => kk H locs ls' hP hZ hS (hl ▸ lput_has h'))

theorem g_dup (G : CoG l D cA r Rm Γ cc own Ts mL) {v : Value} (d : decode cc pc = .ok (.dup, 1)) (hv : v.category = 1) (kk : VG Γ n E kc ks lv (pc + 1) (v :: v :: st)) : VG Γ n E kc ks lv pc (v :: st) := by
  obtain ⟨p, l', e, R, s, m, args, below, meth, c, Q, A, D', cA', nL, r'⟩ := Γ
  obtain ⟨⟨⟨rfl, rfl, rfl, rfl, rfl, rfl⟩, ⟨hx, hb, hml, hown, hts⟩, hK, hN, hr, hA⟩, hGK, hsq⟩ := G
  intro H locs ls hP hZ hS hL
  exact lv_dup hx hb d hv (kk H locs ls hP hZ hS hL)

theorem g_goto (G : CoG l D cA r Rm Γ cc own Ts mL) {off : Int} (tgt : Nat) (d : decode cc pc = .ok (.goto off, 3)) (ht : (pc : Int) + off = (tgt : Int)) (kk : VG Γ n E kc ks lv tgt st) : VG Γ n E kc ks lv pc st := by
  obtain ⟨p, l', e, R, s, m, args, below, meth, c, Q, A, D', cA', nL, r'⟩ := Γ
  obtain ⟨⟨⟨rfl, rfl, rfl, rfl, rfl, rfl⟩, ⟨hx, hb, hml, hown, hts⟩, hK, hN, hr, hA⟩, hGK, hsq⟩ := G
  intro H locs ls hP hZ hS hL
  exact lv_goto hx hb d ht (kk H locs ls hP hZ hS hL)

theorem g_icmp_ge (G : CoG l D cA r Rm Γ cc own Ts mL) {x y : Int} {off : Int} (tgt : Nat) (hxx : -2147483648 ≤ x ∧ x < 2147483648) (hyy : -2147483648 ≤ y ∧ y < 2147483648) (d : decode cc pc = .ok (.if_icmp .ge off, 3)) (ht : (pc : Int) + off = (tgt : Int)) (kt : y ≤ x → VG Γ n E kc ks lv tgt st) (kf : x < y → VG Γ n E kc ks lv (pc + 3) st) : VG Γ n E kc ks lv pc (.int (iN y) :: .int (iN x) :: st) := by
  obtain ⟨p, l', e, R, s, m, args, below, meth, c, Q, A, D', cA', nL, r'⟩ := Γ
  obtain ⟨⟨⟨rfl, rfl, rfl, rfl, rfl, rfl⟩, ⟨hx, hb, hml, hown, hts⟩, hK, hN, hr, hA⟩, hGK, hsq⟩ := G
  intro H locs ls hP hZ hS hL
  exact lv_icmp_ge hx hb d ht (fun q => kt ((iN_le hyy hxx).mp q) H locs ls hP hZ hS hL) (fun q => kf (Int.not_le.mp (fun q2 => q ((iN_le hyy hxx).mpr q2))) H locs ls hP hZ hS hL)

theorem g_if_ne (G : CoG l D cA r Rm Γ cc own Ts mL) {x : Int} {off : Int} (tgt : Nat) (hxx : -2147483648 ≤ x ∧ x < 2147483648) (d : decode cc pc = .ok (.ifCond .ne off, 3)) (ht : (pc : Int) + off = (tgt : Int)) (kt : ¬ x = 0 → VG Γ n E kc ks lv tgt st) (kf : x = 0 → VG Γ n E kc ks lv (pc + 3) st) : VG Γ n E kc ks lv pc (.int (iN x) :: st) := by
  obtain ⟨p, l', e, R, s, m, args, below, meth, c, Q, A, D', cA', nL, r'⟩ := Γ
  obtain ⟨⟨⟨rfl, rfl, rfl, rfl, rfl, rfl⟩, ⟨hx, hb, hml, hown, hts⟩, hK, hN, hr, hA⟩, hGK, hsq⟩ := G
  intro H locs ls hP hZ hS hL
  have b0 : -2147483648 ≤ (0 : Int) ∧ (0 : Int) < 2147483648 := by omega
  exact lv_if_ne hx hb d ht (fun q => kt (fun q2 => q ((iN_eq hxx b0).mpr q2)) H locs ls hP hZ hS hL) (fun q => kf ((iN_eq hxx b0).mp q) H locs ls hP hZ hS hL)

theorem g_getf (G : CoG l D cA r Rm Γ cc own Ts mL) {C : String} {T : u_T} {N ci t k idx : Nat} {fs : List Value} {v : Value} (hin : ∀ w ∈ u_ws C T N, w ∈ Ts) (hlk : Cond.fieldLink own idx (T k).1 (T k).2.1 (T k).2.2.1 ∈ Ts) (hc : vwCl[ci]? = some (C, T, N)) (hk : k < N) (ht : t < n) (hcl : E t = .inr (ci, fs)) (hv : fs[k]? = some v) (d : decode cc pc = .ok (.getfield idx, 3)) (kk : VG Γ n E kc ks lv (pc + 3) (v :: st)) : VG Γ n E kc ks lv pc (.ref (r t) :: st) := by
  obtain ⟨p, l', e, R, s, m, args, below, meth, c, Q, A, D', cA', nL, r'⟩ := Γ
  obtain ⟨⟨⟨rfl, rfl, rfl, rfl, rfl, rfl⟩, ⟨hx, hb, hml, hown, hts⟩, hK, hN, hr, hA⟩, hGK, hsq⟩ := G
  intro H locs ls hP hZ hS hL
  exact va_get hx hb hts hin hown hK hP t ((wl_at ht).trans (by rw [hcl])) hc k hk (hts _ hlk) (fun _ h => h) hv d (kk H locs ls hP hZ hS hL)

theorem g_obj (G : CoG l D cA r Rm Γ cc own Ts mL) {idx : Nat} {t : Nat} (h1 : Cond.methodLink own idx objectInit ∈ Ts) (h2 : Cond.instanceMethod objectInit ∈ Ts) (h3 : Cond.code objectInit ⟨#[0xb1]⟩ 1 none ∈ Ts) (hf : 1 ≤ Rm.frames) (hlo : (st.map fun v => v.category).sum + 12 ≤ Rm.locals) (d : decode cc pc = .ok (.invokespecial idx, 3)) (kk : VG Γ n E kc ks lv (pc + 3) st) : VG Γ n E kc ks lv pc (.ref (r t) :: st) := by
  obtain ⟨p, l', e, R, s, m, args, below, meth, c, Q, A, D', cA', nL, r'⟩ := Γ
  obtain ⟨⟨⟨rfl, rfl, rfl, rfl, rfl, rfl⟩, ⟨hx, hb, hml, hown, hts⟩, hK, hN, hr, hA⟩, hGK, hsq⟩ := G
  intro H locs ls hP hZ hS hL
  refine W.objInit hx hb hown (hts _ h1) (hts _ h2) (hts _ h3) rfl (hL.1.trans hml.symm) rfl d hf (by simpa using hlo) ?_
  exact W.eq (g2 := F0 m (pc + 3) ls st) rfl (kk H locs ls hP hZ hS hL)

theorem g_put (G : CoG l D cA r Rm Γ cc own Ts mL) {C : String} {T : u_T} {N ci t k idx : Nat} {fs : List Value} {v : Value} {ty : FieldType} {ty0 : Nat → FieldType} (hin : ∀ w ∈ u_ws C T N, w ∈ Ts) (hty : ∀ k, k < N → parseFieldDescriptor (T k).2.2.1 = some (ty0 k)) (hnm : ∀ a, a < N → ∀ b, b < N → a ≠ b → (T a).2.1 ≠ (T b).2.1) (hlk : Cond.fieldLink own idx (T k).1 (T k).2.1 (T k).2.2.1 ∈ Ts) (hc : vwCl[ci]? = some (C, T, N)) (hk : k < N) (hfin : (T k).2.2.2 = false) (hd : parseFieldDescriptor (T k).2.2.1 = some ty) (hnar : narrow ty v = v) (hfit : fits ty v = true) (ht : t < n) (hn : n ≤ NN) (hcl : E t = .inr (ci, fs)) (hlen : k < fs.length) (d : decode cc pc = .ok (.putfield idx, 3)) (kk : VG Γ n (va_up E t (.inr (ci, fs.set k v))) kc ks lv (pc + 3) st) : VG Γ n E kc ks lv pc (v :: .ref (r t) :: st) := by
  obtain ⟨p, l', e, R, s, m, args, below, meth, c, Q, A, D', cA', nL, r'⟩ := Γ
  obtain ⟨⟨⟨rfl, rfl, rfl, rfl, rfl, rfl⟩, ⟨hx, hb, hml, hown, hts⟩, hK, hN, hr, hA⟩, hGK, hsq⟩ := G
  intro H locs ls hP hZ hS hL
  have hap := va_apart (own := own) hts hin ty0 hty hnm hK hc
  have he : (wl n r' E)[t]? = some (r' t, .inr (ci, fs)) := (wl_at ht).trans (by rw [hcl])
  have hD := wl_Dn (E := E) hn hr hA
  obtain ⟨r1, h1, cell, q1, q2, q3, q4⟩ := hP t _ he
  have hr1 : r1 = (C, T, N) := Option.some.inj (h1.symm.trans hc)
  subst hr1
  obtain ⟨hS9, hfc, kC, hkC, hkind⟩ := hK.1 ci _ hc
  obtain ⟨cf, kf, fi, f, hi, hsl⟩ := hS9 k hk
  have hlay := hts _ (hin _ (u_in_lay hk))
  unfold u_lay at hlay
  rw [if_neg (by rw [hfin]; decide)] at hlay
  have hst := (u_facts hfc hkC (u_lays hts hin hk) hi).1
  have h6 := u_store hfc hkC hkind hlay hi hd hnar hfit
  refine W.putK hx hb (f := f) ⟨hown, hts _ hlk, ⟨_, _, _, hi⟩, hst⟩ (by rw [q2]; exact h6) q1 q3 (by rw [hsl]; exact k2_hasslot (q4 k hk)) rfl rfl d fun H' e1 e2 e3 => ?_
  rw [hsl] at e1 ⊢
  have h7 : va_P D' vwCl ((wl n r' E).set t (r' t, .inr (ci, fs.set k v))) H' := hP.set hD he ⟨_, hc, t_OB.to (V := updV (vp_V fs) k v) ⟨_, e1, q2, q3, t_set q4 hap hk v⟩ (fun j _ => vp_updV_set hlen v j)⟩ e3
  rw [wl_set ht] at h7
  exact kk H' _ ls h7 (e2.trans hZ) (hS.put e2 e3 (hA t (Nat.lt_of_lt_of_le ht hn))) hL

theorem g_putF (G : CoG l D cA r Rm Γ cc own Ts mL) {C : String} {T : u_T} {N ci t k idx : Nat} {fs : List Value} {v : Value} {ty : FieldType} {ty0 : Nat → FieldType} (hin : ∀ w ∈ u_ws C T N, w ∈ Ts) (hty : ∀ k, k < N → parseFieldDescriptor (T k).2.2.1 = some (ty0 k)) (hnm : ∀ a, a < N → ∀ b, b < N → a ≠ b → (T a).2.1 ≠ (T b).2.1) (hlk : Cond.fieldLink own idx (T k).1 (T k).2.1 (T k).2.2.1 ∈ Ts) (hc : vwCl[ci]? = some (C, T, N)) (hk : k < N) (hfin : (T k).2.2.2 = true) (hnm2 : Nmi Γ) (hdecl : (T k).1 = own) (hd : parseFieldDescriptor (T k).2.2.1 = some ty) (hnar : narrow ty v = v) (hfit : fits ty v = true) (ht : t < n) (hn : n ≤ NN) (hcl : E t = .inr (ci, fs)) (hlen : k < fs.length) (d : decode cc pc = .ok (.putfield idx, 3)) (kk : VG Γ n (va_up E t (.inr (ci, fs.set k v))) kc ks lv (pc + 3) st) : VG Γ n E kc ks lv pc (v :: .ref (r t) :: st) := by
  obtain ⟨p, l', e, R, s, m, args, below, meth, c, Q, A, D', cA', nL, r'⟩ := Γ
  obtain ⟨⟨⟨rfl, rfl, rfl, rfl, rfl, rfl⟩, ⟨hx, hb, hml, hown, hts⟩, hK, hN, hr, hA⟩, hGK, hsq⟩ := G
  intro H locs ls hP hZ hS hL
  have hap := va_apart (own := own) hts hin ty0 hty hnm hK hc
  have he : (wl n r' E)[t]? = some (r' t, .inr (ci, fs)) := (wl_at ht).trans (by rw [hcl])
  have hD := wl_Dn (E := E) hn hr hA
  obtain ⟨r1, h1, cell, q1, q2, q3, q4⟩ := hP t _ he
  have hr1 : r1 = (C, T, N) := Option.some.inj (h1.symm.trans hc)
  subst hr1
  obtain ⟨hS9, hfc, kC, hkC, hkind⟩ := hK.1 ci _ hc
  obtain ⟨cf, kf, fi, f, hi, hsl⟩ := hS9 k hk
  have hlay := hts _ (hin _ (u_in_lay hk))
  unfold u_lay at hlay
  rw [if_pos hfin] at hlay
  have hst := (u_facts hfc hkC (u_lays hts hin hk) hi).1
  have hcf : m.cls = cf := by
    obtain ⟨_, _, c', _, _, _, -, -, hf', -, -, -, hown2, -⟩ := Cond.laysFinal_spec hlay
    have e1 : c' = cf := by have := hi.symm.trans hf'; simp at this; exact this.1.symm
    rw [hdecl] at hown2
    rw [← e1]; exact Option.some.inj (hown.symm.trans hown2)
  have h6 := u_fits hfc hkC hkind (Or.inr hlay) hi hd hnar hfit
  refine W.putFinK hx hb hown (hts _ hlk) hi hst hcf hnm2 (by rw [q2]; exact h6) q1 q3 (by rw [hsl]; exact k2_hasslot (q4 k hk)) rfl rfl d fun H' e1 e2 e3 => ?_
  rw [hsl] at e1 ⊢
  have h7 : va_P D' vwCl ((wl n r' E).set t (r' t, .inr (ci, fs.set k v))) H' := hP.set hD he ⟨_, hc, t_OB.to (V := updV (vp_V fs) k v) ⟨_, e1, q2, q3, t_set q4 hap hk v⟩ (fun j _ => vp_updV_set hlen v j)⟩ e3
  rw [wl_set ht] at h7
  exact kk H' _ ls h7 (e2.trans hZ) (hS.put e2 e3 (hA t (Nat.lt_of_lt_of_le ht hn))) hL

theorem g_new (G : CoG l D cA r Rm Γ cc own Ts mL) {C : String} {T : u_T} {N ci idx : Nat} {fs : List Value} {ty : Nat → FieldType} (hin : ∀ w ∈ u_ws C T N, w ∈ Ts) (hty : ∀ k, k < N → parseFieldDescriptor (T k).2.2.1 = some (ty k)) (h1 : Cond.classLink own idx C ∈ Ts) (h2 : Cond.instantiable C N ∈ Ts) (h3 : Cond.initialized C ∈ Ts) (hc : vwCl[ci]? = some (C, T, N)) (hfs : ∀ j, j < N → defaultValue (ty j) = vp_V fs j) (hcells : kc + 1 ≤ Rm.cells) (hslots : ks + N ≤ Rm.slots) (d : decode cc pc = .ok (.new idx, 3)) (kk : VG Γ (n + 1) (va_up E n (.inr (ci, fs))) (kc + 1) (ks + N) lv (pc + 3) (.ref (r n) :: st)) : VG Γ n E kc ks lv pc st := by
  obtain ⟨p, l', e, R, s, m, args, below, meth, c, Q, A, D', cA', nL, r'⟩ := Γ
  obtain ⟨⟨⟨rfl, rfl, rfl, rfl, rfl, rfl⟩, ⟨hx, hb, hml, hown, hts⟩, hK, hN, hr, hA⟩, hGK, hsq⟩ := G
  intro H locs ls hP hZ hS hL
  have hKn := hK.1 ci _ hc
  refine W.newcK hx hb hown (hts _ h1) (hts _ h2) (hts _ h3) rfl d hcells hslots hKn.2.1 hZ fun H1 kC hkC e1 z1 o1 => ?_
  have z1 : H1.size = H.size + 1 := by rw [z1, hZ]
  have o1 : ∀ q : Nat, q < H.size → H1[q]? = H[q]? := fun q hq => o1 q (by rw [← hZ]; exact hq)
  have h7 : va_P D' vwCl (wl (n + 1) r' (va_up E n (.inr (ci, fs)))) H1 := by
    rw [wl_push]
    refine (hP.kept (fun k x hx => o1 x.1 ((hP k x hx).lt))).app (fun k x hx => ?_)
    have hz : k < 1 := (List.getElem?_eq_some_iff.mp hx).1
    rw [show k = 0 by omega] at hx
    cases hx
    exact ⟨_, hc, (u_born ty hts hin hKn hkC e1 hty).to hfs⟩
  have h8 : va_S A s.heap H1 locs := ⟨Nat.le_trans hS.1 (by omega), fun x h1 h2 => (o1 x (Nat.lt_of_lt_of_le h1 hS.1)).trans (hS.2.1 x h1 h2), hS.2.2⟩
  exact kk H1 locs ls h7 (by rw [z1, hsq.s, hZ]) h8 hL

theorem g_newaI (G : CoG l D cA r Rm Γ cc own Ts mL) {k : Int} (harr : Cond.arrayClass .int ∈ Ts) (hk : 0 ≤ k ∧ k < 100000) (hcells : kc + 1 ≤ Rm.cells) (hslots : ks + k.toNat ≤ Rm.slots) (d : decode cc pc = .ok (.newarray .int, 2)) (kk : VG Γ (n + 1) (va_up E n (.inl (cA 0, k.toNat, .inl (fun _ => iN 0)))) (kc + 1) (ks + k.toNat) lv (pc + 2) (.ref (r n) :: st)) : VG Γ n E kc ks lv pc (.int (iN k) :: st) := by
  obtain ⟨p, l', e, R, s, m, args, below, meth, c, Q, A, D', cA', nL, r'⟩ := Γ
  obtain ⟨⟨⟨rfl, rfl, rfl, rfl, rfl, rfl⟩, ⟨hx, hb, hml, hown, hts⟩, hK, hN, hr, hA⟩, hGK, hsq⟩ := G
  intro H locs ls hP hZ hS hL
  refine va_newaK (atype := .int) (N := k.toNat) hx hb (hts _ harr) rfl d rfl (fun q => by have h9 := (iN_lt (a := k) (b := 0) (by omega) (by omega)).mp q; omega) (iN_cl ⟨hk.1, by omega⟩) (by show k.toNat * _ ≤ _; simp only [newarray.typeOf, componentBytes]; omega) hcells hslots hZ fun H1 c9 e1 z1 o1 hAr hNm => ?_
  have z1 : H1.size = H.size + 1 := by rw [z1, hZ]
  have o1 : ∀ q : Nat, q < H.size → H1[q]? = H[q]? := fun q hq => o1 q (by rw [← hZ]; exact hq)
  have hRA : va_RA s (cA' 0) .int := (hK.2 0 _ rfl).2
  have hc9 : c9 = cA' 0 := Option.some.inj (hNm.symm.trans hRA)
  subst hc9
  have h7 : va_P D' vwCl (wl (n + 1) r' (va_up E n (.inl (cA' 0, k.toNat, .inl (fun _ => iN 0))))) H1 := by
    rw [wl_push]
    refine (hP.kept (fun k x hx => o1 x.1 ((hP k x hx).lt))).app (fun k x hx => ?_)
    have hz : k < 1 := (List.getElem?_eq_some_iff.mp hx).1
    rw [show k = 0 by omega] at hx
    cases hx
    exact e1
  have h8 : va_S A s.heap H1 locs := ⟨Nat.le_trans hS.1 (by omega), fun x h1 h2 => (o1 x (Nat.lt_of_lt_of_le h1 hS.1)).trans (hS.2.1 x h1 h2), hS.2.2⟩
  exact kk H1 locs ls h7 (by rw [z1, hsq.s, hZ]) h8 hL

theorem g_newaZ (G : CoG l D cA r Rm Γ cc own Ts mL) {k : Int} (harr : Cond.arrayClass .boolean ∈ Ts) (hk : 0 ≤ k ∧ k < 100000) (hcells : kc + 1 ≤ Rm.cells) (hslots : ks + k.toNat ≤ Rm.slots) (d : decode cc pc = .ok (.newarray .boolean, 2)) (kk : VG Γ (n + 1) (va_up E n (.inl (cA 1, k.toNat, .inl (fun _ => iN 0)))) (kc + 1) (ks + k.toNat) lv (pc + 2) (.ref (r n) :: st)) : VG Γ n E kc ks lv pc (.int (iN k) :: st) := by
  obtain ⟨p, l', e, R, s, m, args, below, meth, c, Q, A, D', cA', nL, r'⟩ := Γ
  obtain ⟨⟨⟨rfl, rfl, rfl, rfl, rfl, rfl⟩, ⟨hx, hb, hml, hown, hts⟩, hK, hN, hr, hA⟩, hGK, hsq⟩ := G
  intro H locs ls hP hZ hS hL
  refine va_newaK (atype := .boolean) (N := k.toNat) hx hb (hts _ harr) rfl d rfl (fun q => by have h9 := (iN_lt (a := k) (b := 0) (by omega) (by omega)).mp q; omega) (iN_cl ⟨hk.1, by omega⟩) (by show k.toNat * _ ≤ _; simp only [newarray.typeOf, componentBytes]; omega) hcells hslots hZ fun H1 c9 e1 z1 o1 hAr hNm => ?_
  have z1 : H1.size = H.size + 1 := by rw [z1, hZ]
  have o1 : ∀ q : Nat, q < H.size → H1[q]? = H[q]? := fun q hq => o1 q (by rw [← hZ]; exact hq)
  have hRA : va_RA s (cA' 1) .boolean := (hK.2 1 _ rfl).2
  have hc9 : c9 = cA' 1 := Option.some.inj (hNm.symm.trans hRA)
  subst hc9
  have h7 : va_P D' vwCl (wl (n + 1) r' (va_up E n (.inl (cA' 1, k.toNat, .inl (fun _ => iN 0))))) H1 := by
    rw [wl_push]
    refine (hP.kept (fun k x hx => o1 x.1 ((hP k x hx).lt))).app (fun k x hx => ?_)
    have hz : k < 1 := (List.getElem?_eq_some_iff.mp hx).1
    rw [show k = 0 by omega] at hx
    cases hx
    exact e1
  have h8 : va_S A s.heap H1 locs := ⟨Nat.le_trans hS.1 (by omega), fun x h1 h2 => (o1 x (Nat.lt_of_lt_of_le h1 hS.1)).trans (hS.2.1 x h1 h2), hS.2.2⟩
  exact kk H1 locs ls h7 (by rw [z1, hsq.s, hZ]) h8 hL

theorem g_newqF (G : CoG l D cA r Rm Γ cc own Ts mL) {idx : Nat} {k : Int} (hcl : Cond.classLink own idx RX1 ∈ Ts) (hk : 0 ≤ k ∧ k < 100000) (hcells : kc + 1 ≤ Rm.cells) (hslots : ks + k.toNat ≤ Rm.slots) (d : decode cc pc = .ok (.anewarray idx, 3)) (kk : VG Γ (n + 1) (va_up E n (.inl (cA 3, k.toNat, .inr (.inr (.inr (.inr (fun _ => none))))))) (kc + 1) (ks + k.toNat) lv (pc + 3) (.ref (r n) :: st)) : VG Γ n E kc ks lv pc (.int (iN k) :: st) := by
  obtain ⟨p, l', e, R, s, m, args, below, meth, c, Q, A, D', cA', nL, r'⟩ := Γ
  obtain ⟨⟨⟨rfl, rfl, rfl, rfl, rfl, rfl⟩, ⟨hx, hb, hml, hown, hts⟩, hK, hN, hr, hA⟩, hGK, hsq⟩ := G
  intro H locs ls hP hZ hS hL
  have hcl9 : (iN k).toNatClampNeg = k.toNat := iN_cl ⟨hk.1, by omega⟩
  refine W.anew hx hb hown (hts _ hcl) (va_AO.use hGK.2.2.1) rfl d rfl (fun q => by have h9 := (iN_lt (a := k) (b := 0) (by omega) (by omega)).mp q; omega) (by rw [hcl9]; omega) hcells (by rw [hcl9]; exact hslots) fun c9 kA comp f1 f2 f3 f4 => ?_
  rw [hcl9, hZ]
  generalize hH1 : H.push ({ cls := c9, slots := Array.replicate k.toNat .null, vm := .none } : Cell) = H1
  have z1 : H1.size = H.size + 1 := by rw [← hH1, Array.size_push]
  have e1 : H1[r' n]? = some (arrV c9 k.toNat (fun _ => .null)) := by rw [← hZ, ← hH1, Array.getElem?_push_size, ← arrV_new]
  have o1 : ∀ q : Nat, q < H.size → H1[q]? = H[q]? := fun q hq => by rw [← hH1, Array.getElem?_push, if_neg (Nat.ne_of_lt hq)]
  obtain ⟨kA9, comp9, -, -, -, hRA⟩ : va_RA s (cA' 3) (.object RX1) := (hK.2 3 _ rfl).2
  have hc9 : c9 = cA' 3 := Option.some.inj (f1.symm.trans hRA)
  subst hc9
  have h7 : va_P D' vwCl (wl (n + 1) r' (va_up E n (.inl (cA' 3, k.toNat, .inr (.inr (.inr (.inr (fun _ => none)))))))) H1 := by
    rw [wl_push]
    refine (hP.kept (fun k x hx => o1 x.1 ((hP k x hx).lt))).app (fun k x hx => ?_)
    have hz : k < 1 := (List.getElem?_eq_some_iff.mp hx).1
    rw [show k = 0 by omega] at hx
    cases hx
    show H1[r' n]? = some (vp_cell _ _)
    rw [vp_cell_q]
    exact e1
  have h8 : va_S A s.heap H1 locs := ⟨Nat.le_trans hS.1 (by omega), fun x h1 h2 => (o1 x (Nat.lt_of_lt_of_le h1 hS.1)).trans (hS.2.1 x h1 h2), hS.2.2⟩
  exact kk H1 locs ls h7 (by rw [z1, hsq.s, hZ]) h8 hL

theorem g_aastF (G : CoG l D cA r Rm Γ cc own Ts mL) {T9 : u_T} {N9 : Nat} {a b k ci : Nat} {i : Int} {f : Nat → Option Nat} {vs : List Value} (ha : a < n) (hb9 : b < n) (hn : n ≤ NN) (hE : E a = .inl (cA 3, k, .inr (.inr (.inr (.inr f))))) (hE2 : E b = .inr (ci, vs)) (hc : vwCl[ci]? = some (RX1, T9, N9)) (hkk : k < 2147483648) (hi : 0 ≤ i ∧ i < (k : Int)) (d : decode cc pc = .ok (.aastore, 1)) (kk : VG Γ n (va_up E a (.inl (cA 3, k, .inr (.inr (.inr (.inr (va_up f i.toNat (some (r b))))))))) kc ks lv (pc + 1) st) : VG Γ n E kc ks lv pc (.ref (r b) :: .int (iN i) :: .ref (r a) :: st) := by
  obtain ⟨p, l', e, R, s, m, args, below, meth, c, Q, A, D', cA', nL, r'⟩ := Γ
  obtain ⟨⟨⟨rfl, rfl, rfl, rfl, rfl, rfl⟩, ⟨hx, hb, hml, hown, hts⟩, hK, hN, hr, hA⟩, hGK, hsq⟩ := G
  intro H locs ls hP hZ hS hL
  have he : (wl n r' E)[a]? = some (r' a, .inl (cA' 3, k, .inr (.inr (.inr (.inr f))))) := (wl_at ha).trans (by rw [hE])
  have hv : (wl n r' E)[b]? = some (r' b, .inr (ci, vs)) := (wl_at hb9).trans (by rw [hE2])
  have hD := wl_Dn (E := E) hn hr hA
  have hcl9 : (iN i).toNatClampNeg = i.toNat := iN_cl ⟨hi.1, by omega⟩
  have hin := iN_in hi hkk
  have hlt : (iN i).toNatClampNeg < k := Nat.not_le.mp fun q => hin (Or.inr q)
  have h0 : ¬ iN i < 0 := fun q => hin (Or.inl q)
  obtain ⟨r9, hr9, cellV, g1, g2, g3, -⟩ := hP b _ hv
  have hcls := (hK.1 ci _ hc).2
  obtain ⟨kA, comp, k1, k2, k3, -⟩ : va_RA s (cA' 3) (.object RX1) := (hK.2 3 _ rfl).2
  have hcomp : comp = D'.1 ci := Option.some.inj (k3.symm.trans hcls.1)
  subst hcomp
  obtain ⟨kC, hkC, -⟩ := hcls.2
  refine W.aast hx hb (hP a _ he) (fun q h => by cases h) (fun h => by cases h) k1 k2 rfl hkC ⟨h0, by show _ < (arrV _ _ _).slots.size; rw [arrV_size]; exact hlt⟩ g1 (fun q h => by rw [g3] at h; cases h) (by rw [g2]; exact hkC) (by rw [g2]; exact va_assign hcls) rfl rfl d fun H1 e1 z1 oq => ?_
  rw [hcl9] at e1 ⊢
  have h7 : va_P D' vwCl ((wl n r' E).set a (r' a, .inl (cA' 3, k, .inr (.inr (.inr (.inr (va_up f i.toNat (some (r' b))))))))) H1 := by
    refine hP.set hD he ?_ oq
    show H1[r' a]? = some (vp_cell _ _)
    rw [e1]
    rw [vp_cell_q, vp_cell_q, arrV_store]
    congr 2
    funext q
    by_cases hq : q = i.toNat
    · subst hq
      simp [updV, va_up, va_rf]
    · simp [updV, va_up, hq]
  rw [wl_set ha] at h7
  exact kk H1 _ ls h7 (z1.trans hZ) (hS.put z1 oq (hA a (Nat.lt_of_lt_of_le ha hn))) hL

theorem g_newqS (G : CoG l D cA r Rm Γ cc own Ts mL) {idx : Nat} {k : Int} (hcl : Cond.classLink own idx RX2 ∈ Ts) (hk : 0 ≤ k ∧ k < 100000) (hcells : kc + 1 ≤ Rm.cells) (hslots : ks + k.toNat ≤ Rm.slots) (d : decode cc pc = .ok (.anewarray idx, 3)) (kk : VG Γ (n + 1) (va_up E n (.inl (cA 4, k.toNat, .inr (.inr (.inr (.inr (fun _ => none))))))) (kc + 1) (ks + k.toNat) lv (pc + 3) (.ref (r n) :: st)) : VG Γ n E kc ks lv pc (.int (iN k) :: st) := by
  obtain ⟨p, l', e, R, s, m, args, below, meth, c, Q, A, D', cA', nL, r'⟩ := Γ
  obtain ⟨⟨⟨rfl, rfl, rfl, rfl, rfl, rfl⟩, ⟨hx, hb, hml, hown, hts⟩, hK, hN, hr, hA⟩, hGK, hsq⟩ := G
  intro H locs ls hP hZ hS hL
  have hcl9 : (iN k).toNatClampNeg = k.toNat := iN_cl ⟨hk.1, by omega⟩
  refine W.anew hx hb hown (hts _ hcl) (va_AO.use hGK.2.2.2) rfl d rfl (fun q => by have h9 := (iN_lt (a := k) (b := 0) (by omega) (by omega)).mp q; omega) (by rw [hcl9]; omega) hcells (by rw [hcl9]; exact hslots) fun c9 kA comp f1 f2 f3 f4 => ?_
  rw [hcl9, hZ]
  generalize hH1 : H.push ({ cls := c9, slots := Array.replicate k.toNat .null, vm := .none } : Cell) = H1
  have z1 : H1.size = H.size + 1 := by rw [← hH1, Array.size_push]
  have e1 : H1[r' n]? = some (arrV c9 k.toNat (fun _ => .null)) := by rw [← hZ, ← hH1, Array.getElem?_push_size, ← arrV_new]
  have o1 : ∀ q : Nat, q < H.size → H1[q]? = H[q]? := fun q hq => by rw [← hH1, Array.getElem?_push, if_neg (Nat.ne_of_lt hq)]
  obtain ⟨kA9, comp9, -, -, -, hRA⟩ : va_RA s (cA' 4) (.object RX2) := (hK.2 4 _ rfl).2
  have hc9 : c9 = cA' 4 := Option.some.inj (f1.symm.trans hRA)
  subst hc9
  have h7 : va_P D' vwCl (wl (n + 1) r' (va_up E n (.inl (cA' 4, k.toNat, .inr (.inr (.inr (.inr (fun _ => none)))))))) H1 := by
    rw [wl_push]
    refine (hP.kept (fun k x hx => o1 x.1 ((hP k x hx).lt))).app (fun k x hx => ?_)
    have hz : k < 1 := (List.getElem?_eq_some_iff.mp hx).1
    rw [show k = 0 by omega] at hx
    cases hx
    show H1[r' n]? = some (vp_cell _ _)
    rw [vp_cell_q]
    exact e1
  have h8 : va_S A s.heap H1 locs := ⟨Nat.le_trans hS.1 (by omega), fun x h1 h2 => (o1 x (Nat.lt_of_lt_of_le h1 hS.1)).trans (hS.2.1 x h1 h2), hS.2.2⟩
  exact kk H1 locs ls h7 (by rw [z1, hsq.s, hZ]) h8 hL

theorem g_aastS (G : CoG l D cA r Rm Γ cc own Ts mL) {T9 : u_T} {N9 : Nat} {a b k ci : Nat} {i : Int} {f : Nat → Option Nat} {vs : List Value} (ha : a < n) (hb9 : b < n) (hn : n ≤ NN) (hE : E a = .inl (cA 4, k, .inr (.inr (.inr (.inr f))))) (hE2 : E b = .inr (ci, vs)) (hc : vwCl[ci]? = some (RX2, T9, N9)) (hkk : k < 2147483648) (hi : 0 ≤ i ∧ i < (k : Int)) (d : decode cc pc = .ok (.aastore, 1)) (kk : VG Γ n (va_up E a (.inl (cA 4, k, .inr (.inr (.inr (.inr (va_up f i.toNat (some (r b))))))))) kc ks lv (pc + 1) st) : VG Γ n E kc ks lv pc (.ref (r b) :: .int (iN i) :: .ref (r a) :: st) := by
  obtain ⟨p, l', e, R, s, m, args, below, meth, c, Q, A, D', cA', nL, r'⟩ := Γ
  obtain ⟨⟨⟨rfl, rfl, rfl, rfl, rfl, rfl⟩, ⟨hx, hb, hml, hown, hts⟩, hK, hN, hr, hA⟩, hGK, hsq⟩ := G
  intro H locs ls hP hZ hS hL
  have he : (wl n r' E)[a]? = some (r' a, .inl (cA' 4, k, .inr (.inr (.inr (.inr f))))) := (wl_at ha).trans (by rw [hE])
  have hv : (wl n r' E)[b]? = some (r' b, .inr (ci, vs)) := (wl_at hb9).trans (by rw [hE2])
  have hD := wl_Dn (E := E) hn hr hA
  have hcl9 : (iN i).toNatClampNeg = i.toNat := iN_cl ⟨hi.1, by omega⟩
  have hin := iN_in hi hkk
  have hlt : (iN i).toNatClampNeg < k := Nat.not_le.mp fun q => hin (Or.inr q)
  have h0 : ¬ iN i < 0 := fun q => hin (Or.inl q)
  obtain ⟨r9, hr9, cellV, g1, g2, g3, -⟩ := hP b _ hv
  have hcls := (hK.1 ci _ hc).2
  obtain ⟨kA, comp, k1, k2, k3, -⟩ : va_RA s (cA' 4) (.object RX2) := (hK.2 4 _ rfl).2
  have hcomp : comp = D'.1 ci := Option.some.inj (k3.symm.trans hcls.1)
  subst hcomp
  obtain ⟨kC, hkC, -⟩ := hcls.2
  refine W.aast hx hb (hP a _ he) (fun q h => by cases h) (fun h => by cases h) k1 k2 rfl hkC ⟨h0, by show _ < (arrV _ _ _).slots.size; rw [arrV_size]; exact hlt⟩ g1 (fun q h => by rw [g3] at h; cases h) (by rw [g2]; exact hkC) (by rw [g2]; exact va_assign hcls) rfl rfl d fun H1 e1 z1 oq => ?_
  rw [hcl9] at e1 ⊢
  have h7 : va_P D' vwCl ((wl n r' E).set a (r' a, .inl (cA' 4, k, .inr (.inr (.inr (.inr (va_up f i.toNat (some (r' b))))))))) H1 := by
    refine hP.set hD he ?_ oq
    show H1[r' a]? = some (vp_cell _ _)
    rw [e1]
    rw [vp_cell_q, vp_cell_q, arrV_store]
    congr 2
    funext q
    by_cases hq : q = i.toNat
    · subst hq
      simp [updV, va_up, va_rf]
    · simp [updV, va_up, hq]
  rw [wl_set ha] at h7
  exact kk H1 _ ls h7 (z1.trans hZ) (hS.put z1 oq (hA a (Nat.lt_of_lt_of_le ha hn))) hL

theorem g_iast (G : CoG l D cA r Rm Γ cc own Ts mL) {a k : Nat} {i x : Int} {f : Nat → Int32} (ha : a < n) (hn : n ≤ NN) (hE : E a = .inl (cA 0, k, .inl f)) (hkk : k < 2147483648) (hi : 0 ≤ i ∧ i < (k : Int)) (d : decode cc pc = .ok (.iastore, 1)) (kk : VG Γ n (va_up E a (.inl (cA 0, k, .inl (upd f i.toNat (iN x))))) kc ks lv (pc + 1) st) : VG Γ n E kc ks lv pc (.int (iN x) :: .int (iN i) :: .ref (r a) :: st) := by
  obtain ⟨p, l', e, R, s, m, args, below, meth, c, Q, A, D', cA', nL, r'⟩ := Γ
  obtain ⟨⟨⟨rfl, rfl, rfl, rfl, rfl, rfl⟩, ⟨hx, hb, hml, hown, hts⟩, hK, hN, hr, hA⟩, hGK, hsq⟩ := G
  intro H locs ls hP hZ hS hL
  have he : (wl n r' E)[a]? = some (r' a, .inl (cA' 0, k, .inl f)) := (wl_at ha).trans (by rw [hE])
  have hD := wl_Dn (E := E) hn hr hA
  have hcl9 : (iN i).toNatClampNeg = i.toNat := iN_cl ⟨hi.1, by omega⟩
  have hin := iN_in hi hkk
  refine W.iast hx hb (hP a _ he) ((hK.2 0 _ rfl).1 k (fun j => .int (f j))) (fun q => by cases q) (by show ¬ (iN i < 0 ∨ (arrV _ _ _).slots.size ≤ _); rw [arrV_size]; exact hin) rfl rfl d fun H1 e1 z1 oq => ?_
  rw [hcl9] at e1 ⊢
  have h7 : va_P D' vwCl ((wl n r' E).set a (r' a, .inl (cA' 0, k, .inl (upd f i.toNat (iN x))))) H1 := by
    refine hP.set hD he ?_ oq
    show H1[r' a]? = some (vp_cell _ _)
    rw [e1]
    rw [vp_cell_i, vp_cell_i, arrV_store]
    congr 2
    funext q
    by_cases hq : q = i.toNat
    · subst hq
      simp [updV, upd]
    · simp [updV, upd, hq]
  rw [wl_set ha] at h7
  exact kk H1 _ ls h7 (z1.trans hZ) (hS.put z1 oq (hA a (Nat.lt_of_lt_of_le ha hn))) hL

theorem g_E (G : CoG l D cA r Rm Γ cc own Ts mL) (F : Nat → va_E) (h : ∀ i, i < n → eqE (E i) (F i)) (kk : VG Γ n F kc ks lv pc st) : VG Γ n E kc ks lv pc st := by
  obtain ⟨p, l', e, R, s, m, args, below, meth, c, Q, A, D', cA', nL, r'⟩ := Γ
  obtain ⟨⟨⟨rfl, rfl, rfl, rfl, rfl, rfl⟩, ⟨hx, hb, hml, hown, hts⟩, hK, hN, hr, hA⟩, hGK, hsq⟩ := G
  intro H locs ls hP hZ hS hL
  refine kk H locs ls (fun k q hk => ?_) hZ hS hL
  obtain ⟨h1, rfl⟩ := wl_key hk
  exact h k h1 D' (r' k) H (hP k _ (wl_at h1))

theorem g_sub (G : CoG l D cA r Rm Γ cc own Ts mL) (lv' : List (Nat × Value)) (js : List Nat) (hl : lv_pick lv js = lv') (kk : VG Γ n E kc ks lv' pc st) : VG Γ n E kc ks lv pc st := by
  obtain ⟨p, l', e, R, s, m, args, below, meth, c, Q, A, D', cA', nL, r'⟩ := Γ
  obtain ⟨⟨⟨rfl, rfl, rfl, rfl, rfl, rfl⟩, ⟨hx, hb, hml, hown, hts⟩, hK, hN, hr, hA⟩, hGK, hsq⟩ := G
  intro H locs ls hP hZ hS hL
  exact kk H locs ls hP hZ hS (lv_sub hL js hl)

end VGR
/-! contracts of constructors -/
def rmG (fr lo kc ks : Nat) : Room := { frames := fr, cells := kc, slots := ks, locals := lo }
def BG (D : va_G) (cA : Nat → ClassId) (r : Nat → Nat) (n : Nat) (E : Nat → va_E) (t : State) : Prop := va_P D vwCl (wl n r E) t.heap ∧ t.heap.size = r n ∧ va_K D vwCl (tysOf cA) t
def PG (D : va_G) (cA : Nat → ClassId) (r : Nat → Nat) (n : Nat) (E : Nat → va_E) (As : List Value) : Array Value → State → Prop := va_Pc As (fun U => BG D cA r n E U ∧ NwK U ∧ GK U)
def QG (D : va_G) (cA : Nat → ClassId) (r : Nat → Nat) (n : Nat) (E : Nat → va_E) : Array Value → State → Outcome → State → Prop := va_Qv (S := Unit) (fun _ => True) (fun _ t => BG D cA r n E t) (rng r)
def KG (l : Launch) (D : va_G) (cA : Nat → ClassId) (r : Nat → Nat) (y : MethodName) (ws : List Cond) (fr lo kc ks : Nat) (n : Nat) (E : Nat → va_E) (As : List Value) (n2 : Nat) (E2 : Nat → va_E) : Prop := Met l y ws (rmG fr lo kc ks) (PG D cA r n E As) (QG D cA r n2 E2) kc ks (rng r)
def RtG (r : Nat → Nat) (Qc : Array Value → State → Outcome → State → Prop) (kc ks : Nat) (Γ : Cx) : Prop :=
  match Γ with
  | (_, _, _, _, s, _, args, below, meth, _, Q, A, _, _, _, _) => Q = MQ below Qc args s kc ks (rng r) ∧ A = rng r ∧ meth.sig.returnType = none ∧ meth.locks = false
theorem PG_blind {D : va_G} {cA : Nat → ClassId} {r : Nat → Nat} {n : Nat} {E : Nat → va_E} {As : List Value} : FrameBlind (PG D cA r n E As) := fun a U g mk q => ⟨q.1, ⟨q.2.1.1, q.2.1.2.1, va_K.moved (u := U) (U := U.calling g mk a) (Vm.Alike.refl U.vm) q.2.1.2.2⟩, NwK.same (u := U) (U := U.calling g mk a) rfl q.2.2.1, GK.same (u := U) (U := U.calling g mk a) rfl q.2.2.2⟩
theorem KG_of {l : Launch} {D : va_G} {cA : Nat → ClassId} {r : Nat → Nat} {cc : ByteArray} {own : String} {y : MethodName} {ws ws' : List Cond} {fr lo kc ks maxL n n2 : Nat} {E E2 : Nat → va_E} {As : List Value} (lv : List (Nat × Value)) (hr : Sq r) (hy : plainName y.cls = true) (hw : ws = Cond.code y cc maxL none :: ws') (hown : y.cls = own) (hni : y.name = "<init>") (hlv : (lg_sl As).length ≤ maxL) (hlq : lv_args 0 As = lv)
    (body : ∀ Γ : Cx, CoG l D cA r (rmG fr lo kc ks) Γ cc own ws maxL → Nmi Γ → RtG r (QG D cA r n2 E2) kc ks Γ → VG Γ n E 0 0 lv 0 []) : KG l D cA r y ws fr lo kc ks n E As n2 E2 := by
  refine Met.ofW (cc := cc) (maxL := maxL) (ret := none) hy hw ?_
  intro p e s m args below meth c s₁ B hml hv
  obtain ⟨rfl, ⟨hP, hZ, hK⟩, hN, hGK⟩ := hv
  have hts := atoms_spec (ws := ws) B.pre
  have hown2 : s.vm.findClass own = some m.cls := hown ▸ findClass_of_methodNamed B.named
  have hin : meth.name = "<init>" := ((name_of_methodNamed B.named B.method).1).trans hni
  have h := body (p, l, e, rmG fr lo kc ks, s, m, As.toArray, below, meth, c, MQ below (QG D cA r n2 E2) As.toArray s kc ks (rng r), rng r, D, cA, maxL, r) ⟨⟨⟨rfl, rfl, rfl, rfl, rfl, rfl⟩, ⟨B.exec, B.bytes, hml, hown2, hts⟩, hK, hN, hr.inj, fun i hi => ⟨i, hi, rfl⟩⟩, hGK, hr⟩ hin ⟨rfl, rfl, B.returns, B.notSynchronized⟩
  have hl := lv_entry As (n := maxL) hlv
  rw [lg_entry_eq]
  rw [hlq] at hl
  exact h s.heap [] _ hP hZ va_S.rf hl
section VGC
variable {l : Launch} {D : va_G} {cA : Nat → ClassId} {r : Nat → Nat} {Rm : Room} {Γ : Cx} {cc : ByteArray} {own : String} {Ts : List Cond} {mL : Nat} {n : Nat} {E : Nat → va_E} {kc ks : Nat} {lv : List (Nat × Value)} {pc : Nat} {st : List Value}

theorem g_vret (G : CoG l D cA r Rm Γ cc own Ts mL) (hR : RtG r (QG D cA r n E) kc ks Γ) (d : decode cc pc = .ok (.return_, 1)) : VG Γ n E kc ks lv pc [] := by
  obtain ⟨p, l', e, R, s, m, args, below, meth, c, Q, A, D', cA', nL, r'⟩ := Γ
  obtain ⟨⟨⟨rfl, rfl, rfl, rfl, rfl, rfl⟩, ⟨hx, hb, hml, hown, hts⟩, hK, hN, hr, hA⟩, hGK, hsq⟩ := G
  obtain ⟨rfl, rfl, hret, hlk⟩ := hR
  intro H locs ls hP hZ hS hL
  exact W.vret hx hb hret (fun t ht hW => ⟨⟨(), rfl, trivial, by rw [ht]; exact hP, by rw [ht]; exact hZ, va_K.moved hW.alike hK⟩, hS.F ht⟩) hS.2.2 d hlk

theorem g_callI (G : CoG l D cA r Rm Γ cc own Ts mL) {index maxL fr lo kc1 ks1 k n2 t : Nat} {E2 : Nat → va_E} {y : MethodName} {ws ws' : List Cond} {bytes : ByteArray} {As stk : List Value} (hM : KG l D cA r y ws fr lo kc1 ks1 n E (.ref (r t) :: As) n2 E2) (hcw : GoodIn Ts ws) (hw : ws = Cond.code y bytes maxL none :: ws') (hini : Cond.initialized y.cls ∈ Ts) (hl0 : Cond.methodLink own index y ∈ Ts) (him : Cond.instanceMethod y ∈ Ts) (hy0 : y.name = "<init>")
    (hy : y.cls ≠ "java/lang/invoke/MethodHandle" ∧ y.cls ≠ "java/lang/invoke/VarHandle" ∧ (parseMethodDescriptor y.desc).map (fun d => d.parameters.length) = some k) (hk : As.length = k) (hRR : fr + 1 ≤ Rm.frames ∧ 8 + (maxL + 11) + lo ≤ Rm.locals) (d : decode cc pc = .ok (.invokespecial index, 3)) (hstk : stk = As.reverse ++ .ref (r t) :: st) (hst : (st.map fun v => v.category).sum ≤ 8) (hkc : kc + kc1 ≤ Rm.cells ∧ ks + ks1 ≤ Rm.slots)
    (kk : VG Γ n2 E2 (kc + kc1) (ks + ks1) lv (pc + 3) st) : VG Γ n E kc ks lv pc stk := by
  subst hstk
  obtain ⟨p, l', e, R, s, m, args, below, meth, c, Q, A, D', cA', nL, r'⟩ := Γ
  obtain ⟨⟨⟨rfl, rfl, rfl, rfl, rfl, rfl⟩, ⟨hx, hb, hml, hown, hts⟩, hK, hN, hr, hA⟩, hGK, hsq⟩ := G
  intro H locs ls hP hZ hS hL
  refine va_callv (va_runI (As := As) (rest := st) ⟨hx, hb, hml, hown, hts⟩ hM (cwI k hts hcw hw rfl rfl (hts _ hini) (hts _ hl0) (hts _ him) hy0 hy hRR) ⟨PG_blind, fun U hU hW => ⟨rfl, ⟨by rw [hU]; exact hP, by rw [hU]; exact hZ, va_K.moved hW.alike hK⟩, NwK.warm hW hN, GK.warm hW hGK⟩⟩ rfl hk hL.1 rfl (lv_room hst) d hkc) hS ?_ ?_ ?_
  · intro q _ h
    obtain ⟨i, hi, rfl⟩ := h
    exact hA i hi
  · intro q h
    obtain ⟨i, hi, rfl⟩ := h
    exact hA i hi
  · intro u t1 H1 locs1 e1 hvm hw1 hB _ _ hS1
    exact kk H1 locs1 ls (e1 ▸ hB.1) (e1 ▸ hB.2.1) hS1 hL

def stOf (Γ : Cx) : State := match Γ with
  | (_, _, _, _, s, _, _, _, _, _, _, _, _, _, _, _) => s
theorem CoG.gk {l : Launch} {D : va_G} {cA : Nat → ClassId} {r : Nat → Nat} {Rm : Room} {Γ : Cx} {cc : ByteArray} {own : String} {Ts : List Cond} {mL : Nat} (G : CoG l D cA r Rm Γ cc own Ts mL) : GK (stOf Γ) := by
  obtain ⟨p, l', e, R, s, m, args, below, meth, c, Q, A, D', cA', nL, r'⟩ := Γ
  exact G.2.1
theorem g_callIN (G : CoG l D cA r Rm Γ cc own Ts mL) {index maxL fr lo kc1 ks1 k n2 t : Nat} {E2 : Nat → va_E} {y : MethodName} {ws ws' : List Cond} {bytes : ByteArray} {As stk : List Value} (hM : KG l D cA r y ws fr lo kc1 ks1 n E (.ref (r t) :: As) n2 E2) (hcw : GoodIn Ts ws) (hw : ws = Cond.code y bytes maxL none :: ws') (hini : Cond.initialized y.cls ∈ Ts) {host : String} (hl0 : va_Nw (.methodLinkNest own index y host) (stOf Γ)) (him : Cond.instanceMethod y ∈ Ts) (hy0 : y.name = "<init>")
    (hy : y.cls ≠ "java/lang/invoke/MethodHandle" ∧ y.cls ≠ "java/lang/invoke/VarHandle" ∧ (parseMethodDescriptor y.desc).map (fun d => d.parameters.length) = some k) (hk : As.length = k) (hRR : fr + 1 ≤ Rm.frames ∧ 8 + (maxL + 11) + lo ≤ Rm.locals) (d : decode cc pc = .ok (.invokespecial index, 3)) (hstk : stk = As.reverse ++ .ref (r t) :: st) (hst : (st.map fun v => v.category).sum ≤ 8) (hkc : kc + kc1 ≤ Rm.cells ∧ ks + ks1 ≤ Rm.slots)
    (kk : VG Γ n2 E2 (kc + kc1) (ks + ks1) lv (pc + 3) st) : VG Γ n E kc ks lv pc stk := by
  subst hstk
  obtain ⟨p, l', e, R, s, m, args, below, meth, c, Q, A, D', cA', nL, r'⟩ := Γ
  obtain ⟨⟨⟨rfl, rfl, rfl, rfl, rfl, rfl⟩, ⟨hx, hb, hml, hown, hts⟩, hK, hN, hr, hA⟩, hGK, hsq⟩ := G
  intro H locs ls hP hZ hS hL
  refine va_callv (va_runIN (As := As) (rest := st) ⟨hx, hb, hml, hown, hts⟩ hM (⟨va_cnB k hts hcw hw rfl rfl hl0 (hts _ hini) hy hRR, hy0, hts _ him⟩) ⟨PG_blind, fun U hU hW => ⟨rfl, ⟨by rw [hU]; exact hP, by rw [hU]; exact hZ, va_K.moved hW.alike hK⟩, NwK.warm hW hN, GK.warm hW hGK⟩⟩ rfl hk hL.1 rfl (lv_room hst) d hkc) hS ?_ ?_ ?_
  · intro q _ h
    obtain ⟨i, hi, rfl⟩ := h
    exact hA i hi
  · intro q h
    obtain ⟨i, hi, rfl⟩ := h
    exact hA i hi
  · intro u t1 H1 locs1 e1 hvm hw1 hB _ _ hS1
    exact kk H1 locs1 ls (e1 ▸ hB.1) (e1 ▸ hB.2.1) hS1 hL

end VGC
