/-! the script, read by a method of the law's own -/
def SXR (b L : Nat) (xs : Nat → Int32) (Γ : Cx) : Prop :=
  match Γ with
  | (_, _, _, _, s, _, _, _, _, _, _, A, _, _, _, r) => A = rng r ∧ va_X b L xs s s.heap ∧ b < s.heap.size ∧ ¬ rng r b
def LwR (b L : Nat) (xs : Nat → Int32) (Γ : Cx) : Prop :=
  match Γ with
  | (_, _, _, R, s, _, args, below, meth, _, Q, A, _, _, _, r) => R = room_1 ∧ args = #[Value.ref b] ∧ Q = lw_Z below #[Value.ref b] s ∧ A = rng r ∧ meth.sig.returnType = ret ∧ meth.locks = false ∧ va_X b L xs s s.heap ∧ b < s.heap.size ∧ ∀ i, s.heap.size ≤ r i
theorem LwR.sx {b L : Nat} {xs : Nat → Int32} {Γ : Cx} (h : LwR b L xs Γ) : SXR b L xs Γ := by
  obtain ⟨p, l', e, R, s, m, args, below, meth, c, Q, A, D', cA', nL, r'⟩ := Γ
  obtain ⟨-, -, -, h4, -, -, h7, h8, h9⟩ := h
  exact ⟨h4, h7, h8, fun h => by
    obtain ⟨j, -, e9⟩ := h
    have := h9 j
    omega⟩
def sv (xs : Nat → Int32) (i : Int) : Int := (xs i.toNat).toInt
theorem sv_is (xs : Nat → Int32) (i : Int) : iN (sv xs i) = xs i.toNat := iN_of _
def Pcl (D : va_G) (cA : Nat → ClassId) (r : Nat → Nat) (z : Zt) (b L : Nat) (xs : Nat → Int32) (As : List Value) : Array Value → State → Prop := va_Pc As (fun U => (Bz D cA r z U ∧ NwK U) ∧ va_X b L xs U U.heap ∧ b < U.heap.size)
theorem Pcl_blind {D : va_G} {cA : Nat → ClassId} {r : Nat → Nat} {z : Zt} {b L : Nat} {xs : Nat → Int32} {As : List Value} : FrameBlind (Pcl D cA r z b L xs As) := fun a U g mk q => ⟨q.1, ⟨⟨q.2.1.1.1, va_K.moved (u := U) (U := U.calling g mk a) (Vm.Alike.refl U.vm) q.2.1.1.2⟩, NwK.same (u := U) (U := U.calling g mk a) rfl q.2.1.2⟩, va_X.moved (u := U) (U := U.calling g mk a) (Vm.Alike.refl U.vm) q.2.2.1, q.2.2.2⟩
section VL
variable {l : Launch} {D : va_G} {cA : Nat → ClassId} {r : Nat → Nat} {Rm : Room} {Γ : Cx} {cc : ByteArray} {own : String} {Ts : List Cond} {mL : Nat} {z : Zt} {kc ks : Nat} {lv : List (Nat × Value)} {pc : Nat} {st : List Value} {b L : Nat} {xs : Nat → Int32}

theorem w_sld (G : Cok l D cA r Rm Γ cc own Ts mL) (hW : SXR b L xs Γ) (hL : L ≤ 260) {i : Int} (hi : 0 ≤ i ∧ i < (L : Int)) (d : decode cc pc = .ok (.iaload, 1)) (kk : V Γ z kc ks lv (pc + 1) (.int (iN (sv xs i)) :: st)) : V Γ z kc ks lv pc (.int (iN i) :: .ref b :: st) := by
  obtain ⟨p, l', e, R, s, m, args, below, meth, c, Q, A, D', cA', nL, r'⟩ := Γ
  obtain ⟨⟨rfl, rfl, rfl, rfl, rfl, rfl⟩, ⟨hx, hb, hml, hown, hts⟩, hK, hN, hr, hA⟩ := G
  obtain ⟨rfl, hX9, hbl, hbA⟩ := hW
  intro H locs ls hP hS hL9
  refine va_sld hx hb hX9 hbl hbA hS (iN_in hi (by omega)) d ?_
  rw [iN_cl (by omega), ← sv_is xs i]
  exact kk H locs ls hP hS hL9
theorem w_slen (G : Cok l D cA r Rm Γ cc own Ts mL) (hW : SXR b L xs Γ) (d : decode cc pc = .ok (.arraylength, 1)) (kk : V Γ z kc ks lv (pc + 1) (.int (iN (L : Int)) :: st)) : V Γ z kc ks lv pc (.ref b :: st) := by
  obtain ⟨p, l', e, R, s, m, args, below, meth, c, Q, A, D', cA', nL, r'⟩ := Γ
  obtain ⟨⟨rfl, rfl, rfl, rfl, rfl, rfl⟩, ⟨hx, hb, hml, hown, hts⟩, hK, hN, hr, hA⟩ := G
  obtain ⟨rfl, hX9, hbl, hbA⟩ := hW
  intro H locs ls hP hS hL9
  have kk9 := kk H locs ls hP hS hL9
  rw [iN_nI] at kk9
  exact va_slen hx hb hX9 hbl hbA hS d kk9
theorem w_lret (G : Cok l D cA r Rm Γ cL_law own Ts mL) (hW : LwR b L xs Γ) (hkc : kc ≤ 621617 ∧ ks ≤ 7236774) (d : decode cL_law pc = .ok (.ireturn, 1)) : V Γ z kc ks lv pc [.int (iN 1)] := by
  obtain ⟨p, l', e, R, s, m, args, below, meth, c, Q, A, D', cA', nL, r'⟩ := Γ
  obtain ⟨⟨rfl, rfl, rfl, rfl, rfl, rfl⟩, ⟨hx, hb, hml, hown, hts⟩, hK, hN, hr, hA⟩ := G
  obtain ⟨rfl, rfl, rfl, rfl, hret, hlk, hX9, hbl, hge⟩ := hW
  intro H locs ls hP hS hL9
  refine va_forget (fun q hq => ?_) ?_
  · obtain ⟨j, -, e9⟩ := hS.2.2 q hq
    have := hge j
    omega
  refine W.widen (k := 621617) (n := 7236774) hkc.1 hkc.2 ?_
  exact lw_ret hx hb hret hlk d
/-- what the law's reader of the script owes: some number, and nothing changed -/
def Kcell (l : Launch) (D : va_G) (cA : Nat → ClassId) (r : Nat → Nat) (z : Zt) (b L : Nat) (xs : Nat → Int32) (k : Int) : Prop := Met l yL_cell wsL_cell (rmz 0 0) (Pcl D cA r z b L xs [.ref b, .int (iN k)]) (Qi D cA r (fun _ z1 => z = z1)) 0 0 (rng r)
theorem w_cellB (hG : Cok l D cA r (rmz 0 0) Γ cL_cell RL wsL_cell 2) (hR : Rt r (Qi D cA r (fun _ z1 => z = z1)) (some .int) Γ) (hW : SXR b L xs Γ) (hL : L ≤ 260) {k : Int} (hk : 0 ≤ k ∧ k < 100000) : V Γ z 0 0 [(0, .ref b), (1, .int (iN k))] 0 [] := by
  refine v_iload_n hG dL_cell_0 1 rfl ?_
  refine v_aload_n hG dL_cell_1 0 rfl ?_
  refine w_slen hG hW dL_cell_2 ?_
  refine v_icmp_ge hG 12 (by omega) (by omega) dL_cell_3 (by decide) (fun h3 => ?_) (fun h3 => ?_)
  · refine v_ldc (v := 1236654051) hG (by decide +kernel) dL_cell_12 ?_
    refine v_eqi hG (y := iN 1236654051) (by decide +kernel) ?_
    refine v_iload_n hG dL_cell_14 1 rfl ?_
    refine v_iconst hG dL_cell_15 ?_
    refine v_iadd hG dL_cell_16 ?_
    refine v_imul hG dL_cell_17 ?_
    exact v_iret hG hR dL_cell_18 rfl
  · refine v_aload_n hG dL_cell_6 0 rfl ?_
    refine v_iload_n hG dL_cell_7 1 rfl ?_
    refine w_sld hG hW hL (by omega) dL_cell_8 ?_
    refine v_goto hG 18 dL_cell_9 (by decide) ?_
    exact v_iret hG hR dL_cell_18 rfl
theorem w_cell (hr : Inj r) (hbA : ¬ rng r b) (hL : L ≤ 260) {k : Int} (hk : 0 ≤ k ∧ k < 100000) : Kcell l D cA r z b L xs k := by
  refine Met.ofW (cc := cL_cell) (maxL := 2) (ret := some .int) (by decide) rfl ?_
  intro p e s m args below meth c s₁ B hml hv
  obtain ⟨rfl, ⟨⟨hP, hK⟩, hN⟩, hX, hbl⟩ := hv
  have hts := atoms_spec (ws := wsL_cell) B.pre
  have hown2 : s.vm.findClass RL = some m.cls := findClass_of_methodNamed B.named
  have hG : Cok l D cA r (rmz 0 0) (p, l, e, rmz 0 0, s, m, ([.ref b, .int (iN k)] : List Value).toArray, below, meth, c, MQ below (Qi D cA r (fun _ z1 => z = z1)) ([.ref b, .int (iN k)] : List Value).toArray s 0 0 (rng r), rng r, D, cA, 2, r) cL_cell RL wsL_cell 2 := ⟨⟨rfl, rfl, rfl, rfl, rfl, rfl⟩, ⟨B.exec, B.bytes, hml, hown2, hts⟩, hK, hN, hr, fun i hi => ⟨i, hi, rfl⟩⟩
  have hR : Rt r (Qi D cA r (fun _ z1 => z = z1)) (some .int) (p, l, e, rmz 0 0, s, m, ([.ref b, .int (iN k)] : List Value).toArray, below, meth, c, MQ below (Qi D cA r (fun _ z1 => z = z1)) ([.ref b, .int (iN k)] : List Value).toArray s 0 0 (rng r), rng r, D, cA, 2, r) := ⟨rfl, rfl, B.returns, B.notSynchronized⟩
  have hW : SXR b L xs (p, l, e, rmz 0 0, s, m, ([.ref b, .int (iN k)] : List Value).toArray, below, meth, c, MQ below (Qi D cA r (fun _ z1 => z = z1)) ([.ref b, .int (iN k)] : List Value).toArray s 0 0 (rng r), rng r, D, cA, 2, r) := ⟨rfl, hX, hbl, hbA⟩
  have hl := lv_entry [.ref b, .int (iN k)] (n := 2) (Nat.le_of_ble_eq_true rfl)
  rw [lg_entry_eq]
  exact w_cellB hG hR hW hL hk s.heap [] _ hP va_S.rf hl
theorem w_callC (G : Cok l D cA r Rm Γ cc own Ts mL) (hW : SXR b L xs Γ) (hL : L ≤ 260) {index : Nat} {k : Int} {stk : List Value} (hk : 0 ≤ k ∧ k < 100000) (hcw : GoodIn Ts (va_wsS own index yL_cell wsL_cell)) (hRR : 0 + 1 ≤ Rm.frames ∧ 8 + (2 + 11) + 0 ≤ Rm.locals) (d : decode cc pc = .ok (.invokestatic index, 3)) (hstk : stk = .int (iN k) :: .ref b :: st) (hst : (st.map fun v => v.category).sum ≤ 8) (hkc : kc ≤ Rm.cells ∧ ks ≤ Rm.slots)
    (kk : ∀ x : Int, V Γ z kc ks lv (pc + 3) (.int (iN x) :: st)) : V Γ z kc ks lv pc stk := by
  subst hstk
  obtain ⟨p, l', e, R, s, m, args, below, meth, c, Q, A, D', cA', nL, r'⟩ := Γ
  obtain ⟨⟨rfl, rfl, rfl, rfl, rfl, rfl⟩, ⟨hx, hb, hml, hown, hts⟩, hK, hN, hr, hA⟩ := G
  obtain ⟨rfl, hX, hbl, hbA⟩ := hW
  intro H locs ls hP hS hL9
  have hM : Kcell _ _ _ _ z b L xs k := w_cell (l := l') (D := D') (cA := cA') hr hbA hL hk
  refine va_calli (va_runS (As := [.ref b, .int (iN k)]) (rest := st) ⟨hx, hb, hml, hown, hts⟩ hM (va_cwS 2 hts hcw rfl rfl rfl (by decide +kernel) hRR) ⟨Pcl_blind, fun U hU hW => ⟨rfl, ⟨⟨by rw [hU]; exact hP, va_K.moved hW.alike hK⟩, NwK.warm hW hN⟩, by rw [hU]; exact (hX.kept (hS.2.1 b hbl hbA)).moved hW.alike, by rw [hU]; exact Nat.lt_of_lt_of_le hbl hS.1⟩⟩ rfl rfl hL9.1 rfl (lv_room hst) d hkc) hS ?_ ?_ ?_
  · intro q _ h
    exact h
  · intro q h
    exact h
  · intro x u t1 H1 locs1 e1 hvm hw1 hB _ _ hS1
    obtain ⟨i, rfl, hp⟩ := hw1
    have hp2 : z = u := hp
    subst hp2
    exact kk i H1 locs1 ls (e1 ▸ hB.1) hS1 hL9
end VL
/-- a kept day of the first twenty years is one that can be asked for -/
theorem kM_20 {ρ : Nat → Int} {f y : Int} (hM : MI ρ) (hf : 0 ≤ f ∧ f < ρ 14) (hy : 1 ≤ y ∧ y ≤ 20) : -1 ≤ kM ρ f y ∧ kM ρ f y ≤ 20000 ∧ (0 ≤ kM ρ f y → onM ρ f (kM ρ f y)) := by
  have hF := hM.2.2.1 f hf.1 hf.2
  have hla := laM_bd hM
  refine ⟨?_, ?_, fun h0 => (on_ex (kM_ok hM hF) h0).mpr ⟨y, hy.1, rfl⟩⟩
  · rw [keM]
    rcases duM_y hM hf hy.1 with e | ⟨e1, -⟩
    · rw [if_pos e]
      omega
    · have := e1.1
      rw [if_neg (by omega)]
      split <;> omega
  · rw [keM]
    have hb := (dofN_bd (a := 1 - mF ρ f 0) (y := y) (m := mF ρ f 1) (dd := mF ρ f 2) ⟨hF.2.1, hF.2.2.1⟩ hF.2.2.2.1).2
    have h3 : y * yl (1 - mF ρ f 0) ≤ 7320 := by
      unfold yl
      split <;> omega
    have hd : dM ρ f y ≤ 7320 := by
      rcases due_is (a := 1 - mF ρ f 0) (y := y) (hM.1 _ hF.1) ⟨hF.2.1, hF.2.2.1⟩ ⟨hF.2.2.2.1, hF.2.2.2.2.1⟩ hy.1 with e | ⟨u, e1, e2, -, -, -, e6⟩
      · have e9 : dM ρ f y = -1 := e
        omega
      · have e9 : dM ρ f y = u := e1
        omega
    split
    · omega
    · split <;> omega

