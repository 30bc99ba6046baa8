theorem VG_V {Γ : Cx} {l : Launch} {D : va_G} {cA : Nat → ClassId} {r : Nat → Nat} {Rm : Room} {cc : ByteArray} {own : String} {Ts : List Cond} {mL : Nat} {z : Zt} {kc ks : Nat} {lv : List (Nat × Value)} {pc : Nat} {st : List Value} (G : Cok l D cA r Rm Γ cc own Ts mL) (h : V Γ z kc ks lv pc st) : VG Γ 172 (Ez r cA z) kc ks lv pc st := by
  obtain ⟨p, l', e, R, s, m, args, below, meth, c, Q, A, D', cA', nL, r'⟩ := Γ
  obtain ⟨⟨rfl, rfl, rfl, rfl, rfl, rfl⟩, -⟩ := G
  intro H locs ls hP hZ hS hL
  exact h H locs ls hP hS hL
theorem nwF_in : ∀ w ∈ nwF, w ∈ lw_tbl := by decide +kernel
set_option maxHeartbeats 4000000 in
set_option maxRecDepth 100000 in
/-- the cells that the law makes, then its loop -/
theorem law_born {l : Launch} {D : va_G} {cA : Nat → ClassId} {r : Nat → Nat} {Γ : Cx} {b L : Nat} {xs : Nat → Int32} {E : Nat → va_E} (hsq : Sq r) (hG : CoG l D cA r room_1 Γ cL_law RL wsL_law 11) (hW : LwR b L xs Γ) (hL : L ≤ 260) : VG Γ 0 E 0 0 [(0, .ref b)] 0 [] := by
  refine g_new (ci := 4) (fs := frs 4) hG inlX4 tyX4_ok (by decide +kernel) (by decide +kernel) (by decide +kernel) rfl frs_4 (Nat.le_of_ble_eq_true rfl) (Nat.le_of_ble_eq_true rfl) dL_law_0 ?_
  refine g_dup hG dL_law_3 rfl ?_
  refine g_callI (k := 0) hG (c_X4_init hsq (va_up_s _ _ _)) gL_law_X4_init rfl (by decide +kernel) (by decide +kernel) (by decide +kernel) rfl (by decide) rfl ⟨Nat.le_of_ble_eq_true rfl, Nat.le_of_ble_eq_true rfl⟩ dL_law_4 rfl (Nat.le_of_ble_eq_true rfl) ⟨Nat.le_of_ble_eq_true rfl, Nat.le_of_ble_eq_true rfl⟩ ?_
  refine g_astore_n hG [(0, _), (1, _)] dL_law_7 (by decide) rfl ?_
  refine g_bipush hG dL_law_8 (by decide) ?_
  refine g_newaI hG (by decide +kernel) (by decide) (Nat.le_of_ble_eq_true rfl) (Nat.le_of_ble_eq_true rfl) dL_law_10 ?_
  refine g_astore_n hG [(0, _), (1, _), (2, _)] dL_law_12 (by decide) rfl ?_
  refine g_bipush hG dL_law_13 (by decide) ?_
  refine g_newaI hG (by decide +kernel) (by decide) (Nat.le_of_ble_eq_true rfl) (Nat.le_of_ble_eq_true rfl) dL_law_15 ?_
  refine g_astore_n hG [(0, _), (1, _), (2, _), (3, _)] dL_law_17 (by decide) rfl ?_
  refine g_bipush hG dL_law_18 (by decide) ?_
  refine g_newaI hG (by decide +kernel) (by decide) (Nat.le_of_ble_eq_true rfl) (Nat.le_of_ble_eq_true rfl) dL_law_20 ?_
  refine g_E hG (Ez r cA z0) ?_ ?_
  · intro i hi
    by_cases q1 : i = 171
    · subst q1
      rw [va_up_s, Ez_arr (K := 108) rfl (by decide)]
      exact eqE.rf _
    by_cases q2 : i = 170
    · subst q2
      rw [va_up_o q1, va_up_s, Ez_arr (K := 140) rfl (by decide)]
      exact eqE.rf _
    by_cases q3 : i = 169
    · subst q3
      rw [va_up_o q1, va_up_o q2, va_up_s, Ez_arr (K := 114) rfl (by decide)]
      exact eqE.rf _
    · rw [va_up_o q1, va_up_o q2, va_up_o q3, mixE_i (by omega)]
      exact eqE.rf _
  have hC := hG.1
  refine VG_V hC ?_
  refine v_astore hC [(0, _), (1, _), (2, _), (3, _), (4, _)] dL_law_22 (by decide) rfl ?_
  refine v_aload hC dL_law_24 4 rfl ?_
  refine v_iconst hC dL_law_26 ?_
  refine v_iconst hC dL_law_27 ?_
  refine v_iast hC k_171 (by decide) (cl_108 _ _ _) (by decide) (by omega) dL_law_28 ?_
  refine v_aload hC dL_law_29 4 rfl ?_
  refine v_iconst hC dL_law_31 ?_
  refine v_iconst hC dL_law_32 ?_
  refine v_iast hC k_171 (by decide) (cl_108 _ _ _) (by decide) (by omega) dL_law_33 ?_
  refine v_wz hC zS rfl ?_
  refine v_aload_n hC dL_law_34 1 rfl ?_
  refine v_aload_n hC dL_law_35 2 rfl ?_
  refine v_aload_n hC dL_law_36 3 rfl ?_
  refine v_aload hC dL_law_37 4 rfl ?_
  refine v_callSi (n := 4) hC (c_L_isAll hsq.inj Rel_zS) gL_law_L_isAll rfl (by decide +kernel) rfl (by decide) dL_law_39 rfl (Nat.le_of_ble_eq_true rfl) ⟨Nat.le_of_ble_eq_true rfl, Nat.le_of_ble_eq_true rfl⟩ ?_
  intro v39 z39 hp39
  obtain ⟨rfl, rfl⟩ := hp39
  refine v_istore hC [(0, _), (1, _), (2, _), (3, _), (4, _), (5, _)] dL_law_42 (by decide) rfl ?_
  refine v_iconst hC dL_law_44 ?_
  exact law_loop hsq.inj hC hW hL Rel_zS ⟨Nat.le_of_ble_eq_true rfl, Nat.le_of_ble_eq_true rfl⟩
set_option maxHeartbeats 4000000 in
set_option maxRecDepth 100000 in
theorem whole_start {p : Program} {e : Env} {s : State} {m : MethodId} {below : List Frame} {meth : Method} {c : Code} (l : Launch) (hflags : l.flags = flags0) {b L : Nat} {xs : Nat → Int32} (hL : L ≤ 260) (C0 : lw_At p s m meth c b L xs) : W p l e room_1 s m #[Value.ref b] below meth c s.heap [] 0 0 (lw_Z below #[Value.ref b] s) (entryFrame m ([Value.ref b] : List Value).toArray 11) := by
  obtain ⟨hx, hb, hr, hml, hown, hts, hX, hbl, hlocks, hgv⟩ := C0
  obtain ⟨c0, i0, K0⟩ := u_known (C := RX0) (T := TX0) (N := 2) (n := 2) hts inX0 (hts (.instantiable RX0 2) (by decide +kernel))
  obtain ⟨c1, i1, K1⟩ := u_known (C := RX1) (T := TX1) (N := 4) (n := 4) hts inX1 (hts (.instantiable RX1 4) (by decide +kernel))
  obtain ⟨c2, i2, K2⟩ := u_known (C := RX2) (T := TX2) (N := 9) (n := 9) hts inX2 (hts (.instantiable RX2 9) (by decide +kernel))
  obtain ⟨c3, i3, K3⟩ := u_known (C := RX3) (T := TX3) (N := 5) (n := 5) hts inX3 (hts (.instantiable RX3 5) (by decide +kernel))
  obtain ⟨c4, i4, K4⟩ := u_known (C := RX4) (T := TX4) (N := 7) (n := 7) hts inX4 (hts (.instantiable RX4 7) (by decide +kernel))
  obtain ⟨dC, dI, hKc⟩ : ∃ (dC : Nat → ClassId) (dI : Nat → Nat → Nat), ∀ (k : Nat) (q : vw_C), vwCl[k]? = some q → u_Kn s q.1 q.2.1 q.2.2 (dC k) (dI k) := by
    refine ⟨fun k => if k = 0 then c0 else if k = 1 then c1 else if k = 2 then c2 else if k = 3 then c3 else c4, fun k => if k = 0 then i0 else if k = 1 then i1 else if k = 2 then i2 else if k = 3 then i3 else i4, ?_⟩
    intro k q hq
    match k, hq with
    | 0, hq => cases hq; exact K0
    | 1, hq => cases hq; exact K1
    | 2, hq => cases hq; exact K2
    | 3, hq => cases hq; exact K3
    | 4, hq => cases hq; exact K4
    | k + 5, hq => simp [vwCl] at hq
  obtain ⟨a0, k0, m0, f0, g0, h0⟩ := Cond.arrayClass_spec (hts (.arrayClass .int) (by decide +kernel))
  obtain ⟨a1, k1, m1, f1, g1, h1⟩ := Cond.arrayClass_spec (hts (.arrayClass .boolean) (by decide +kernel))
  obtain ⟨m3, a3, k3, e3, -, g3, h3, f3⟩ := Cond.arrayOver_spec (hts (.arrayOver (.object RX1)) (by decide +kernel))
  obtain ⟨m4, a4, k4, e4, -, g4, h4, f4⟩ := Cond.arrayOver_spec (hts (.arrayOver (.object RX2)) (by decide +kernel))
  have hAO : ∀ (cA : ClassId) (kA : Class) (comp : ClassId) (ty : FieldType), s.vm.classes[cA]? = some kA → kA.kind = .array comp ty → ArrOfT s cA ty := fun cA kA comp ty h2 h3 => fun n z => ⟨fun k h => (by cases h), kA, h2, comp, h3⟩
  obtain ⟨cA, hKt⟩ : ∃ cA : Nat → ClassId, ∀ (k : Nat) (q : ClassId × FieldType), (tysOf cA)[k]? = some q → ArrOfT s q.1 q.2 ∧ va_RA s q.1 q.2 := by
    refine ⟨fun k => if k = 0 then a0 else if k = 1 then a1 else if k = 2 then a0 else if k = 3 then a3 else a4, ?_⟩
    intro k q hq
    match k, hq with
    | 0, hq => cases hq; exact ⟨hAO _ _ _ _ g0 h0, f0⟩
    | 1, hq => cases hq; exact ⟨hAO _ _ _ _ g1 h1, f1⟩
    | 2, hq => cases hq; exact ⟨hAO _ _ _ _ g0 h0, f0⟩
    | 3, hq => cases hq; exact ⟨hAO _ _ _ _ g3 h3, k3, m3, g3, h3, e3, f3⟩
    | 4, hq => cases hq; exact ⟨hAO _ _ _ _ g4 h4, k4, m4, g4, h4, e4, f4⟩
    | k + 5, hq => simp [tysOf] at hq
  obtain ⟨r, hrd⟩ : ∃ r : Nat → Nat, ∀ i, r i = s.heap.size + i := ⟨fun i => s.heap.size + i, fun _ => rfl⟩
  have hsq : Sq r := fun i => by rw [hrd, hrd]; omega
  have hNw : NwK s := fun w hw => by
    have hin := nwF_in w hw
    obtain ⟨a, i, b, n, d, k, rfl⟩ := nwF_is w hw
    exact va_Nw.of rfl (hts _ hin)
  have hGK : GK s := ⟨va_Nw.of rfl (hts _ (by decide +kernel)), va_Nw.of rfl (hts _ (by decide +kernel)), va_AO.of (hts (.arrayOver (.object RX1)) (by decide +kernel)), va_AO.of (hts (.arrayOver (.object RX2)) (by decide +kernel))⟩
  have hC : Cok l (dC, dI) cA r room_1 (p, l, e, room_1, s, m, #[Value.ref b], below, meth, c, lw_Z below #[Value.ref b] s, rng r, (dC, dI), cA, 11, r) cL_law RL wsL_law 11 := ⟨⟨rfl, rfl, rfl, rfl, rfl, rfl⟩, ⟨hx, hb, hml, hown, fun w hw => hts w (wsL_law_in w hw)⟩, ⟨hKc, hKt⟩, hNw, hsq.inj, fun i hi => ⟨i, hi, rfl⟩⟩
  have hW9 : LwR b L xs (p, l, e, room_1, s, m, #[Value.ref b], below, meth, c, lw_Z below #[Value.ref b] s, rng r, (dC, dI), cA, 11, r) := ⟨rfl, rfl, rfl, rfl, hr, hlocks, hX, hbl, fun i => by rw [hrd]; omega⟩
  have h := law_born (E := fun _ => .inr (0, [])) hsq ⟨hC, hGK, hsq⟩ hW9 hL
  have hl : lv_has _ 11 [(0, .ref b)] := lv_entry [.ref b] (n := 11) (Nat.le_of_ble_eq_true rfl)
  rw [lg_entry_eq]
  exact h s.heap [] _ (fun k q hk => by simp [wl] at hk) (by rw [hrd]; rfl) va_S.rf hl
