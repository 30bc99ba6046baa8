section
-- ===== PART A: goes FIRST, ahead of the names: the tables' words, and 'selects' of the private methods out of them =====
/-- a private method of a class that the tables say can be made, by its rows of tables_1 -/
def lw_okq (q : MethodName × Nat) : Prop := (q.1.cls ≠ "java/lang/invoke/MethodHandle" ∧ q.1.cls ≠ "java/lang/invoke/VarHandle") ∧ Cond.instantiable q.1.cls q.2 ∈ tables_1 ∧ Cond.privateMethod q.1 ∈ tables_1 ∧ Cond.instanceMethod q.1 ∈ tables_1
theorem lw_p0 : lw_okq (⟨"TwoTownAlmanac", "requireTown", "(I)LTwoTownAlmanac$Town;"⟩, 7) := ⟨⟨by decide +kernel, by decide +kernel⟩, List.mem_of_getElem? (i := 16) (by decide +kernel), List.mem_of_getElem? (i := 217) (by decide +kernel), List.mem_of_getElem? (i := 218) (by decide +kernel)⟩
theorem lw_p1 : lw_okq (⟨"java/lang/Throwable", "fillInStackTrace", "(I)Ljava/lang/Throwable;"⟩, 6) := ⟨⟨by decide +kernel, by decide +kernel⟩, List.mem_of_getElem? (i := 262) (by decide +kernel), List.mem_of_getElem? (i := 260) (by decide +kernel), List.mem_of_getElem? (i := 261) (by decide +kernel)⟩
theorem lw_p2 : lw_okq (⟨"TwoTownAlmanac", "recordState", "()V"⟩, 7) := ⟨⟨by decide +kernel, by decide +kernel⟩, List.mem_of_getElem? (i := 16) (by decide +kernel), List.mem_of_getElem? (i := 336) (by decide +kernel), List.mem_of_getElem? (i := 337) (by decide +kernel)⟩
theorem lw_p3 : lw_okq (⟨"TwoTownAlmanac", "dropOldestRecorded", "()V"⟩, 7) := ⟨⟨by decide +kernel, by decide +kernel⟩, List.mem_of_getElem? (i := 16) (by decide +kernel), List.mem_of_getElem? (i := 340) (by decide +kernel), List.mem_of_getElem? (i := 341) (by decide +kernel)⟩
theorem lw_p4 : lw_okq (⟨"TwoTownAlmanac$Town", "dayInYearOn", "(I)I"⟩, 5) := ⟨⟨by decide +kernel, by decide +kernel⟩, List.mem_of_getElem? (i := 30) (by decide +kernel), List.mem_of_getElem? (i := 403) (by decide +kernel), List.mem_of_getElem? (i := 404) (by decide +kernel)⟩
theorem lw_p5 : lw_okq (⟨"TwoTownAlmanac$Town", "dateOn", "(I)I"⟩, 5) := ⟨⟨by decide +kernel, by decide +kernel⟩, List.mem_of_getElem? (i := 30) (by decide +kernel), List.mem_of_getElem? (i := 407) (by decide +kernel), List.mem_of_getElem? (i := 408) (by decide +kernel)⟩
theorem lw_p6 : lw_okq (⟨"TwoTownAlmanac$Town", "daysBeforeMonth", "(I)I"⟩, 5) := ⟨⟨by decide +kernel, by decide +kernel⟩, List.mem_of_getElem? (i := 30) (by decide +kernel), List.mem_of_getElem? (i := 415) (by decide +kernel), List.mem_of_getElem? (i := 416) (by decide +kernel)⟩
theorem lw_p7 : lw_okq (⟨"TwoTownAlmanac$Town", "dateOf", "(III)I"⟩, 5) := ⟨⟨by decide +kernel, by decide +kernel⟩, List.mem_of_getElem? (i := 30) (by decide +kernel), List.mem_of_getElem? (i := 457) (by decide +kernel), List.mem_of_getElem? (i := 458) (by decide +kernel)⟩
theorem lw_p8 : lw_okq (⟨"TwoTownAlmanac$Town", "daysInYear", "()I"⟩, 5) := ⟨⟨by decide +kernel, by decide +kernel⟩, List.mem_of_getElem? (i := 30) (by decide +kernel), List.mem_of_getElem? (i := 461) (by decide +kernel), List.mem_of_getElem? (i := 462) (by decide +kernel)⟩
theorem lw_p9 : lw_okq (⟨"TwoTownAlmanac$Town", "firstDayFrom", "(I)I"⟩, 5) := ⟨⟨by decide +kernel, by decide +kernel⟩, List.mem_of_getElem? (i := 30) (by decide +kernel), List.mem_of_getElem? (i := 465) (by decide +kernel), List.mem_of_getElem? (i := 466) (by decide +kernel)⟩
theorem lw_p10 : lw_okq (⟨"TwoTownAlmanac", "requireFeast", "(I)LTwoTownAlmanac$Feast;"⟩, 7) := ⟨⟨by decide +kernel, by decide +kernel⟩, List.mem_of_getElem? (i := 16) (by decide +kernel), List.mem_of_getElem? (i := 488) (by decide +kernel), List.mem_of_getElem? (i := 489) (by decide +kernel)⟩
theorem lw_p11 : lw_okq (⟨"TwoTownAlmanac$State", "firstYearFor", "(LTwoTownAlmanac$Feast;I)I"⟩, 9) := ⟨⟨by decide +kernel, by decide +kernel⟩, List.mem_of_getElem? (i := 24) (by decide +kernel), List.mem_of_getElem? (i := 551) (by decide +kernel), List.mem_of_getElem? (i := 552) (by decide +kernel)⟩
theorem lw_p12 : lw_okq (⟨"TwoTownAlmanac", "quarrelsFrom", "(II)I"⟩, 7) := ⟨⟨by decide +kernel, by decide +kernel⟩, List.mem_of_getElem? (i := 16) (by decide +kernel), List.mem_of_getElem? (i := 577) (by decide +kernel), List.mem_of_getElem? (i := 578) (by decide +kernel)⟩
theorem lw_p13 : lw_okq (⟨"TwoTownAlmanac$State", "feastsOf", "(I)I"⟩, 9) := ⟨⟨by decide +kernel, by decide +kernel⟩, List.mem_of_getElem? (i := 24) (by decide +kernel), List.mem_of_getElem? (i := 585) (by decide +kernel), List.mem_of_getElem? (i := 586) (by decide +kernel)⟩
theorem lw_p14 : lw_okq (⟨"TwoTownAlmanacModel", "fails", "(I)I"⟩, 10) := ⟨⟨by decide +kernel, by decide +kernel⟩, List.mem_of_getElem? (i := 740) (by decide +kernel), List.mem_of_getElem? (i := 785) (by decide +kernel), List.mem_of_getElem? (i := 786) (by decide +kernel)⟩
theorem lw_p15 : lw_okq (⟨"TwoTownAlmanacModel", "record", "()V"⟩, 10) := ⟨⟨by decide +kernel, by decide +kernel⟩, List.mem_of_getElem? (i := 740) (by decide +kernel), List.mem_of_getElem? (i := 804) (by decide +kernel), List.mem_of_getElem? (i := 805) (by decide +kernel)⟩
def lw_privs_1 : List (MethodName × Nat) := [(⟨"TwoTownAlmanac", "requireTown", "(I)LTwoTownAlmanac$Town;"⟩, 7), (⟨"java/lang/Throwable", "fillInStackTrace", "(I)Ljava/lang/Throwable;"⟩, 6), (⟨"TwoTownAlmanac", "recordState", "()V"⟩, 7), (⟨"TwoTownAlmanac", "dropOldestRecorded", "()V"⟩, 7), (⟨"TwoTownAlmanac$Town", "dayInYearOn", "(I)I"⟩, 5), (⟨"TwoTownAlmanac$Town", "dateOn", "(I)I"⟩, 5), (⟨"TwoTownAlmanac$Town", "daysBeforeMonth", "(I)I"⟩, 5), (⟨"TwoTownAlmanac$Town", "dateOf", "(III)I"⟩, 5), (⟨"TwoTownAlmanac$Town", "daysInYear", "()I"⟩, 5), (⟨"TwoTownAlmanac$Town", "firstDayFrom", "(I)I"⟩, 5), (⟨"TwoTownAlmanac", "requireFeast", "(I)LTwoTownAlmanac$Feast;"⟩, 7), (⟨"TwoTownAlmanac$State", "firstYearFor", "(LTwoTownAlmanac$Feast;I)I"⟩, 9), (⟨"TwoTownAlmanac", "quarrelsFrom", "(II)I"⟩, 7), (⟨"TwoTownAlmanac$State", "feastsOf", "(I)I"⟩, 9), (⟨"TwoTownAlmanacModel", "fails", "(I)I"⟩, 10), (⟨"TwoTownAlmanacModel", "record", "()V"⟩, 10)]
theorem lw_r1 : ∀ q ∈ lw_privs_1, lw_okq q := List.forall_mem_cons.mpr ⟨lw_p0, List.forall_mem_cons.mpr ⟨lw_p1, List.forall_mem_cons.mpr ⟨lw_p2, List.forall_mem_cons.mpr ⟨lw_p3, List.forall_mem_cons.mpr ⟨lw_p4, List.forall_mem_cons.mpr ⟨lw_p5, List.forall_mem_cons.mpr ⟨lw_p6, List.forall_mem_cons.mpr ⟨lw_p7, List.forall_mem_cons.mpr ⟨lw_p8, List.forall_mem_cons.mpr ⟨lw_p9, List.forall_mem_cons.mpr ⟨lw_p10, List.forall_mem_cons.mpr ⟨lw_p11, List.forall_mem_cons.mpr ⟨lw_p12, List.forall_mem_cons.mpr ⟨lw_p13, List.forall_mem_cons.mpr ⟨lw_p14, List.forall_mem_cons.mpr ⟨lw_p15, fun _ h => absurd h List.not_mem_nil⟩⟩⟩⟩⟩⟩⟩⟩⟩⟩⟩⟩⟩⟩⟩⟩
theorem lw_p16 : lw_okq (⟨"TwoTownAlmanacModel", "gaps", "(I)I"⟩, 10) := ⟨⟨by decide +kernel, by decide +kernel⟩, List.mem_of_getElem? (i := 740) (by decide +kernel), List.mem_of_getElem? (i := 815) (by decide +kernel), List.mem_of_getElem? (i := 816) (by decide +kernel)⟩
theorem lw_p17 : lw_okq (⟨"TwoTownAlmanacModel", "gap", "(III)I"⟩, 10) := ⟨⟨by decide +kernel, by decide +kernel⟩, List.mem_of_getElem? (i := 740) (by decide +kernel), List.mem_of_getElem? (i := 819) (by decide +kernel), List.mem_of_getElem? (i := 820) (by decide +kernel)⟩
theorem lw_p18 : lw_okq (⟨"TwoTownAlmanacModel", "dayAt", "(II)I"⟩, 10) := ⟨⟨by decide +kernel, by decide +kernel⟩, List.mem_of_getElem? (i := 740) (by decide +kernel), List.mem_of_getElem? (i := 846) (by decide +kernel), List.mem_of_getElem? (i := 847) (by decide +kernel)⟩
theorem lw_p19 : lw_okq (⟨"TwoTownAlmanacModel", "calendar", "(II)I"⟩, 10) := ⟨⟨by decide +kernel, by decide +kernel⟩, List.mem_of_getElem? (i := 740) (by decide +kernel), List.mem_of_getElem? (i := 850) (by decide +kernel), List.mem_of_getElem? (i := 851) (by decide +kernel)⟩
theorem lw_p20 : lw_okq (⟨"TwoTownAlmanacModel", "monthAt", "(II)I"⟩, 10) := ⟨⟨by decide +kernel, by decide +kernel⟩, List.mem_of_getElem? (i := 740) (by decide +kernel), List.mem_of_getElem? (i := 860) (by decide +kernel), List.mem_of_getElem? (i := 861) (by decide +kernel)⟩
theorem lw_p21 : lw_okq (⟨"TwoTownAlmanacModel", "yearAt", "(II)I"⟩, 10) := ⟨⟨by decide +kernel, by decide +kernel⟩, List.mem_of_getElem? (i := 740) (by decide +kernel), List.mem_of_getElem? (i := 872) (by decide +kernel), List.mem_of_getElem? (i := 873) (by decide +kernel)⟩
theorem lw_p22 : lw_okq (⟨"TwoTownAlmanacModel", "dayWith", "(IIII)I"⟩, 10) := ⟨⟨by decide +kernel, by decide +kernel⟩, List.mem_of_getElem? (i := 740) (by decide +kernel), List.mem_of_getElem? (i := 884) (by decide +kernel), List.mem_of_getElem? (i := 885) (by decide +kernel)⟩
theorem lw_p23 : lw_okq (⟨"TwoTownAlmanacModel", "firstDay", "(II)I"⟩, 10) := ⟨⟨by decide +kernel, by decide +kernel⟩, List.mem_of_getElem? (i := 740) (by decide +kernel), List.mem_of_getElem? (i := 888) (by decide +kernel), List.mem_of_getElem? (i := 889) (by decide +kernel)⟩
theorem lw_p24 : lw_okq (⟨"TwoTownAlmanacModel", "isFeast", "(I)Z"⟩, 10) := ⟨⟨by decide +kernel, by decide +kernel⟩, List.mem_of_getElem? (i := 740) (by decide +kernel), List.mem_of_getElem? (i := 900) (by decide +kernel), List.mem_of_getElem? (i := 901) (by decide +kernel)⟩
theorem lw_p25 : lw_okq (⟨"TwoTownAlmanacModel", "feast", "(II)I"⟩, 10) := ⟨⟨by decide +kernel, by decide +kernel⟩, List.mem_of_getElem? (i := 740) (by decide +kernel), List.mem_of_getElem? (i := 904) (by decide +kernel), List.mem_of_getElem? (i := 905) (by decide +kernel)⟩
theorem lw_p26 : lw_okq (⟨"TwoTownAlmanacModel", "due", "(II)I"⟩, 10) := ⟨⟨by decide +kernel, by decide +kernel⟩, List.mem_of_getElem? (i := 740) (by decide +kernel), List.mem_of_getElem? (i := 928) (by decide +kernel), List.mem_of_getElem? (i := 929) (by decide +kernel)⟩
theorem lw_p27 : lw_okq (⟨"TwoTownAlmanacModel", "kept", "(II)I"⟩, 10) := ⟨⟨by decide +kernel, by decide +kernel⟩, List.mem_of_getElem? (i := 740) (by decide +kernel), List.mem_of_getElem? (i := 936) (by decide +kernel), List.mem_of_getElem? (i := 937) (by decide +kernel)⟩
theorem lw_p28 : lw_okq (⟨"TwoTownAlmanacModel", "isOn", "(II)Z"⟩, 10) := ⟨⟨by decide +kernel, by decide +kernel⟩, List.mem_of_getElem? (i := 740) (by decide +kernel), List.mem_of_getElem? (i := 944) (by decide +kernel), List.mem_of_getElem? (i := 945) (by decide +kernel)⟩
theorem lw_p29 : lw_okq (⟨"TwoTownAlmanacModel", "setOn", "(I)I"⟩, 10) := ⟨⟨by decide +kernel, by decide +kernel⟩, List.mem_of_getElem? (i := 740) (by decide +kernel), List.mem_of_getElem? (i := 952) (by decide +kernel), List.mem_of_getElem? (i := 953) (by decide +kernel)⟩
theorem lw_p30 : lw_okq (⟨"TwoTownAlmanacModel", "quarrels", "(I)Z"⟩, 10) := ⟨⟨by decide +kernel, by decide +kernel⟩, List.mem_of_getElem? (i := 740) (by decide +kernel), List.mem_of_getElem? (i := 960) (by decide +kernel), List.mem_of_getElem? (i := 961) (by decide +kernel)⟩
theorem lw_p31 : lw_okq (⟨"TwoTownAlmanacModel", "ofTown", "(II)I"⟩, 10) := ⟨⟨by decide +kernel, by decide +kernel⟩, List.mem_of_getElem? (i := 740) (by decide +kernel), List.mem_of_getElem? (i := 964) (by decide +kernel), List.mem_of_getElem? (i := 965) (by decide +kernel)⟩
def lw_privs_2 : List (MethodName × Nat) := [(⟨"TwoTownAlmanacModel", "gaps", "(I)I"⟩, 10), (⟨"TwoTownAlmanacModel", "gap", "(III)I"⟩, 10), (⟨"TwoTownAlmanacModel", "dayAt", "(II)I"⟩, 10), (⟨"TwoTownAlmanacModel", "calendar", "(II)I"⟩, 10), (⟨"TwoTownAlmanacModel", "monthAt", "(II)I"⟩, 10), (⟨"TwoTownAlmanacModel", "yearAt", "(II)I"⟩, 10), (⟨"TwoTownAlmanacModel", "dayWith", "(IIII)I"⟩, 10), (⟨"TwoTownAlmanacModel", "firstDay", "(II)I"⟩, 10), (⟨"TwoTownAlmanacModel", "isFeast", "(I)Z"⟩, 10), (⟨"TwoTownAlmanacModel", "feast", "(II)I"⟩, 10), (⟨"TwoTownAlmanacModel", "due", "(II)I"⟩, 10), (⟨"TwoTownAlmanacModel", "kept", "(II)I"⟩, 10), (⟨"TwoTownAlmanacModel", "isOn", "(II)Z"⟩, 10), (⟨"TwoTownAlmanacModel", "setOn", "(I)I"⟩, 10), (⟨"TwoTownAlmanacModel", "quarrels", "(I)Z"⟩, 10), (⟨"TwoTownAlmanacModel", "ofTown", "(II)I"⟩, 10)]
theorem lw_r2 : ∀ q ∈ lw_privs_2, lw_okq q := List.forall_mem_cons.mpr ⟨lw_p16, List.forall_mem_cons.mpr ⟨lw_p17, List.forall_mem_cons.mpr ⟨lw_p18, List.forall_mem_cons.mpr ⟨lw_p19, List.forall_mem_cons.mpr ⟨lw_p20, List.forall_mem_cons.mpr ⟨lw_p21, List.forall_mem_cons.mpr ⟨lw_p22, List.forall_mem_cons.mpr ⟨lw_p23, List.forall_mem_cons.mpr ⟨lw_p24, List.forall_mem_cons.mpr ⟨lw_p25, List.forall_mem_cons.mpr ⟨lw_p26, List.forall_mem_cons.mpr ⟨lw_p27, List.forall_mem_cons.mpr ⟨lw_p28, List.forall_mem_cons.mpr ⟨lw_p29, List.forall_mem_cons.mpr ⟨lw_p30, List.forall_mem_cons.mpr ⟨lw_p31, fun _ h => absurd h List.not_mem_nil⟩⟩⟩⟩⟩⟩⟩⟩⟩⟩⟩⟩⟩⟩⟩⟩
theorem lw_p32 : lw_okq (⟨"TwoTownAlmanacModel", "quarrelsIn", "(I)I"⟩, 10) := ⟨⟨by decide +kernel, by decide +kernel⟩, List.mem_of_getElem? (i := 740) (by decide +kernel), List.mem_of_getElem? (i := 1016) (by decide +kernel), List.mem_of_getElem? (i := 1017) (by decide +kernel)⟩
theorem lw_p33 : lw_okq (⟨"TwoTownAlmanacModel", "isDate", "()Z"⟩, 10) := ⟨⟨by decide +kernel, by decide +kernel⟩, List.mem_of_getElem? (i := 740) (by decide +kernel), List.mem_of_getElem? (i := 1041) (by decide +kernel), List.mem_of_getElem? (i := 1042) (by decide +kernel)⟩
theorem lw_p34 : lw_okq (⟨"TwoTownAlmanacModel", "takes", "(II)Z"⟩, 10) := ⟨⟨by decide +kernel, by decide +kernel⟩, List.mem_of_getElem? (i := 740) (by decide +kernel), List.mem_of_getElem? (i := 1045) (by decide +kernel), List.mem_of_getElem? (i := 1046) (by decide +kernel)⟩
theorem lw_p35 : lw_okq (⟨"TwoTownAlmanacModel", "readsNumber", "(II)Z"⟩, 10) := ⟨⟨by decide +kernel, by decide +kernel⟩, List.mem_of_getElem? (i := 740) (by decide +kernel), List.mem_of_getElem? (i := 1049) (by decide +kernel), List.mem_of_getElem? (i := 1050) (by decide +kernel)⟩
theorem lw_p36 : lw_okq (⟨"TwoTownAlmanacModel", "write", "(I)V"⟩, 10) := ⟨⟨by decide +kernel, by decide +kernel⟩, List.mem_of_getElem? (i := 740) (by decide +kernel), List.mem_of_getElem? (i := 1065) (by decide +kernel), List.mem_of_getElem? (i := 1066) (by decide +kernel)⟩
theorem lw_p37 : lw_okq (⟨"TwoTownAlmanacModel", "writeNumber", "(I)V"⟩, 10) := ⟨⟨by decide +kernel, by decide +kernel⟩, List.mem_of_getElem? (i := 740) (by decide +kernel), List.mem_of_getElem? (i := 1069) (by decide +kernel), List.mem_of_getElem? (i := 1070) (by decide +kernel)⟩
def lw_privs_3 : List (MethodName × Nat) := [(⟨"TwoTownAlmanacModel", "quarrelsIn", "(I)I"⟩, 10), (⟨"TwoTownAlmanacModel", "isDate", "()Z"⟩, 10), (⟨"TwoTownAlmanacModel", "takes", "(II)Z"⟩, 10), (⟨"TwoTownAlmanacModel", "readsNumber", "(II)Z"⟩, 10), (⟨"TwoTownAlmanacModel", "write", "(I)V"⟩, 10), (⟨"TwoTownAlmanacModel", "writeNumber", "(I)V"⟩, 10)]
theorem lw_r3 : ∀ q ∈ lw_privs_3, lw_okq q := List.forall_mem_cons.mpr ⟨lw_p32, List.forall_mem_cons.mpr ⟨lw_p33, List.forall_mem_cons.mpr ⟨lw_p34, List.forall_mem_cons.mpr ⟨lw_p35, List.forall_mem_cons.mpr ⟨lw_p36, List.forall_mem_cons.mpr ⟨lw_p37, fun _ h => absurd h List.not_mem_nil⟩⟩⟩⟩⟩⟩
def lw_privs : List (MethodName × Nat) := lw_privs_1 ++ (lw_privs_2 ++ (lw_privs_3))
def lw_tbl : List Cond := k2_sels lw_privs ++ tables_1
theorem lw_privs_ok : ∀ q ∈ lw_privs, lw_okq q := by
  show ∀ q ∈ lw_privs_1 ++ (lw_privs_2 ++ (lw_privs_3)), lw_okq q
  exact List.forall_mem_append.mpr ⟨lw_r1, List.forall_mem_append.mpr ⟨lw_r2, lw_r3⟩⟩
end
section
/-! ===== BEGIN words of one list among another's, by their places ===== -/
theorem goodIn_r {big : List Cond} (ws : List Cond) (ps : List Nat) (hp : ws = ps.filterMap (fun i => big[i]?)) (h : ws.all goodWord = true) : GoodIn big ws := by
  intro w hw
  have h1 := List.all_eq_true.mp h w hw
  rw [hp] at hw
  obtain ⟨i, -, hi⟩ := List.mem_filterMap.mp hw
  have hm : w ∈ big := by first | exact List.mem_of_getElem? hi | exact List.getElem?_mem hi
  exact ⟨hm, good_of_word h1⟩
theorem goodIn_app {big a b : List Cond} (ha : GoodIn big a) (hb : GoodIn big b) : GoodIn big (a ++ b) := fun w h => (List.mem_append.mp h).elim (ha w) (hb w)
theorem goodIn_ca {big a b : List Cond} {c : Cond} (ha : GoodIn big (c :: a)) (hb : GoodIn big b) : GoodIn big (c :: (a ++ b)) := fun w h => (List.mem_cons.mp h).elim (fun e => ha w (List.mem_cons.mpr (Or.inl e))) (fun h => (List.mem_append.mp h).elim (fun h => ha w (List.mem_cons.mpr (Or.inr h))) (hb w))
theorem goodIn_sub {big ws : List Cond} (hm : ∀ w ∈ ws, w ∈ big) (h : ws.all goodWord = true) : GoodIn big ws := fun w hw => ⟨hm w hw, good_of_word (List.all_eq_true.mp h w hw)⟩
/-! ===== END ===== -/

/-! ===== BEGIN exceptions that leave a method, and their catching by the caller (launches without stack traces) ===== -/
section VXA
/-! The laws vx_back, vx_callV, vx_callS, vx_callSW, vx_throw0, vx_throwS follow proofs of the library, with one case more: JvmDerived/Free/Laws.lean (Back.of_free), Shelf42/LK1.lean (callV, callS), Shelf/KitTraced.lean (throwNew0V, throwNewS). -/
/-- where a method has thrown q: the class by its name, the cell, what was written, the world -/
def vx_T (XC : String → State → State → Prop) (st : State) (q : Addr) (t : State) (mc ms : Nat) (free : Addr → Prop) : Prop :=
  ∃ (E : String) (ce : Cell) (L : List Loc), XC E st t ∧ t.heap[q]? = some ce ∧ ce.vm = .none ∧ st.vm.findClass E = some ce.cls ∧ st.WarmedH t.vm ∧ st.sameButNew ({ t with vm := st.vm } : State) L mc ms ∧ ∀ z ∈ L, free z.base
def vx_Q (Qc : Array Value → State → Outcome → State → Prop) (XC : String → State → State → Prop) (mc ms : Nat) (free : Addr → Prop) : Array Value → State → Outcome → State → Prop := fun a st o t =>
  (Qc a st o t ∧ ∃ L, FrameEnd st o t L mc ms ∧ ∀ q ∈ L, free q.base) ∨ ∃ q, o = .threw q ∧ vx_T XC st q t mc ms free
/-- a callee that returns or throws -/
def vx_Met (l : Launch) (y : MethodName) (ws : List Cond) (rm : Room) (Pc : Array Value → State → Prop) (Qc : Array Value → State → Outcome → State → Prop) (XC : String → State → State → Prop) (mc ms : Nat) (free : Addr → Prop) : Prop :=
  MetFree l y (headSpec ws rm) Pc (fun _ _ _ _ _ => True) (vx_Q Qc XC mc ms free)
def vx_Post (XC : String → State → State → Prop) (mc ms : Nat) (free : Addr → Prop) : Pt → Array Value → Addr → Pt → Prop := fun A a q B =>
  ∃ (g : JFrame) (mk : MethodId) (t : State) (L : List Loc) (E : String) (ce : Cell), B.U.heap = t.heap ∧ B.U.vm = t.vm ∧ XC E (A.U.calling g mk a) t ∧ t.heap[q]? = some ce ∧ ce.vm = .none ∧ A.U.vm.findClass E = some ce.cls ∧ B.locs = A.locs ++ L ∧ (∀ z ∈ L, free z.base) ∧ B.cells = A.cells + mc ∧ B.slots = A.slots + ms
def vx_Back (l : Launch) (R : Room) (p : Program) (e : Env) (below : List Frame) (s : State) (sargs : Array Value) (y : MethodName) (len W9 : Nat)
    (Pre : Pt → Array Value → Prop) (Post : Pt → Array Value → Option Value → Pt → Prop) (PostX : Pt → Array Value → Addr → Pt → Prop) : Prop :=
  ∀ (m : MethodId) (meth : Method) (c : Code) (A : Pt) (g : JFrame) (ig : Instr) (mk : MethodId) (a : Array Value),
    Stand p l e R s m sargs below meth c A.U A.locs A.cells A.slots → g.method = m → g.locals.size = c.maxLocals → decode c.code g.pc = .ok (ig, len) →
    2 * g.monitorRoom + (g.stack.map fun v => v.category).sum ≤ W9 → A.U.methodNamed? y = some mk → Pre A a →
    (∃ (v : Option Value) (B : Pt), Stand p l e R s m sargs below meth c B.U B.locs B.cells B.slots ∧ Post A a v B ∧
      Steps p.tables e below (doInvoke e (A.U.setTop g) [] mk a).1 (B.U.setTop { g with pc := g.pc + len, stack := v.toList ++ g.stack })) ∨
    (∃ (q : Addr) (B : Pt), Stand p l e R s m sargs below meth c B.U B.locs B.cells B.slots ∧ PostX A a q B ∧
      Steps p.tables e below (doInvoke e (A.U.setTop g) [] mk a).1 ((B.U.setTop g).pushFrame (.throwing q)))
section Payer
variable {l : Launch} {R : Room} {p : Program} {e : Env} {below : List Frame} {s : State} {sargs : Array Value} {y : MethodName} {len W9 : Nat}
theorem vx_back {ws : List Cond} {rm : Room} {Pc : Array Value → State → Prop} {Qc : Array Value → State → Outcome → State → Prop} {XC : String → State → State → Prop} {mc ms : Nat} {free : Addr → Prop} {bytes : ByteArray} {maxL : Nat} {ret : Option FieldType}
    (hM : vx_Met l y ws rm Pc Qc XC mc ms free) (hblind : FrameBlind Pc) (hrc : rm.cells = mc) (hrs : rm.slots = ms)
    (hframes : rm.frames + 1 ≤ R.frames) (hlocals : W9 + (maxL + 11) + rm.locals ≤ R.locals)
    (hws : ∀ w ∈ ws, ∀ a' U, s.WarmedH U.vm → w.before a' U = true) (hcode : Cond.code y bytes maxL ret ∈ ws) (hinit : ∀ a' U, s.WarmedH U.vm → (Cond.initialized y.cls).before a' U = true) :
    vx_Back l R p e below s sargs y len W9 (PreOf R mc ms Pc) (PostOf Qc mc ms free) (vx_Post XC mc ms free) := by
  intro m meth c A g ig mk a X hg hsize hdg hW hn hp
  have h1 : (headSpec ws rm).pre.before a A.U = true := atoms_intro fun w hw => hws w hw _ _ X.warmed
  have h2 : (Cond.code y bytes maxL ret).before a A.U = true := hws _ hcode _ _ X.warmed
  have h3 : (Cond.initialized y.cls).before a A.U = true := hinit _ _ X.warmed
  have h4 : A.cells + (headSpec ws rm).room.cells ≤ R.cells := by rw [show (headSpec ws rm).room.cells = mc from hrc]; exact hp.1
  have h5 : A.slots + (headSpec ws rm).room.slots ≤ R.slots := by rw [show (headSpec ws rm).room.slots = ms from hrs]; exact hp.2.1
  have hPc : Pc a (A.U.calling g mk a) := hblind _ _ _ _ hp.2.2
  obtain ⟨U, Ls, c0, s0⟩ := A
  dsimp only [Pt.U, Pt.locs, Pt.cells, Pt.slots] at h1 h2 h3 h4 h5 X hn hPc ⊢
  obtain ⟨methY, cY, hmY, hcY, -, hlY, -, -, -, -⟩ := Cond.code_spec hn h2
  obtain ⟨kY, hkY, -⟩ := className_of_methodNamed hn
  have hinitY : kY.init = .initialized := Cond.initialized_spec (findClass_of_methodNamed hn) hkY h3
  have h : At U g.method c below := by rw [hg]; exact X.here
  have hlocals9 : W9 + (maxL + 11) + (headSpec ws rm).room.locals ≤ R.locals := hlocals
  have happ : (headSpec ws rm).appliesLoose y e.platform (U.calling g mk a) = true :=
    Spec.appliesLoose_calling (g := g) h hdg hn hkY hinitY
      (X.room_calling (g := g) (R' := (headSpec ws rm).room) hsize hmY hcY hframes (by rw [hlY]; omega) h4 h5) h1
  obtain ⟨mid, hmid⟩ := h.above
  have hfr : (U.setTop g).frames = (.java g :: mid) ++ below := by rw [State.frames_setTop' g h.top, hmid]; rfl
  obtain ⟨o, s₂, hsteps, -, hend, hq⟩ := Steps.callFree hM p X.admits X.cas X.clock (acts := []) hfr happ hPc trivial
  have hq' : vx_Q Qc XC mc ms free a (U.calling g mk a) o s₂ := hq
  rw [State.frames_setTop' g h.top] at hend
  obtain ⟨g₀, hg0⟩ := Option.isSome_iff_exists.mp h.top
  obtain ⟨r, hr⟩ := State.topJava?_eq_some.mp hg0
  have hr' : (({ U with heap := s₂.heap, slotsUsed := s₂.slotsUsed } : State).setVm s₂.vm).frames = .java g₀ :: r := hr
  rcases hq' with ⟨hqc, L, hfe, hL⟩ | ⟨q, rfl, E, ce, L, hx, hce, hcv, hcl, hW₂, hsm, hL⟩
  · obtain ⟨⟨v, rfl⟩, hW₂, e2, q2, q3, q4, q5, q6⟩ := id hfe
    have e3 : s₂ = ({ (U.calling g mk a).setFrames s₂.frames with heap := s₂.heap, slotsUsed := s₂.slotsUsed } : State).setVm s₂.vm := by
      have : s₂ = ({ s₂ with vm := (U.calling g mk a).vm } : State).setVm s₂.vm := rfl
      rw [e2] at this
      exact this
    obtain ⟨c₂, i₂, len₂, hc₂, hd₂, hf₂⟩ := hend
    have hW' : U.WarmedH s₂.vm := hW₂
    have hcc : c₂ = c := by
      have h1 : s₂.code? g.method = U.code? g.method := by
        rw [State.code?_eq, State.code?_eq, hW'.alike.method?]
      exact Option.some.inj (hc₂.symm.trans (h1.trans h.code))
    subst hcc
    have hlen : len₂ = len := by rw [hdg] at hd₂; cases hd₂; rfl
    subst hlen
    have hs₂ : s₂ = (({ U with heap := s₂.heap, slotsUsed := s₂.slotsUsed } : State).setVm s₂.vm).setTop { g with pc := g.pc + len₂, stack := v.toList ++ g.stack } := by
      refine e3.trans ?_
      rw [hf₂, State.calling_eq h.top, State.setFrames_setFrames, State.setTop_of_frames _ hr', hr]
      rfl
    have hsame : U.sameButNew ({ U with heap := s₂.heap, slotsUsed := s₂.slotsUsed } : State) L mc ms := by
      refine ⟨?_, q2, q3, q4, q5, q6⟩
      obtain ⟨t, ht, -⟩ := State.frames_cons hr
      show ({ U with heap := s₂.heap, slotsUsed := s₂.slotsUsed } : State) = { U.setFrames U.frames with heap := s₂.heap, slotsUsed := s₂.slotsUsed }
      rw [State.setFrames_self ht]
    subst hg
    refine Or.inl ⟨v, ⟨(({ U with heap := s₂.heap, slotsUsed := s₂.slotsUsed } : State).setVm s₂.vm), Ls ++ L, c0 + mc, s0 + ms⟩,
      ⟨X.admits, X.cas, X.clock, X.frames, X.room, X.hears, X.method, X.code, (X.here.setHeapUsed s₂.heap s₂.slotsUsed).setVm hW'.alike, X.tail, State.WarmedH.trans X.warmed hW', X.limits, X.bytes, X.same.trans (hsame.setVm s.vm)⟩,
      ⟨g, mk, s₂, L, rfl, rfl, hqc, rfl, hL, rfl, rfl⟩, ?_⟩
    show Steps p.tables e below _ ((({ U with heap := s₂.heap, slotsUsed := s₂.slotsUsed } : State).setVm s₂.vm).setTop { g with pc := g.pc + len₂, stack := v.toList ++ g.stack })
    rw [← hs₂]
    exact hsteps
  · obtain ⟨e2, q2, q3, q4, q5, q6⟩ := id hsm
    have e3 : s₂ = ({ (U.calling g mk a).setFrames s₂.frames with heap := s₂.heap, slotsUsed := s₂.slotsUsed } : State).setVm s₂.vm := by
      have : s₂ = ({ s₂ with vm := (U.calling g mk a).vm } : State).setVm s₂.vm := rfl
      rw [e2] at this
      exact this
    have hf₂ : s₂.frames = .throwing q :: .java g :: U.frames.tail := hend
    have hW' : U.WarmedH s₂.vm := hW₂
    have hs₂ : s₂ = ((({ U with heap := s₂.heap, slotsUsed := s₂.slotsUsed } : State).setVm s₂.vm).setTop g).pushFrame (.throwing q) := by
      refine e3.trans ?_
      rw [hf₂, State.calling_eq h.top, State.setFrames_setFrames, State.pushFrame, State.frames_setTop _ hr', State.setTop_of_frames _ hr', State.setFrames_setFrames, hr]
      rfl
    have hsame : U.sameButNew ({ U with heap := s₂.heap, slotsUsed := s₂.slotsUsed } : State) L mc ms := by
      refine ⟨?_, q2, q3, q4, q5, q6⟩
      obtain ⟨t, ht, -⟩ := State.frames_cons hr
      show ({ U with heap := s₂.heap, slotsUsed := s₂.slotsUsed } : State) = { U.setFrames U.frames with heap := s₂.heap, slotsUsed := s₂.slotsUsed }
      rw [State.setFrames_self ht]
    subst hg
    refine Or.inr ⟨q, ⟨(({ U with heap := s₂.heap, slotsUsed := s₂.slotsUsed } : State).setVm s₂.vm), Ls ++ L, c0 + mc, s0 + ms⟩,
      ⟨X.admits, X.cas, X.clock, X.frames, X.room, X.hears, X.method, X.code, (X.here.setHeapUsed s₂.heap s₂.slotsUsed).setVm hW'.alike, X.tail, State.WarmedH.trans X.warmed hW', X.limits, X.bytes, X.same.trans (hsame.setVm s.vm)⟩,
      ⟨g, mk, s₂, L, E, ce, rfl, rfl, hx, hce, hcv, hcl, rfl, hL, rfl, rfl⟩, ?_⟩
    show Steps p.tables e below _ (((({ U with heap := s₂.heap, slotsUsed := s₂.slotsUsed } : State).setVm s₂.vm).setTop g).pushFrame (.throwing q))
    rw [← hs₂]
    exact hsteps
end Payer
section Calls
variable {p : Program} {l : Launch} {e : Env} {R : Room} {s : State} {m : MethodId} {args : Array Value} {below : List Frame} {meth : Method} {c : Code} {T : State} {locs : List Loc} {cells slots : Nat}
theorem vx_callV (X : Stand p l e R s m args below meth c T locs cells slots) (hexec : p.tables.exec = Jvm.exec) {own C : String} {index : Nat} {y : MethodName} {bytes : ByteArray} {maxL : Nat} {ret : Option FieldType}
    (hown : s.vm.findClass own = some m.cls) (hlink : (Cond.methodLink own index y).before args s = true) (hinst : (Cond.instanceMethod y).before args s = true) (hsel : (Cond.selects C y y).before args s = true)
    (hcode : (Cond.code y bytes maxL ret).before args s = true) (hy : y.cls ≠ "java/lang/invoke/MethodHandle" ∧ y.cls ≠ "java/lang/invoke/VarHandle")
    {W9 : Nat} {Pre : Pt → Array Value → Prop} {Post : Pt → Array Value → Option Value → Pt → Prop} {PostX : Pt → Array Value → Addr → Pt → Prop} (hK : vx_Back l R p e below s args y 3 W9 Pre Post PostX)
    {b : Addr} {cellB : Cell} (hcell : T.heap[b]? = some cellB) (hobj : cellB.vm.isStatics = false) (hcls : s.vm.findClass C = some cellB.cls)
    {g : JFrame} (hg : g.method = m) (hsize : g.locals.size = c.maxLocals) {argsL rest : List Value} (hlen : ∀ sig, parseMethodDescriptor y.desc = some sig → argsL.length = sig.parameters.length)
    (hstack : g.stack = argsL.reverse ++ .ref b :: rest) (hW : 2 * g.monitorRoom + (rest.map fun v => v.category).sum ≤ W9) (hdg : decode c.code g.pc = .ok (.invokevirtual index, 3))
    (hpre : ∀ vm₁, s.WarmedH vm₁ → Pre ⟨T.setVm vm₁, locs, cells, slots⟩ (Value.ref b :: argsL).toArray) :
    (∃ (v : Option Value) (vm₁ : Vm) (B : Pt), s.WarmedH vm₁ ∧ Stand p l e R s m args below meth c B.U B.locs B.cells B.slots ∧ Post ⟨T.setVm vm₁, locs, cells, slots⟩ (Value.ref b :: argsL).toArray v B ∧
      ∀ target, Steps p.tables e below (B.U.setTop { g with pc := g.pc + 3, stack := v.toList ++ rest }) target → Steps p.tables e below (T.setTop g) target) ∨
    (∃ (q : Addr) (vm₁ : Vm) (B : Pt), s.WarmedH vm₁ ∧ Stand p l e R s m args below meth c B.U B.locs B.cells B.slots ∧ PostX ⟨T.setVm vm₁, locs, cells, slots⟩ (Value.ref b :: argsL).toArray q B ∧
      Steps p.tables e below (T.setTop g) ((B.U.setTop { g with stack := rest }).pushFrame (.throwing q))) := by
  obtain ⟨mk, methM, hnamed, hmethM, hstM, habM⟩ := Cond.instanceMethod_spec hinst
  obtain ⟨methM', cM, hmethM', -, -, -, -, -, -, hsigM⟩ := Cond.code_spec hnamed hcode
  cases hmethM.symm.trans hmethM'
  obtain ⟨c2, r2, m2, q1, q2, q3, q4, kP, hkP, hkPi⟩ := Cond.selects_spec hsel
  cases hcls.symm.trans q1
  cases (State.methodFound?_of_named hnamed hy).symm.trans q2
  cases hnamed.symm.trans q3
  have hselP : selectMethod e.platform s.vm cellB.cls mk = .method mk := by rw [Launch.admits_selectMethod X.admits]; exact q4
  obtain ⟨vm₁, X₁, hstep₁⟩ := X.invokevirtual hexec hown hlink hnamed hmethM hstM hkP hkPi hy (a := b) (cell := cellB) hcell
    (fun z h => by rw [h] at hobj; cases hobj) hselP hmethM habM hkP hkPi (g := g) hg (argsL := argsL) (rest := rest) (hlen _ hsigM) hstack hdg
  rcases hK m meth c ⟨T.setVm vm₁, locs, cells, slots⟩ { g with stack := rest } (.invokevirtual index) mk (Value.ref b :: argsL).toArray X₁ hg hsize hdg hW (X₁.named hnamed) (hpre vm₁ X₁.warmed) with ⟨v, B, X', hpost, hsteps⟩ | ⟨q, B, X', hpost, hsteps⟩
  · exact Or.inl ⟨v, vm₁, B, X₁.warmed, X', hpost, fun target h => hstep₁ _ fun acts => by rw [doInvoke_state]; exact hsteps.trans h⟩
  · exact Or.inr ⟨q, vm₁, B, X₁.warmed, X', hpost, hstep₁ _ fun acts => by rw [doInvoke_state]; exact hsteps⟩
theorem vx_callS (X : Stand p l e R s m args below meth c T locs cells slots) (hexec : p.tables.exec = Jvm.exec) {own : String} {index : Nat} {y : MethodName} {bytes : ByteArray} {maxL : Nat} {ret : Option FieldType}
    (hown : s.vm.findClass own = some m.cls) (hlink : (Cond.methodLink own index y).before args s = true) (hstat : (Cond.static y).before args s = true) (hinit : (Cond.initialized y.cls).before args s = true)
    (hcode : (Cond.code y bytes maxL ret).before args s = true) (hy : y.cls ≠ "java/lang/invoke/MethodHandle" ∧ y.cls ≠ "java/lang/invoke/VarHandle")
    {W9 : Nat} {Pre : Pt → Array Value → Prop} {Post : Pt → Array Value → Option Value → Pt → Prop} {PostX : Pt → Array Value → Addr → Pt → Prop} (hK : vx_Back l R p e below s args y 3 W9 Pre Post PostX)
    {g : JFrame} (hg : g.method = m) (hsize : g.locals.size = c.maxLocals) {argsL rest : List Value} (hlen : ∀ sig, parseMethodDescriptor y.desc = some sig → argsL.length = sig.parameters.length)
    (hstack : g.stack = argsL.reverse ++ rest) (hW : 2 * g.monitorRoom + (rest.map fun v => v.category).sum ≤ W9) (hdg : decode c.code g.pc = .ok (.invokestatic index, 3))
    (hpre : ∀ vm₁, s.WarmedH vm₁ → Pre ⟨T.setVm vm₁, locs, cells, slots⟩ argsL.toArray) :
    (∃ (v : Option Value) (vm₁ : Vm) (B : Pt), s.WarmedH vm₁ ∧ Stand p l e R s m args below meth c B.U B.locs B.cells B.slots ∧ Post ⟨T.setVm vm₁, locs, cells, slots⟩ argsL.toArray v B ∧
      ∀ target, Steps p.tables e below (B.U.setTop { g with pc := g.pc + 3, stack := v.toList ++ rest }) target → Steps p.tables e below (T.setTop g) target) ∨
    (∃ (q : Addr) (vm₁ : Vm) (B : Pt), s.WarmedH vm₁ ∧ Stand p l e R s m args below meth c B.U B.locs B.cells B.slots ∧ PostX ⟨T.setVm vm₁, locs, cells, slots⟩ argsL.toArray q B ∧
      Steps p.tables e below (T.setTop g) ((B.U.setTop { g with stack := rest }).pushFrame (.throwing q))) := by
  obtain ⟨mk, hnamed⟩ := Cond.code_named hcode
  obtain ⟨methM, cM, hmethM, -, -, -, -, -, -, hsigM⟩ := Cond.code_spec hnamed hcode
  have hstatic : methM.isStatic = true := Cond.static_spec hnamed hmethM hstat
  obtain ⟨kP, hkP, -⟩ := className_of_methodNamed hnamed
  have hinitP : kP.init = .initialized := Cond.initialized_spec (findClass_of_methodNamed hnamed) hkP hinit
  obtain ⟨vm₁, X₁, hstep₁⟩ := X.invokestatic hexec hown hlink hnamed hmethM hstatic hkP hinitP hy (g := g) hg (argsL := argsL) (rest := rest) (hlen _ hsigM) hstack hdg
  rcases hK m meth c ⟨T.setVm vm₁, locs, cells, slots⟩ { g with stack := rest } (.invokestatic index) mk argsL.toArray X₁ hg hsize hdg hW (X₁.named hnamed) (hpre vm₁ X₁.warmed) with ⟨v, B, X', hpost, hsteps⟩ | ⟨q, B, X', hpost, hsteps⟩
  · exact Or.inl ⟨v, vm₁, B, X₁.warmed, X', hpost, fun target h => hstep₁ _ fun acts => by rw [doInvoke_state]; exact hsteps.trans h⟩
  · exact Or.inr ⟨q, vm₁, B, X₁.warmed, X', hpost, hstep₁ _ fun acts => by rw [doInvoke_state]; exact hsteps⟩
end Calls
theorem vx_cls {s : State} {T : State} {vm₁ : Vm} {E : String} {k : ClassId} (hW : s.WarmedH vm₁) (h : (T.setVm vm₁).vm.findClass E = some k) : s.vm.findClass E = some k := by
  have h1 : vm₁.findClass E = some k := h
  rw [hW.alike.findClass] at h1
  exact h1
/-- the method's frame g, with q thrown over it -/
def vx_W (p : Program) (l : Launch) (e : Env) (R : Room) (s : State) (m : MethodId) (args : Array Value) (below : List Frame) (meth : Method) (c : Code) (H : Heap) (locs : List Loc) (cells slots : Nat) (Q : State → Prop) (g : JFrame) (q : Addr) : Prop :=
  ∀ T : State, T.heap = H → Stand p l e R s m args below meth c T locs cells slots → ∃ t, Steps p.tables e below ((T.setTop g).pushFrame (.throwing q)) t ∧ Q t
def vx_Run (p : Program) (l : Launch) (e : Env) (R : Room) (s : State) (m : MethodId) (args : Array Value) (below : List Frame) (meth : Method) (c : Code) (H : Heap) (locs : List Loc) (cells slots mc ms : Nat) (g : JFrame) (rest : List Value) (Qa : State → Outcome → State → Prop) (XC : String → State → State → Prop) (free : Addr → Prop) : Prop :=
  ∀ T : State, T.heap = H → Stand p l e R s m args below meth c T locs cells slots →
    (∃ (v : Option Value) (st₀ t T' : State) (L : List Loc), st₀.heap = H ∧ Stand p l e R s m args below meth c T' (locs ++ L) (cells + mc) (slots + ms) ∧ (∀ q ∈ L, free q.base) ∧ T'.heap = t.heap ∧ T'.vm = t.vm ∧ Qa st₀ (.returned v) t ∧
      Goes p e below T g T' { g with pc := g.pc + 3, stack := v.toList ++ rest }) ∨
    (∃ (q : Addr) (st₀ t T' : State) (L : List Loc) (E : String) (ce : Cell), st₀.heap = H ∧ Stand p l e R s m args below meth c T' (locs ++ L) (cells + mc) (slots + ms) ∧ (∀ z ∈ L, free z.base) ∧ T'.heap = t.heap ∧ T'.vm = t.vm ∧ XC E st₀ t ∧ t.heap[q]? = some ce ∧ ce.vm = .none ∧ s.vm.findClass E = some ce.cls ∧
      Steps p.tables e below (T.setTop g) ((T'.setTop { g with stack := rest }).pushFrame (.throwing q)))
def vx_X {S : Type} (px : S → Prop) (B : String → S → State → Prop) (A : Nat → Prop) : String → State → State → Prop := fun E st t => ∃ u : S, px u ∧ B E u t ∧ va_F A st t
section Runs
variable {p : Program} {l : Launch} {e : Env} {R : Room} {s : State} {m : MethodId} {args : Array Value} {below : List Frame} {meth : Method} {c : Code} {H : Heap} {locs : List Loc} {cells slots : Nat}
variable {y : MethodName} {bytes cc : ByteArray} {maxL nL mc ms n index : Nat} {ret : Option FieldType} {ws : List Cond} {rm : Room} {Pc : Array Value → State → Prop} {Qc : Array Value → State → Outcome → State → Prop} {XC : String → State → State → Prop} {free : Addr → Prop} {Ts : List Cond} {own C : String} {b : Addr} {As rest : List Value} {g : JFrame}
theorem vx_callBack (cb : CallB R s args own index y bytes maxL ret ws rm mc ms n) (hM : vx_Met l y ws rm Pc Qc XC mc ms free) (hbl : FrameBlind Pc) : vx_Back l R p e below s args y 3 8 (PreOf R mc ms Pc) (PostOf Qc mc ms free) (vx_Post XC mc ms free) := by
  obtain ⟨hrc, hrs, hfr, hlo, hws, hcw, -, hini, -⟩ := cb
  exact vx_back (bytes := bytes) (maxL := maxL) (ret := ret) hM hbl hrc hrs hfr hlo hws hcw (fun a' U hW => word_at hW (Or.inl (by first | rfl | simp [Cond.onTables, Cond.keeps, Cond.steady])) hini)
theorem vx_runV (S : CallFix p m c cc nL s args Ts own) (hM : vx_Met l y ws rm Pc Qc XC mc ms free) (cw : CallW R s args own C index y bytes maxL ret ws rm mc ms n) (hp : PreV s H C b Pc As)
    (hg : g.method = m) (hn : As.length = n) (hsize : g.locals.size = nL) (hstack : g.stack = As.reverse ++ .ref b :: rest) (hW : 2 * g.monitorRoom + (rest.map fun v => v.category).sum ≤ 8) (hdg : decode cc g.pc = .ok (.invokevirtual index, 3)) (hf : cells + mc ≤ R.cells ∧ slots + ms ≤ R.slots) :
    vx_Run p l e R s m args below meth c H locs cells slots mc ms g rest (Qc (Value.ref b :: As).toArray) XC free := by
  have hK : vx_Back l R p e below s args y 3 8 (PreOf R mc ms Pc) (PostOf Qc mc ms free) (vx_Post XC mc ms free) := vx_callBack cw.1 hM hp.1
  obtain ⟨⟨-, -, -, -, -, -, hcode, -, hy, hlen, hl⟩, hin, hse⟩ := cw
  obtain ⟨hx, hb, hml, ho, -⟩ := S
  obtain ⟨-, ⟨cellB, hcB, hoB, hclB⟩, hPc⟩ := hp
  intro T hT X
  rcases vx_callV X hx (C := C) (bytes := bytes) (maxL := maxL) (ret := ret) ho hl hin hse hcode hy hK (by rw [hT]; exact hcB) hoB hclB hg (hsize.trans hml.symm) (argsL := As) (rest := rest) (fun sig h => hn.trans (hlen sig h)) hstack hW (by rw [hb]; exact hdg)
    (fun vm₁ hW₁ => ⟨hf.1, hf.2, hPc (T.setVm vm₁) hT hW₁⟩) with ⟨v, vm₁, ⟨U', l2, c2, s2⟩, hW₁, X', ⟨g', mk, t, L, e1, e2, hq, h1, hL, h2, h3⟩, st⟩ | ⟨q, vm₁, ⟨U', l2, c2, s2⟩, hW₁, X', ⟨g', mk, t, L, E, ce, e1, e2, hq, hce, hcv, hcl, h1, hL, h2, h3⟩, st⟩
  · dsimp only [Pt.U, Pt.locs, Pt.cells, Pt.slots] at X' e1 e2 h1 h2 h3 st
    subst h1; subst h2; subst h3
    exact Or.inl ⟨v, (T.setVm vm₁).calling g' mk (Value.ref b :: As).toArray, t, U', L, hT, X', hL, e1, e2, hq, st⟩
  · dsimp only [Pt.U, Pt.locs, Pt.cells, Pt.slots] at X' e1 e2 h1 h2 h3 st hcl
    subst h1; subst h2; subst h3
    exact Or.inr ⟨q, (T.setVm vm₁).calling g' mk (Value.ref b :: As).toArray, t, U', L, E, ce, hT, X', hL, e1, e2, hq, hce, hcv, vx_cls hW₁ hcl, st⟩
theorem vx_runS (S : CallFix p m c cc nL s args Ts own) (hM : vx_Met l y ws rm Pc Qc XC mc ms free) (cw : CallB R s args own index y bytes maxL ret ws rm mc ms n ∧ (Cond.static y).before args s = true) (hp : PreS s H Pc As)
    (hg : g.method = m) (hn : As.length = n) (hsize : g.locals.size = nL) (hstack : g.stack = As.reverse ++ rest) (hW : 2 * g.monitorRoom + (rest.map fun v => v.category).sum ≤ 8) (hdg : decode cc g.pc = .ok (.invokestatic index, 3)) (hf : cells + mc ≤ R.cells ∧ slots + ms ≤ R.slots) :
    vx_Run p l e R s m args below meth c H locs cells slots mc ms g rest (Qc As.toArray) XC free := by
  have hK : vx_Back l R p e below s args y 3 8 (PreOf R mc ms Pc) (PostOf Qc mc ms free) (vx_Post XC mc ms free) := vx_callBack cw.1 hM hp.1
  obtain ⟨⟨-, -, -, -, -, -, hcode, hini, hy, hlen, hl⟩, hstt⟩ := cw
  obtain ⟨hx, hb, hml, ho, -⟩ := S
  intro T hT X
  rcases vx_callS X hx (bytes := bytes) (maxL := maxL) (ret := ret) ho hl hstt hini hcode hy hK hg (hsize.trans hml.symm) (argsL := As) (rest := rest) (fun sig h => hn.trans (hlen sig h)) hstack hW (by rw [hb]; exact hdg)
    (fun vm₁ hW₁ => ⟨hf.1, hf.2, hp.2 (T.setVm vm₁) hT hW₁⟩) with ⟨v, vm₁, ⟨U', l2, c2, s2⟩, hW₁, X', ⟨g', mk, t, L, e1, e2, hq, h1, hL, h2, h3⟩, st⟩ | ⟨q, vm₁, ⟨U', l2, c2, s2⟩, hW₁, X', ⟨g', mk, t, L, E, ce, e1, e2, hq, hce, hcv, hcl, h1, hL, h2, h3⟩, st⟩
  · dsimp only [Pt.U, Pt.locs, Pt.cells, Pt.slots] at X' e1 e2 h1 h2 h3 st
    subst h1; subst h2; subst h3
    exact Or.inl ⟨v, (T.setVm vm₁).calling g' mk As.toArray, t, U', L, hT, X', hL, e1, e2, hq, st⟩
  · dsimp only [Pt.U, Pt.locs, Pt.cells, Pt.slots] at X' e1 e2 h1 h2 h3 st hcl
    subst h1; subst h2; subst h3
    exact Or.inr ⟨q, (T.setVm vm₁).calling g' mk As.toArray, t, U', L, E, ce, hT, X', hL, e1, e2, hq, hce, hcv, vx_cls hW₁ hcl, st⟩
end Runs
section Rows
variable {p : Program} {l : Launch} {e : Env} {R : Room} {s : State} {m : MethodId} {args : Array Value} {below : List Frame} {meth : Method} {c : Code} {H : Heap} {locs : List Loc} {cells slots : Nat} {Q : State → Prop}
variable {mc ms : Nat} {free : Addr → Prop} {A0 A1 : Nat → Prop} {H0 : Heap} {a : Array Value} {pc : Nat} {ls : Array Slot} {st0 rest : List Value}
theorem vx_keep {st₀ t T' : State} {L : List Loc} (h0 : st₀.heap = H) (e1 : T'.heap = t.heap) (hS : va_S A0 H0 H locs) (hA : ∀ q, q < H.size → A1 q → A0 q) (hf : ∀ q, free q → A0 q) (hL : ∀ q ∈ L, free q.base) (hF : va_F A1 st₀ t) :
    H.size ≤ T'.heap.size ∧ (∀ q : Nat, q < H.size → ¬ A1 q → T'.heap[q]? = H[q]?) ∧ va_S A0 H0 T'.heap (locs ++ L) := by
  obtain ⟨hz, hk⟩ := hF
  rw [h0] at hz hk
  exact ⟨by rw [e1]; exact hz, fun q h1 h2 => by rw [e1]; exact hk q h1 h2,
    ⟨Nat.le_trans hS.1 (by rw [e1]; exact hz), fun q h1 h2 => by rw [e1, hk q (Nat.lt_of_lt_of_le h1 hS.1) (fun z => h2 (hA q (Nat.lt_of_lt_of_le h1 hS.1) z))]; exact hS.2.1 q h1 h2, fun q hq => by
      rcases List.mem_append.mp hq with h | h
      · exact hS.2.2 q h
      · exact hf _ (hL q h)⟩⟩
theorem vx_calli {S SX : Type} {post : Int32 → S → Prop} {px : SX → Prop} {B : S → State → Prop} {BX : String → SX → State → Prop} {AX : Nat → Prop} (hr : vx_Run p l e R s m args below meth c H locs cells slots mc ms (F0 m pc ls st0) rest (va_Qi post B A1 a) (vx_X px BX AX) free) (hS : va_S A0 H0 H locs) (hA : ∀ q, q < H.size → A1 q → A0 q) (hf : ∀ q, free q → A0 q) (hAX : ∀ q, q < H.size → AX q → A0 q)
    (kx : ∀ (E : String) (ce : Cell) (q9 : Addr) (u : SX) (t : State) (H1 : Heap) (locs1 : List Loc), t.heap = H1 → s.vm.Alike t.vm → px u → BX E u t → H.size ≤ H1.size → (∀ q : Nat, q < H.size → ¬ AX q → H1[q]? = H[q]?) → va_S A0 H0 H1 locs1 → H1[q9]? = some ce → ce.vm = .none → s.vm.findClass E = some ce.cls → vx_W p l e R s m args below meth c H1 locs1 (cells + mc) (slots + ms) Q (F0 m pc ls rest) q9)
    (kk : ∀ (r : Int32) (u : S) (t : State) (H1 : Heap) (locs1 : List Loc), t.heap = H1 → s.vm.Alike t.vm → post r u → B u t → H.size ≤ H1.size → (∀ q : Nat, q < H.size → ¬ A1 q → H1[q]? = H[q]?) → va_S A0 H0 H1 locs1 → W p l e R s m args below meth c H1 locs1 (cells + mc) (slots + ms) Q (F0 m (pc + 3) ls (.int r :: rest))) : W p l e R s m args below meth c H locs cells slots Q (F0 m pc ls st0) := by
  intro T hT X
  rcases hr T hT X with ⟨v, st₀, t, T', L, h0, X', hL, e1, e2, ⟨⟨r, u, hv, hp, hb⟩, hF⟩, st⟩ | ⟨q, st₀, t, T', L, E, ce, h0, X', hL, e1, e2, ⟨u, hp, hb, hF⟩, hce, hcv, hcl, st⟩
  · cases hv
    obtain ⟨k1, k2, k3⟩ := vx_keep h0 e1 hS hA hf hL hF
    obtain ⟨t2, a1, b1⟩ := kk r u t T'.heap (locs ++ L) e1.symm (by rw [← e2]; exact X'.warmed.alike) hp hb k1 k2 k3 T' rfl X'
    exact ⟨t2, st t2 a1, b1⟩
  · obtain ⟨k1, k2, k3⟩ := vx_keep h0 e1 hS hAX hf hL hF
    obtain ⟨t2, a1, b1⟩ := kx E ce q u t T'.heap (locs ++ L) e1.symm (by rw [← e2]; exact X'.warmed.alike) hp hb k1 k2 k3 (by rw [e1]; exact hce) hcv hcl T' rfl X'
    exact ⟨t2, st.trans a1, b1⟩
theorem vx_calll {S SX : Type} {post : Int64 → S → Prop} {px : SX → Prop} {B : S → State → Prop} {BX : String → SX → State → Prop} {AX : Nat → Prop} (hr : vx_Run p l e R s m args below meth c H locs cells slots mc ms (F0 m pc ls st0) rest (va_Ql post B A1 a) (vx_X px BX AX) free) (hS : va_S A0 H0 H locs) (hA : ∀ q, q < H.size → A1 q → A0 q) (hf : ∀ q, free q → A0 q) (hAX : ∀ q, q < H.size → AX q → A0 q)
    (kx : ∀ (E : String) (ce : Cell) (q9 : Addr) (u : SX) (t : State) (H1 : Heap) (locs1 : List Loc), t.heap = H1 → s.vm.Alike t.vm → px u → BX E u t → H.size ≤ H1.size → (∀ q : Nat, q < H.size → ¬ AX q → H1[q]? = H[q]?) → va_S A0 H0 H1 locs1 → H1[q9]? = some ce → ce.vm = .none → s.vm.findClass E = some ce.cls → vx_W p l e R s m args below meth c H1 locs1 (cells + mc) (slots + ms) Q (F0 m pc ls rest) q9)
    (kk : ∀ (r : Int64) (u : S) (t : State) (H1 : Heap) (locs1 : List Loc), t.heap = H1 → s.vm.Alike t.vm → post r u → B u t → H.size ≤ H1.size → (∀ q : Nat, q < H.size → ¬ A1 q → H1[q]? = H[q]?) → va_S A0 H0 H1 locs1 → W p l e R s m args below meth c H1 locs1 (cells + mc) (slots + ms) Q (F0 m (pc + 3) ls (.long r :: rest))) : W p l e R s m args below meth c H locs cells slots Q (F0 m pc ls st0) := by
  intro T hT X
  rcases hr T hT X with ⟨v, st₀, t, T', L, h0, X', hL, e1, e2, ⟨⟨r, u, hv, hp, hb⟩, hF⟩, st⟩ | ⟨q, st₀, t, T', L, E, ce, h0, X', hL, e1, e2, ⟨u, hp, hb, hF⟩, hce, hcv, hcl, st⟩
  · cases hv
    obtain ⟨k1, k2, k3⟩ := vx_keep h0 e1 hS hA hf hL hF
    obtain ⟨t2, a1, b1⟩ := kk r u t T'.heap (locs ++ L) e1.symm (by rw [← e2]; exact X'.warmed.alike) hp hb k1 k2 k3 T' rfl X'
    exact ⟨t2, st t2 a1, b1⟩
  · obtain ⟨k1, k2, k3⟩ := vx_keep h0 e1 hS hAX hf hL hF
    obtain ⟨t2, a1, b1⟩ := kx E ce q u t T'.heap (locs ++ L) e1.symm (by rw [← e2]; exact X'.warmed.alike) hp hb k1 k2 k3 (by rw [e1]; exact hce) hcv hcl T' rfl X'
    exact ⟨t2, st.trans a1, b1⟩
theorem vx_callf {S SX : Type} {post : UInt32 → S → Prop} {px : SX → Prop} {B : S → State → Prop} {BX : String → SX → State → Prop} {AX : Nat → Prop} (hr : vx_Run p l e R s m args below meth c H locs cells slots mc ms (F0 m pc ls st0) rest (va_Qf post B A1 a) (vx_X px BX AX) free) (hS : va_S A0 H0 H locs) (hA : ∀ q, q < H.size → A1 q → A0 q) (hf : ∀ q, free q → A0 q) (hAX : ∀ q, q < H.size → AX q → A0 q)
    (kx : ∀ (E : String) (ce : Cell) (q9 : Addr) (u : SX) (t : State) (H1 : Heap) (locs1 : List Loc), t.heap = H1 → s.vm.Alike t.vm → px u → BX E u t → H.size ≤ H1.size → (∀ q : Nat, q < H.size → ¬ AX q → H1[q]? = H[q]?) → va_S A0 H0 H1 locs1 → H1[q9]? = some ce → ce.vm = .none → s.vm.findClass E = some ce.cls → vx_W p l e R s m args below meth c H1 locs1 (cells + mc) (slots + ms) Q (F0 m pc ls rest) q9)
    (kk : ∀ (r : UInt32) (u : S) (t : State) (H1 : Heap) (locs1 : List Loc), t.heap = H1 → s.vm.Alike t.vm → post r u → B u t → H.size ≤ H1.size → (∀ q : Nat, q < H.size → ¬ A1 q → H1[q]? = H[q]?) → va_S A0 H0 H1 locs1 → W p l e R s m args below meth c H1 locs1 (cells + mc) (slots + ms) Q (F0 m (pc + 3) ls (.float r :: rest))) : W p l e R s m args below meth c H locs cells slots Q (F0 m pc ls st0) := by
  intro T hT X
  rcases hr T hT X with ⟨v, st₀, t, T', L, h0, X', hL, e1, e2, ⟨⟨r, u, hv, hp, hb⟩, hF⟩, st⟩ | ⟨q, st₀, t, T', L, E, ce, h0, X', hL, e1, e2, ⟨u, hp, hb, hF⟩, hce, hcv, hcl, st⟩
  · cases hv
    obtain ⟨k1, k2, k3⟩ := vx_keep h0 e1 hS hA hf hL hF
    obtain ⟨t2, a1, b1⟩ := kk r u t T'.heap (locs ++ L) e1.symm (by rw [← e2]; exact X'.warmed.alike) hp hb k1 k2 k3 T' rfl X'
    exact ⟨t2, st t2 a1, b1⟩
  · obtain ⟨k1, k2, k3⟩ := vx_keep h0 e1 hS hAX hf hL hF
    obtain ⟨t2, a1, b1⟩ := kx E ce q u t T'.heap (locs ++ L) e1.symm (by rw [← e2]; exact X'.warmed.alike) hp hb k1 k2 k3 (by rw [e1]; exact hce) hcv hcl T' rfl X'
    exact ⟨t2, st.trans a1, b1⟩
theorem vx_calld {S SX : Type} {post : UInt64 → S → Prop} {px : SX → Prop} {B : S → State → Prop} {BX : String → SX → State → Prop} {AX : Nat → Prop} (hr : vx_Run p l e R s m args below meth c H locs cells slots mc ms (F0 m pc ls st0) rest (va_Qd post B A1 a) (vx_X px BX AX) free) (hS : va_S A0 H0 H locs) (hA : ∀ q, q < H.size → A1 q → A0 q) (hf : ∀ q, free q → A0 q) (hAX : ∀ q, q < H.size → AX q → A0 q)
    (kx : ∀ (E : String) (ce : Cell) (q9 : Addr) (u : SX) (t : State) (H1 : Heap) (locs1 : List Loc), t.heap = H1 → s.vm.Alike t.vm → px u → BX E u t → H.size ≤ H1.size → (∀ q : Nat, q < H.size → ¬ AX q → H1[q]? = H[q]?) → va_S A0 H0 H1 locs1 → H1[q9]? = some ce → ce.vm = .none → s.vm.findClass E = some ce.cls → vx_W p l e R s m args below meth c H1 locs1 (cells + mc) (slots + ms) Q (F0 m pc ls rest) q9)
    (kk : ∀ (r : UInt64) (u : S) (t : State) (H1 : Heap) (locs1 : List Loc), t.heap = H1 → s.vm.Alike t.vm → post r u → B u t → H.size ≤ H1.size → (∀ q : Nat, q < H.size → ¬ A1 q → H1[q]? = H[q]?) → va_S A0 H0 H1 locs1 → W p l e R s m args below meth c H1 locs1 (cells + mc) (slots + ms) Q (F0 m (pc + 3) ls (.double r :: rest))) : W p l e R s m args below meth c H locs cells slots Q (F0 m pc ls st0) := by
  intro T hT X
  rcases hr T hT X with ⟨v, st₀, t, T', L, h0, X', hL, e1, e2, ⟨⟨r, u, hv, hp, hb⟩, hF⟩, st⟩ | ⟨q, st₀, t, T', L, E, ce, h0, X', hL, e1, e2, ⟨u, hp, hb, hF⟩, hce, hcv, hcl, st⟩
  · cases hv
    obtain ⟨k1, k2, k3⟩ := vx_keep h0 e1 hS hA hf hL hF
    obtain ⟨t2, a1, b1⟩ := kk r u t T'.heap (locs ++ L) e1.symm (by rw [← e2]; exact X'.warmed.alike) hp hb k1 k2 k3 T' rfl X'
    exact ⟨t2, st t2 a1, b1⟩
  · obtain ⟨k1, k2, k3⟩ := vx_keep h0 e1 hS hAX hf hL hF
    obtain ⟨t2, a1, b1⟩ := kx E ce q u t T'.heap (locs ++ L) e1.symm (by rw [← e2]; exact X'.warmed.alike) hp hb k1 k2 k3 (by rw [e1]; exact hce) hcv hcl T' rfl X'
    exact ⟨t2, st.trans a1, b1⟩
theorem vx_callv {S SX : Type} {post : S → Prop} {px : SX → Prop} {B : S → State → Prop} {BX : String → SX → State → Prop} {AX : Nat → Prop} (hr : vx_Run p l e R s m args below meth c H locs cells slots mc ms (F0 m pc ls st0) rest (va_Qv post B A1 a) (vx_X px BX AX) free) (hS : va_S A0 H0 H locs) (hA : ∀ q, q < H.size → A1 q → A0 q) (hf : ∀ q, free q → A0 q) (hAX : ∀ q, q < H.size → AX q → A0 q)
    (kx : ∀ (E : String) (ce : Cell) (q9 : Addr) (u : SX) (t : State) (H1 : Heap) (locs1 : List Loc), t.heap = H1 → s.vm.Alike t.vm → px u → BX E u t → H.size ≤ H1.size → (∀ q : Nat, q < H.size → ¬ AX q → H1[q]? = H[q]?) → va_S A0 H0 H1 locs1 → H1[q9]? = some ce → ce.vm = .none → s.vm.findClass E = some ce.cls → vx_W p l e R s m args below meth c H1 locs1 (cells + mc) (slots + ms) Q (F0 m pc ls rest) q9)
    (kk : ∀ (u : S) (t : State) (H1 : Heap) (locs1 : List Loc), t.heap = H1 → s.vm.Alike t.vm → post u → B u t → H.size ≤ H1.size → (∀ q : Nat, q < H.size → ¬ A1 q → H1[q]? = H[q]?) → va_S A0 H0 H1 locs1 → W p l e R s m args below meth c H1 locs1 (cells + mc) (slots + ms) Q (F0 m (pc + 3) ls (rest))) : W p l e R s m args below meth c H locs cells slots Q (F0 m pc ls st0) := by
  intro T hT X
  rcases hr T hT X with ⟨v, st₀, t, T', L, h0, X', hL, e1, e2, ⟨⟨u, hv, hp, hb⟩, hF⟩, st⟩ | ⟨q, st₀, t, T', L, E, ce, h0, X', hL, e1, e2, ⟨u, hp, hb, hF⟩, hce, hcv, hcl, st⟩
  · cases hv
    obtain ⟨k1, k2, k3⟩ := vx_keep h0 e1 hS hA hf hL hF
    obtain ⟨t2, a1, b1⟩ := kk u t T'.heap (locs ++ L) e1.symm (by rw [← e2]; exact X'.warmed.alike) hp hb k1 k2 k3 T' rfl X'
    exact ⟨t2, st t2 a1, b1⟩
  · obtain ⟨k1, k2, k3⟩ := vx_keep h0 e1 hS hAX hf hL hF
    obtain ⟨t2, a1, b1⟩ := kx E ce q u t T'.heap (locs ++ L) e1.symm (by rw [← e2]; exact X'.warmed.alike) hp hb k1 k2 k3 (by rw [e1]; exact hce) hcv hcl T' rfl X'
    exact ⟨t2, st.trans a1, b1⟩
/-- caught by the row x of this method's table; the rows ahead don't take it -/
theorem vx_catch {own name : String} {E : String} {ce : Cell} {q : Addr} (hown : s.vm.findClass own = some m.cls) (pre : List ExceptionTableEntry) (x : ExceptionTableEntry) (suf : List ExceptionTableEntry) (hsplit : c.exceptionTable.toList = pre ++ x :: suf)
    (hpass : ∀ z ∈ pre, covers z pc = false ∨ (z.catchType ≠ 0 ∧ ∃ nm : String, (Cond.classLink own z.catchType nm).before args s = true ∧ va_Nc E nm s)) (hx : covers x pc = true) (h0 : x.catchType ≠ 0)
    (hlink : (Cond.classLink own x.catchType name).before args s = true) (hcast : (Cond.castable E name).before args s = true) (hcell : H[q]? = some ce) (hv : ce.vm = .none) (hcl : s.vm.findClass E = some ce.cls)
    (kk : W p l e R s m args below meth c H locs cells slots Q (F0 m x.handlerPc ls [.ref q])) : vx_W p l e R s m args below meth c H locs cells slots Q (F0 m pc ls rest) q := by
  intro T hT X
  have hpl : e.platform.magicAccessors = ({} : Platform).magicAccessors := by rw [X.admits.platform]
  obtain ⟨c3, c4, hc3, hc4, hasg⟩ := Cond.castable_spec hcast
  cases Option.some.inj (hc3.symm.trans hcl)
  obtain ⟨c5, hc5, hcl5⟩ := Cond.classLink_spec hown hlink e.platform hpl
  cases Option.some.inj (hc4.symm.trans hc5)
  obtain ⟨vm', X', st⟩ := X.thenCaughtThrough q (g := F0 m pc ls rest) rfl (Steps.refl _) (by rw [hT]; exact hcell) (by rw [hv]; rfl) (by obtain ⟨k9, h9, -⟩ := Vm.findClass_spec hcl; exact ⟨k9, h9⟩) pre x suf hsplit
    (fun z hz => by
      rcases hpass z hz with h | ⟨hz0, nm, hl1, hn1⟩
      · exact Or.inl h
      · obtain ⟨c6, hc6, hcl6⟩ := Cond.classLink_spec hown hl1 e.platform hpl
        obtain ⟨a8, b8, h1, h2, h3⟩ := hn1
        cases Option.some.inj (h1.symm.trans hcl)
        cases Option.some.inj (h2.symm.trans hc6)
        exact Or.inr ⟨hz0, _, hcl6, h3⟩) hx (Or.inr ⟨h0, c4, hcl5, hasg⟩)
  obtain ⟨t, a1, b1⟩ := kk (T.setVm vm') hT X'
  exact ⟨t, st.trans a1, b1⟩
end Rows
section Ends
variable {p : Program} {l : Launch} {e : Env} {R : Room} {s : State} {m : MethodId} {args : Array Value} {below : List Frame} {meth : Method} {c : Code} {H : Heap} {locs : List Loc} {cells slots : Nat} {Q : State → Prop}
variable {mc ms : Nat} {free : Addr → Prop} {A0 A1 : Nat → Prop} {H0 : Heap} {a : Array Value} {ls : Array Slot} {st0 rest : List Value}
variable {Qc : Array Value → State → Outcome → State → Prop} {XC : String → State → State → Prop}
/-- what a body that may throw owes at its end -/
def vx_MQ (below : List Frame) (Qc : Array Value → State → Outcome → State → Prop) (XC : String → State → State → Prop) (a : Array Value) (s : State) (mc ms : Nat) (free : Addr → Prop) : State → Prop := fun t =>
  ∃ o, t.status = .running ∧ Ended t below o ∧ vx_Q Qc XC mc ms free a s o t
theorem vx_ret {g : JFrame} {mc ms : Nat} (k : W p l e R s m args below meth c H locs cells slots (MQ below Qc args s mc ms free) g) : W p l e R s m args below meth c H locs cells slots (vx_MQ below Qc XC args s mc ms free) g := by
  intro T hT X
  obtain ⟨t, a1, o, b1, b2, b3, b4⟩ := k T hT X
  exact ⟨t, a1, o, b1, b2, Or.inl ⟨b3, b4⟩⟩
/-- not caught here: it goes on to the caller -/
theorem vx_widen {g : JFrame} {q : Addr} {k n : Nat} (h1 : cells ≤ k) (h2 : slots ≤ n) (kk : vx_W p l e R s m args below meth c H locs k n Q g q) : vx_W p l e R s m args below meth c H locs cells slots Q g q := fun T hT X => kk T hT (stand_widen X h1 h2)
theorem vx_out {pc : Nat} {E : String} {ce : Cell} {q : Addr} {mc ms : Nat} (hout : ∀ x ∈ c.exceptionTable.toList, covers x pc = false) (hlocks : meth.locks = false) (hcell : H[q]? = some ce) (hv : ce.vm = .none) (hcl : s.vm.findClass E = some ce.cls)
    (hx : ∀ t : State, t.heap = H → s.vm.Alike t.vm → XC E s t) (hf : ∀ z ∈ locs, free z.base) (hc : cells ≤ mc) (hs : slots ≤ ms) :
    vx_W p l e R s m args below meth c H locs cells slots (vx_MQ below Qc XC args s mc ms free) (F0 m pc ls rest) q := by
  intro T hT X
  obtain ⟨st1, hrun, hend, hW, hsm⟩ := X.leaveThrown q (g := F0 m pc ls rest) rfl rfl rfl hout hlocks
  have hcell9 : (T.setFrames (.throwing q :: below)).heap[q]? = some ce := by
    show T.heap[q]? = some ce
    rw [hT]; exact hcell
  exact ⟨_, st1, .threw q, hrun, hend, Or.inr ⟨q, rfl, E, ce, locs, hx _ hT hW.alike, hcell9, hv, hcl, hW, hsm.mono hc hs, hf⟩⟩
theorem vx_frame {U : State} {k n : Nat} (h : s.sameButNew ({ U with vm := s.vm } : State) locs k n) : s.heap.size ≤ U.heap.size ∧ ∀ q : Nat, q < s.heap.size → (∀ z ∈ locs, z.base ≠ q) → U.heap[q]? = s.heap[q]? := by
  obtain ⟨-, h2, -, -, -, h6⟩ := h
  refine ⟨h2, fun q hq hz => ?_⟩
  obtain ⟨c9, e1, e2, e3, e4⟩ := h6 q _ (Array.getElem?_eq_getElem hq)
  have hs : c9.slots = (s.heap[q]).slots := Array.ext_getElem? fun i => e4 i fun hm => hz _ hm rfl
  have h9 : c9 = s.heap[q] := by
    rw [hs] at e2
    exact e2
  have e5 : U.heap[q]? = some c9 := e1
  rw [e5, h9, Array.getElem?_eq_getElem hq]
/-- the words of a throw but the four that speak of the heap -/
def vx_no (w : Cond) : Bool := decide (w ≠ .isRef (.static Bundle.tN "UNASSIGNED_STACK" Bundle.steD)) && decide (w ≠ .isRef (.static Bundle.tN "SUPPRESSED_SENTINEL" Bundle.listD)) && decide (w ≠ .laysStatic Bundle.tN "UNASSIGNED_STACK" Bundle.steD) && decide (w ≠ .laysStatic Bundle.tN "SUPPRESSED_SENTINEL" Bundle.listD)
def vx_at0 (own : String) (ic : Nat) (X : String) (names : List String) : List Cond := (Bundle.ownAtoms0 own ic X names).filter vx_no
def vx_atS (own : String) (ic : Nat) (X : String) (names : List String) : List Cond := (Bundle.ownAtoms own ic X names).filter vx_no
/-- a word that the tables alone decide, or a good one -/
def vx_ot (w : Cond) : Bool := w.onTables || goodWord w
theorem vx_ot_at {args a' : Array Value} {s U : State} {w : Cond} (hW : s.WarmedH U.vm) (hvm : s.vm = U.vm) (hg : vx_ot w = true) (h : w.before args s = true) : w.before a' U = true := by
  simp only [vx_ot, Bool.or_eq_true] at hg
  rcases hg with hg | hg
  · exact va_tabs hg hvm h
  · exact word_at hW (good_of_word hg) h
/-- a list's words: the good ones out of the method's own list, the others by premises of their own -/
theorem vx_hat {args : Array Value} {s : State} {L B : List Cond} (h1 : ∀ w ∈ L.filter goodWord, w.before args s = true) (h2 : ∀ w ∈ L.filter (fun w => !goodWord w), w ∈ B) (h3 : ∀ w ∈ B, w.before args s = true) : ∀ w ∈ L, w.before args s = true := by
  intro w hw
  by_cases g : goodWord w = true
  · exact h1 w (List.mem_filter.mpr ⟨hw, g⟩)
  · refine h3 w (h2 w (List.mem_filter.mpr ⟨hw, ?_⟩))
    show (!goodWord w) = true
    cases hgw : goodWord w
    · rfl
    · exact absurd hgw g
theorem vx_c {args : Array Value} {s : State} {w : Cond} {B : List Cond} (h : w.before args s = true) (t : ∀ w ∈ B, w.before args s = true) : ∀ w' ∈ w :: B, w'.before args s = true := fun w' h' => (List.mem_cons.mp h').elim (fun e => by rw [e]; exact h) (t w')
theorem vx_n {args : Array Value} {s : State} : ∀ w ∈ ([] : List Cond), w.before args s = true := fun _ h => nomatch h
theorem vx_own {args : Array Value} {s : State} {L : List Cond} (h1 : ∀ w ∈ L.filter vx_no, w.before args s = true)
    (hU : (Cond.isRef (.static Bundle.tN "UNASSIGNED_STACK" Bundle.steD)).before args s = true) (hN : (Cond.isRef (.static Bundle.tN "SUPPRESSED_SENTINEL" Bundle.listD)).before args s = true)
    (lU : (Cond.laysStatic Bundle.tN "UNASSIGNED_STACK" Bundle.steD).before args s = true) (lN : (Cond.laysStatic Bundle.tN "SUPPRESSED_SENTINEL" Bundle.listD).before args s = true) : ∀ w ∈ L, w.before args s = true := by
  intro w hw
  by_cases e1 : w = .isRef (.static Bundle.tN "UNASSIGNED_STACK" Bundle.steD)
  · rw [e1]; exact hU
  · by_cases e2 : w = .isRef (.static Bundle.tN "SUPPRESSED_SENTINEL" Bundle.listD)
    · rw [e2]; exact hN
    · by_cases e3 : w = .laysStatic Bundle.tN "UNASSIGNED_STACK" Bundle.steD
      · rw [e3]; exact lU
      · by_cases e4 : w = .laysStatic Bundle.tN "SUPPRESSED_SENTINEL" Bundle.listD
        · rw [e4]; exact lN
        · exact h1 w (List.mem_filter.mpr ⟨hw, by unfold vx_no; rw [decide_eq_true e1, decide_eq_true e2, decide_eq_true e3, decide_eq_true e4]; rfl⟩)
/-- where a static field lies, its class's statics cell in H -/
def vx_L (C n d : String) (A : Nat → Prop) (U : State) (H : Heap) : Prop := ∃ (c : ClassId) (k : Class) (i : Nat) (f : Field) (a : Nat) (cell : Cell), U.vm.findClass C = some c ∧ U.fieldFound? C n d = some (c, k, i, f) ∧ f.isStatic = true ∧ k.statics = some a ∧ H[a]? = some cell ∧ cell.vm.isStatics = true ∧ cell.cls = c ∧ f.slot < cell.slots.size ∧ k.staticTypes[f.slot]? = some f.type ∧ ¬ A a
theorem vx_L.moved {C n d : String} {A : Nat → Prop} {u U : State} {H : Heap} (hvm : u.vm.Alike U.vm) (h : vx_L C n d A u H) : vx_L C n d A U H := by
  obtain ⟨c, k, i, f, a, cell, h1, h2, h3, h4, h5, h6, h7, h8, h9, h10⟩ := h
  obtain ⟨k', hi', he⟩ := State.fieldFound?_setVm hvm h2
  exact ⟨c, k', i, f, a, cell, by rw [hvm.findClass]; exact h1, hi', h3, by rw [he]; exact h4, h5, h6, h7, h8, by rw [he]; exact h9, h10⟩
theorem vx_L.kept {C n d : String} {A : Nat → Prop} {U : State} {H H1 : Heap} (h : vx_L C n d A U H) (hq : ∀ a : Nat, a < H.size → ¬ A a → H1[a]? = H[a]?) : vx_L C n d A U H1 := by
  obtain ⟨c, k, i, f, a, cell, h1, h2, h3, h4, h5, h6, h7, h8, h9, h10⟩ := h
  exact ⟨c, k, i, f, a, cell, h1, h2, h3, h4, by rw [hq a (Array.getElem?_eq_some_iff.mp h5).1 h10]; exact h5, h6, h7, h8, h9, h10⟩
theorem vx_L.narrow {C n d : String} {A B : Nat → Prop} {U : State} {H : Heap} (h : vx_L C n d A U H) (hAB : ∀ q, B q → A q) : vx_L C n d B U H := by
  obtain ⟨c, k, i, f, a, cell, h1, h2, h3, h4, h5, h6, h7, h8, h9, h10⟩ := h
  exact ⟨c, k, i, f, a, cell, h1, h2, h3, h4, h5, h6, h7, h8, h9, fun z => h10 (hAB _ z)⟩
theorem vx_L.word {C n d : String} {A : Nat → Prop} {s : State} {args : Array Value} (h : vx_L C n d A s s.heap) : (Cond.laysStatic C n d).before args s = true := by
  obtain ⟨c, k, i, f, a, cell, h1, h2, h3, h4, h5, h6, h7, h8, h9, -⟩ := h
  show (Cond.laysStatic C n d).holds args s none s [] = true
  exact Cond.laysStatic_of h1 h2 h3 h4 h5 h6 h7 h8 h9
/-- .. and what it holds: null or some reference -/
def vx_Zq (C n d : String) (A : Nat → Prop) (U : State) (H : Heap) : Prop := va_Zq C n d A U H ∧ vx_L C n d A U H
theorem vx_Zq.moved {C n d : String} {A : Nat → Prop} {u U : State} {H : Heap} (hvm : u.vm.Alike U.vm) (h : vx_Zq C n d A u H) : vx_Zq C n d A U H := ⟨va_Zq.moved hvm h.1, vx_L.moved hvm h.2⟩
theorem vx_Zq.kept {C n d : String} {A : Nat → Prop} {U : State} {H H1 : Heap} (h : vx_Zq C n d A U H) (hq : ∀ a : Nat, a < H.size → ¬ A a → H1[a]? = H[a]?) : vx_Zq C n d A U H1 := ⟨va_Zq.kept h.1 hq, vx_L.kept h.2 hq⟩
theorem vx_Zq.narrow {C n d : String} {A B : Nat → Prop} {U : State} {H : Heap} (h : vx_Zq C n d A U H) (hAB : ∀ q, B q → A q) : vx_Zq C n d B U H := ⟨va_Zq.narrow h.1 hAB, vx_L.narrow h.2 hAB⟩
theorem vx_Zqof {args : Array Value} {s : State} {C n d : String} {A : Nat → Prop} (hl : (Cond.laysStatic C n d).before args s = true) (hini : (Cond.initialized C).before args s = true) (h : (Cond.isRef (.static C n d)).before args s = true) (hA : ∀ a : Nat, a < s.heap.size → ¬ A a) : vx_Zq C n d A s s.heap := by
  refine ⟨va_Zqof hl hini h hA, ?_⟩
  obtain ⟨c, k, i, f, a, cell, h1, h2, h3, h4, h5, h6, h7, h8, h9⟩ := Cond.laysStatic_spec hl
  exact ⟨c, k, i, f, a, cell, h1, h2, h3, h4, h5, h6, h7, h8, h9, hA a (Array.getElem?_eq_some_iff.mp h5).1⟩
theorem vx_isRef {C n d : String} {v : Value} {A : Nat → Prop} {s : State} {args : Array Value} (h : va_Z C n d v A s s.heap) (hv : v.isRef = true) : (Cond.isRef (.static C n d)).before args s = true := by
  obtain ⟨cf, kf, fi, f, a, cell, h1, h2, h3, h4, h5, h6, h7, -⟩ := h
  have he : (Term.static C n d).eval args s none [] s = some v := by
    simp [Term.eval, State.fieldNamed?, h1, h2, h4, h5, h6, h7]
  simp only [Cond.before, Cond.holds, Cond.value, he]
  cases v <;> simp_all [Value.isRef]
theorem vx_isRefq {C n d : String} {A : Nat → Prop} {s : State} {args : Array Value} (h : va_Zq C n d A s s.heap) : (Cond.isRef (.static C n d)).before args s = true := by
  rcases h with h | ⟨t, h⟩
  · exact vx_isRef h rfl
  · exact vx_isRef h rfl
/-- the same frame, seen from here: as if the method were called anew in this heap -/
theorem vx_rebase {T : State} (X : Stand p l e R s m args below meth c T locs cells slots) {R' : Room} (hf : R'.frames ≤ R.frames) (hl : R'.locals ≤ R.locals) (hc : cells + R'.cells ≤ R.cells) (hs : slots + R'.slots ≤ R.slots) :
    Stand p l e R' ((T.setVm s.vm).setFrames (.invoking m args :: below)) m args below meth c T [] 0 0 := by
  have htop : (T.setVm s.vm).topJava?.isSome := X.here.top
  have hF : ((T.setVm s.vm).setFrames (.invoking m args :: below)).frames = .invoking m args :: below := State.frames_setFrames _ (State.cur_lt_of_top htop)
  obtain ⟨g₀, hg0⟩ := Option.isSome_iff_exists.mp htop
  obtain ⟨r, hr⟩ := State.topJava?_eq_some.mp hg0
  have hl9 : e.platform.stackLimits (T.setVm s.vm).me = e.platform.stackLimits s.me := X.limits
  have hb9 : (T.setVm s.vm).me.stackBytes = s.me.stackBytes := X.bytes
  refine ⟨X.admits, X.cas, X.clock, hF, ?_, X.hears, X.method, X.code, X.here, X.tail, X.warmed, ?_, ?_, ?_⟩
  · have h := X.room
    have hU : ((T.setVm s.vm).setFrames (.invoking m args :: below)).localsInUse = s.localsInUse := by
      rw [State.localsInUse_invoking hF (meth := meth) (c := c) X.method X.code, State.localsInUse_invoking X.frames X.method X.code]
    simp only [State.hasRoom, Bool.and_eq_true, decide_eq_true_eq] at h ⊢
    obtain ⟨⟨⟨⟨h1, h2, h3, h4, h5, h6⟩, h7⟩, h8⟩, h9⟩ := h
    rw [X.frames, List.length_cons] at h2 h3
    have q1 := X.heapSize
    have q2 := X.used
    simp only [hF, hU, List.length_cons, State.stackLimits_setFrames, State.stackBytes_setFrames, hl9, hb9]
    refine ⟨⟨⟨⟨by omega, by omega, by omega, by omega, by omega, h6⟩, ?_⟩, ?_⟩, X.book⟩
    · show T.heap.size + R'.cells ≤ e.platform.maxCells
      omega
    · show T.slotsUsed + R'.slots ≤ e.platform.maxSlots
      omega
  · rw [State.stackLimits_setFrames]; rfl
  · rw [State.stackBytes_setFrames]; rfl
  · refine ⟨?_, Nat.le_refl _, Nat.le_refl _, ?_, ?_, fun a c9 h9 => ⟨c9, h9, rfl, rfl, fun _ _ => rfl⟩⟩
    · obtain ⟨t, ht, -⟩ := State.frames_cons hr
      show T.setVm s.vm = { ((T.setVm s.vm).setFrames (.invoking m args :: below)).setFrames (T.setVm s.vm).frames with heap := T.heap, slotsUsed := T.slotsUsed }
      rw [State.setFrames_setFrames, State.setFrames_self ht]
      rfl
    · show T.slotsUsed = T.slotsUsed + ((T.heap.toList.drop T.heap.size).map (·.slots.size)).sum
      rw [List.drop_eq_nil_of_le (Nat.le_of_eq Array.length_toList)]
      rfl
    · show ((T.heap.toList.drop T.heap.size).map (·.slots.size)).sum ≤ 0
      rw [List.drop_eq_nil_of_le (Nat.le_of_eq Array.length_toList)]
      exact Nat.le_refl _
/-- 'throw new E()': new; dup; invokespecial; athrow -/
theorem vx_throw0 {cc : ByteArray} {pc : Nat} (hexec : p.tables.exec = Jvm.exec) (hb : c.code = cc) (hl : l.stackTraces = false) {own cls : String} {names : List String} {ik ic mc ms : Nat} {A : Nat → Prop}
    (hown : s.vm.findClass own = some m.cls) (hcls : Bundle.fit cls = true) (hnames : ∀ n ∈ names, Bundle.fit n = true)
    (hk : (Cond.classLink own ik cls).before args s = true) (hini : (Cond.initialized cls).before args s = true) (hat : ∀ w ∈ vx_at0 own ic cls names, w.before args s = true)
    (hgood : ∀ w ∈ Cond.classLink own ik cls :: Cond.initialized cls :: vx_at0 own ic cls names, vx_ot w = true)
    (hU : vx_Zq Bundle.tN "UNASSIGNED_STACK" Bundle.steD A s s.heap) (hN : vx_Zq Bundle.tN "SUPPRESSED_SENTINEL" Bundle.listD A s s.heap) (hS : va_S A s.heap H locs) (hsize : ls.size = c.maxLocals)
    (d0 : decode cc pc = .ok (.new ik, 3)) (d3 : decode cc (pc + 3) = .ok (.dup, 1)) (d4 : decode cc (pc + 4) = .ok (.invokespecial ic, 3)) (d7 : decode cc (pc + 7) = .ok (.athrow, 1))
    (hout : ∀ x ∈ c.exceptionTable.toList, covers x (pc + 7) = false)
    (hRframes : names.length + 3 < R.frames) (hRlocals : (rest.map fun v => v.category).sum + (13 * (names.length + 1) + 42) ≤ R.locals) (hRcells : cells + 1 ≤ R.cells) (hRslots : slots + 6 ≤ R.slots) (hlocks : meth.locks = false)
    (hx : ∀ t : State, s.vm.Alike t.vm → H.size ≤ t.heap.size → (∀ q : Nat, q < H.size → t.heap[q]? = H[q]?) → XC cls s t)
    (hf : ∀ z ∈ locs, free z.base) (hc : cells + 1 ≤ mc) (hs : slots + 6 ≤ ms) :
    W p l e R s m args below meth c H locs cells slots (vx_MQ below Qc XC args s mc ms free) (F0 m pc ls rest) := by
  intro T hT X
  have htr : e.platform.stackTraces = false := (show e.platform.stackTraces = l.stackTraces by rw [X.admits.platform]).trans hl
  have Y := vx_rebase X (R' := { frames := R.frames, locals := R.locals, cells := 1, slots := 6 }) (Nat.le_refl _) (Nat.le_refl _) hRcells hRslots
  obtain ⟨s', hA⟩ : ∃ z, z = (T.setVm s.vm).setFrames (.invoking m args :: below) := ⟨_, rfl⟩
  rw [← hA] at Y
  have hvm : s'.vm = s.vm := by rw [hA]; rfl
  have hhp : s'.heap = H := by rw [hA]; exact hT
  have hW0 : s.WarmedH s'.vm := by rw [hvm]; exact State.WarmedH.refl s
  have hat' : ∀ w ∈ vx_at0 own ic cls names, w.before args s' = true := fun w hw => vx_ot_at hW0 hvm.symm (hgood w (List.mem_cons_of_mem _ (List.mem_cons_of_mem _ hw))) (hat w hw)
  have hk' : (Cond.classLink own ik cls).before args s' = true := vx_ot_at hW0 hvm.symm (hgood _ List.mem_cons_self) hk
  have hini' : (Cond.initialized cls).before args s' = true := vx_ot_at hW0 hvm.symm (hgood _ (List.mem_cons_of_mem _ List.mem_cons_self)) hini
  have hU' : vx_Zq Bundle.tN "UNASSIGNED_STACK" Bundle.steD A s' s'.heap := by rw [hhp]; exact vx_Zq.moved hW0.alike (hU.kept hS.2.1)
  have hN' : vx_Zq Bundle.tN "SUPPRESSED_SENTINEL" Bundle.listD A s' s'.heap := by rw [hhp]; exact vx_Zq.moved hW0.alike (hN.kept hS.2.1)
  have h : ∀ w ∈ Bundle.ownAtoms0 own ic cls names, w.before args s' = true := vx_own hat' (vx_isRefq hU'.1) (vx_isRefq hN'.1) hU'.2.word hN'.2.word
  have hown' : s'.vm.findClass own = some m.cls := by rw [hvm]; exact hown
  have hins : (Cond.instantiable cls 6).before args s' = true := h _ (by simp [Bundle.ownAtoms0])
  obtain ⟨vm₁, cX, kX, hfX, hkX, -, -, X₁, st1⟩ := Y.newCold hexec (own := own) (C := cls) (index := ik) (n := 6) hown' hk' hins hini'
    (g := F0 m pc ls rest) rfl (by rw [hb]; exact d0) (Nat.le_refl _) (Nat.le_refl _)
  generalize hT1 : (T.setVm vm₁).pushCell { cls := cX, slots := kX.instanceTypes.map defaultValue, vm := .none } = T1 at X₁ st1
  have hcat : (Value.ref T.heap.size).category = 1 := rfl
  have hcellA : T1.heap[T.heap.size]? = some (freshCell cX kX) := by rw [← hT1]; exact State.heap_pushCell_size _ _
  have d3' : decode c.code (pc + 3) = .ok (.dup, 1) := by rw [hb]; exact d3
  obtain ⟨U, hsteps, hrun, hend, hW, hsame, ce, hce, hO⟩ := X₁.ctorThrow0 hexec htr (own := own) (cls := cls) (names := names) (ic := ic) hown' hcls hnames h (fun x hx => nomatch hx) hfX hkX hcellA (by rw [hhp, hT]; exact Nat.le_refl _)
    (g := { method := m, pc := pc + 4, locals := ls, stack := .ref T.heap.size :: .ref T.heap.size :: rest, locked := none }) rfl hsize rfl rfl (rest := rest) rfl
    (by rw [hb]; exact d4) (by rw [hb]; exact d7) hout hRframes (by simp only [List.map_cons, List.sum_cons, hcat]; omega) hlocks
  obtain ⟨f1, f2⟩ := vx_frame hsame
  rw [hhp] at f1 f2
  have hWs : s.WarmedH U.vm := State.WarmedH.trans hW0 hW
  have hcl : s.vm.findClass cls = some ce.cls := by
    have h9 := hO.cls
    rw [hvm] at h9
    exact h9
  have hall : s.sameButNew ({ U with vm := s.vm } : State) locs mc ms := by
    subst hA
    obtain ⟨e1, e2⟩ := hsame
    rw [State.setFrames_setFrames] at e1
    have h2 : (T.setVm s.vm).sameButNew ({ U with vm := s.vm } : State) [] (0 + 1) (0 + 6) := ⟨e1, e2⟩
    have h3 := X.same.trans h2
    rw [List.append_nil] at h3
    exact h3.mono hc hs
  refine ⟨U, ?_, .threw T.heap.size, hrun, hend, Or.inr ⟨T.heap.size, rfl, cls, ce, locs, hx U hWs.alike f1 (fun q hq => f2 q hq (fun z hz => nomatch hz)), hce, hO.vm, hcl, hWs, hall, hf⟩⟩
  refine st1 _ ?_
  show Steps p.tables e below (T1.setTop { method := m, pc := pc + 3, locals := ls, stack := .ref T.heap.size :: rest, locked := none }) _
  jvm_step X₁.here [X₁.here.top, hexec, d3', Value.category]
  exact hsteps
/-- 'throw new E("text")': new; dup; ldc; invokespecial; athrow -/
theorem vx_throwS {cc : ByteArray} {pc : Nat} (hexec : p.tables.exec = Jvm.exec) (hb : c.code = cc) (hl : l.stackTraces = false) {own cls text : String} {names : List String} {ik is ic mc ms sa : Nat} {A : Nat → Prop}
    (hown : s.vm.findClass own = some m.cls) (hcls : Bundle.fit cls = true) (hnames : ∀ n ∈ names, Bundle.fit n = true)
    (hk : (Cond.classLink own ik cls).before args s = true) (hini : (Cond.initialized cls).before args s = true) (hstr : vk_R own is text sa s) (hat : ∀ w ∈ vx_atS own ic cls names, w.before args s = true)
    (hgood : ∀ w ∈ Cond.classLink own ik cls :: Cond.initialized cls :: vx_atS own ic cls names, vx_ot w = true)
    (hU : vx_Zq Bundle.tN "UNASSIGNED_STACK" Bundle.steD A s s.heap) (hN : vx_Zq Bundle.tN "SUPPRESSED_SENTINEL" Bundle.listD A s s.heap) (hS : va_S A s.heap H locs) (hsize : ls.size = c.maxLocals)
    (d0 : decode cc pc = .ok (.new ik, 3)) (d3 : decode cc (pc + 3) = .ok (.dup, 1)) (d4 : decode cc (pc + 4) = .ok (.ldc is, 2)) (d6 : decode cc (pc + 6) = .ok (.invokespecial ic, 3)) (d9 : decode cc (pc + 9) = .ok (.athrow, 1))
    (hout : ∀ x ∈ c.exceptionTable.toList, covers x (pc + 9) = false)
    (hRframes : names.length + 3 < R.frames) (hRlocals : (rest.map fun v => v.category).sum + (13 * (names.length + 1) + 43) ≤ R.locals) (hRcells : cells + 1 ≤ R.cells) (hRslots : slots + 6 ≤ R.slots) (hlocks : meth.locks = false)
    (hx : ∀ t : State, s.vm.Alike t.vm → H.size ≤ t.heap.size → (∀ q : Nat, q < H.size → t.heap[q]? = H[q]?) → XC cls s t)
    (hf : ∀ z ∈ locs, free z.base) (hc : cells + 1 ≤ mc) (hs : slots + 6 ≤ ms) :
    W p l e R s m args below meth c H locs cells slots (vx_MQ below Qc XC args s mc ms free) (F0 m pc ls rest) := by
  intro T hT X
  have htr : e.platform.stackTraces = false := (show e.platform.stackTraces = l.stackTraces by rw [X.admits.platform]).trans hl
  have Y := vx_rebase X (R' := { frames := R.frames, locals := R.locals, cells := 1, slots := 6 }) (Nat.le_refl _) (Nat.le_refl _) hRcells hRslots
  obtain ⟨s', hA⟩ : ∃ z, z = (T.setVm s.vm).setFrames (.invoking m args :: below) := ⟨_, rfl⟩
  rw [← hA] at Y
  have hvm : s'.vm = s.vm := by rw [hA]; rfl
  have hhp : s'.heap = H := by rw [hA]; exact hT
  have hW0 : s.WarmedH s'.vm := by rw [hvm]; exact State.WarmedH.refl s
  have hat' : ∀ w ∈ vx_atS own ic cls names, w.before args s' = true := fun w hw => vx_ot_at hW0 hvm.symm (hgood w (List.mem_cons_of_mem _ (List.mem_cons_of_mem _ hw))) (hat w hw)
  have hk' : (Cond.classLink own ik cls).before args s' = true := vx_ot_at hW0 hvm.symm (hgood _ List.mem_cons_self) hk
  have hini' : (Cond.initialized cls).before args s' = true := vx_ot_at hW0 hvm.symm (hgood _ (List.mem_cons_of_mem _ List.mem_cons_self)) hini
  have hU' : vx_Zq Bundle.tN "UNASSIGNED_STACK" Bundle.steD A s' s'.heap := by rw [hhp]; exact vx_Zq.moved hW0.alike (hU.kept hS.2.1)
  have hN' : vx_Zq Bundle.tN "SUPPRESSED_SENTINEL" Bundle.listD A s' s'.heap := by rw [hhp]; exact vx_Zq.moved hW0.alike (hN.kept hS.2.1)
  have h : ∀ w ∈ Bundle.ownAtoms own ic cls names, w.before args s' = true := vx_own hat' (vx_isRefq hU'.1) (vx_isRefq hN'.1) hU'.2.word hN'.2.word
  have hown' : s'.vm.findClass own = some m.cls := by rw [hvm]; exact hown
  have hins : (Cond.instantiable cls 6).before args s' = true := h _ (by simp [Bundle.ownAtoms])
  obtain ⟨vm₁, cX, kX, hfX, hkX, -, -, X₁, st1⟩ := Y.newCold hexec (own := own) (C := cls) (index := ik) (n := 6) hown' hk' hins hini'
    (g := F0 m pc ls rest) rfl (by rw [hb]; exact d0) (Nat.le_refl _) (Nat.le_refl _)
  generalize hT1 : (T.setVm vm₁).pushCell { cls := cX, slots := kX.instanceTypes.map defaultValue, vm := .none } = T1 at X₁ st1
  have hcat : (Value.ref T.heap.size).category = 1 := rfl
  have hcellA : T1.heap[T.heap.size]? = some (freshCell cX kX) := by rw [← hT1]; exact State.heap_pushCell_size _ _
  have d3' : decode c.code (pc + 3) = .ok (.dup, 1) := by rw [hb]; exact d3
  have d4' : decode c.code (pc + 4) = .ok (.ldc is, 2) := by rw [hb]; exact d4
  have hstr' : vk_R own is text sa s' := vk_R.warm hW0 hstr
  obtain ⟨U, hsteps, hrun, hend, hW, hsame, ce, hce, hO⟩ := X₁.ctorThrowS hexec htr (own := own) (cls := cls) (names := names) (ic := ic) hown' hcls hnames h (fun x hx => nomatch hx) hfX hkX hcellA (by rw [hhp, hT]; exact Nat.le_refl _) (msg := .ref sa) rfl
    (g := { method := m, pc := pc + 6, locals := ls, stack := .ref sa :: .ref T.heap.size :: .ref T.heap.size :: rest, locked := none }) rfl hsize rfl rfl (rest := rest) rfl
    (by rw [hb]; exact d6) (by rw [hb]; exact d9) hout hRframes (by simp only [List.map_cons, List.sum_cons, hcat]; omega) hlocks
  obtain ⟨f1, f2⟩ := vx_frame hsame
  rw [hhp] at f1 f2
  have hWs : s.WarmedH U.vm := State.WarmedH.trans hW0 hW
  have hcl : s.vm.findClass cls = some ce.cls := by
    have h9 := hO.cls
    rw [hvm] at h9
    exact h9
  have hall : s.sameButNew ({ U with vm := s.vm } : State) locs mc ms := by
    subst hA
    obtain ⟨e1, e2⟩ := hsame
    rw [State.setFrames_setFrames] at e1
    have h2 : (T.setVm s.vm).sameButNew ({ U with vm := s.vm } : State) [] (0 + 1) (0 + 6) := ⟨e1, e2⟩
    have h3 := X.same.trans h2
    rw [List.append_nil] at h3
    exact h3.mono hc hs
  refine ⟨U, ?_, .threw T.heap.size, hrun, hend, Or.inr ⟨T.heap.size, rfl, cls, ce, locs, hx U hWs.alike f1 (fun q hq => f2 q hq (fun z hz => nomatch hz)), hce, hO.vm, hcl, hWs, hall, hf⟩⟩
  refine st1 _ ?_
  show Steps p.tables e below (T1.setTop { method := m, pc := pc + 3, locals := ls, stack := .ref T.heap.size :: rest, locked := none }) _
  jvm_step X₁.here [X₁.here.top, hexec, d3', Value.category]
  exact X₁.ldcString hexec (own := own) (text := text) (index := is) (a := sa) hown' hstr'.1 hstr'.2
    (g := { method := m, pc := pc + 4, locals := ls, stack := .ref T.heap.size :: .ref T.heap.size :: rest, locked := none }) rfl d4' _ hsteps
/-- 'throw new E("text")', the text by a wide index -/
theorem vx_throwSW {cc : ByteArray} {pc : Nat} (hexec : p.tables.exec = Jvm.exec) (hb : c.code = cc) (hl : l.stackTraces = false) {own cls text : String} {names : List String} {ik is ic mc ms sa : Nat} {A : Nat → Prop}
    (hown : s.vm.findClass own = some m.cls) (hcls : Bundle.fit cls = true) (hnames : ∀ n ∈ names, Bundle.fit n = true)
    (hk : (Cond.classLink own ik cls).before args s = true) (hini : (Cond.initialized cls).before args s = true) (hstr : vk_R own is text sa s) (hat : ∀ w ∈ vx_atS own ic cls names, w.before args s = true)
    (hgood : ∀ w ∈ Cond.classLink own ik cls :: Cond.initialized cls :: vx_atS own ic cls names, vx_ot w = true)
    (hU : vx_Zq Bundle.tN "UNASSIGNED_STACK" Bundle.steD A s s.heap) (hN : vx_Zq Bundle.tN "SUPPRESSED_SENTINEL" Bundle.listD A s s.heap) (hS : va_S A s.heap H locs) (hsize : ls.size = c.maxLocals)
    (d0 : decode cc pc = .ok (.new ik, 3)) (d3 : decode cc (pc + 3) = .ok (.dup, 1)) (d4 : decode cc (pc + 4) = .ok (.ldc_w is, 3)) (d7 : decode cc (pc + 7) = .ok (.invokespecial ic, 3)) (d10 : decode cc (pc + 10) = .ok (.athrow, 1))
    (hout : ∀ x ∈ c.exceptionTable.toList, covers x (pc + 10) = false)
    (hRframes : names.length + 3 < R.frames) (hRlocals : (rest.map fun v => v.category).sum + (13 * (names.length + 1) + 43) ≤ R.locals) (hRcells : cells + 1 ≤ R.cells) (hRslots : slots + 6 ≤ R.slots) (hlocks : meth.locks = false)
    (hx : ∀ t : State, s.vm.Alike t.vm → H.size ≤ t.heap.size → (∀ q : Nat, q < H.size → t.heap[q]? = H[q]?) → XC cls s t)
    (hf : ∀ z ∈ locs, free z.base) (hc : cells + 1 ≤ mc) (hs : slots + 6 ≤ ms) :
    W p l e R s m args below meth c H locs cells slots (vx_MQ below Qc XC args s mc ms free) (F0 m pc ls rest) := by
  intro T hT X
  have htr : e.platform.stackTraces = false := (show e.platform.stackTraces = l.stackTraces by rw [X.admits.platform]).trans hl
  have Y := vx_rebase X (R' := { frames := R.frames, locals := R.locals, cells := 1, slots := 6 }) (Nat.le_refl _) (Nat.le_refl _) hRcells hRslots
  obtain ⟨s', hA⟩ : ∃ z, z = (T.setVm s.vm).setFrames (.invoking m args :: below) := ⟨_, rfl⟩
  rw [← hA] at Y
  have hvm : s'.vm = s.vm := by rw [hA]; rfl
  have hhp : s'.heap = H := by rw [hA]; exact hT
  have hW0 : s.WarmedH s'.vm := by rw [hvm]; exact State.WarmedH.refl s
  have hat' : ∀ w ∈ vx_atS own ic cls names, w.before args s' = true := fun w hw => vx_ot_at hW0 hvm.symm (hgood w (List.mem_cons_of_mem _ (List.mem_cons_of_mem _ hw))) (hat w hw)
  have hk' : (Cond.classLink own ik cls).before args s' = true := vx_ot_at hW0 hvm.symm (hgood _ List.mem_cons_self) hk
  have hini' : (Cond.initialized cls).before args s' = true := vx_ot_at hW0 hvm.symm (hgood _ (List.mem_cons_of_mem _ List.mem_cons_self)) hini
  have hU' : vx_Zq Bundle.tN "UNASSIGNED_STACK" Bundle.steD A s' s'.heap := by rw [hhp]; exact vx_Zq.moved hW0.alike (hU.kept hS.2.1)
  have hN' : vx_Zq Bundle.tN "SUPPRESSED_SENTINEL" Bundle.listD A s' s'.heap := by rw [hhp]; exact vx_Zq.moved hW0.alike (hN.kept hS.2.1)
  have h : ∀ w ∈ Bundle.ownAtoms own ic cls names, w.before args s' = true := vx_own hat' (vx_isRefq hU'.1) (vx_isRefq hN'.1) hU'.2.word hN'.2.word
  have hown' : s'.vm.findClass own = some m.cls := by rw [hvm]; exact hown
  have hins : (Cond.instantiable cls 6).before args s' = true := h _ (by simp [Bundle.ownAtoms])
  obtain ⟨vm₁, cX, kX, hfX, hkX, -, -, X₁, st1⟩ := Y.newCold hexec (own := own) (C := cls) (index := ik) (n := 6) hown' hk' hins hini'
    (g := F0 m pc ls rest) rfl (by rw [hb]; exact d0) (Nat.le_refl _) (Nat.le_refl _)
  generalize hT1 : (T.setVm vm₁).pushCell { cls := cX, slots := kX.instanceTypes.map defaultValue, vm := .none } = T1 at X₁ st1
  have hcat : (Value.ref T.heap.size).category = 1 := rfl
  have hcellA : T1.heap[T.heap.size]? = some (freshCell cX kX) := by rw [← hT1]; exact State.heap_pushCell_size _ _
  have d3' : decode c.code (pc + 3) = .ok (.dup, 1) := by rw [hb]; exact d3
  have d4' : decode c.code (pc + 4) = .ok (.ldc_w is, 3) := by rw [hb]; exact d4
  have hstr' : vk_R own is text sa s' := vk_R.warm hW0 hstr
  obtain ⟨U, hsteps, hrun, hend, hW, hsame, ce, hce, hO⟩ := X₁.ctorThrowS hexec htr (own := own) (cls := cls) (names := names) (ic := ic) hown' hcls hnames h (fun x hx => nomatch hx) hfX hkX hcellA (by rw [hhp, hT]; exact Nat.le_refl _) (msg := .ref sa) rfl
    (g := { method := m, pc := pc + 7, locals := ls, stack := .ref sa :: .ref T.heap.size :: .ref T.heap.size :: rest, locked := none }) rfl hsize rfl rfl (rest := rest) rfl
    (by rw [hb]; exact d7) (by rw [hb]; exact d10) hout hRframes (by simp only [List.map_cons, List.sum_cons, hcat]; omega) hlocks
  obtain ⟨f1, f2⟩ := vx_frame hsame
  rw [hhp] at f1 f2
  have hWs : s.WarmedH U.vm := State.WarmedH.trans hW0 hW
  have hcl : s.vm.findClass cls = some ce.cls := by
    have h9 := hO.cls
    rw [hvm] at h9
    exact h9
  have hall : s.sameButNew ({ U with vm := s.vm } : State) locs mc ms := by
    subst hA
    obtain ⟨e1, e2⟩ := hsame
    rw [State.setFrames_setFrames] at e1
    have h2 : (T.setVm s.vm).sameButNew ({ U with vm := s.vm } : State) [] (0 + 1) (0 + 6) := ⟨e1, e2⟩
    have h3 := X.same.trans h2
    rw [List.append_nil] at h3
    exact h3.mono hc hs
  refine ⟨U, ?_, .threw T.heap.size, hrun, hend, Or.inr ⟨T.heap.size, rfl, cls, ce, locs, hx U hWs.alike f1 (fun q hq => f2 q hq (fun z hz => nomatch hz)), hce, hO.vm, hcl, hWs, hall, hf⟩⟩
  refine st1 _ ?_
  show Steps p.tables e below (T1.setTop { method := m, pc := pc + 3, locals := ls, stack := .ref T.heap.size :: rest, locked := none }) _
  jvm_step X₁.here [X₁.here.top, hexec, d3', Value.category]
  exact X₁.ldcStringW hexec (own := own) (text := text) (index := is) (a := sa) hown' hstr'.1 hstr'.2
    (g := { method := m, pc := pc + 4, locals := ls, stack := .ref T.heap.size :: .ref T.heap.size :: rest, locked := none }) rfl d4' _ hsteps
end Ends
section Bodies
variable {l : Launch}
theorem vx_ofW {y : MethodName} {ws ws' : List Cond} {rm : Room} {Pc : Array Value → State → Prop} {Qc : Array Value → State → Outcome → State → Prop} {XC : String → State → State → Prop} {mc ms : Nat} {free : Addr → Prop} {cc : ByteArray} {maxL : Nat} {ret : Option FieldType}
    (hy : plainName y.cls = true) (hw : ws = Cond.code y cc maxL ret :: ws')
    (body : ∀ p e s m args below meth c s₁, BodyLoose p l y (headSpec ws rm) cc maxL ret e s m args below meth c s₁ → c.maxLocals = maxL → (∀ x ∈ c.exceptionTable.toList, False) → Pc args s →
      W p l e (headSpec ws rm).room s m args below meth c s.heap [] 0 0 (vx_MQ below Qc XC args s mc ms free) (entryFrame m args maxL)) : vx_Met l y ws rm Pc Qc XC mc ms free := by
  refine MetFree.of_bodyS (code := cc) (maxLocals := maxL) (ret := ret) hy ?_ ?_
  · intro args s m h hn
    obtain ⟨meth, c, h1, h2, h3, h4, h5, h6, -, -⟩ := Cond.code_spec hn (atoms_spec (ws := ws) h _ (by rw [hw]; exact List.mem_cons_self))
    exact ⟨meth, c, h1, h2, h3, h4, h5, h6⟩
  · intro p e s m args below meth c s₁ B hml hP _
    have hh0 : s₁.heap = s.heap := by rw [B.state]; rfl
    have ht : ∀ x ∈ c.exceptionTable.toList, False := by
      obtain ⟨meth9, c9, h1, h2, -, -, -, -, h7, -⟩ := Cond.code_spec B.named (atoms_spec (ws := ws) B.pre _ (by rw [hw]; exact List.mem_cons_self))
      cases Option.some.inj (h1.symm.trans B.method)
      cases Option.some.inj (h2.symm.trans (Stand.of_body B).code)
      intro x hx
      rw [Array.isEmpty_iff.mp h7] at hx
      cases hx
    obtain ⟨t, a1, o, b1, b2, b3⟩ := body p e s m args below meth c s₁ B hml ht hP s₁ hh0 (Stand.of_body B)
    exact ⟨t, o, a1, b1, b2, b3⟩
/-- the table of a body with handlers -/
theorem vx_table {p : Program} {x y : MethodName} {S : Spec} {cc bytes : ByteArray} {maxL maxL' : Nat} {ret ret' : Option FieldType} {e : Env} {s s₁ : State} {m : MethodId} {args : Array Value} {below : List Frame} {meth : Method} {c : Code} {hh : List (Nat × Nat × Nat × Nat)}
    (B : BodyLoose p l y S cc maxL ret e s m args below meth c s₁) (h : (Cond.codeWith y bytes maxL' ret' hh).before args s = true) : c.exceptionTable.toList = tableOf hh := by
  obtain ⟨m9, meth9, c9, hn9, h1, h2, -, -, h6, -⟩ := Cond.codeWith_spec h
  cases Option.some.inj (hn9.symm.trans B.named)
  cases Option.some.inj (h1.symm.trans B.method)
  cases Option.some.inj (h2.symm.trans (Stand.of_body B).code)
  rw [← h6, table_eq]
end Bodies
end VXA
/-! ===== END ===== -/
/-! ===== BEGIN a static call of a method with an exception table ===== -/
section VXS
variable {p : Program} {l : Launch} {e : Env} {R : Room} {s : State} {m : MethodId} {args : Array Value} {below : List Frame} {meth : Method} {c : Code} {T : State} {H : Heap} {locs : List Loc} {cells slots : Nat}
abbrev vx_CSW (R : Room) (s : State) (args : Array Value) (own : String) (index : Nat) (y : MethodName) (bytes : ByteArray) (maxL : Nat) (ret : Option FieldType) (hh : List (Nat × Nat × Nat × Nat)) (ws : List Cond) (rm : Room) (mc ms n : Nat) : Prop :=
  (rm.cells = mc ∧ rm.slots = ms ∧ rm.frames + 1 ≤ R.frames ∧ 8 + (maxL + 11) + rm.locals ≤ R.locals ∧ (∀ w ∈ ws, ∀ (a' : Array Value) (U : State), s.WarmedH U.vm → w.before a' U = true) ∧ Cond.codeWith y bytes maxL ret hh ∈ ws) ∧
  (Cond.codeWith y bytes maxL ret hh).before args s = true ∧ (Cond.initialized y.cls).before args s = true ∧ (y.cls ≠ "java/lang/invoke/MethodHandle" ∧ y.cls ≠ "java/lang/invoke/VarHandle") ∧
  (∀ sig, parseMethodDescriptor y.desc = some sig → n = sig.parameters.length) ∧ (Cond.methodLink own index y).before args s = true ∧ (Cond.static y).before args s = true
theorem vx_cwSW {own : String} {index maxL mc ms : Nat} {y : MethodName} {bytes : ByteArray} {ret : Option FieldType} {hh : List (Nat × Nat × Nat × Nat)} {Ts ws ws' : List Cond} {rm : Room} (n : Nat) (ht : ∀ w ∈ Ts, w.before args s = true) (hT : GoodIn Ts (va_wsS own index y ws)) (hw : ws = Cond.codeWith y bytes maxL ret hh :: ws') (hrc : rm.cells = mc) (hrs : rm.slots = ms)
    (hd : y.cls ≠ "java/lang/invoke/MethodHandle" ∧ y.cls ≠ "java/lang/invoke/VarHandle" ∧ (parseMethodDescriptor y.desc).map (fun d => d.parameters.length) = some n) (hR : rm.frames + 1 ≤ R.frames ∧ 8 + (maxL + 11) + rm.locals ≤ R.locals) :
    vx_CSW R s args own index y bytes maxL ret hh ws rm mc ms n := by
  have ok : ∀ w ∈ va_wsS own index y ws, w.before args s = true := fun w h => ht w (hT w h).1
  have hG : GoodIn Ts ws := fun w h => hT w (by unfold va_wsS; exact List.mem_append_right _ h)
  have hc : Cond.codeWith y bytes maxL ret hh ∈ ws := by rw [hw]; exact List.mem_cons_self
  refine ⟨⟨hrc, hrs, hR.1, hR.2, pay_in ht hG, hc⟩, ht _ (hG _ hc).1, ok _ (by simp [va_wsS]), ⟨hd.1, hd.2.1⟩, fun sig h => ?_, ok _ (by simp [va_wsS]), ok _ (by simp [va_wsS])⟩
  have h2 := hd.2.2
  rw [h] at h2
  exact (Option.some.inj h2).symm
theorem vx_callSW (X : Stand p l e R s m args below meth c T locs cells slots) (hexec : p.tables.exec = Jvm.exec) {own : String} {index : Nat} {y : MethodName} {bytes : ByteArray} {maxL : Nat} {ret : Option FieldType} {hh : List (Nat × Nat × Nat × Nat)}
    (hown : s.vm.findClass own = some m.cls) (hlink : (Cond.methodLink own index y).before args s = true) (hstat : (Cond.static y).before args s = true) (hinit : (Cond.initialized y.cls).before args s = true)
    (hcode : (Cond.codeWith y bytes maxL ret hh).before args s = true) (hy : y.cls ≠ "java/lang/invoke/MethodHandle" ∧ y.cls ≠ "java/lang/invoke/VarHandle")
    {W9 : Nat} {Pre : Pt → Array Value → Prop} {Post : Pt → Array Value → Option Value → Pt → Prop} (hK : Back l R p e below s args y 3 W9 Pre Post)
    {g : JFrame} (hg : g.method = m) (hsize : g.locals.size = c.maxLocals) {argsL rest : List Value} (hlen : ∀ sig, parseMethodDescriptor y.desc = some sig → argsL.length = sig.parameters.length)
    (hstack : g.stack = argsL.reverse ++ rest) (hW : 2 * g.monitorRoom + (rest.map fun v => v.category).sum ≤ W9) (hdg : decode c.code g.pc = .ok (.invokestatic index, 3))
    (hpre : ∀ vm₁, s.WarmedH vm₁ → Pre ⟨T.setVm vm₁, locs, cells, slots⟩ argsL.toArray) :
    ∃ (v : Option Value) (vm₁ : Vm) (B : Pt), s.WarmedH vm₁ ∧ Stand p l e R s m args below meth c B.U B.locs B.cells B.slots ∧ Post ⟨T.setVm vm₁, locs, cells, slots⟩ argsL.toArray v B ∧
      ∀ target, Steps p.tables e below (B.U.setTop { g with pc := g.pc + 3, stack := v.toList ++ rest }) target → Steps p.tables e below (T.setTop g) target := by
  obtain ⟨mk, methM, cM, hnamed, hmethM, -, -, -, -, -, -, hsigM⟩ := Cond.codeWith_spec hcode
  have hstatic : methM.isStatic = true := Cond.static_spec hnamed hmethM hstat
  obtain ⟨kP, hkP, -⟩ := className_of_methodNamed hnamed
  have hinitP : kP.init = .initialized := Cond.initialized_spec (findClass_of_methodNamed hnamed) hkP hinit
  obtain ⟨vm₁, X₁, hstep₁⟩ := X.invokestatic hexec hown hlink hnamed hmethM hstatic hkP hinitP hy (g := g) hg (argsL := argsL) (rest := rest) (hlen _ hsigM) hstack hdg
  obtain ⟨v, B, X', hpost, hsteps⟩ := hK m meth c ⟨T.setVm vm₁, locs, cells, slots⟩ { g with stack := rest } (.invokestatic index) mk argsL.toArray X₁ hg hsize hdg hW (X₁.named hnamed) (hpre vm₁ X₁.warmed)
  exact ⟨v, vm₁, B, X₁.warmed, X', hpost, fun target h => hstep₁ _ fun acts => by rw [doInvoke_state]; exact hsteps.trans h⟩
theorem vx_runSW {y : MethodName} {bytes cc : ByteArray} {maxL nL mc ms n index : Nat} {ret : Option FieldType} {hh : List (Nat × Nat × Nat × Nat)} {ws : List Cond} {rm : Room} {Pc : Array Value → State → Prop} {Qc : Array Value → State → Outcome → State → Prop} {free : Addr → Prop} {Ts : List Cond} {own : String} {As rest : List Value} {g : JFrame}
    (S : CallFix p m c cc nL s args Ts own) (hM : Met l y ws rm Pc Qc mc ms free) (cw : vx_CSW R s args own index y bytes maxL ret hh ws rm mc ms n) (hp : PreS s H Pc As)
    (hg : g.method = m) (hn : As.length = n) (hsize : g.locals.size = nL) (hstack : g.stack = As.reverse ++ rest) (hW : 2 * g.monitorRoom + (rest.map fun v => v.category).sum ≤ 8) (hdg : decode cc g.pc = .ok (.invokestatic index, 3)) (hf : cells + mc ≤ R.cells ∧ slots + ms ≤ R.slots) :
    va_Run p l e R s m args below meth c H locs cells slots mc ms g rest (Qc As.toArray) (free) := by
  obtain ⟨⟨hrc, hrs, hfr, hlo, hws, hcw⟩, hcode, hini, hy, hlen, hl, hstt⟩ := cw
  have hK : Back l R p e below s args y 3 8 (PreOf R mc ms Pc) (PostOf Qc mc ms free) := va_backW (hh := hh) (bytes := bytes) (maxL := maxL) (ret := ret) hM hp.1 hrc hrs hfr hlo hws hcw (fun a' U hW => word_at hW (Or.inl (by first | rfl | simp [Cond.onTables, Cond.keeps, Cond.steady])) hini)
  obtain ⟨hx, hb, hml, ho, -⟩ := S
  intro T hT X
  obtain ⟨v, vm₁, ⟨U', l2, c2, s2⟩, hW₁, X', ⟨g', mk, t, L, e1, e2, hq, h1, hL, h2, h3⟩, st⟩ := vx_callSW X hx (hh := hh) (bytes := bytes) (maxL := maxL) (ret := ret) ho hl hstt hini hcode hy hK hg (hsize.trans hml.symm) (argsL := As) (rest := rest) (fun sig h => hn.trans (hlen sig h)) hstack hW (by rw [hb]; exact hdg)
    (fun vm₁ hW₁ => ⟨hf.1, hf.2, hp.2 (T.setVm vm₁) hT hW₁⟩)
  dsimp only [Pt.U, Pt.locs, Pt.cells, Pt.slots] at X' e1 e2 h1 h2 h3 st
  subst h1; subst h2; subst h3
  exact ⟨v, (T.setVm vm₁).calling g' mk As.toArray, t, U', L, hT, X', hL, e1, e2, hq, st⟩
/-- not caught here, past rows that name other classes: it goes on to the caller -/
theorem vx_outP {p : Program} {l : Launch} {e : Env} {R : Room} {s : State} {m : MethodId} {args : Array Value} {below : List Frame} {meth : Method} {c : Code} {H : Heap} {locs : List Loc} {cells slots : Nat} {free : Addr → Prop} {ls : Array Slot} {rest : List Value} {Qc : Array Value → State → Outcome → State → Prop} {XC : String → State → State → Prop}
    {pc : Nat} {own E : String} {ce : Cell} {q : Addr} {mc ms : Nat} (hown : s.vm.findClass own = some m.cls) (hlocks : meth.locks = false)
    (hpass : ∀ z ∈ c.exceptionTable.toList, covers z pc = false ∨ (z.catchType ≠ 0 ∧ ∃ nm : String, (Cond.classLink own z.catchType nm).before args s = true ∧ va_Nc E nm s)) (hcell : H[q]? = some ce) (hv : ce.vm = .none) (hcl : s.vm.findClass E = some ce.cls)
    (hx : ∀ t : State, t.heap = H → s.vm.Alike t.vm → XC E s t) (hf : ∀ z ∈ locs, free z.base) (hc : cells ≤ mc) (hs : slots ≤ ms) :
    vx_W p l e R s m args below meth c H locs cells slots (vx_MQ below Qc XC args s mc ms free) (F0 m pc ls rest) q := by
  intro T hT X
  have hpl : e.platform.magicAccessors = ({} : Platform).magicAccessors := by rw [X.admits.platform]
  obtain ⟨vm', hW', X', st⟩ := X.outThrough hlocks q (g := F0 m pc ls rest) rfl rfl rfl (cell := ce) (by rw [hT]; exact hcell) (by rw [hv]; rfl)
    (by obtain ⟨k9, h9, -⟩ := Vm.findClass_spec hcl; exact ⟨k9, h9⟩) (fun z hz => by
      rcases hpass z hz with h | ⟨hz0, nm, hl1, hn1⟩
      · exact Or.inl h
      · obtain ⟨c6, hc6, hcl6⟩ := Cond.classLink_spec hown hl1 e.platform hpl
        obtain ⟨a8, b8, h1, h2, h3⟩ := hn1
        cases Option.some.inj (h1.symm.trans hcl)
        cases Option.some.inj (h2.symm.trans hc6)
        exact Or.inr ⟨hz0, _, hcl6, h3⟩)
  obtain ⟨g₀, hfr⟩ := X'.frames_eq
  have hcell9 : ((T.setVm vm').setFrames (.throwing q :: below)).heap[q]? = some ce := by
    show T.heap[q]? = some ce
    rw [hT]; exact hcell
  have hend : Ended ((T.setVm vm').setFrames (.throwing q :: below)) below (.threw q) := State.frames_setFrames _ (State.cur_lt_of_frames hfr)
  refine ⟨(T.setVm vm').setFrames (.throwing q :: below), ?_, .threw q, X'.here.running, hend, Or.inr ⟨q, rfl, E, ce, locs, hx _ hT (X'.ends _).1.alike, hcell9, hv, hcl, (X'.ends _).1, (X'.ends _).2.mono hc hs, hf⟩⟩
  rw [X.pushThrowing_eq]
  exact st
/-- a thing of a world lies in the heap -/
theorem vx_lt {D : va_G} {cl : List vw_C} {ws : va_W} {H1 : Heap} (h : va_P D cl ws H1) {k : Nat} {q : Nat × va_E} (hk : ws[k]? = some q) : q.1 < H1.size := (h k q hk).lt
end VXS
/-! ===== END ===== -/
/-! ===== BEGIN methods with a table of their own: called by a name, returning or throwing ===== -/
section VXH
/-! vx_backW, vx_callVX, vx_callSX, vx_callVW, vx_runVW, vx_runVX, vx_runSX, vx_ofWH follow the same proofs as their sisters above (Free/Laws.lean, Shelf42/LK1.lean); vx_outP calls Shelf42/NT130.lean (outThrough). -/
section
variable {l : Launch} {R : Room} {p : Program} {e : Env} {below : List Frame} {s : State} {sargs : Array Value} {y : MethodName} {len W9 : Nat}
theorem vx_backW {ws : List Cond} {rm : Room} {Pc : Array Value → State → Prop} {Qc : Array Value → State → Outcome → State → Prop} {XC : String → State → State → Prop} {mc ms : Nat} {free : Addr → Prop} {bytes : ByteArray} {maxL : Nat} {ret : Option FieldType} {hh : List (Nat × Nat × Nat × Nat)}
    (hM : vx_Met l y ws rm Pc Qc XC mc ms free) (hblind : FrameBlind Pc) (hrc : rm.cells = mc) (hrs : rm.slots = ms)
    (hframes : rm.frames + 1 ≤ R.frames) (hlocals : W9 + (maxL + 11) + rm.locals ≤ R.locals)
    (hws : ∀ w ∈ ws, ∀ a' U, s.WarmedH U.vm → w.before a' U = true) (hcode : Cond.codeWith y bytes maxL ret hh ∈ ws) (hinit : ∀ a' U, s.WarmedH U.vm → (Cond.initialized y.cls).before a' U = true) :
    vx_Back l R p e below s sargs y len W9 (PreOf R mc ms Pc) (PostOf Qc mc ms free) (vx_Post XC mc ms free) := by
  intro m meth c A g ig mk a X hg hsize hdg hW hn hp
  have h1 : (headSpec ws rm).pre.before a A.U = true := atoms_intro fun w hw => hws w hw _ _ X.warmed
  have h2 : (Cond.codeWith y bytes maxL ret hh).before a A.U = true := hws _ hcode _ _ X.warmed
  have h3 : (Cond.initialized y.cls).before a A.U = true := hinit _ _ X.warmed
  have h4 : A.cells + (headSpec ws rm).room.cells ≤ R.cells := by rw [show (headSpec ws rm).room.cells = mc from hrc]; exact hp.1
  have h5 : A.slots + (headSpec ws rm).room.slots ≤ R.slots := by rw [show (headSpec ws rm).room.slots = ms from hrs]; exact hp.2.1
  have hPc : Pc a (A.U.calling g mk a) := hblind _ _ _ _ hp.2.2
  obtain ⟨U, Ls, c0, s0⟩ := A
  dsimp only [Pt.U, Pt.locs, Pt.cells, Pt.slots] at h1 h2 h3 h4 h5 X hn hPc ⊢
  obtain ⟨m9, methY, cY, hn9, hmY, hcY, -, hlY, -⟩ := Cond.codeWith_spec h2
  cases Option.some.inj (hn9.symm.trans hn)
  obtain ⟨kY, hkY, -⟩ := className_of_methodNamed hn
  have hinitY : kY.init = .initialized := Cond.initialized_spec (findClass_of_methodNamed hn) hkY h3
  have h : At U g.method c below := by rw [hg]; exact X.here
  have hlocals9 : W9 + (maxL + 11) + (headSpec ws rm).room.locals ≤ R.locals := hlocals
  have happ : (headSpec ws rm).appliesLoose y e.platform (U.calling g mk a) = true :=
    Spec.appliesLoose_calling (g := g) h hdg hn hkY hinitY
      (X.room_calling (g := g) (R' := (headSpec ws rm).room) hsize hmY hcY hframes (by rw [hlY]; omega) h4 h5) h1
  obtain ⟨mid, hmid⟩ := h.above
  have hfr : (U.setTop g).frames = (.java g :: mid) ++ below := by rw [State.frames_setTop' g h.top, hmid]; rfl
  obtain ⟨o, s₂, hsteps, -, hend, hq⟩ := Steps.callFree hM p X.admits X.cas X.clock (acts := []) hfr happ hPc trivial
  have hq' : vx_Q Qc XC mc ms free a (U.calling g mk a) o s₂ := hq
  rw [State.frames_setTop' g h.top] at hend
  obtain ⟨g₀, hg0⟩ := Option.isSome_iff_exists.mp h.top
  obtain ⟨r, hr⟩ := State.topJava?_eq_some.mp hg0
  have hr' : (({ U with heap := s₂.heap, slotsUsed := s₂.slotsUsed } : State).setVm s₂.vm).frames = .java g₀ :: r := hr
  rcases hq' with ⟨hqc, L, hfe, hL⟩ | ⟨q, rfl, E, ce, L, hx, hce, hcv, hcl, hW₂, hsm, hL⟩
  · obtain ⟨⟨v, rfl⟩, hW₂, e2, q2, q3, q4, q5, q6⟩ := id hfe
    have e3 : s₂ = ({ (U.calling g mk a).setFrames s₂.frames with heap := s₂.heap, slotsUsed := s₂.slotsUsed } : State).setVm s₂.vm := by
      have : s₂ = ({ s₂ with vm := (U.calling g mk a).vm } : State).setVm s₂.vm := rfl
      rw [e2] at this
      exact this
    obtain ⟨c₂, i₂, len₂, hc₂, hd₂, hf₂⟩ := hend
    have hW' : U.WarmedH s₂.vm := hW₂
    have hcc : c₂ = c := by
      have h1 : s₂.code? g.method = U.code? g.method := by
        rw [State.code?_eq, State.code?_eq, hW'.alike.method?]
      exact Option.some.inj (hc₂.symm.trans (h1.trans h.code))
    subst hcc
    have hlen : len₂ = len := by rw [hdg] at hd₂; cases hd₂; rfl
    subst hlen
    have hs₂ : s₂ = (({ U with heap := s₂.heap, slotsUsed := s₂.slotsUsed } : State).setVm s₂.vm).setTop { g with pc := g.pc + len₂, stack := v.toList ++ g.stack } := by
      refine e3.trans ?_
      rw [hf₂, State.calling_eq h.top, State.setFrames_setFrames, State.setTop_of_frames _ hr', hr]
      rfl
    have hsame : U.sameButNew ({ U with heap := s₂.heap, slotsUsed := s₂.slotsUsed } : State) L mc ms := by
      refine ⟨?_, q2, q3, q4, q5, q6⟩
      obtain ⟨t, ht, -⟩ := State.frames_cons hr
      show ({ U with heap := s₂.heap, slotsUsed := s₂.slotsUsed } : State) = { U.setFrames U.frames with heap := s₂.heap, slotsUsed := s₂.slotsUsed }
      rw [State.setFrames_self ht]
    subst hg
    refine Or.inl ⟨v, ⟨(({ U with heap := s₂.heap, slotsUsed := s₂.slotsUsed } : State).setVm s₂.vm), Ls ++ L, c0 + mc, s0 + ms⟩,
      ⟨X.admits, X.cas, X.clock, X.frames, X.room, X.hears, X.method, X.code, (X.here.setHeapUsed s₂.heap s₂.slotsUsed).setVm hW'.alike, X.tail, State.WarmedH.trans X.warmed hW', X.limits, X.bytes, X.same.trans (hsame.setVm s.vm)⟩,
      ⟨g, mk, s₂, L, rfl, rfl, hqc, rfl, hL, rfl, rfl⟩, ?_⟩
    show Steps p.tables e below _ ((({ U with heap := s₂.heap, slotsUsed := s₂.slotsUsed } : State).setVm s₂.vm).setTop { g with pc := g.pc + len₂, stack := v.toList ++ g.stack })
    rw [← hs₂]
    exact hsteps
  · obtain ⟨e2, q2, q3, q4, q5, q6⟩ := id hsm
    have e3 : s₂ = ({ (U.calling g mk a).setFrames s₂.frames with heap := s₂.heap, slotsUsed := s₂.slotsUsed } : State).setVm s₂.vm := by
      have : s₂ = ({ s₂ with vm := (U.calling g mk a).vm } : State).setVm s₂.vm := rfl
      rw [e2] at this
      exact this
    have hf₂ : s₂.frames = .throwing q :: .java g :: U.frames.tail := hend
    have hW' : U.WarmedH s₂.vm := hW₂
    have hs₂ : s₂ = ((({ U with heap := s₂.heap, slotsUsed := s₂.slotsUsed } : State).setVm s₂.vm).setTop g).pushFrame (.throwing q) := by
      refine e3.trans ?_
      rw [hf₂, State.calling_eq h.top, State.setFrames_setFrames, State.pushFrame, State.frames_setTop _ hr', State.setTop_of_frames _ hr', State.setFrames_setFrames, hr]
      rfl
    have hsame : U.sameButNew ({ U with heap := s₂.heap, slotsUsed := s₂.slotsUsed } : State) L mc ms := by
      refine ⟨?_, q2, q3, q4, q5, q6⟩
      obtain ⟨t, ht, -⟩ := State.frames_cons hr
      show ({ U with heap := s₂.heap, slotsUsed := s₂.slotsUsed } : State) = { U.setFrames U.frames with heap := s₂.heap, slotsUsed := s₂.slotsUsed }
      rw [State.setFrames_self ht]
    subst hg
    refine Or.inr ⟨q, ⟨(({ U with heap := s₂.heap, slotsUsed := s₂.slotsUsed } : State).setVm s₂.vm), Ls ++ L, c0 + mc, s0 + ms⟩,
      ⟨X.admits, X.cas, X.clock, X.frames, X.room, X.hears, X.method, X.code, (X.here.setHeapUsed s₂.heap s₂.slotsUsed).setVm hW'.alike, X.tail, State.WarmedH.trans X.warmed hW', X.limits, X.bytes, X.same.trans (hsame.setVm s.vm)⟩,
      ⟨g, mk, s₂, L, E, ce, rfl, rfl, hx, hce, hcv, hcl, rfl, hL, rfl, rfl⟩, ?_⟩
    show Steps p.tables e below _ (((({ U with heap := s₂.heap, slotsUsed := s₂.slotsUsed } : State).setVm s₂.vm).setTop g).pushFrame (.throwing q))
    rw [← hs₂]
    exact hsteps
end
variable {p : Program} {l : Launch} {e : Env} {R : Room} {s : State} {m : MethodId} {args : Array Value} {below : List Frame} {meth : Method} {c : Code} {T : State} {H : Heap} {locs : List Loc} {cells slots : Nat}
theorem vx_callVX (X : Stand p l e R s m args below meth c T locs cells slots) (hexec : p.tables.exec = Jvm.exec) {own C : String} {index : Nat} {y : MethodName} {bytes : ByteArray} {maxL : Nat} {ret : Option FieldType} {hh : List (Nat × Nat × Nat × Nat)}
    (hown : s.vm.findClass own = some m.cls) (hlink : (Cond.methodLink own index y).before args s = true) (hinst : (Cond.instanceMethod y).before args s = true) (hsel : (Cond.selects C y y).before args s = true)
    (hcode : (Cond.codeWith y bytes maxL ret hh).before args s = true) (hy : y.cls ≠ "java/lang/invoke/MethodHandle" ∧ y.cls ≠ "java/lang/invoke/VarHandle")
    {W9 : Nat} {Pre : Pt → Array Value → Prop} {Post : Pt → Array Value → Option Value → Pt → Prop} {PostX : Pt → Array Value → Addr → Pt → Prop} (hK : vx_Back l R p e below s args y 3 W9 Pre Post PostX)
    {b : Addr} {cellB : Cell} (hcell : T.heap[b]? = some cellB) (hobj : cellB.vm.isStatics = false) (hcls : s.vm.findClass C = some cellB.cls)
    {g : JFrame} (hg : g.method = m) (hsize : g.locals.size = c.maxLocals) {argsL rest : List Value} (hlen : ∀ sig, parseMethodDescriptor y.desc = some sig → argsL.length = sig.parameters.length)
    (hstack : g.stack = argsL.reverse ++ .ref b :: rest) (hW : 2 * g.monitorRoom + (rest.map fun v => v.category).sum ≤ W9) (hdg : decode c.code g.pc = .ok (.invokevirtual index, 3))
    (hpre : ∀ vm₁, s.WarmedH vm₁ → Pre ⟨T.setVm vm₁, locs, cells, slots⟩ (Value.ref b :: argsL).toArray) :
    (∃ (v : Option Value) (vm₁ : Vm) (B : Pt), s.WarmedH vm₁ ∧ Stand p l e R s m args below meth c B.U B.locs B.cells B.slots ∧ Post ⟨T.setVm vm₁, locs, cells, slots⟩ (Value.ref b :: argsL).toArray v B ∧
      ∀ target, Steps p.tables e below (B.U.setTop { g with pc := g.pc + 3, stack := v.toList ++ rest }) target → Steps p.tables e below (T.setTop g) target) ∨
    (∃ (q : Addr) (vm₁ : Vm) (B : Pt), s.WarmedH vm₁ ∧ Stand p l e R s m args below meth c B.U B.locs B.cells B.slots ∧ PostX ⟨T.setVm vm₁, locs, cells, slots⟩ (Value.ref b :: argsL).toArray q B ∧
      Steps p.tables e below (T.setTop g) ((B.U.setTop { g with stack := rest }).pushFrame (.throwing q))) := by
  obtain ⟨mk, methM, hnamed, hmethM, hstM, habM⟩ := Cond.instanceMethod_spec hinst
  obtain ⟨m8, methM', cM, hn8, hmethM', -, -, -, -, -, -, hsigM⟩ := Cond.codeWith_spec hcode
  cases Option.some.inj (hn8.symm.trans hnamed)
  cases hmethM.symm.trans hmethM'
  obtain ⟨c2, r2, m2, q1, q2, q3, q4, kP, hkP, hkPi⟩ := Cond.selects_spec hsel
  cases hcls.symm.trans q1
  cases (State.methodFound?_of_named hnamed hy).symm.trans q2
  cases hnamed.symm.trans q3
  have hselP : selectMethod e.platform s.vm cellB.cls mk = .method mk := by rw [Launch.admits_selectMethod X.admits]; exact q4
  obtain ⟨vm₁, X₁, hstep₁⟩ := X.invokevirtual hexec hown hlink hnamed hmethM hstM hkP hkPi hy (a := b) (cell := cellB) hcell
    (fun z h => by rw [h] at hobj; cases hobj) hselP hmethM habM hkP hkPi (g := g) hg (argsL := argsL) (rest := rest) (hlen _ hsigM) hstack hdg
  rcases hK m meth c ⟨T.setVm vm₁, locs, cells, slots⟩ { g with stack := rest } (.invokevirtual index) mk (Value.ref b :: argsL).toArray X₁ hg hsize hdg hW (X₁.named hnamed) (hpre vm₁ X₁.warmed) with ⟨v, B, X', hpost, hsteps⟩ | ⟨q, B, X', hpost, hsteps⟩
  · exact Or.inl ⟨v, vm₁, B, X₁.warmed, X', hpost, fun target h => hstep₁ _ fun acts => by rw [doInvoke_state]; exact hsteps.trans h⟩
  · exact Or.inr ⟨q, vm₁, B, X₁.warmed, X', hpost, hstep₁ _ fun acts => by rw [doInvoke_state]; exact hsteps⟩
theorem vx_callSX (X : Stand p l e R s m args below meth c T locs cells slots) (hexec : p.tables.exec = Jvm.exec) {own : String} {index : Nat} {y : MethodName} {bytes : ByteArray} {maxL : Nat} {ret : Option FieldType} {hh : List (Nat × Nat × Nat × Nat)}
    (hown : s.vm.findClass own = some m.cls) (hlink : (Cond.methodLink own index y).before args s = true) (hstat : (Cond.static y).before args s = true) (hinit : (Cond.initialized y.cls).before args s = true)
    (hcode : (Cond.codeWith y bytes maxL ret hh).before args s = true) (hy : y.cls ≠ "java/lang/invoke/MethodHandle" ∧ y.cls ≠ "java/lang/invoke/VarHandle")
    {W9 : Nat} {Pre : Pt → Array Value → Prop} {Post : Pt → Array Value → Option Value → Pt → Prop} {PostX : Pt → Array Value → Addr → Pt → Prop} (hK : vx_Back l R p e below s args y 3 W9 Pre Post PostX)
    {g : JFrame} (hg : g.method = m) (hsize : g.locals.size = c.maxLocals) {argsL rest : List Value} (hlen : ∀ sig, parseMethodDescriptor y.desc = some sig → argsL.length = sig.parameters.length)
    (hstack : g.stack = argsL.reverse ++ rest) (hW : 2 * g.monitorRoom + (rest.map fun v => v.category).sum ≤ W9) (hdg : decode c.code g.pc = .ok (.invokestatic index, 3))
    (hpre : ∀ vm₁, s.WarmedH vm₁ → Pre ⟨T.setVm vm₁, locs, cells, slots⟩ argsL.toArray) :
    (∃ (v : Option Value) (vm₁ : Vm) (B : Pt), s.WarmedH vm₁ ∧ Stand p l e R s m args below meth c B.U B.locs B.cells B.slots ∧ Post ⟨T.setVm vm₁, locs, cells, slots⟩ argsL.toArray v B ∧
      ∀ target, Steps p.tables e below (B.U.setTop { g with pc := g.pc + 3, stack := v.toList ++ rest }) target → Steps p.tables e below (T.setTop g) target) ∨
    (∃ (q : Addr) (vm₁ : Vm) (B : Pt), s.WarmedH vm₁ ∧ Stand p l e R s m args below meth c B.U B.locs B.cells B.slots ∧ PostX ⟨T.setVm vm₁, locs, cells, slots⟩ argsL.toArray q B ∧
      Steps p.tables e below (T.setTop g) ((B.U.setTop { g with stack := rest }).pushFrame (.throwing q))) := by
  obtain ⟨mk, methM, cM, hnamed, hmethM, -, -, -, -, -, -, hsigM⟩ := Cond.codeWith_spec hcode
  have hstatic : methM.isStatic = true := Cond.static_spec hnamed hmethM hstat
  obtain ⟨kP, hkP, -⟩ := className_of_methodNamed hnamed
  have hinitP : kP.init = .initialized := Cond.initialized_spec (findClass_of_methodNamed hnamed) hkP hinit
  obtain ⟨vm₁, X₁, hstep₁⟩ := X.invokestatic hexec hown hlink hnamed hmethM hstatic hkP hinitP hy (g := g) hg (argsL := argsL) (rest := rest) (hlen _ hsigM) hstack hdg
  rcases hK m meth c ⟨T.setVm vm₁, locs, cells, slots⟩ { g with stack := rest } (.invokestatic index) mk argsL.toArray X₁ hg hsize hdg hW (X₁.named hnamed) (hpre vm₁ X₁.warmed) with ⟨v, B, X', hpost, hsteps⟩ | ⟨q, B, X', hpost, hsteps⟩
  · exact Or.inl ⟨v, vm₁, B, X₁.warmed, X', hpost, fun target h => hstep₁ _ fun acts => by rw [doInvoke_state]; exact hsteps.trans h⟩
  · exact Or.inr ⟨q, vm₁, B, X₁.warmed, X', hpost, hstep₁ _ fun acts => by rw [doInvoke_state]; exact hsteps⟩
theorem vx_callVW (X : Stand p l e R s m args below meth c T locs cells slots) (hexec : p.tables.exec = Jvm.exec) {own C : String} {index : Nat} {y : MethodName} {bytes : ByteArray} {maxL : Nat} {ret : Option FieldType} {hh : List (Nat × Nat × Nat × Nat)}
    (hown : s.vm.findClass own = some m.cls) (hlink : (Cond.methodLink own index y).before args s = true) (hinst : (Cond.instanceMethod y).before args s = true) (hsel : (Cond.selects C y y).before args s = true)
    (hcode : (Cond.codeWith y bytes maxL ret hh).before args s = true) (hy : y.cls ≠ "java/lang/invoke/MethodHandle" ∧ y.cls ≠ "java/lang/invoke/VarHandle")
    {W9 : Nat} {Pre : Pt → Array Value → Prop} {Post : Pt → Array Value → Option Value → Pt → Prop} (hK : Back l R p e below s args y 3 W9 Pre Post)
    {b : Addr} {cellB : Cell} (hcell : T.heap[b]? = some cellB) (hobj : cellB.vm.isStatics = false) (hcls : s.vm.findClass C = some cellB.cls)
    {g : JFrame} (hg : g.method = m) (hsize : g.locals.size = c.maxLocals) {argsL rest : List Value} (hlen : ∀ sig, parseMethodDescriptor y.desc = some sig → argsL.length = sig.parameters.length)
    (hstack : g.stack = argsL.reverse ++ .ref b :: rest) (hW : 2 * g.monitorRoom + (rest.map fun v => v.category).sum ≤ W9) (hdg : decode c.code g.pc = .ok (.invokevirtual index, 3))
    (hpre : ∀ vm₁, s.WarmedH vm₁ → Pre ⟨T.setVm vm₁, locs, cells, slots⟩ (Value.ref b :: argsL).toArray) :
    ∃ (v : Option Value) (vm₁ : Vm) (B : Pt), s.WarmedH vm₁ ∧ Stand p l e R s m args below meth c B.U B.locs B.cells B.slots ∧ Post ⟨T.setVm vm₁, locs, cells, slots⟩ (Value.ref b :: argsL).toArray v B ∧
      ∀ target, Steps p.tables e below (B.U.setTop { g with pc := g.pc + 3, stack := v.toList ++ rest }) target → Steps p.tables e below (T.setTop g) target := by
  obtain ⟨mk, methM, hnamed, hmethM, hstM, habM⟩ := Cond.instanceMethod_spec hinst
  obtain ⟨m8, methM', cM, hn8, hmethM', -, -, -, -, -, -, hsigM⟩ := Cond.codeWith_spec hcode
  cases Option.some.inj (hn8.symm.trans hnamed)
  cases hmethM.symm.trans hmethM'
  obtain ⟨c2, r2, m2, q1, q2, q3, q4, kP, hkP, hkPi⟩ := Cond.selects_spec hsel
  cases hcls.symm.trans q1
  cases (State.methodFound?_of_named hnamed hy).symm.trans q2
  cases hnamed.symm.trans q3
  have hselP : selectMethod e.platform s.vm cellB.cls mk = .method mk := by rw [Launch.admits_selectMethod X.admits]; exact q4
  obtain ⟨vm₁, X₁, hstep₁⟩ := X.invokevirtual hexec hown hlink hnamed hmethM hstM hkP hkPi hy (a := b) (cell := cellB) hcell
    (fun z h => by rw [h] at hobj; cases hobj) hselP hmethM habM hkP hkPi (g := g) hg (argsL := argsL) (rest := rest) (hlen _ hsigM) hstack hdg
  obtain ⟨v, B, X', hpost, hsteps⟩ := hK m meth c ⟨T.setVm vm₁, locs, cells, slots⟩ { g with stack := rest } (.invokevirtual index) mk (Value.ref b :: argsL).toArray X₁ hg hsize hdg hW (X₁.named hnamed) (hpre vm₁ X₁.warmed)
  exact ⟨v, vm₁, B, X₁.warmed, X', hpost, fun target h => hstep₁ _ fun acts => by rw [doInvoke_state]; exact hsteps.trans h⟩
abbrev vx_CVW (R : Room) (s : State) (args : Array Value) (own C : String) (index : Nat) (y : MethodName) (bytes : ByteArray) (maxL : Nat) (ret : Option FieldType) (hh : List (Nat × Nat × Nat × Nat)) (ws : List Cond) (rm : Room) (mc ms n : Nat) : Prop :=
  (rm.cells = mc ∧ rm.slots = ms ∧ rm.frames + 1 ≤ R.frames ∧ 8 + (maxL + 11) + rm.locals ≤ R.locals ∧ (∀ w ∈ ws, ∀ (a' : Array Value) (U : State), s.WarmedH U.vm → w.before a' U = true) ∧ Cond.codeWith y bytes maxL ret hh ∈ ws) ∧
  (Cond.codeWith y bytes maxL ret hh).before args s = true ∧ (Cond.initialized y.cls).before args s = true ∧ (y.cls ≠ "java/lang/invoke/MethodHandle" ∧ y.cls ≠ "java/lang/invoke/VarHandle") ∧
  (∀ sig, parseMethodDescriptor y.desc = some sig → n = sig.parameters.length) ∧ (Cond.methodLink own index y).before args s = true ∧ (Cond.instanceMethod y).before args s = true ∧ (Cond.selects C y y).before args s = true
theorem vx_cwVW {own C : String} {index maxL mc ms : Nat} {y : MethodName} {bytes : ByteArray} {ret : Option FieldType} {hh : List (Nat × Nat × Nat × Nat)} {Ts ws ws' : List Cond} {rm : Room} (n : Nat) (ht : ∀ w ∈ Ts, w.before args s = true) (hT : GoodIn Ts (wsV own index C y ws)) (hw : ws = Cond.codeWith y bytes maxL ret hh :: ws') (hrc : rm.cells = mc) (hrs : rm.slots = ms)
    (hd : y.cls = C ∧ y.cls ≠ "java/lang/invoke/MethodHandle" ∧ y.cls ≠ "java/lang/invoke/VarHandle" ∧ (parseMethodDescriptor y.desc).map (fun d => d.parameters.length) = some n) (hR : rm.frames + 1 ≤ R.frames ∧ 8 + (maxL + 11) + rm.locals ≤ R.locals) :
    vx_CVW R s args own C index y bytes maxL ret hh ws rm mc ms n := by
  obtain ⟨hC, hd⟩ := hd
  subst hC
  have ok : ∀ w ∈ wsV own index y.cls y ws, w.before args s = true := fun w h => ht w (hT w h).1
  have hG : GoodIn Ts ws := fun w h => hT w (by unfold wsV; exact List.mem_append_right _ h)
  have hc : Cond.codeWith y bytes maxL ret hh ∈ ws := by rw [hw]; exact List.mem_cons_self
  refine ⟨⟨hrc, hrs, hR.1, hR.2, pay_in ht hG, hc⟩, ht _ (hG _ hc).1, ok _ (by simp [wsV]), ⟨hd.1, hd.2.1⟩, fun sig h => ?_, ok _ (by simp [wsV]), ok _ (by simp [wsV]), ok _ (by simp [wsV])⟩
  have h2 := hd.2.2
  rw [h] at h2
  exact (Option.some.inj h2).symm
theorem vx_runVW {y : MethodName} {bytes cc : ByteArray} {maxL nL mc ms n index : Nat} {ret : Option FieldType} {hh : List (Nat × Nat × Nat × Nat)} {ws : List Cond} {rm : Room} {Pc : Array Value → State → Prop} {Qc : Array Value → State → Outcome → State → Prop} {free : Addr → Prop} {Ts : List Cond} {own C : String} {b : Addr} {As rest : List Value} {g : JFrame}
    (S : CallFix p m c cc nL s args Ts own) (hM : Met l y ws rm Pc Qc mc ms free) (cw : vx_CVW R s args own C index y bytes maxL ret hh ws rm mc ms n) (hp : PreV s H C b Pc As)
    (hg : g.method = m) (hn : As.length = n) (hsize : g.locals.size = nL) (hstack : g.stack = As.reverse ++ .ref b :: rest) (hW : 2 * g.monitorRoom + (rest.map fun v => v.category).sum ≤ 8) (hdg : decode cc g.pc = .ok (.invokevirtual index, 3)) (hf : cells + mc ≤ R.cells ∧ slots + ms ≤ R.slots) :
    va_Run p l e R s m args below meth c H locs cells slots mc ms g rest (Qc (Value.ref b :: As).toArray) free := by
  obtain ⟨⟨hrc, hrs, hfr, hlo, hws, hcw⟩, hcode, hini, hy, hlen, hl, hin, hse⟩ := cw
  have hK : Back l R p e below s args y 3 8 (PreOf R mc ms Pc) (PostOf Qc mc ms free) := va_backW (hh := hh) (bytes := bytes) (maxL := maxL) (ret := ret) hM hp.1 hrc hrs hfr hlo hws hcw (fun a' U hW => word_at hW (Or.inl (by first | rfl | simp [Cond.onTables, Cond.keeps, Cond.steady])) hini)
  obtain ⟨hx, hb, hml, ho, -⟩ := S
  obtain ⟨-, ⟨cellB, hcB, hoB, hclB⟩, hPc⟩ := hp
  intro T hT X
  obtain ⟨v, vm₁, ⟨U', l2, c2, s2⟩, hW₁, X', ⟨g', mk, t, L, e1, e2, hq, h1, hL, h2, h3⟩, st⟩ := vx_callVW X hx (C := C) (hh := hh) (bytes := bytes) (maxL := maxL) (ret := ret) ho hl hin hse hcode hy hK (by rw [hT]; exact hcB) hoB hclB hg (hsize.trans hml.symm) (argsL := As) (rest := rest) (fun sig h => hn.trans (hlen sig h)) hstack hW (by rw [hb]; exact hdg)
    (fun vm₁ hW₁ => ⟨hf.1, hf.2, hPc (T.setVm vm₁) hT hW₁⟩)
  dsimp only [Pt.U, Pt.locs, Pt.cells, Pt.slots] at X' e1 e2 h1 h2 h3 st
  subst h1; subst h2; subst h3
  exact ⟨v, (T.setVm vm₁).calling g' mk (Value.ref b :: As).toArray, t, U', L, hT, X', hL, e1, e2, hq, st⟩
section
variable {y : MethodName} {bytes cc : ByteArray} {maxL nL mc ms n index : Nat} {ret : Option FieldType} {ws : List Cond} {rm : Room} {Pc : Array Value → State → Prop} {Qc : Array Value → State → Outcome → State → Prop} {XC : String → State → State → Prop} {free : Addr → Prop} {Ts : List Cond} {own C : String} {b : Addr} {As rest : List Value} {g : JFrame}
theorem vx_runVX {hh : List (Nat × Nat × Nat × Nat)} (S : CallFix p m c cc nL s args Ts own) (hM : vx_Met l y ws rm Pc Qc XC mc ms free) (cw : vx_CVW R s args own C index y bytes maxL ret hh ws rm mc ms n) (hp : PreV s H C b Pc As)
    (hg : g.method = m) (hn : As.length = n) (hsize : g.locals.size = nL) (hstack : g.stack = As.reverse ++ .ref b :: rest) (hW : 2 * g.monitorRoom + (rest.map fun v => v.category).sum ≤ 8) (hdg : decode cc g.pc = .ok (.invokevirtual index, 3)) (hf : cells + mc ≤ R.cells ∧ slots + ms ≤ R.slots) :
    vx_Run p l e R s m args below meth c H locs cells slots mc ms g rest (Qc (Value.ref b :: As).toArray) XC free := by
  obtain ⟨⟨hrc, hrs, hfr, hlo, hws, hcw⟩, hcode, hini, hy, hlen, hl, hin, hse⟩ := cw
  have hK : vx_Back l R p e below s args y 3 8 (PreOf R mc ms Pc) (PostOf Qc mc ms free) (vx_Post XC mc ms free) := vx_backW (hh := hh) (bytes := bytes) (maxL := maxL) (ret := ret) hM hp.1 hrc hrs hfr hlo hws hcw (fun a' U hW => word_at hW (Or.inl (by first | rfl | simp [Cond.onTables, Cond.keeps, Cond.steady])) hini)
  obtain ⟨hx, hb, hml, ho, -⟩ := S
  obtain ⟨-, ⟨cellB, hcB, hoB, hclB⟩, hPc⟩ := hp
  intro T hT X
  rcases vx_callVX X hx (C := C) (hh := hh) (bytes := bytes) (maxL := maxL) (ret := ret) ho hl hin hse hcode hy hK (by rw [hT]; exact hcB) hoB hclB hg (hsize.trans hml.symm) (argsL := As) (rest := rest) (fun sig h => hn.trans (hlen sig h)) hstack hW (by rw [hb]; exact hdg)
    (fun vm₁ hW₁ => ⟨hf.1, hf.2, hPc (T.setVm vm₁) hT hW₁⟩) with ⟨v, vm₁, ⟨U', l2, c2, s2⟩, hW₁, X', ⟨g', mk, t, L, e1, e2, hq, h1, hL, h2, h3⟩, st⟩ | ⟨q, vm₁, ⟨U', l2, c2, s2⟩, hW₁, X', ⟨g', mk, t, L, E, ce, e1, e2, hq, hce, hcv, hcl, h1, hL, h2, h3⟩, st⟩
  · dsimp only [Pt.U, Pt.locs, Pt.cells, Pt.slots] at X' e1 e2 h1 h2 h3 st
    subst h1; subst h2; subst h3
    exact Or.inl ⟨v, (T.setVm vm₁).calling g' mk (Value.ref b :: As).toArray, t, U', L, hT, X', hL, e1, e2, hq, st⟩
  · dsimp only [Pt.U, Pt.locs, Pt.cells, Pt.slots] at X' e1 e2 h1 h2 h3 st hcl
    subst h1; subst h2; subst h3
    exact Or.inr ⟨q, (T.setVm vm₁).calling g' mk (Value.ref b :: As).toArray, t, U', L, E, ce, hT, X', hL, e1, e2, hq, hce, hcv, vx_cls hW₁ hcl, st⟩
theorem vx_runSX {hh : List (Nat × Nat × Nat × Nat)} (S : CallFix p m c cc nL s args Ts own) (hM : vx_Met l y ws rm Pc Qc XC mc ms free) (cw : vx_CSW R s args own index y bytes maxL ret hh ws rm mc ms n) (hp : PreS s H Pc As)
    (hg : g.method = m) (hn : As.length = n) (hsize : g.locals.size = nL) (hstack : g.stack = As.reverse ++ rest) (hW : 2 * g.monitorRoom + (rest.map fun v => v.category).sum ≤ 8) (hdg : decode cc g.pc = .ok (.invokestatic index, 3)) (hf : cells + mc ≤ R.cells ∧ slots + ms ≤ R.slots) :
    vx_Run p l e R s m args below meth c H locs cells slots mc ms g rest (Qc As.toArray) XC free := by
  obtain ⟨⟨hrc, hrs, hfr, hlo, hws, hcw⟩, hcode, hini, hy, hlen, hl, hstt⟩ := cw
  have hK : vx_Back l R p e below s args y 3 8 (PreOf R mc ms Pc) (PostOf Qc mc ms free) (vx_Post XC mc ms free) := vx_backW (hh := hh) (bytes := bytes) (maxL := maxL) (ret := ret) hM hp.1 hrc hrs hfr hlo hws hcw (fun a' U hW => word_at hW (Or.inl (by first | rfl | simp [Cond.onTables, Cond.keeps, Cond.steady])) hini)
  obtain ⟨hx, hb, hml, ho, -⟩ := S
  intro T hT X
  rcases vx_callSX X hx (hh := hh) (bytes := bytes) (maxL := maxL) (ret := ret) ho hl hstt hini hcode hy hK hg (hsize.trans hml.symm) (argsL := As) (rest := rest) (fun sig h => hn.trans (hlen sig h)) hstack hW (by rw [hb]; exact hdg)
    (fun vm₁ hW₁ => ⟨hf.1, hf.2, hp.2 (T.setVm vm₁) hT hW₁⟩) with ⟨v, vm₁, ⟨U', l2, c2, s2⟩, hW₁, X', ⟨g', mk, t, L, e1, e2, hq, h1, hL, h2, h3⟩, st⟩ | ⟨q, vm₁, ⟨U', l2, c2, s2⟩, hW₁, X', ⟨g', mk, t, L, E, ce, e1, e2, hq, hce, hcv, hcl, h1, hL, h2, h3⟩, st⟩
  · dsimp only [Pt.U, Pt.locs, Pt.cells, Pt.slots] at X' e1 e2 h1 h2 h3 st
    subst h1; subst h2; subst h3
    exact Or.inl ⟨v, (T.setVm vm₁).calling g' mk As.toArray, t, U', L, hT, X', hL, e1, e2, hq, st⟩
  · dsimp only [Pt.U, Pt.locs, Pt.cells, Pt.slots] at X' e1 e2 h1 h2 h3 st hcl
    subst h1; subst h2; subst h3
    exact Or.inr ⟨q, (T.setVm vm₁).calling g' mk As.toArray, t, U', L, E, ce, hT, X', hL, e1, e2, hq, hce, hcv, vx_cls hW₁ hcl, st⟩
end
end VXH
theorem vx_ofWH {l : Launch} {y : MethodName} {ws ws' : List Cond} {rm : Room} {Pc : Array Value → State → Prop} {Qc : Array Value → State → Outcome → State → Prop} {XC : String → State → State → Prop} {mc ms : Nat} {free : Addr → Prop} {cc : ByteArray} {maxL : Nat} {ret : Option FieldType} {hh : List (Nat × Nat × Nat × Nat)}
    (hy : plainName y.cls = true) (hw : ws = Cond.codeWith y cc maxL ret hh :: ws')
    (body : ∀ p e s m args below meth c s₁, BodyLoose p l y (headSpec ws rm) cc maxL ret e s m args below meth c s₁ → c.maxLocals = maxL → Pc args s →
      W p l e (headSpec ws rm).room s m args below meth c s.heap [] 0 0 (vx_MQ below Qc XC args s mc ms free) (entryFrame m args maxL)) : vx_Met l y ws rm Pc Qc XC mc ms free := by
  refine MetFree.of_bodyS (code := cc) (maxLocals := maxL) (ret := ret) hy ?_ ?_
  · intro args s m h hn
    obtain ⟨m9, meth, c, hn9, h1, h2, h3, h4, -, h5, h6, -⟩ := Cond.codeWith_spec (atoms_spec (ws := ws) h _ (by rw [hw]; exact List.mem_cons_self))
    cases hn.symm.trans hn9
    exact ⟨meth, c, h1, h2, h3, h4, h5, h6⟩
  · intro p e s m args below meth c s₁ B hml hP _
    have hh0 : s₁.heap = s.heap := by rw [B.state]; rfl
    obtain ⟨t, a1, o, b1, b2, b3⟩ := body p e s m args below meth c s₁ B hml hP s₁ hh0 (Stand.of_body B)
    exact ⟨t, o, a1, b1, b2, b3⟩
/-! ===== END ===== -/
end
section
/-! ===== BEGIN printed: names, fields, word lists, decode rows ===== -/
def RX0 : String := "TwoTownAlmanac$DateText"
def TX0 : u_T := fun k => match k with
  | 0 => ("TwoTownAlmanac$DateText", "codes", "[I", true)
  | _ => ("TwoTownAlmanac$DateText", "length", "I", false)
def tyX0 : Nat → FieldType := fun k => match k with
  | 0 => .array .int
  | _ => .int
abbrev wsX00 : List Cond := u_ws RX0 TX0 2
theorem nmX0 : ∀ a, a < 2 → ∀ b, b < 2 → a ≠ b → (TX0 a).2.1 ≠ (TX0 b).2.1 := by decide +kernel
theorem tyX0_ok : ∀ k, k < 2 → parseFieldDescriptor (TX0 k).2.2.1 = some (tyX0 k) := by decide +kernel
abbrev cX0_init : ByteArray := prog_2_method_1_code
def yX0_init : MethodName := ⟨RX0, "<init>", "()V"⟩
abbrev cX0_put : ByteArray := prog_2_method_2_code
def yX0_put : MethodName := ⟨RX0, "put", "(I)V"⟩
abbrev cX0_putNumber : ByteArray := prog_2_method_3_code
def yX0_putNumber : MethodName := ⟨RX0, "putNumber", "(I)V"⟩
abbrev cX0_firstError : ByteArray := prog_2_method_4_code
def yX0_firstError : MethodName := ⟨RX0, "firstError", "()I"⟩
abbrev cX0_fits : ByteArray := prog_2_method_5_code
def yX0_fits : MethodName := ⟨RX0, "fits", "(III)Z"⟩
abbrev cX0_town : ByteArray := prog_2_method_6_code
def yX0_town : MethodName := ⟨RX0, "town", "()I"⟩
abbrev cX0_number : ByteArray := prog_2_method_7_code
def yX0_number : MethodName := ⟨RX0, "number", "(I)I"⟩
def RX1 : String := "TwoTownAlmanac$Feast"
def TX1 : u_T := fun k => match k with
  | 0 => ("TwoTownAlmanac$Feast", "town", "I", false)
  | 1 => ("TwoTownAlmanac$Feast", "month", "I", false)
  | 2 => ("TwoTownAlmanac$Feast", "dayOfMonth", "I", false)
  | _ => ("TwoTownAlmanac$Feast", "barred", "I", false)
def tyX1 : Nat → FieldType := fun k => match k with
  | 0 => .int
  | 1 => .int
  | 2 => .int
  | _ => .int
abbrev wsX10 : List Cond := u_ws RX1 TX1 4
theorem nmX1 : ∀ a, a < 4 → ∀ b, b < 4 → a ≠ b → (TX1 a).2.1 ≠ (TX1 b).2.1 := by decide +kernel
theorem tyX1_ok : ∀ k, k < 4 → parseFieldDescriptor (TX1 k).2.2.1 = some (tyX1 k) := by decide +kernel
abbrev cX1_init : ByteArray := prog_3_method_1_code
def yX1_init : MethodName := ⟨RX1, "<init>", "()V"⟩
abbrev cX1_copyFrom : ByteArray := prog_3_method_2_code
def yX1_copyFrom : MethodName := ⟨RX1, "copyFrom", "(LTwoTownAlmanac$Feast;)V"⟩
def RX2 : String := "TwoTownAlmanac$State"
def TX2 : u_T := fun k => match k with
  | 0 => ("TwoTownAlmanac$State", "townA", "LTwoTownAlmanac$Town;", true)
  | 1 => ("TwoTownAlmanac$State", "townB", "LTwoTownAlmanac$Town;", true)
  | 2 => ("TwoTownAlmanac$State", "feasts", "[LTwoTownAlmanac$Feast;", true)
  | 3 => ("TwoTownAlmanac$State", "feastsAdded", "I", false)
  | 4 => ("TwoTownAlmanac$State", "shiftDays", "I", false)
  | 5 => ("TwoTownAlmanac$State", "copiesEachDay", "I", false)
  | 6 => ("TwoTownAlmanac$State", "dayNow", "I", false)
  | 7 => ("TwoTownAlmanac$State", "quarrels", "I", false)
  | _ => ("TwoTownAlmanac$State", "copies", "I", false)
def tyX2 : Nat → FieldType := fun k => match k with
  | 0 => .object "TwoTownAlmanac$Town"
  | 1 => .object "TwoTownAlmanac$Town"
  | 2 => .array (.object "TwoTownAlmanac$Feast")
  | 3 => .int
  | 4 => .int
  | 5 => .int
  | 6 => .int
  | 7 => .int
  | _ => .int
abbrev wsX20 : List Cond := u_ws RX2 TX2 9
theorem nmX2 : ∀ a, a < 9 → ∀ b, b < 9 → a ≠ b → (TX2 a).2.1 ≠ (TX2 b).2.1 := by decide +kernel
theorem tyX2_ok : ∀ k, k < 9 → parseFieldDescriptor (TX2 k).2.2.1 = some (tyX2 k) := by decide +kernel
abbrev cX2_init : ByteArray := prog_4_method_1_code
def yX2_init : MethodName := ⟨RX2, "<init>", "()V"⟩
abbrev cX2_copyFrom : ByteArray := prog_4_method_2_code
def yX2_copyFrom : MethodName := ⟨RX2, "copyFrom", "(LTwoTownAlmanac$State;)V"⟩
abbrev cX2_townWith : ByteArray := prog_4_method_3_code
def yX2_townWith : MethodName := ⟨RX2, "townWith", "(I)LTwoTownAlmanac$Town;"⟩
abbrev cX2_putFeast : ByteArray := prog_4_method_4_code
def yX2_putFeast : MethodName := ⟨RX2, "putFeast", "(III)I"⟩
abbrev cX2_keptIn : ByteArray := prog_4_method_5_code
def yX2_keptIn : MethodName := ⟨RX2, "keptIn", "(LTwoTownAlmanac$Feast;I)I"⟩
abbrev cX2_firstYearFor : ByteArray := prog_4_method_6_code
def yX2_firstYearFor : MethodName := ⟨RX2, "firstYearFor", "(LTwoTownAlmanac$Feast;I)I"⟩
abbrev cX2_firstKept : ByteArray := prog_4_method_7_code
def yX2_firstKept : MethodName := ⟨RX2, "firstKept", "(LTwoTownAlmanac$Feast;II)I"⟩
abbrev cX2_firstMeeting : ByteArray := prog_4_method_8_code
def yX2_firstMeeting : MethodName := ⟨RX2, "firstMeeting", "(LTwoTownAlmanac$Feast;LTwoTownAlmanac$Feast;II)I"⟩
abbrev cX2_markFeasts : ByteArray := prog_4_method_9_code
def yX2_markFeasts : MethodName := ⟨RX2, "markFeasts", "([III)V"⟩
abbrev cX2_feastsOf : ByteArray := prog_4_method_10_code
def yX2_feastsOf : MethodName := ⟨RX2, "feastsOf", "(I)I"⟩
abbrev cX2_countQuarrels : ByteArray := prog_4_method_11_code
def yX2_countQuarrels : MethodName := ⟨RX2, "countQuarrels", "([II)I"⟩
abbrev cX2_countPassed : ByteArray := prog_4_method_12_code
def yX2_countPassed : MethodName := ⟨RX2, "countPassed", "([II)V"⟩
def RX3 : String := "TwoTownAlmanac$Town"
def TX3 : u_T := fun k => match k with
  | 0 => ("TwoTownAlmanac$Town", "isA", "Z", true)
  | 1 => ("TwoTownAlmanac$Town", "gapDays", "[I", true)
  | 2 => ("TwoTownAlmanac$Town", "gapLengths", "[I", true)
  | 3 => ("TwoTownAlmanac$Town", "gaps", "I", false)
  | _ => ("TwoTownAlmanac$Town", "keptCount", "I", false)
def tyX3 : Nat → FieldType := fun k => match k with
  | 0 => .boolean
  | 1 => .array .int
  | 2 => .array .int
  | 3 => .int
  | _ => .int
abbrev wsX30 : List Cond := u_ws RX3 TX3 5
theorem nmX3 : ∀ a, a < 5 → ∀ b, b < 5 → a ≠ b → (TX3 a).2.1 ≠ (TX3 b).2.1 := by decide +kernel
theorem tyX3_ok : ∀ k, k < 5 → parseFieldDescriptor (TX3 k).2.2.1 = some (tyX3 k) := by decide +kernel
abbrev cX3_init : ByteArray := prog_5_method_1_code
def yX3_init : MethodName := ⟨RX3, "<init>", "(I)V"⟩
abbrev cX3_copyFrom : ByteArray := prog_5_method_2_code
def yX3_copyFrom : MethodName := ⟨RX3, "copyFrom", "(LTwoTownAlmanac$Town;)V"⟩
abbrev cX3_latestGapDay : ByteArray := prog_5_method_3_code
def yX3_latestGapDay : MethodName := ⟨RX3, "latestGapDay", "()I"⟩
abbrev cX3_leaveOut : ByteArray := prog_5_method_4_code
def yX3_leaveOut : MethodName := ⟨RX3, "leaveOut", "(II)I"⟩
abbrev cX3_daysInMonth : ByteArray := prog_5_method_5_code
def yX3_daysInMonth : MethodName := ⟨RX3, "daysInMonth", "(I)I"⟩
abbrev cX3_daysBeforeMonth : ByteArray := prog_5_method_6_code
def yX3_daysBeforeMonth : MethodName := ⟨RX3, "daysBeforeMonth", "(I)I"⟩
abbrev cX3_daysInYear : ByteArray := prog_5_method_7_code
def yX3_daysInYear : MethodName := ⟨RX3, "daysInYear", "()I"⟩
abbrev cX3_dateOf : ByteArray := prog_5_method_8_code
def yX3_dateOf : MethodName := ⟨RX3, "dateOf", "(III)I"⟩
abbrev cX3_dateOn : ByteArray := prog_5_method_9_code
def yX3_dateOn : MethodName := ⟨RX3, "dateOn", "(I)I"⟩
abbrev cX3_dayInYearOn : ByteArray := prog_5_method_10_code
def yX3_dayInYearOn : MethodName := ⟨RX3, "dayInYearOn", "(I)I"⟩
abbrev cX3_yearOn : ByteArray := prog_5_method_11_code
def yX3_yearOn : MethodName := ⟨RX3, "yearOn", "(I)I"⟩
abbrev cX3_monthOn : ByteArray := prog_5_method_12_code
def yX3_monthOn : MethodName := ⟨RX3, "monthOn", "(I)I"⟩
abbrev cX3_dayOfMonthOn : ByteArray := prog_5_method_13_code
def yX3_dayOfMonthOn : MethodName := ⟨RX3, "dayOfMonthOn", "(I)I"⟩
abbrev cX3_firstDayFrom : ByteArray := prog_5_method_14_code
def yX3_firstDayFrom : MethodName := ⟨RX3, "firstDayFrom", "(I)I"⟩
abbrev cX3_dayWithDate : ByteArray := prog_5_method_15_code
def yX3_dayWithDate : MethodName := ⟨RX3, "dayWithDate", "(III)I"⟩
abbrev cX3_dueIn : ByteArray := prog_5_method_16_code
def yX3_dueIn : MethodName := ⟨RX3, "dueIn", "(LTwoTownAlmanac$Feast;I)I"⟩
def RX4 : String := "TwoTownAlmanac"
def TX4 : u_T := fun k => match k with
  | 0 => ("TwoTownAlmanac", "state", "LTwoTownAlmanac$State;", true)
  | 1 => ("TwoTownAlmanac", "recorded", "[LTwoTownAlmanac$State;", true)
  | 2 => ("TwoTownAlmanac", "recordedCount", "I", false)
  | 3 => ("TwoTownAlmanac", "slots", "[LTwoTownAlmanac$State;", true)
  | 4 => ("TwoTownAlmanac", "slotIsFilled", "[Z", true)
  | 5 => ("TwoTownAlmanac", "text", "LTwoTownAlmanac$DateText;", true)
  | _ => ("TwoTownAlmanac", "feastSets", "[I", true)
def tyX4 : Nat → FieldType := fun k => match k with
  | 0 => .object "TwoTownAlmanac$State"
  | 1 => .array (.object "TwoTownAlmanac$State")
  | 2 => .int
  | 3 => .array (.object "TwoTownAlmanac$State")
  | 4 => .array .boolean
  | 5 => .object "TwoTownAlmanac$DateText"
  | _ => .array .int
abbrev wsX40 : List Cond := u_ws RX4 TX4 7
theorem nmX4 : ∀ a, a < 7 → ∀ b, b < 7 → a ≠ b → (TX4 a).2.1 ≠ (TX4 b).2.1 := by decide +kernel
theorem tyX4_ok : ∀ k, k < 7 → parseFieldDescriptor (TX4 k).2.2.1 = some (tyX4 k) := by decide +kernel
abbrev cX4_init : ByteArray := prog_1_method_1_code
def yX4_init : MethodName := ⟨RX4, "<init>", "()V"⟩
abbrev cX4_addGap : ByteArray := prog_1_method_2_code
def yX4_addGap : MethodName := ⟨RX4, "addGap", "(III)I"⟩
abbrev cX4_gapCount : ByteArray := prog_1_method_3_code
def yX4_gapCount : MethodName := ⟨RX4, "gapCount", "(I)I"⟩
abbrev cX4_gapDay : ByteArray := prog_1_method_4_code
def yX4_gapDay : MethodName := ⟨RX4, "gapDay", "(II)I"⟩
abbrev cX4_gapLength : ByteArray := prog_1_method_5_code
def yX4_gapLength : MethodName := ⟨RX4, "gapLength", "(II)I"⟩
abbrev cX4_monthLength : ByteArray := prog_1_method_6_code
def yX4_monthLength : MethodName := ⟨RX4, "monthLength", "(II)I"⟩
abbrev cX4_dayOfMonth : ByteArray := prog_1_method_7_code
def yX4_dayOfMonth : MethodName := ⟨RX4, "dayOfMonth", "(II)I"⟩
abbrev cX4_monthOf : ByteArray := prog_1_method_8_code
def yX4_monthOf : MethodName := ⟨RX4, "monthOf", "(II)I"⟩
abbrev cX4_yearOf : ByteArray := prog_1_method_9_code
def yX4_yearOf : MethodName := ⟨RX4, "yearOf", "(II)I"⟩
abbrev cX4_weekday : ByteArray := prog_1_method_10_code
def yX4_weekday : MethodName := ⟨RX4, "weekday", "(I)I"⟩
abbrev cX4_dayOfDate : ByteArray := prog_1_method_11_code
def yX4_dayOfDate : MethodName := ⟨RX4, "dayOfDate", "(IIII)I"⟩
abbrev cX4_addFeast : ByteArray := prog_1_method_12_code
def yX4_addFeast : MethodName := ⟨RX4, "addFeast", "(III)I"⟩
abbrev cX4_barWeekday : ByteArray := prog_1_method_13_code
def yX4_barWeekday : MethodName := ⟨RX4, "barWeekday", "(II)I"⟩
abbrev cX4_allowAllWeekdays : ByteArray := prog_1_method_14_code
def yX4_allowAllWeekdays : MethodName := ⟨RX4, "allowAllWeekdays", "(I)I"⟩
abbrev cX4_feastCount : ByteArray := prog_1_method_15_code
def yX4_feastCount : MethodName := ⟨RX4, "feastCount", "()I"⟩
abbrev cX4_feastTown : ByteArray := prog_1_method_16_code
def yX4_feastTown : MethodName := ⟨RX4, "feastTown", "(I)I"⟩
abbrev cX4_barredWeekday : ByteArray := prog_1_method_17_code
def yX4_barredWeekday : MethodName := ⟨RX4, "barredWeekday", "(I)I"⟩
abbrev cX4_dayDue : ByteArray := prog_1_method_18_code
def yX4_dayDue : MethodName := ⟨RX4, "dayDue", "(II)I"⟩
abbrev cX4_dayKept : ByteArray := prog_1_method_19_code
def yX4_dayKept : MethodName := ⟨RX4, "dayKept", "(II)I"⟩
abbrev cX4_isKept : ByteArray := prog_1_method_20_code
def yX4_isKept : MethodName := ⟨RX4, "isKept", "(II)Z"⟩
abbrev cX4_feastsOn : ByteArray := prog_1_method_21_code
def yX4_feastsOn : MethodName := ⟨RX4, "feastsOn", "(I)I"⟩
abbrev cX4_isQuarrel : ByteArray := prog_1_method_22_code
def yX4_isQuarrel : MethodName := ⟨RX4, "isQuarrel", "(I)Z"⟩
abbrev cX4_setShift : ByteArray := prog_1_method_23_code
def yX4_setShift : MethodName := ⟨RX4, "setShift", "(I)I"⟩
abbrev cX4_shift : ByteArray := prog_1_method_24_code
def yX4_shift : MethodName := ⟨RX4, "shift", "()I"⟩
abbrev cX4_setCopiesPerDay : ByteArray := prog_1_method_25_code
def yX4_setCopiesPerDay : MethodName := ⟨RX4, "setCopiesPerDay", "(I)I"⟩
abbrev cX4_copiesPerDay : ByteArray := prog_1_method_26_code
def yX4_copiesPerDay : MethodName := ⟨RX4, "copiesPerDay", "()I"⟩
abbrev cX4_passDays : ByteArray := prog_1_method_27_code
def yX4_passDays : MethodName := ⟨RX4, "passDays", "(I)I"⟩
abbrev cX4_today : ByteArray := prog_1_method_28_code
def yX4_today : MethodName := ⟨RX4, "today", "()I"⟩
abbrev cX4_feastsKept : ByteArray := prog_1_method_29_code
def yX4_feastsKept : MethodName := ⟨RX4, "feastsKept", "(I)I"⟩
abbrev cX4_quarrelCount : ByteArray := prog_1_method_30_code
def yX4_quarrelCount : MethodName := ⟨RX4, "quarrelCount", "()I"⟩
abbrev cX4_copiesMade : ByteArray := prog_1_method_31_code
def yX4_copiesMade : MethodName := ⟨RX4, "copiesMade", "()I"⟩
abbrev cX4_nextDay : ByteArray := prog_1_method_32_code
def yX4_nextDay : MethodName := ⟨RX4, "nextDay", "(I)I"⟩
abbrev cX4_daysUntilMeeting : ByteArray := prog_1_method_33_code
def yX4_daysUntilMeeting : MethodName := ⟨RX4, "daysUntilMeeting", "(II)I"⟩
abbrev cX4_quarrelsWithin : ByteArray := prog_1_method_34_code
def yX4_quarrelsWithin : MethodName := ⟨RX4, "quarrelsWithin", "(I)I"⟩
abbrev cX4_bestBarredWeekday : ByteArray := prog_1_method_35_code
def yX4_bestBarredWeekday : MethodName := ⟨RX4, "bestBarredWeekday", "(I)I"⟩
abbrev cX4_appendText : ByteArray := prog_1_method_36_code
def yX4_appendText : MethodName := ⟨RX4, "appendText", "(J)I"⟩
abbrev cX4_clearText : ByteArray := prog_1_method_37_code
def yX4_clearText : MethodName := ⟨RX4, "clearText", "()I"⟩
abbrev cX4_textLength : ByteArray := prog_1_method_38_code
def yX4_textLength : MethodName := ⟨RX4, "textLength", "()I"⟩
abbrev cX4_textError : ByteArray := prog_1_method_39_code
def yX4_textError : MethodName := ⟨RX4, "textError", "()I"⟩
abbrev cX4_textCharacter : ByteArray := prog_1_method_40_code
def yX4_textCharacter : MethodName := ⟨RX4, "textCharacter", "(I)I"⟩
abbrev cX4_dayOfText : ByteArray := prog_1_method_41_code
def yX4_dayOfText : MethodName := ⟨RX4, "dayOfText", "()I"⟩
abbrev cX4_writeDate : ByteArray := prog_1_method_42_code
def yX4_writeDate : MethodName := ⟨RX4, "writeDate", "(II)I"⟩
abbrev cX4_undo : ByteArray := prog_1_method_43_code
def yX4_undo : MethodName := ⟨RX4, "undo", "()I"⟩
abbrev cX4_undoCount : ByteArray := prog_1_method_44_code
def yX4_undoCount : MethodName := ⟨RX4, "undoCount", "()I"⟩
abbrev cX4_saveState : ByteArray := prog_1_method_45_code
def yX4_saveState : MethodName := ⟨RX4, "saveState", "(I)I"⟩
abbrev cX4_loadState : ByteArray := prog_1_method_46_code
def yX4_loadState : MethodName := ⟨RX4, "loadState", "(I)I"⟩
abbrev cX4_requireRange : ByteArray := prog_1_method_47_code
def yX4_requireRange : MethodName := ⟨RX4, "requireRange", "(III)V"⟩
abbrev cX4_requireIndex : ByteArray := prog_1_method_48_code
def yX4_requireIndex : MethodName := ⟨RX4, "requireIndex", "(II)V"⟩
abbrev cX4_requireTown : ByteArray := prog_1_method_49_code
def yX4_requireTown : MethodName := ⟨RX4, "requireTown", "(I)LTwoTownAlmanac$Town;"⟩
abbrev cX4_requireFeast : ByteArray := prog_1_method_50_code
def yX4_requireFeast : MethodName := ⟨RX4, "requireFeast", "(I)LTwoTownAlmanac$Feast;"⟩
abbrev cX4_recordState : ByteArray := prog_1_method_51_code
def yX4_recordState : MethodName := ⟨RX4, "recordState", "()V"⟩
abbrev cX4_dropOldestRecorded : ByteArray := prog_1_method_52_code
def yX4_dropOldestRecorded : MethodName := ⟨RX4, "dropOldestRecorded", "()V"⟩
abbrev cX4_quarrelsFrom : ByteArray := prog_1_method_53_code
def yX4_quarrelsFrom : MethodName := ⟨RX4, "quarrelsFrom", "(II)I"⟩
abbrev cX4_charactersIn : ByteArray := prog_1_method_54_code
def yX4_charactersIn : MethodName := ⟨RX4, "charactersIn", "(J)I"⟩
abbrev cX4_codeAt : ByteArray := prog_1_method_55_code
def yX4_codeAt : MethodName := ⟨RX4, "codeAt", "(JI)I"⟩
def RX5 : String := "TwoTownAlmanacModel"
def TX5 : u_T := fun k => match k with
  | 0 => ("TwoTownAlmanacModel", "row", "[I", true)
  | 1 => ("TwoTownAlmanacModel", "history", "[I", true)
  | 2 => ("TwoTownAlmanacModel", "states", "I", false)
  | 3 => ("TwoTownAlmanacModel", "slots", "[I", true)
  | 4 => ("TwoTownAlmanacModel", "isSaved", "[Z", true)
  | 5 => ("TwoTownAlmanacModel", "thrown", "I", false)
  | 6 => ("TwoTownAlmanacModel", "text", "[I", true)
  | 7 => ("TwoTownAlmanacModel", "length", "I", false)
  | 8 => ("TwoTownAlmanacModel", "spot", "I", false)
  | _ => ("TwoTownAlmanacModel", "numbers", "[I", true)
def tyX5 : Nat → FieldType := fun k => match k with
  | 0 => .array .int
  | 1 => .array .int
  | 2 => .int
  | 3 => .array .int
  | 4 => .array .boolean
  | 5 => .int
  | 6 => .array .int
  | 7 => .int
  | 8 => .int
  | _ => .array .int
abbrev wsX50 : List Cond := u_ws RX5 TX5 10
theorem nmX5 : ∀ a, a < 10 → ∀ b, b < 10 → a ≠ b → (TX5 a).2.1 ≠ (TX5 b).2.1 := by decide +kernel
theorem tyX5_ok : ∀ k, k < 10 → parseFieldDescriptor (TX5 k).2.2.1 = some (tyX5 k) := by decide +kernel
abbrev cX5_init : ByteArray := prog_7_method_1_code
def yX5_init : MethodName := ⟨RX5, "<init>", "()V"⟩
abbrev cX5_thrown : ByteArray := prog_7_method_2_code
def yX5_thrown : MethodName := ⟨RX5, "thrown", "()I"⟩
abbrev cX5_fails : ByteArray := prog_7_method_3_code
def yX5_fails : MethodName := ⟨RX5, "fails", "(I)I"⟩
abbrev cX5_in : ByteArray := prog_7_method_4_code
def yX5_in : MethodName := ⟨RX5, "in", "(III)Z"⟩
abbrev cX5_isTown : ByteArray := prog_7_method_5_code
def yX5_isTown : MethodName := ⟨RX5, "isTown", "(I)Z"⟩
abbrev cX5_isFeast : ByteArray := prog_7_method_6_code
def yX5_isFeast : MethodName := ⟨RX5, "isFeast", "(I)Z"⟩
abbrev cX5_gaps : ByteArray := prog_7_method_7_code
def yX5_gaps : MethodName := ⟨RX5, "gaps", "(I)I"⟩
abbrev cX5_gap : ByteArray := prog_7_method_8_code
def yX5_gap : MethodName := ⟨RX5, "gap", "(III)I"⟩
abbrev cX5_feast : ByteArray := prog_7_method_9_code
def yX5_feast : MethodName := ⟨RX5, "feast", "(II)I"⟩
abbrev cX5_record : ByteArray := prog_7_method_10_code
def yX5_record : MethodName := ⟨RX5, "record", "()V"⟩
abbrev cX5_undo : ByteArray := prog_7_method_11_code
def yX5_undo : MethodName := ⟨RX5, "undo", "()I"⟩
abbrev cX5_undoCount : ByteArray := prog_7_method_12_code
def yX5_undoCount : MethodName := ⟨RX5, "undoCount", "()I"⟩
abbrev cX5_saveState : ByteArray := prog_7_method_13_code
def yX5_saveState : MethodName := ⟨RX5, "saveState", "(I)I"⟩
abbrev cX5_loadState : ByteArray := prog_7_method_14_code
def yX5_loadState : MethodName := ⟨RX5, "loadState", "(I)I"⟩
abbrev cX5_addGap : ByteArray := prog_7_method_15_code
def yX5_addGap : MethodName := ⟨RX5, "addGap", "(III)I"⟩
abbrev cX5_gapCount : ByteArray := prog_7_method_16_code
def yX5_gapCount : MethodName := ⟨RX5, "gapCount", "(I)I"⟩
abbrev cX5_gapDay : ByteArray := prog_7_method_17_code
def yX5_gapDay : MethodName := ⟨RX5, "gapDay", "(II)I"⟩
abbrev cX5_gapLength : ByteArray := prog_7_method_18_code
def yX5_gapLength : MethodName := ⟨RX5, "gapLength", "(II)I"⟩
abbrev cX5_lengthOf : ByteArray := prog_7_method_19_code
def yX5_lengthOf : MethodName := ⟨RX5, "lengthOf", "(II)I"⟩
abbrev cX5_daysAhead : ByteArray := prog_7_method_20_code
def yX5_daysAhead : MethodName := ⟨RX5, "daysAhead", "(II)I"⟩
abbrev cX5_yearLength : ByteArray := prog_7_method_21_code
def yX5_yearLength : MethodName := ⟨RX5, "yearLength", "(I)I"⟩
abbrev cX5_monthLength : ByteArray := prog_7_method_22_code
def yX5_monthLength : MethodName := ⟨RX5, "monthLength", "(II)I"⟩
abbrev cX5_calendar : ByteArray := prog_7_method_23_code
def yX5_calendar : MethodName := ⟨RX5, "calendar", "(II)I"⟩
abbrev cX5_firstDay : ByteArray := prog_7_method_24_code
def yX5_firstDay : MethodName := ⟨RX5, "firstDay", "(II)I"⟩
abbrev cX5_yearAt : ByteArray := prog_7_method_25_code
def yX5_yearAt : MethodName := ⟨RX5, "yearAt", "(II)I"⟩
abbrev cX5_monthAt : ByteArray := prog_7_method_26_code
def yX5_monthAt : MethodName := ⟨RX5, "monthAt", "(II)I"⟩
abbrev cX5_dayAt : ByteArray := prog_7_method_27_code
def yX5_dayAt : MethodName := ⟨RX5, "dayAt", "(II)I"⟩
abbrev cX5_dayOfMonth : ByteArray := prog_7_method_28_code
def yX5_dayOfMonth : MethodName := ⟨RX5, "dayOfMonth", "(II)I"⟩
abbrev cX5_monthOf : ByteArray := prog_7_method_29_code
def yX5_monthOf : MethodName := ⟨RX5, "monthOf", "(II)I"⟩
abbrev cX5_yearOf : ByteArray := prog_7_method_30_code
def yX5_yearOf : MethodName := ⟨RX5, "yearOf", "(II)I"⟩
abbrev cX5_weekday : ByteArray := prog_7_method_31_code
def yX5_weekday : MethodName := ⟨RX5, "weekday", "(I)I"⟩
abbrev cX5_dayWith : ByteArray := prog_7_method_32_code
def yX5_dayWith : MethodName := ⟨RX5, "dayWith", "(IIII)I"⟩
abbrev cX5_dayOfDate : ByteArray := prog_7_method_33_code
def yX5_dayOfDate : MethodName := ⟨RX5, "dayOfDate", "(IIII)I"⟩
abbrev cX5_addFeast : ByteArray := prog_7_method_34_code
def yX5_addFeast : MethodName := ⟨RX5, "addFeast", "(III)I"⟩
abbrev cX5_barWeekday : ByteArray := prog_7_method_35_code
def yX5_barWeekday : MethodName := ⟨RX5, "barWeekday", "(II)I"⟩
abbrev cX5_allowAllWeekdays : ByteArray := prog_7_method_36_code
def yX5_allowAllWeekdays : MethodName := ⟨RX5, "allowAllWeekdays", "(I)I"⟩
abbrev cX5_feastCount : ByteArray := prog_7_method_37_code
def yX5_feastCount : MethodName := ⟨RX5, "feastCount", "()I"⟩
abbrev cX5_feastTown : ByteArray := prog_7_method_38_code
def yX5_feastTown : MethodName := ⟨RX5, "feastTown", "(I)I"⟩
abbrev cX5_barredWeekday : ByteArray := prog_7_method_39_code
def yX5_barredWeekday : MethodName := ⟨RX5, "barredWeekday", "(I)I"⟩
abbrev cX5_due : ByteArray := prog_7_method_40_code
def yX5_due : MethodName := ⟨RX5, "due", "(II)I"⟩
abbrev cX5_kept : ByteArray := prog_7_method_41_code
def yX5_kept : MethodName := ⟨RX5, "kept", "(II)I"⟩
abbrev cX5_dayDue : ByteArray := prog_7_method_42_code
def yX5_dayDue : MethodName := ⟨RX5, "dayDue", "(II)I"⟩
abbrev cX5_dayKept : ByteArray := prog_7_method_43_code
def yX5_dayKept : MethodName := ⟨RX5, "dayKept", "(II)I"⟩
abbrev cX5_isOn : ByteArray := prog_7_method_44_code
def yX5_isOn : MethodName := ⟨RX5, "isOn", "(II)Z"⟩
abbrev cX5_isKept : ByteArray := prog_7_method_45_code
def yX5_isKept : MethodName := ⟨RX5, "isKept", "(II)Z"⟩
abbrev cX5_setOn : ByteArray := prog_7_method_46_code
def yX5_setOn : MethodName := ⟨RX5, "setOn", "(I)I"⟩
abbrev cX5_ofTown : ByteArray := prog_7_method_47_code
def yX5_ofTown : MethodName := ⟨RX5, "ofTown", "(II)I"⟩
abbrev cX5_quarrels : ByteArray := prog_7_method_48_code
def yX5_quarrels : MethodName := ⟨RX5, "quarrels", "(I)Z"⟩
abbrev cX5_feastsOn : ByteArray := prog_7_method_49_code
def yX5_feastsOn : MethodName := ⟨RX5, "feastsOn", "(I)I"⟩
abbrev cX5_isQuarrel : ByteArray := prog_7_method_50_code
def yX5_isQuarrel : MethodName := ⟨RX5, "isQuarrel", "(I)Z"⟩
abbrev cX5_setShift : ByteArray := prog_7_method_51_code
def yX5_setShift : MethodName := ⟨RX5, "setShift", "(I)I"⟩
abbrev cX5_shift : ByteArray := prog_7_method_52_code
def yX5_shift : MethodName := ⟨RX5, "shift", "()I"⟩
abbrev cX5_setCopiesPerDay : ByteArray := prog_7_method_53_code
def yX5_setCopiesPerDay : MethodName := ⟨RX5, "setCopiesPerDay", "(I)I"⟩
abbrev cX5_copiesPerDay : ByteArray := prog_7_method_54_code
def yX5_copiesPerDay : MethodName := ⟨RX5, "copiesPerDay", "()I"⟩
abbrev cX5_passDays : ByteArray := prog_7_method_55_code
def yX5_passDays : MethodName := ⟨RX5, "passDays", "(I)I"⟩
abbrev cX5_today : ByteArray := prog_7_method_56_code
def yX5_today : MethodName := ⟨RX5, "today", "()I"⟩
abbrev cX5_feastsKept : ByteArray := prog_7_method_57_code
def yX5_feastsKept : MethodName := ⟨RX5, "feastsKept", "(I)I"⟩
abbrev cX5_quarrelCount : ByteArray := prog_7_method_58_code
def yX5_quarrelCount : MethodName := ⟨RX5, "quarrelCount", "()I"⟩
abbrev cX5_copiesMade : ByteArray := prog_7_method_59_code
def yX5_copiesMade : MethodName := ⟨RX5, "copiesMade", "()I"⟩
abbrev cX5_nextDay : ByteArray := prog_7_method_60_code
def yX5_nextDay : MethodName := ⟨RX5, "nextDay", "(I)I"⟩
abbrev cX5_daysUntilMeeting : ByteArray := prog_7_method_61_code
def yX5_daysUntilMeeting : MethodName := ⟨RX5, "daysUntilMeeting", "(II)I"⟩
abbrev cX5_quarrelsIn : ByteArray := prog_7_method_62_code
def yX5_quarrelsIn : MethodName := ⟨RX5, "quarrelsIn", "(I)I"⟩
abbrev cX5_quarrelsWithin : ByteArray := prog_7_method_63_code
def yX5_quarrelsWithin : MethodName := ⟨RX5, "quarrelsWithin", "(I)I"⟩
abbrev cX5_bestBarredWeekday : ByteArray := prog_7_method_64_code
def yX5_bestBarredWeekday : MethodName := ⟨RX5, "bestBarredWeekday", "(I)I"⟩
abbrev cX5_appendText : ByteArray := prog_7_method_65_code
def yX5_appendText : MethodName := ⟨RX5, "appendText", "(J)I"⟩
abbrev cX5_clearText : ByteArray := prog_7_method_66_code
def yX5_clearText : MethodName := ⟨RX5, "clearText", "()I"⟩
abbrev cX5_textLength : ByteArray := prog_7_method_67_code
def yX5_textLength : MethodName := ⟨RX5, "textLength", "()I"⟩
abbrev cX5_takes : ByteArray := prog_7_method_68_code
def yX5_takes : MethodName := ⟨RX5, "takes", "(II)Z"⟩
abbrev cX5_readsNumber : ByteArray := prog_7_method_69_code
def yX5_readsNumber : MethodName := ⟨RX5, "readsNumber", "(II)Z"⟩
abbrev cX5_isDate : ByteArray := prog_7_method_70_code
def yX5_isDate : MethodName := ⟨RX5, "isDate", "()Z"⟩
abbrev cX5_textError : ByteArray := prog_7_method_71_code
def yX5_textError : MethodName := ⟨RX5, "textError", "()I"⟩
abbrev cX5_textCharacter : ByteArray := prog_7_method_72_code
def yX5_textCharacter : MethodName := ⟨RX5, "textCharacter", "(I)I"⟩
abbrev cX5_dayOfText : ByteArray := prog_7_method_73_code
def yX5_dayOfText : MethodName := ⟨RX5, "dayOfText", "()I"⟩
abbrev cX5_write : ByteArray := prog_7_method_74_code
def yX5_write : MethodName := ⟨RX5, "write", "(I)V"⟩
abbrev cX5_writeNumber : ByteArray := prog_7_method_75_code
def yX5_writeNumber : MethodName := ⟨RX5, "writeNumber", "(I)V"⟩
abbrev cX5_writeDate : ByteArray := prog_7_method_76_code
def yX5_writeDate : MethodName := ⟨RX5, "writeDate", "(II)I"⟩
def RJ6 : String := "java/lang/Integer"
def TJ6 : u_T := fun k => match k with
  | _ => ("", "", "", false)
def tyJ6 : Nat → FieldType := fun k => match k with
  | _ => .int
abbrev wsJ60 : List Cond := u_ws RJ6 TJ6 0
theorem nmJ6 : ∀ a, a < 0 → ∀ b, b < 0 → a ≠ b → (TJ6 a).2.1 ≠ (TJ6 b).2.1 := by decide +kernel
theorem tyJ6_ok : ∀ k, k < 0 → parseFieldDescriptor (TJ6 k).2.2.1 = some (tyJ6 k) := by decide +kernel
abbrev cJ6_bitCount_0f7a4 : ByteArray := prog_12_method_49_code
def yJ6_bitCount_0f7a4 : MethodName := ⟨RJ6, "bitCount", "(I)I"⟩
def RJ9 : String := "java/lang/Math"
def TJ9 : u_T := fun k => match k with
  | _ => ("", "", "", false)
def tyJ9 : Nat → FieldType := fun k => match k with
  | _ => .int
abbrev wsJ90 : List Cond := u_ws RJ9 TJ9 0
theorem nmJ9 : ∀ a, a < 0 → ∀ b, b < 0 → a ≠ b → (TJ9 a).2.1 ≠ (TJ9 b).2.1 := by decide +kernel
theorem tyJ9_ok : ∀ k, k < 0 → parseFieldDescriptor (TJ9 k).2.2.1 = some (tyJ9 k) := by decide +kernel
abbrev cJ9_max_7cf53 : ByteArray := prog_13_method_65_code
def yJ9_max_7cf53 : MethodName := ⟨RJ9, "max", "(II)I"⟩
def RJ0 : String := "java/lang/String"
def TJ0 : u_T := fun k => match k with
  | _ => ("", "", "", false)
def tyJ0 : Nat → FieldType := fun k => match k with
  | _ => .int
abbrev wsJ00 : List Cond := u_ws RJ0 TJ0 0
theorem nmJ0 : ∀ a, a < 0 → ∀ b, b < 0 → a ≠ b → (TJ0 a).2.1 ≠ (TJ0 b).2.1 := by decide +kernel
theorem tyJ0_ok : ∀ k, k < 0 → parseFieldDescriptor (TJ0 k).2.2.1 = some (tyJ0 k) := by decide +kernel
def RL : String := "TwoTownAlmanacLaw"
abbrev cL_addGap : ByteArray := method_3_code
def yL_addGap : MethodName := ⟨RL, "addGap", "(LTwoTownAlmanac;III[J)I"⟩
abbrev cL_gapCount : ByteArray := method_4_code
def yL_gapCount : MethodName := ⟨RL, "gapCount", "(LTwoTownAlmanac;I[J)I"⟩
abbrev cL_gapDay : ByteArray := method_5_code
def yL_gapDay : MethodName := ⟨RL, "gapDay", "(LTwoTownAlmanac;II[J)I"⟩
abbrev cL_gapLength : ByteArray := method_6_code
def yL_gapLength : MethodName := ⟨RL, "gapLength", "(LTwoTownAlmanac;II[J)I"⟩
abbrev cL_monthLength : ByteArray := method_7_code
def yL_monthLength : MethodName := ⟨RL, "monthLength", "(LTwoTownAlmanac;II[J)I"⟩
abbrev cL_dayOfMonth : ByteArray := method_8_code
def yL_dayOfMonth : MethodName := ⟨RL, "dayOfMonth", "(LTwoTownAlmanac;II[J)I"⟩
abbrev cL_monthOf : ByteArray := method_9_code
def yL_monthOf : MethodName := ⟨RL, "monthOf", "(LTwoTownAlmanac;II[J)I"⟩
abbrev cL_yearOf : ByteArray := method_10_code
def yL_yearOf : MethodName := ⟨RL, "yearOf", "(LTwoTownAlmanac;II[J)I"⟩
abbrev cL_weekday : ByteArray := method_11_code
def yL_weekday : MethodName := ⟨RL, "weekday", "(LTwoTownAlmanac;I[J)I"⟩
abbrev cL_dayOfDate : ByteArray := method_12_code
def yL_dayOfDate : MethodName := ⟨RL, "dayOfDate", "(LTwoTownAlmanac;IIII[J)I"⟩
abbrev cL_addFeast : ByteArray := method_13_code
def yL_addFeast : MethodName := ⟨RL, "addFeast", "(LTwoTownAlmanac;III[J)I"⟩
abbrev cL_barWeekday : ByteArray := method_14_code
def yL_barWeekday : MethodName := ⟨RL, "barWeekday", "(LTwoTownAlmanac;II[J)I"⟩
abbrev cL_allowAllWeekdays : ByteArray := method_15_code
def yL_allowAllWeekdays : MethodName := ⟨RL, "allowAllWeekdays", "(LTwoTownAlmanac;I[J)I"⟩
abbrev cL_feastTown : ByteArray := method_16_code
def yL_feastTown : MethodName := ⟨RL, "feastTown", "(LTwoTownAlmanac;I[J)I"⟩
abbrev cL_barredWeekday : ByteArray := method_17_code
def yL_barredWeekday : MethodName := ⟨RL, "barredWeekday", "(LTwoTownAlmanac;I[J)I"⟩
abbrev cL_dayDue : ByteArray := method_18_code
def yL_dayDue : MethodName := ⟨RL, "dayDue", "(LTwoTownAlmanac;II[J)I"⟩
abbrev cL_dayKept : ByteArray := method_19_code
def yL_dayKept : MethodName := ⟨RL, "dayKept", "(LTwoTownAlmanac;II[J)I"⟩
abbrev cL_isKept : ByteArray := method_20_code
def yL_isKept : MethodName := ⟨RL, "isKept", "(LTwoTownAlmanac;II[J)I"⟩
abbrev cL_feastsOn : ByteArray := method_21_code
def yL_feastsOn : MethodName := ⟨RL, "feastsOn", "(LTwoTownAlmanac;I[J)I"⟩
abbrev cL_isQuarrel : ByteArray := method_22_code
def yL_isQuarrel : MethodName := ⟨RL, "isQuarrel", "(LTwoTownAlmanac;I[J)I"⟩
abbrev cL_setShift : ByteArray := method_23_code
def yL_setShift : MethodName := ⟨RL, "setShift", "(LTwoTownAlmanac;I[J)I"⟩
abbrev cL_setCopiesPerDay : ByteArray := method_24_code
def yL_setCopiesPerDay : MethodName := ⟨RL, "setCopiesPerDay", "(LTwoTownAlmanac;I[J)I"⟩
abbrev cL_passDays : ByteArray := method_25_code
def yL_passDays : MethodName := ⟨RL, "passDays", "(LTwoTownAlmanac;I[J)I"⟩
abbrev cL_feastsKept : ByteArray := method_26_code
def yL_feastsKept : MethodName := ⟨RL, "feastsKept", "(LTwoTownAlmanac;I[J)I"⟩
abbrev cL_nextDay : ByteArray := method_27_code
def yL_nextDay : MethodName := ⟨RL, "nextDay", "(LTwoTownAlmanac;I[J)I"⟩
abbrev cL_daysUntilMeeting : ByteArray := method_28_code
def yL_daysUntilMeeting : MethodName := ⟨RL, "daysUntilMeeting", "(LTwoTownAlmanac;II[J)I"⟩
abbrev cL_quarrelsWithin : ByteArray := method_29_code
def yL_quarrelsWithin : MethodName := ⟨RL, "quarrelsWithin", "(LTwoTownAlmanac;I[J)I"⟩
abbrev cL_bestBarredWeekday : ByteArray := method_30_code
def yL_bestBarredWeekday : MethodName := ⟨RL, "bestBarredWeekday", "(LTwoTownAlmanac;I[J)I"⟩
abbrev cL_appendText : ByteArray := method_31_code
def yL_appendText : MethodName := ⟨RL, "appendText", "(LTwoTownAlmanac;J[J)I"⟩
abbrev cL_textCharacter : ByteArray := method_32_code
def yL_textCharacter : MethodName := ⟨RL, "textCharacter", "(LTwoTownAlmanac;I[J)I"⟩
abbrev cL_dayOfText : ByteArray := method_33_code
def yL_dayOfText : MethodName := ⟨RL, "dayOfText", "(LTwoTownAlmanac;[J)I"⟩
abbrev cL_writeDate : ByteArray := method_34_code
def yL_writeDate : MethodName := ⟨RL, "writeDate", "(LTwoTownAlmanac;II[J)I"⟩
abbrev cL_undo : ByteArray := method_35_code
def yL_undo : MethodName := ⟨RL, "undo", "(LTwoTownAlmanac;[J)I"⟩
abbrev cL_saveState : ByteArray := method_36_code
def yL_saveState : MethodName := ⟨RL, "saveState", "(LTwoTownAlmanac;I[J)I"⟩
abbrev cL_loadState : ByteArray := method_37_code
def yL_loadState : MethodName := ⟨RL, "loadState", "(LTwoTownAlmanac;I[J)I"⟩
abbrev cL_law : ByteArray := code
def yL_law : MethodName := ⟨RL, "law", "([I)Z"⟩
abbrev vwCl : List vw_C := [(RX0, TX0, 2), (RX1, TX1, 4), (RX2, TX2, 9), (RX3, TX3, 5), (RX4, TX4, 7), (RX5, TX5, 10)]
end
section
def wsX0_init : List Cond := .code yX0_init cX0_init 1 none :: ([.methodLink RX0 3 objectInit, .instanceMethod objectInit, .code objectInit ⟨#[0xb1]⟩ 1 none, .arrayClass .int, .fieldLink RX0 9 "TwoTownAlmanac$DateText" "codes" "[I", .fieldLink RX0 15 "TwoTownAlmanac$DateText" "length" "I"] ++ wsX00)
def wsX0_put : List Cond := .code yX0_put cX0_put 2 none :: ([.fieldLink RX0 15 "TwoTownAlmanac$DateText" "length" "I", .fieldLink RX0 9 "TwoTownAlmanac$DateText" "codes" "[I"] ++ wsX00)
def wsX0_putNumber : List Cond := .code yX0_putNumber cX0_putNumber 2 none :: ([.methodLink RX0 19 yX0_put, .instanceMethod yX0_put, .selects RX0 yX0_put yX0_put, .initialized RX0, .code yX0_put cX0_put 2 none, .fieldLink RX0 15 "TwoTownAlmanac$DateText" "length" "I", .fieldLink RX0 9 "TwoTownAlmanac$DateText" "codes" "[I"] ++ wsX00)
def wsX0_fits : List Cond := .code yX0_fits cX0_fits 5 (some .boolean) :: ([])
def wsX0_firstError : List Cond := .code yX0_firstError cX0_firstError 4 (some .int) :: ([.fieldLink RX0 15 "TwoTownAlmanac$DateText" "length" "I", .fieldLink RX0 9 "TwoTownAlmanac$DateText" "codes" "[I", .methodLink RX0 23 yX0_fits, .static yX0_fits, .initialized RX0, .code yX0_fits cX0_fits 5 (some .boolean)] ++ wsX00)
def wsX0_town : List Cond := .code yX0_town cX0_town 1 (some .int) :: ([.fieldLink RX0 15 "TwoTownAlmanac$DateText" "length" "I", .fieldLink RX0 9 "TwoTownAlmanac$DateText" "codes" "[I"] ++ wsX00)
def wsX0_number : List Cond := .code yX0_number cX0_number 5 (some .int) :: ([.fieldLink RX0 15 "TwoTownAlmanac$DateText" "length" "I", .fieldLink RX0 9 "TwoTownAlmanac$DateText" "codes" "[I"] ++ wsX00)
def wsX1_init : List Cond := .code yX1_init cX1_init 1 none :: ([.methodLink RX1 3 objectInit, .instanceMethod objectInit, .code objectInit ⟨#[0xb1]⟩ 1 none, .fieldLink RX1 9 "TwoTownAlmanac$Feast" "town" "I", .fieldLink RX1 15 "TwoTownAlmanac$Feast" "month" "I", .fieldLink RX1 18 "TwoTownAlmanac$Feast" "dayOfMonth" "I", .fieldLink RX1 21 "TwoTownAlmanac$Feast" "barred" "I"] ++ wsX10)
def wsX1_copyFrom : List Cond := .code yX1_copyFrom cX1_copyFrom 2 none :: ([.fieldLink RX1 9 "TwoTownAlmanac$Feast" "town" "I", .fieldLink RX1 15 "TwoTownAlmanac$Feast" "month" "I", .fieldLink RX1 18 "TwoTownAlmanac$Feast" "dayOfMonth" "I", .fieldLink RX1 21 "TwoTownAlmanac$Feast" "barred" "I"] ++ wsX10)
def wsX3_init : List Cond := .code yX3_init cX3_init 2 none :: ([.methodLink RX3 3 objectInit, .instanceMethod objectInit, .code objectInit ⟨#[0xb1]⟩ 1 none, .arrayClass .int, .fieldLink RX3 9 "TwoTownAlmanac$Town" "gapDays" "[I", .fieldLink RX3 15 "TwoTownAlmanac$Town" "gapLengths" "[I", .fieldLink RX3 18 "TwoTownAlmanac$Town" "gaps" "I", .fieldLink RX3 22 "TwoTownAlmanac$Town" "keptCount" "I", .fieldLink RX3 25 "TwoTownAlmanac$Town" "isA" "Z"] ++ wsX30)
def wsX2_init_r1 : List Cond := [Cond.methodLink RX2 3 objectInit, Cond.instanceMethod objectInit, Cond.code objectInit ⟨#[0xb1]⟩ 1 none, Cond.classLink RX2 9 RX3, Cond.instantiable RX3 5, Cond.initialized RX3, Cond.fieldLink RX2 14 "TwoTownAlmanac$State" "townA" "LTwoTownAlmanac$Town;", Cond.fieldLink RX2 20 "TwoTownAlmanac$State" "townB" "LTwoTownAlmanac$Town;", Cond.classLink RX2 23 RX1, Cond.fieldLink RX2 25 "TwoTownAlmanac$State" "feasts" "[LTwoTownAlmanac$Feast;", Cond.fieldLink RX2 29 "TwoTownAlmanac$State" "feastsAdded" "I", Cond.fieldLink RX2 33 "TwoTownAlmanac$State" "shiftDays" "I", Cond.fieldLink RX2 36 "TwoTownAlmanac$State" "copiesEachDay" "I", Cond.fieldLink RX2 39 "TwoTownAlmanac$State" "dayNow" "I", Cond.fieldLink RX2 42 "TwoTownAlmanac$State" "quarrels" "I", Cond.fieldLink RX2 45 "TwoTownAlmanac$State" "copies" "I", Cond.instantiable RX1 4, Cond.initialized RX1, Cond.methodLink RX2 11 yX3_init, Cond.instanceMethod yX3_init, Cond.code yX3_init cX3_init 2 none, Cond.methodLink RX3 3 objectInit, Cond.arrayClass .int, Cond.fieldLink RX3 9 "TwoTownAlmanac$Town" "gapDays" "[I"]
def wsX2_init_r2 : List Cond := [Cond.fieldLink RX3 15 "TwoTownAlmanac$Town" "gapLengths" "[I", Cond.fieldLink RX3 18 "TwoTownAlmanac$Town" "gaps" "I", Cond.fieldLink RX3 22 "TwoTownAlmanac$Town" "keptCount" "I", Cond.fieldLink RX3 25 "TwoTownAlmanac$Town" "isA" "Z", Cond.instanceMethod yX1_init, Cond.code yX1_init cX1_init 1 none, Cond.methodLink RX1 3 objectInit, Cond.fieldLink RX1 9 "TwoTownAlmanac$Feast" "town" "I", Cond.fieldLink RX1 15 "TwoTownAlmanac$Feast" "month" "I", Cond.fieldLink RX1 18 "TwoTownAlmanac$Feast" "dayOfMonth" "I", Cond.fieldLink RX1 21 "TwoTownAlmanac$Feast" "barred" "I"]
def wsX2_init : List Cond := .code yX2_init cX2_init 2 none :: ((wsX2_init_r1 ++ wsX2_init_r2) ++ wsX30 ++ wsX20 ++ wsX10)
def wsX3_copyFrom : List Cond := .code yX3_copyFrom cX3_copyFrom 3 none :: ([.fieldLink RX3 9 "TwoTownAlmanac$Town" "gapDays" "[I", .fieldLink RX3 15 "TwoTownAlmanac$Town" "gapLengths" "[I", .fieldLink RX3 18 "TwoTownAlmanac$Town" "gaps" "I", .fieldLink RX3 22 "TwoTownAlmanac$Town" "keptCount" "I"] ++ wsX30)
def wsX2_copyFrom_r1 : List Cond := [Cond.fieldLink RX2 14 "TwoTownAlmanac$State" "townA" "LTwoTownAlmanac$Town;", Cond.fieldLink RX2 20 "TwoTownAlmanac$State" "townB" "LTwoTownAlmanac$Town;", Cond.fieldLink RX2 25 "TwoTownAlmanac$State" "feasts" "[LTwoTownAlmanac$Feast;", Cond.fieldLink RX2 29 "TwoTownAlmanac$State" "feastsAdded" "I", Cond.fieldLink RX2 33 "TwoTownAlmanac$State" "shiftDays" "I", Cond.fieldLink RX2 36 "TwoTownAlmanac$State" "copiesEachDay" "I", Cond.fieldLink RX2 39 "TwoTownAlmanac$State" "dayNow" "I", Cond.fieldLink RX2 42 "TwoTownAlmanac$State" "quarrels" "I", Cond.fieldLink RX2 45 "TwoTownAlmanac$State" "copies" "I", Cond.methodLink RX2 49 yX3_copyFrom, Cond.instanceMethod yX3_copyFrom, Cond.selects RX3 yX3_copyFrom yX3_copyFrom, Cond.initialized RX3, Cond.code yX3_copyFrom cX3_copyFrom 3 none, Cond.fieldLink RX3 9 "TwoTownAlmanac$Town" "gapDays" "[I", Cond.fieldLink RX3 15 "TwoTownAlmanac$Town" "gapLengths" "[I", Cond.fieldLink RX3 18 "TwoTownAlmanac$Town" "gaps" "I", Cond.fieldLink RX3 22 "TwoTownAlmanac$Town" "keptCount" "I", Cond.methodLink RX2 53 yX1_copyFrom, Cond.instanceMethod yX1_copyFrom, Cond.selects RX1 yX1_copyFrom yX1_copyFrom, Cond.initialized RX1, Cond.code yX1_copyFrom cX1_copyFrom 2 none, Cond.fieldLink RX1 9 "TwoTownAlmanac$Feast" "town" "I"]
def wsX2_copyFrom_r2 : List Cond := [Cond.fieldLink RX1 15 "TwoTownAlmanac$Feast" "month" "I", Cond.fieldLink RX1 18 "TwoTownAlmanac$Feast" "dayOfMonth" "I", Cond.fieldLink RX1 21 "TwoTownAlmanac$Feast" "barred" "I"]
def wsX2_copyFrom : List Cond := .code yX2_copyFrom cX2_copyFrom 3 none :: ((wsX2_copyFrom_r1 ++ wsX2_copyFrom_r2) ++ wsX20 ++ wsX30 ++ wsX10)
def wsX2_townWith : List Cond := .code yX2_townWith cX2_townWith 2 (some (.object "TwoTownAlmanac$Town")) :: ([.fieldLink RX2 14 "TwoTownAlmanac$State" "townA" "LTwoTownAlmanac$Town;", .fieldLink RX2 20 "TwoTownAlmanac$State" "townB" "LTwoTownAlmanac$Town;"] ++ wsX20)
def wsX2_putFeast : List Cond := .code yX2_putFeast cX2_putFeast 6 (some .int) :: ([.fieldLink RX2 29 "TwoTownAlmanac$State" "feastsAdded" "I", .fieldLink RX2 25 "TwoTownAlmanac$State" "feasts" "[LTwoTownAlmanac$Feast;"] ++ wsX20 ++ wsX10)
def wsX3_daysInMonth : List Cond := .code yX3_daysInMonth cX3_daysInMonth 2 (some .int) :: ([.fieldLink RX3 25 "TwoTownAlmanac$Town" "isA" "Z"] ++ wsX30)
def wsX3_daysInYear : List Cond := .code yX3_daysInYear cX3_daysInYear 1 (some .int) :: ([.fieldLink RX3 25 "TwoTownAlmanac$Town" "isA" "Z"] ++ wsX30)
def wsX3_daysBeforeMonth : List Cond := .code yX3_daysBeforeMonth cX3_daysBeforeMonth 3 (some .int) :: ([.fieldLink RX3 25 "TwoTownAlmanac$Town" "isA" "Z"] ++ wsX30)
def wsX3_dateOf : List Cond := .code yX3_dateOf cX3_dateOf 4 (some .int) :: ([.methodLink RX3 29 yX3_daysInYear, .instanceMethod yX3_daysInYear, .selects RX3 yX3_daysInYear yX3_daysInYear, .initialized RX3, .code yX3_daysInYear cX3_daysInYear 1 (some .int), .fieldLink RX3 25 "TwoTownAlmanac$Town" "isA" "Z", .methodLink RX3 33 yX3_daysBeforeMonth, .instanceMethod yX3_daysBeforeMonth, .selects RX3 yX3_daysBeforeMonth yX3_daysBeforeMonth, .code yX3_daysBeforeMonth cX3_daysBeforeMonth 3 (some .int)] ++ wsX30)
def wsX3_firstDayFrom : List Cond := .code yX3_firstDayFrom cX3_firstDayFrom 6 (some .int) :: ([.fieldLink RX3 18 "TwoTownAlmanac$Town" "gaps" "I", .fieldLink RX3 9 "TwoTownAlmanac$Town" "gapDays" "[I", .fieldLink RX3 15 "TwoTownAlmanac$Town" "gapLengths" "[I"] ++ wsX30)
def wsX3_dateOn : List Cond := .code yX3_dateOn cX3_dateOn 4 (some .int) :: ([.fieldLink RX3 18 "TwoTownAlmanac$Town" "gaps" "I", .fieldLink RX3 9 "TwoTownAlmanac$Town" "gapDays" "[I", .fieldLink RX3 15 "TwoTownAlmanac$Town" "gapLengths" "[I"] ++ wsX30)
def wsX3_yearOn : List Cond := .code yX3_yearOn cX3_yearOn 3 (some .int) :: ([.fieldLink RX3 25 "TwoTownAlmanac$Town" "isA" "Z", .methodLink RX3 37 yX3_dateOn, .instanceMethod yX3_dateOn, .selects RX3 yX3_dateOn yX3_dateOn, .initialized RX3, .code yX3_dateOn cX3_dateOn 4 (some .int), .fieldLink RX3 18 "TwoTownAlmanac$Town" "gaps" "I", .fieldLink RX3 9 "TwoTownAlmanac$Town" "gapDays" "[I", .fieldLink RX3 15 "TwoTownAlmanac$Town" "gapLengths" "[I"] ++ wsX30)
def wsX3_dueIn_r1 : List Cond := [Cond.methodLink RX3 46 yX3_daysInMonth, Cond.instanceMethod yX3_daysInMonth, Cond.selects RX3 yX3_daysInMonth yX3_daysInMonth, Cond.initialized RX3, Cond.code yX3_daysInMonth cX3_daysInMonth 2 (some .int), Cond.fieldLink RX3 25 "TwoTownAlmanac$Town" "isA" "Z", Cond.methodLink RX3 49 yX3_dateOf, Cond.instanceMethod yX3_dateOf, Cond.selects RX3 yX3_dateOf yX3_dateOf, Cond.code yX3_dateOf cX3_dateOf 4 (some .int), Cond.methodLink RX3 29 yX3_daysInYear, Cond.instanceMethod yX3_daysInYear, Cond.selects RX3 yX3_daysInYear yX3_daysInYear, Cond.code yX3_daysInYear cX3_daysInYear 1 (some .int), Cond.methodLink RX3 33 yX3_daysBeforeMonth, Cond.instanceMethod yX3_daysBeforeMonth, Cond.selects RX3 yX3_daysBeforeMonth yX3_daysBeforeMonth, Cond.code yX3_daysBeforeMonth cX3_daysBeforeMonth 3 (some .int), Cond.methodLink RX3 53 yX3_firstDayFrom, Cond.instanceMethod yX3_firstDayFrom, Cond.selects RX3 yX3_firstDayFrom yX3_firstDayFrom, Cond.code yX3_firstDayFrom cX3_firstDayFrom 6 (some .int), Cond.fieldLink RX3 18 "TwoTownAlmanac$Town" "gaps" "I", Cond.fieldLink RX3 9 "TwoTownAlmanac$Town" "gapDays" "[I"]
def wsX3_dueIn_r2 : List Cond := [Cond.fieldLink RX3 15 "TwoTownAlmanac$Town" "gapLengths" "[I", Cond.methodLink RX3 64 yX3_yearOn, Cond.instanceMethod yX3_yearOn, Cond.selects RX3 yX3_yearOn yX3_yearOn, Cond.code yX3_yearOn cX3_yearOn 3 (some .int), Cond.methodLink RX3 37 yX3_dateOn, Cond.instanceMethod yX3_dateOn, Cond.selects RX3 yX3_dateOn yX3_dateOn, Cond.code yX3_dateOn cX3_dateOn 4 (some .int)]
def wsX3_dueIn : List Cond := .code yX3_dueIn cX3_dueIn 6 (some .int) :: ((wsX3_dueIn_r1 ++ wsX3_dueIn_r2) ++ wsX10 ++ wsX30)
def wsX2_keptIn_r1 : List Cond := [Cond.fieldLink RX2 33 "TwoTownAlmanac$State" "shiftDays" "I", Cond.methodLink RX2 68 yX2_townWith, Cond.instanceMethod yX2_townWith, Cond.selects RX2 yX2_townWith yX2_townWith, Cond.initialized RX2, Cond.code yX2_townWith cX2_townWith 2 (some (.object "TwoTownAlmanac$Town")), Cond.fieldLink RX2 14 "TwoTownAlmanac$State" "townA" "LTwoTownAlmanac$Town;", Cond.fieldLink RX2 20 "TwoTownAlmanac$State" "townB" "LTwoTownAlmanac$Town;", Cond.methodLink RX2 72 yX3_dueIn, Cond.instanceMethod yX3_dueIn, Cond.selects RX3 yX3_dueIn yX3_dueIn, Cond.initialized RX3, Cond.code yX3_dueIn cX3_dueIn 6 (some .int), Cond.methodLink RX3 46 yX3_daysInMonth, Cond.instanceMethod yX3_daysInMonth, Cond.selects RX3 yX3_daysInMonth yX3_daysInMonth, Cond.code yX3_daysInMonth cX3_daysInMonth 2 (some .int), Cond.fieldLink RX3 25 "TwoTownAlmanac$Town" "isA" "Z", Cond.methodLink RX3 49 yX3_dateOf, Cond.instanceMethod yX3_dateOf, Cond.selects RX3 yX3_dateOf yX3_dateOf, Cond.code yX3_dateOf cX3_dateOf 4 (some .int), Cond.methodLink RX3 29 yX3_daysInYear, Cond.instanceMethod yX3_daysInYear]
def wsX2_keptIn_r2 : List Cond := [Cond.selects RX3 yX3_daysInYear yX3_daysInYear, Cond.code yX3_daysInYear cX3_daysInYear 1 (some .int), Cond.methodLink RX3 33 yX3_daysBeforeMonth, Cond.instanceMethod yX3_daysBeforeMonth, Cond.selects RX3 yX3_daysBeforeMonth yX3_daysBeforeMonth, Cond.code yX3_daysBeforeMonth cX3_daysBeforeMonth 3 (some .int), Cond.methodLink RX3 53 yX3_firstDayFrom, Cond.instanceMethod yX3_firstDayFrom, Cond.selects RX3 yX3_firstDayFrom yX3_firstDayFrom, Cond.code yX3_firstDayFrom cX3_firstDayFrom 6 (some .int), Cond.fieldLink RX3 18 "TwoTownAlmanac$Town" "gaps" "I", Cond.fieldLink RX3 9 "TwoTownAlmanac$Town" "gapDays" "[I", Cond.fieldLink RX3 15 "TwoTownAlmanac$Town" "gapLengths" "[I", Cond.methodLink RX3 64 yX3_yearOn, Cond.instanceMethod yX3_yearOn, Cond.selects RX3 yX3_yearOn yX3_yearOn, Cond.code yX3_yearOn cX3_yearOn 3 (some .int), Cond.methodLink RX3 37 yX3_dateOn, Cond.instanceMethod yX3_dateOn, Cond.selects RX3 yX3_dateOn yX3_dateOn, Cond.code yX3_dateOn cX3_dateOn 4 (some .int)]
def wsX2_keptIn : List Cond := .code yX2_keptIn cX2_keptIn 4 (some .int) :: ((wsX2_keptIn_r1 ++ wsX2_keptIn_r2) ++ wsX10 ++ wsX20 ++ wsX30)
def wsX2_firstYearFor : List Cond := .code yX2_firstYearFor cX2_firstYearFor 3 (some .int) :: ([.methodLink RX2 76 Lib.Math.max.name, .static Lib.Math.max.name, .initialized "java/lang/Math", .code Lib.Math.max.name Lib.Math.max.code 2 (some .int), .methodLink RX2 68 yX2_townWith, .instanceMethod yX2_townWith, .selects RX2 yX2_townWith yX2_townWith, .initialized RX2, .code yX2_townWith cX2_townWith 2 (some (.object "TwoTownAlmanac$Town")), .fieldLink RX2 14 "TwoTownAlmanac$State" "townA" "LTwoTownAlmanac$Town;", .fieldLink RX2 20 "TwoTownAlmanac$State" "townB" "LTwoTownAlmanac$Town;", .methodLink RX2 82 yX3_yearOn, .instanceMethod yX3_yearOn, .selects RX3 yX3_yearOn yX3_yearOn, .initialized RX3, .code yX3_yearOn cX3_yearOn 3 (some .int), .fieldLink RX3 25 "TwoTownAlmanac$Town" "isA" "Z", .methodLink RX3 37 yX3_dateOn, .instanceMethod yX3_dateOn, .selects RX3 yX3_dateOn yX3_dateOn, .code yX3_dateOn cX3_dateOn 4 (some .int), .fieldLink RX3 18 "TwoTownAlmanac$Town" "gaps" "I", .fieldLink RX3 9 "TwoTownAlmanac$Town" "gapDays" "[I", .fieldLink RX3 15 "TwoTownAlmanac$Town" "gapLengths" "[I"] ++ wsX10 ++ wsX20 ++ wsX30)
def wsX2_firstKept_r1 : List Cond := [Cond.methodLink RX2 68 yX2_townWith, Cond.instanceMethod yX2_townWith, Cond.selects RX2 yX2_townWith yX2_townWith, Cond.initialized RX2, Cond.code yX2_townWith cX2_townWith 2 (some (.object "TwoTownAlmanac$Town")), Cond.fieldLink RX2 14 "TwoTownAlmanac$State" "townA" "LTwoTownAlmanac$Town;", Cond.fieldLink RX2 20 "TwoTownAlmanac$State" "townB" "LTwoTownAlmanac$Town;", Cond.methodLink RX2 82 yX3_yearOn, Cond.instanceMethod yX3_yearOn, Cond.selects RX3 yX3_yearOn yX3_yearOn, Cond.initialized RX3, Cond.code yX3_yearOn cX3_yearOn 3 (some .int), Cond.fieldLink RX3 25 "TwoTownAlmanac$Town" "isA" "Z", Cond.methodLink RX3 37 yX3_dateOn, Cond.instanceMethod yX3_dateOn, Cond.selects RX3 yX3_dateOn yX3_dateOn, Cond.code yX3_dateOn cX3_dateOn 4 (some .int), Cond.fieldLink RX3 18 "TwoTownAlmanac$Town" "gaps" "I", Cond.fieldLink RX3 9 "TwoTownAlmanac$Town" "gapDays" "[I", Cond.fieldLink RX3 15 "TwoTownAlmanac$Town" "gapLengths" "[I", Cond.methodLink RX2 86 yX2_firstYearFor, Cond.instanceMethod yX2_firstYearFor, Cond.selects RX2 yX2_firstYearFor yX2_firstYearFor, Cond.code yX2_firstYearFor cX2_firstYearFor 3 (some .int)]
def wsX2_firstKept_r2 : List Cond := [Cond.methodLink RX2 76 Lib.Math.max.name, Cond.static Lib.Math.max.name, Cond.initialized "java/lang/Math", Cond.code Lib.Math.max.name Lib.Math.max.code 2 (some .int), Cond.methodLink RX2 89 yX2_keptIn, Cond.instanceMethod yX2_keptIn, Cond.selects RX2 yX2_keptIn yX2_keptIn, Cond.code yX2_keptIn cX2_keptIn 4 (some .int), Cond.fieldLink RX2 33 "TwoTownAlmanac$State" "shiftDays" "I", Cond.methodLink RX2 72 yX3_dueIn, Cond.instanceMethod yX3_dueIn, Cond.selects RX3 yX3_dueIn yX3_dueIn, Cond.code yX3_dueIn cX3_dueIn 6 (some .int), Cond.methodLink RX3 46 yX3_daysInMonth, Cond.instanceMethod yX3_daysInMonth, Cond.selects RX3 yX3_daysInMonth yX3_daysInMonth, Cond.code yX3_daysInMonth cX3_daysInMonth 2 (some .int), Cond.methodLink RX3 49 yX3_dateOf, Cond.instanceMethod yX3_dateOf, Cond.selects RX3 yX3_dateOf yX3_dateOf, Cond.code yX3_dateOf cX3_dateOf 4 (some .int), Cond.methodLink RX3 29 yX3_daysInYear, Cond.instanceMethod yX3_daysInYear, Cond.selects RX3 yX3_daysInYear yX3_daysInYear]
def wsX2_firstKept_r3 : List Cond := [Cond.code yX3_daysInYear cX3_daysInYear 1 (some .int), Cond.methodLink RX3 33 yX3_daysBeforeMonth, Cond.instanceMethod yX3_daysBeforeMonth, Cond.selects RX3 yX3_daysBeforeMonth yX3_daysBeforeMonth, Cond.code yX3_daysBeforeMonth cX3_daysBeforeMonth 3 (some .int), Cond.methodLink RX3 53 yX3_firstDayFrom, Cond.instanceMethod yX3_firstDayFrom, Cond.selects RX3 yX3_firstDayFrom yX3_firstDayFrom, Cond.code yX3_firstDayFrom cX3_firstDayFrom 6 (some .int), Cond.methodLink RX3 64 yX3_yearOn]
def wsX2_firstKept : List Cond := .code yX2_firstKept cX2_firstKept 7 (some .int) :: ((wsX2_firstKept_r1 ++ (wsX2_firstKept_r2 ++ wsX2_firstKept_r3)) ++ wsX10 ++ wsX20 ++ wsX30)
def wsX2_firstMeeting_r1 : List Cond := [Cond.methodLink RX2 68 yX2_townWith, Cond.instanceMethod yX2_townWith, Cond.selects RX2 yX2_townWith yX2_townWith, Cond.initialized RX2, Cond.code yX2_townWith cX2_townWith 2 (some (.object "TwoTownAlmanac$Town")), Cond.fieldLink RX2 14 "TwoTownAlmanac$State" "townA" "LTwoTownAlmanac$Town;", Cond.fieldLink RX2 20 "TwoTownAlmanac$State" "townB" "LTwoTownAlmanac$Town;", Cond.methodLink RX2 82 yX3_yearOn, Cond.instanceMethod yX3_yearOn, Cond.selects RX3 yX3_yearOn yX3_yearOn, Cond.initialized RX3, Cond.code yX3_yearOn cX3_yearOn 3 (some .int), Cond.fieldLink RX3 25 "TwoTownAlmanac$Town" "isA" "Z", Cond.methodLink RX3 37 yX3_dateOn, Cond.instanceMethod yX3_dateOn, Cond.selects RX3 yX3_dateOn yX3_dateOn, Cond.code yX3_dateOn cX3_dateOn 4 (some .int), Cond.fieldLink RX3 18 "TwoTownAlmanac$Town" "gaps" "I", Cond.fieldLink RX3 9 "TwoTownAlmanac$Town" "gapDays" "[I", Cond.fieldLink RX3 15 "TwoTownAlmanac$Town" "gapLengths" "[I", Cond.methodLink RX2 86 yX2_firstYearFor, Cond.instanceMethod yX2_firstYearFor, Cond.selects RX2 yX2_firstYearFor yX2_firstYearFor, Cond.code yX2_firstYearFor cX2_firstYearFor 3 (some .int)]
def wsX2_firstMeeting_r2 : List Cond := [Cond.methodLink RX2 76 Lib.Math.max.name, Cond.static Lib.Math.max.name, Cond.initialized "java/lang/Math", Cond.code Lib.Math.max.name Lib.Math.max.code 2 (some .int), Cond.methodLink RX2 89 yX2_keptIn, Cond.instanceMethod yX2_keptIn, Cond.selects RX2 yX2_keptIn yX2_keptIn, Cond.code yX2_keptIn cX2_keptIn 4 (some .int), Cond.fieldLink RX2 33 "TwoTownAlmanac$State" "shiftDays" "I", Cond.methodLink RX2 72 yX3_dueIn, Cond.instanceMethod yX3_dueIn, Cond.selects RX3 yX3_dueIn yX3_dueIn, Cond.code yX3_dueIn cX3_dueIn 6 (some .int), Cond.methodLink RX3 46 yX3_daysInMonth, Cond.instanceMethod yX3_daysInMonth, Cond.selects RX3 yX3_daysInMonth yX3_daysInMonth, Cond.code yX3_daysInMonth cX3_daysInMonth 2 (some .int), Cond.methodLink RX3 49 yX3_dateOf, Cond.instanceMethod yX3_dateOf, Cond.selects RX3 yX3_dateOf yX3_dateOf, Cond.code yX3_dateOf cX3_dateOf 4 (some .int), Cond.methodLink RX3 29 yX3_daysInYear, Cond.instanceMethod yX3_daysInYear, Cond.selects RX3 yX3_daysInYear yX3_daysInYear]
def wsX2_firstMeeting_r3 : List Cond := [Cond.code yX3_daysInYear cX3_daysInYear 1 (some .int), Cond.methodLink RX3 33 yX3_daysBeforeMonth, Cond.instanceMethod yX3_daysBeforeMonth, Cond.selects RX3 yX3_daysBeforeMonth yX3_daysBeforeMonth, Cond.code yX3_daysBeforeMonth cX3_daysBeforeMonth 3 (some .int), Cond.methodLink RX3 53 yX3_firstDayFrom, Cond.instanceMethod yX3_firstDayFrom, Cond.selects RX3 yX3_firstDayFrom yX3_firstDayFrom, Cond.code yX3_firstDayFrom cX3_firstDayFrom 6 (some .int), Cond.methodLink RX3 64 yX3_yearOn, Cond.methodLink RX2 92 yX2_firstKept, Cond.instanceMethod yX2_firstKept, Cond.selects RX2 yX2_firstKept yX2_firstKept, Cond.code yX2_firstKept cX2_firstKept 7 (some .int)]
def wsX2_firstMeeting : List Cond := .code yX2_firstMeeting cX2_firstMeeting 8 (some .int) :: ((wsX2_firstMeeting_r1 ++ (wsX2_firstMeeting_r2 ++ wsX2_firstMeeting_r3)) ++ wsX10 ++ wsX20 ++ wsX30)
def wsX2_markFeasts_r1 : List Cond := [Cond.fieldLink RX2 29 "TwoTownAlmanac$State" "feastsAdded" "I", Cond.fieldLink RX2 25 "TwoTownAlmanac$State" "feasts" "[LTwoTownAlmanac$Feast;", Cond.methodLink RX2 68 yX2_townWith, Cond.instanceMethod yX2_townWith, Cond.selects RX2 yX2_townWith yX2_townWith, Cond.initialized RX2, Cond.code yX2_townWith cX2_townWith 2 (some (.object "TwoTownAlmanac$Town")), Cond.fieldLink RX2 14 "TwoTownAlmanac$State" "townA" "LTwoTownAlmanac$Town;", Cond.fieldLink RX2 20 "TwoTownAlmanac$State" "townB" "LTwoTownAlmanac$Town;", Cond.methodLink RX2 82 yX3_yearOn, Cond.instanceMethod yX3_yearOn, Cond.selects RX3 yX3_yearOn yX3_yearOn, Cond.initialized RX3, Cond.code yX3_yearOn cX3_yearOn 3 (some .int), Cond.fieldLink RX3 25 "TwoTownAlmanac$Town" "isA" "Z", Cond.methodLink RX3 37 yX3_dateOn, Cond.instanceMethod yX3_dateOn, Cond.selects RX3 yX3_dateOn yX3_dateOn, Cond.code yX3_dateOn cX3_dateOn 4 (some .int), Cond.fieldLink RX3 18 "TwoTownAlmanac$Town" "gaps" "I", Cond.fieldLink RX3 9 "TwoTownAlmanac$Town" "gapDays" "[I", Cond.fieldLink RX3 15 "TwoTownAlmanac$Town" "gapLengths" "[I", Cond.methodLink RX2 86 yX2_firstYearFor, Cond.instanceMethod yX2_firstYearFor]
def wsX2_markFeasts_r2 : List Cond := [Cond.selects RX2 yX2_firstYearFor yX2_firstYearFor, Cond.code yX2_firstYearFor cX2_firstYearFor 3 (some .int), Cond.methodLink RX2 76 Lib.Math.max.name, Cond.static Lib.Math.max.name, Cond.initialized "java/lang/Math", Cond.code Lib.Math.max.name Lib.Math.max.code 2 (some .int), Cond.methodLink RX2 89 yX2_keptIn, Cond.instanceMethod yX2_keptIn, Cond.selects RX2 yX2_keptIn yX2_keptIn, Cond.code yX2_keptIn cX2_keptIn 4 (some .int), Cond.fieldLink RX2 33 "TwoTownAlmanac$State" "shiftDays" "I", Cond.methodLink RX2 72 yX3_dueIn, Cond.instanceMethod yX3_dueIn, Cond.selects RX3 yX3_dueIn yX3_dueIn, Cond.code yX3_dueIn cX3_dueIn 6 (some .int), Cond.methodLink RX3 46 yX3_daysInMonth, Cond.instanceMethod yX3_daysInMonth, Cond.selects RX3 yX3_daysInMonth yX3_daysInMonth, Cond.code yX3_daysInMonth cX3_daysInMonth 2 (some .int), Cond.methodLink RX3 49 yX3_dateOf, Cond.instanceMethod yX3_dateOf, Cond.selects RX3 yX3_dateOf yX3_dateOf, Cond.code yX3_dateOf cX3_dateOf 4 (some .int), Cond.methodLink RX3 29 yX3_daysInYear]
def wsX2_markFeasts_r3 : List Cond := [Cond.instanceMethod yX3_daysInYear, Cond.selects RX3 yX3_daysInYear yX3_daysInYear, Cond.code yX3_daysInYear cX3_daysInYear 1 (some .int), Cond.methodLink RX3 33 yX3_daysBeforeMonth, Cond.instanceMethod yX3_daysBeforeMonth, Cond.selects RX3 yX3_daysBeforeMonth yX3_daysBeforeMonth, Cond.code yX3_daysBeforeMonth cX3_daysBeforeMonth 3 (some .int), Cond.methodLink RX3 53 yX3_firstDayFrom, Cond.instanceMethod yX3_firstDayFrom, Cond.selects RX3 yX3_firstDayFrom yX3_firstDayFrom, Cond.code yX3_firstDayFrom cX3_firstDayFrom 6 (some .int), Cond.methodLink RX3 64 yX3_yearOn]
def wsX2_markFeasts : List Cond := .code yX2_markFeasts cX2_markFeasts 8 none :: ((wsX2_markFeasts_r1 ++ (wsX2_markFeasts_r2 ++ wsX2_markFeasts_r3)) ++ wsX20 ++ wsX10 ++ wsX30)
def wsX2_feastsOf : List Cond := .code yX2_feastsOf cX2_feastsOf 4 (some .int) :: ([.fieldLink RX2 29 "TwoTownAlmanac$State" "feastsAdded" "I", .fieldLink RX2 25 "TwoTownAlmanac$State" "feasts" "[LTwoTownAlmanac$Feast;"] ++ wsX20 ++ wsX10)
def wsX2_countQuarrels : List Cond := .code yX2_countQuarrels cX2_countQuarrels 7 (some .int) :: ([.methodLink RX2 96 yX2_feastsOf, .instanceMethod yX2_feastsOf, .selects RX2 yX2_feastsOf yX2_feastsOf, .initialized RX2, .code yX2_feastsOf cX2_feastsOf 4 (some .int), .fieldLink RX2 29 "TwoTownAlmanac$State" "feastsAdded" "I", .fieldLink RX2 25 "TwoTownAlmanac$State" "feasts" "[LTwoTownAlmanac$Feast;"] ++ wsX20 ++ wsX10)
def wsJ6_bitCount_0f7a4 : List Cond := .code yJ6_bitCount_0f7a4 cJ6_bitCount_0f7a4 1 (some .int) :: ([.constant RJ6 265 (1431655765), .constant RJ6 266 (858993459), .constant RJ6 267 (252645135)])
def wsX2_countPassed : List Cond := .code yX2_countPassed cX2_countPassed 6 none :: ([.fieldLink RX2 14 "TwoTownAlmanac$State" "townA" "LTwoTownAlmanac$Town;", .fieldLink RX2 20 "TwoTownAlmanac$State" "townB" "LTwoTownAlmanac$Town;", .fieldLink RX2 45 "TwoTownAlmanac$State" "copies" "I", .fieldLink RX2 36 "TwoTownAlmanac$State" "copiesEachDay" "I", .methodLink RX2 96 yX2_feastsOf, .instanceMethod yX2_feastsOf, .selects RX2 yX2_feastsOf yX2_feastsOf, .initialized RX2, .code yX2_feastsOf cX2_feastsOf 4 (some .int), .fieldLink RX2 29 "TwoTownAlmanac$State" "feastsAdded" "I", .fieldLink RX2 25 "TwoTownAlmanac$State" "feasts" "[LTwoTownAlmanac$Feast;", .methodLink RX2 102 yJ6_bitCount_0f7a4, .static yJ6_bitCount_0f7a4, .initialized RJ6, .code yJ6_bitCount_0f7a4 cJ6_bitCount_0f7a4 1 (some .int), .constant RJ6 265 (1431655765), .constant RJ6 266 (858993459), .constant RJ6 267 (252645135)] ++ wsX20 ++ wsX30 ++ wsX10)
def wsX3_latestGapDay : List Cond := .code yX3_latestGapDay cX3_latestGapDay 1 (some .int) :: ([.fieldLink RX3 18 "TwoTownAlmanac$Town" "gaps" "I", .fieldLink RX3 9 "TwoTownAlmanac$Town" "gapDays" "[I"] ++ wsX30)
def wsX3_leaveOut : List Cond := .code yX3_leaveOut cX3_leaveOut 3 (some .int) :: ([.fieldLink RX3 18 "TwoTownAlmanac$Town" "gaps" "I", .fieldLink RX3 9 "TwoTownAlmanac$Town" "gapDays" "[I", .fieldLink RX3 15 "TwoTownAlmanac$Town" "gapLengths" "[I"] ++ wsX30)
def wsX3_dayInYearOn : List Cond := .code yX3_dayInYearOn cX3_dayInYearOn 3 (some .int) :: ([.fieldLink RX3 25 "TwoTownAlmanac$Town" "isA" "Z", .methodLink RX3 37 yX3_dateOn, .instanceMethod yX3_dateOn, .selects RX3 yX3_dateOn yX3_dateOn, .initialized RX3, .code yX3_dateOn cX3_dateOn 4 (some .int), .fieldLink RX3 18 "TwoTownAlmanac$Town" "gaps" "I", .fieldLink RX3 9 "TwoTownAlmanac$Town" "gapDays" "[I", .fieldLink RX3 15 "TwoTownAlmanac$Town" "gapLengths" "[I"] ++ wsX30)
def wsX3_monthOn : List Cond := .code yX3_monthOn cX3_monthOn 4 (some .int) :: ([.methodLink RX3 40 yX3_dayInYearOn, .instanceMethod yX3_dayInYearOn, .selects RX3 yX3_dayInYearOn yX3_dayInYearOn, .initialized RX3, .code yX3_dayInYearOn cX3_dayInYearOn 3 (some .int), .fieldLink RX3 25 "TwoTownAlmanac$Town" "isA" "Z", .methodLink RX3 37 yX3_dateOn, .instanceMethod yX3_dateOn, .selects RX3 yX3_dateOn yX3_dateOn, .code yX3_dateOn cX3_dateOn 4 (some .int), .fieldLink RX3 18 "TwoTownAlmanac$Town" "gaps" "I", .fieldLink RX3 9 "TwoTownAlmanac$Town" "gapDays" "[I", .fieldLink RX3 15 "TwoTownAlmanac$Town" "gapLengths" "[I", .methodLink RX3 33 yX3_daysBeforeMonth, .instanceMethod yX3_daysBeforeMonth, .selects RX3 yX3_daysBeforeMonth yX3_daysBeforeMonth, .code yX3_daysBeforeMonth cX3_daysBeforeMonth 3 (some .int)] ++ wsX30)
def wsX3_dayOfMonthOn : List Cond := .code yX3_dayOfMonthOn cX3_dayOfMonthOn 2 (some .int) :: ([.methodLink RX3 40 yX3_dayInYearOn, .instanceMethod yX3_dayInYearOn, .selects RX3 yX3_dayInYearOn yX3_dayInYearOn, .initialized RX3, .code yX3_dayInYearOn cX3_dayInYearOn 3 (some .int), .fieldLink RX3 25 "TwoTownAlmanac$Town" "isA" "Z", .methodLink RX3 37 yX3_dateOn, .instanceMethod yX3_dateOn, .selects RX3 yX3_dateOn yX3_dateOn, .code yX3_dateOn cX3_dateOn 4 (some .int), .fieldLink RX3 18 "TwoTownAlmanac$Town" "gaps" "I", .fieldLink RX3 9 "TwoTownAlmanac$Town" "gapDays" "[I", .fieldLink RX3 15 "TwoTownAlmanac$Town" "gapLengths" "[I", .methodLink RX3 43 yX3_monthOn, .instanceMethod yX3_monthOn, .selects RX3 yX3_monthOn yX3_monthOn, .code yX3_monthOn cX3_monthOn 4 (some .int), .methodLink RX3 33 yX3_daysBeforeMonth, .instanceMethod yX3_daysBeforeMonth, .selects RX3 yX3_daysBeforeMonth yX3_daysBeforeMonth, .code yX3_daysBeforeMonth cX3_daysBeforeMonth 3 (some .int)] ++ wsX30)
def wsX3_dayWithDate_r1 : List Cond := [Cond.methodLink RX3 46 yX3_daysInMonth, Cond.instanceMethod yX3_daysInMonth, Cond.selects RX3 yX3_daysInMonth yX3_daysInMonth, Cond.initialized RX3, Cond.code yX3_daysInMonth cX3_daysInMonth 2 (some .int), Cond.fieldLink RX3 25 "TwoTownAlmanac$Town" "isA" "Z", Cond.methodLink RX3 49 yX3_dateOf, Cond.instanceMethod yX3_dateOf, Cond.selects RX3 yX3_dateOf yX3_dateOf, Cond.code yX3_dateOf cX3_dateOf 4 (some .int), Cond.methodLink RX3 29 yX3_daysInYear, Cond.instanceMethod yX3_daysInYear, Cond.selects RX3 yX3_daysInYear yX3_daysInYear, Cond.code yX3_daysInYear cX3_daysInYear 1 (some .int), Cond.methodLink RX3 33 yX3_daysBeforeMonth, Cond.instanceMethod yX3_daysBeforeMonth, Cond.selects RX3 yX3_daysBeforeMonth yX3_daysBeforeMonth, Cond.code yX3_daysBeforeMonth cX3_daysBeforeMonth 3 (some .int), Cond.methodLink RX3 53 yX3_firstDayFrom, Cond.instanceMethod yX3_firstDayFrom, Cond.selects RX3 yX3_firstDayFrom yX3_firstDayFrom, Cond.code yX3_firstDayFrom cX3_firstDayFrom 6 (some .int), Cond.fieldLink RX3 18 "TwoTownAlmanac$Town" "gaps" "I", Cond.fieldLink RX3 9 "TwoTownAlmanac$Town" "gapDays" "[I"]
def wsX3_dayWithDate_r2 : List Cond := [Cond.fieldLink RX3 15 "TwoTownAlmanac$Town" "gapLengths" "[I", Cond.methodLink RX3 37 yX3_dateOn, Cond.instanceMethod yX3_dateOn, Cond.selects RX3 yX3_dateOn yX3_dateOn, Cond.code yX3_dateOn cX3_dateOn 4 (some .int)]
def wsX3_dayWithDate : List Cond := .code yX3_dayWithDate cX3_dayWithDate 6 (some .int) :: ((wsX3_dayWithDate_r1 ++ wsX3_dayWithDate_r2) ++ wsX30)
def wsX4_init_r1 : List Cond := [Cond.methodLink RX4 1 objectInit, Cond.instanceMethod objectInit, Cond.code objectInit ⟨#[0xb1]⟩ 1 none, Cond.classLink RX4 7 RX2, Cond.instantiable RX2 9, Cond.initialized RX2, Cond.fieldLink RX4 10 "TwoTownAlmanac" "state" "LTwoTownAlmanac$State;", Cond.fieldLink RX4 16 "TwoTownAlmanac" "recorded" "[LTwoTownAlmanac$State;", Cond.fieldLink RX4 20 "TwoTownAlmanac" "recordedCount" "I", Cond.fieldLink RX4 24 "TwoTownAlmanac" "slots" "[LTwoTownAlmanac$State;", Cond.arrayClass .boolean, Cond.fieldLink RX4 27 "TwoTownAlmanac" "slotIsFilled" "[Z", Cond.classLink RX4 31 RX0, Cond.instantiable RX0 2, Cond.initialized RX0, Cond.fieldLink RX4 34 "TwoTownAlmanac" "text" "LTwoTownAlmanac$DateText;", Cond.arrayClass .int, Cond.fieldLink RX4 38 "TwoTownAlmanac" "feastSets" "[I", Cond.methodLink RX4 9 yX2_init, Cond.instanceMethod yX2_init, Cond.code yX2_init cX2_init 2 none, Cond.methodLink RX2 3 objectInit, Cond.classLink RX2 9 RX3, Cond.instantiable RX3 5]
def wsX4_init_r2 : List Cond := [Cond.initialized RX3, Cond.fieldLink RX2 14 "TwoTownAlmanac$State" "townA" "LTwoTownAlmanac$Town;", Cond.fieldLink RX2 20 "TwoTownAlmanac$State" "townB" "LTwoTownAlmanac$Town;", Cond.classLink RX2 23 RX1, Cond.fieldLink RX2 25 "TwoTownAlmanac$State" "feasts" "[LTwoTownAlmanac$Feast;", Cond.fieldLink RX2 29 "TwoTownAlmanac$State" "feastsAdded" "I", Cond.fieldLink RX2 33 "TwoTownAlmanac$State" "shiftDays" "I", Cond.fieldLink RX2 36 "TwoTownAlmanac$State" "copiesEachDay" "I", Cond.fieldLink RX2 39 "TwoTownAlmanac$State" "dayNow" "I", Cond.fieldLink RX2 42 "TwoTownAlmanac$State" "quarrels" "I", Cond.fieldLink RX2 45 "TwoTownAlmanac$State" "copies" "I", Cond.instantiable RX1 4, Cond.initialized RX1, Cond.methodLink RX2 11 yX3_init, Cond.instanceMethod yX3_init, Cond.code yX3_init cX3_init 2 none, Cond.methodLink RX3 3 objectInit, Cond.fieldLink RX3 9 "TwoTownAlmanac$Town" "gapDays" "[I", Cond.fieldLink RX3 15 "TwoTownAlmanac$Town" "gapLengths" "[I", Cond.fieldLink RX3 18 "TwoTownAlmanac$Town" "gaps" "I", Cond.fieldLink RX3 22 "TwoTownAlmanac$Town" "keptCount" "I", Cond.fieldLink RX3 25 "TwoTownAlmanac$Town" "isA" "Z", Cond.instanceMethod yX1_init, Cond.code yX1_init cX1_init 1 none]
def wsX4_init_r3 : List Cond := [Cond.methodLink RX1 3 objectInit, Cond.fieldLink RX1 9 "TwoTownAlmanac$Feast" "town" "I", Cond.fieldLink RX1 15 "TwoTownAlmanac$Feast" "month" "I", Cond.fieldLink RX1 18 "TwoTownAlmanac$Feast" "dayOfMonth" "I", Cond.fieldLink RX1 21 "TwoTownAlmanac$Feast" "barred" "I", Cond.instanceMethod yX0_init, Cond.code yX0_init cX0_init 1 none, Cond.methodLink RX0 3 objectInit, Cond.fieldLink RX0 9 "TwoTownAlmanac$DateText" "codes" "[I", Cond.fieldLink RX0 15 "TwoTownAlmanac$DateText" "length" "I"]
def wsX4_init : List Cond := .code yX4_init cX4_init 2 none :: ((wsX4_init_r1 ++ (wsX4_init_r2 ++ wsX4_init_r3)) ++ wsX20 ++ wsX40 ++ wsX00 ++ wsX30 ++ wsX10)
def wsX4_requireIndex : List Cond := .code yX4_requireIndex cX4_requireIndex 2 none :: ([.classLink RX4 223 "java/lang/IndexOutOfBoundsException", .initialized "java/lang/IndexOutOfBoundsException"] ++ (vx_atS RX4 227 "java/lang/IndexOutOfBoundsException" ["java/lang/RuntimeException", "java/lang/Exception"]).filter goodWord)
def wsX4_requireTown : List Cond := .code yX4_requireTown cX4_requireTown 2 (some (.object "TwoTownAlmanac$Town")) :: ([.fieldLink RX4 10 "TwoTownAlmanac" "state" "LTwoTownAlmanac$State;", .methodLink RX4 78 yX4_requireIndex, .static yX4_requireIndex, .initialized RX4, .code yX4_requireIndex cX4_requireIndex 2 none, .classLink RX4 223 "java/lang/IndexOutOfBoundsException", .initialized "java/lang/IndexOutOfBoundsException", .methodLink RX4 127 yX2_townWith, .instanceMethod yX2_townWith, .selects RX2 yX2_townWith yX2_townWith, .initialized RX2, .code yX2_townWith cX2_townWith 2 (some (.object "TwoTownAlmanac$Town")), .fieldLink RX2 14 "TwoTownAlmanac$State" "townA" "LTwoTownAlmanac$Town;", .fieldLink RX2 20 "TwoTownAlmanac$State" "townB" "LTwoTownAlmanac$Town;"] ++ wsX40 ++ wsX20 ++ (vx_atS RX4 227 "java/lang/IndexOutOfBoundsException" ["java/lang/RuntimeException", "java/lang/Exception"]).filter goodWord)
def wsX4_requireRange : List Cond := .code yX4_requireRange cX4_requireRange 3 none :: ([.classLink RX4 56 "java/lang/IllegalArgumentException", .initialized "java/lang/IllegalArgumentException"] ++ (vx_atS RX4 60 "java/lang/IllegalArgumentException" ["java/lang/RuntimeException", "java/lang/Exception"]).filter goodWord)
def wsX4_dropOldestRecorded : List Cond := .code yX4_dropOldestRecorded cX4_dropOldestRecorded 3 none :: ([.fieldLink RX4 16 "TwoTownAlmanac" "recorded" "[LTwoTownAlmanac$State;", .fieldLink RX4 20 "TwoTownAlmanac" "recordedCount" "I"] ++ wsX40)
def wsX4_recordState_r1 : List Cond := [Cond.fieldLink RX4 20 "TwoTownAlmanac" "recordedCount" "I", Cond.fieldLink RX4 16 "TwoTownAlmanac" "recorded" "[LTwoTownAlmanac$State;", Cond.fieldLink RX4 10 "TwoTownAlmanac" "state" "LTwoTownAlmanac$State;", Cond.methodLink RX4 232 yX4_dropOldestRecorded, Cond.instanceMethod yX4_dropOldestRecorded, Cond.selects RX4 yX4_dropOldestRecorded yX4_dropOldestRecorded, Cond.initialized RX4, Cond.code yX4_dropOldestRecorded cX4_dropOldestRecorded 3 none, Cond.methodLink RX4 215 yX2_copyFrom, Cond.instanceMethod yX2_copyFrom, Cond.selects RX2 yX2_copyFrom yX2_copyFrom, Cond.initialized RX2, Cond.code yX2_copyFrom cX2_copyFrom 3 none, Cond.fieldLink RX2 14 "TwoTownAlmanac$State" "townA" "LTwoTownAlmanac$Town;", Cond.fieldLink RX2 20 "TwoTownAlmanac$State" "townB" "LTwoTownAlmanac$Town;", Cond.fieldLink RX2 25 "TwoTownAlmanac$State" "feasts" "[LTwoTownAlmanac$Feast;", Cond.fieldLink RX2 29 "TwoTownAlmanac$State" "feastsAdded" "I", Cond.fieldLink RX2 33 "TwoTownAlmanac$State" "shiftDays" "I", Cond.fieldLink RX2 36 "TwoTownAlmanac$State" "copiesEachDay" "I", Cond.fieldLink RX2 39 "TwoTownAlmanac$State" "dayNow" "I", Cond.fieldLink RX2 42 "TwoTownAlmanac$State" "quarrels" "I", Cond.fieldLink RX2 45 "TwoTownAlmanac$State" "copies" "I", Cond.methodLink RX2 49 yX3_copyFrom, Cond.instanceMethod yX3_copyFrom]
def wsX4_recordState_r2 : List Cond := [Cond.selects RX3 yX3_copyFrom yX3_copyFrom, Cond.initialized RX3, Cond.code yX3_copyFrom cX3_copyFrom 3 none, Cond.fieldLink RX3 9 "TwoTownAlmanac$Town" "gapDays" "[I", Cond.fieldLink RX3 15 "TwoTownAlmanac$Town" "gapLengths" "[I", Cond.fieldLink RX3 18 "TwoTownAlmanac$Town" "gaps" "I", Cond.fieldLink RX3 22 "TwoTownAlmanac$Town" "keptCount" "I", Cond.methodLink RX2 53 yX1_copyFrom, Cond.instanceMethod yX1_copyFrom, Cond.selects RX1 yX1_copyFrom yX1_copyFrom, Cond.initialized RX1, Cond.code yX1_copyFrom cX1_copyFrom 2 none, Cond.fieldLink RX1 9 "TwoTownAlmanac$Feast" "town" "I", Cond.fieldLink RX1 15 "TwoTownAlmanac$Feast" "month" "I", Cond.fieldLink RX1 18 "TwoTownAlmanac$Feast" "dayOfMonth" "I", Cond.fieldLink RX1 21 "TwoTownAlmanac$Feast" "barred" "I"]
def wsX4_recordState : List Cond := .code yX4_recordState cX4_recordState 1 none :: ((wsX4_recordState_r1 ++ wsX4_recordState_r2) ++ wsX40 ++ wsX20 ++ wsX30 ++ wsX10)
def wsX4_addGap_r1 : List Cond := [Cond.classLink RX4 56 "java/lang/IllegalArgumentException", Cond.initialized "java/lang/IllegalArgumentException", Cond.classLink RX4 66 "java/lang/IllegalStateException", Cond.initialized "java/lang/IllegalStateException", Cond.methodLink RX4 42 yX4_requireTown, Cond.instanceMethod yX4_requireTown, Cond.selects RX4 yX4_requireTown yX4_requireTown, Cond.initialized RX4, Cond.code yX4_requireTown cX4_requireTown 2 (some (.object "TwoTownAlmanac$Town")), Cond.fieldLink RX4 10 "TwoTownAlmanac" "state" "LTwoTownAlmanac$State;", Cond.methodLink RX4 78 yX4_requireIndex, Cond.static yX4_requireIndex, Cond.code yX4_requireIndex cX4_requireIndex 2 none, Cond.classLink RX4 223 "java/lang/IndexOutOfBoundsException", Cond.initialized "java/lang/IndexOutOfBoundsException", Cond.methodLink RX4 127 yX2_townWith, Cond.instanceMethod yX2_townWith, Cond.selects RX2 yX2_townWith yX2_townWith, Cond.initialized RX2, Cond.code yX2_townWith cX2_townWith 2 (some (.object "TwoTownAlmanac$Town")), Cond.fieldLink RX2 14 "TwoTownAlmanac$State" "townA" "LTwoTownAlmanac$Town;", Cond.fieldLink RX2 20 "TwoTownAlmanac$State" "townB" "LTwoTownAlmanac$Town;", Cond.methodLink RX4 46 yX4_requireRange, Cond.static yX4_requireRange]
def wsX4_addGap_r2 : List Cond := [Cond.code yX4_requireRange cX4_requireRange 3 none, Cond.methodLink RX4 50 yX3_latestGapDay, Cond.instanceMethod yX3_latestGapDay, Cond.selects RX3 yX3_latestGapDay yX3_latestGapDay, Cond.initialized RX3, Cond.code yX3_latestGapDay cX3_latestGapDay 1 (some .int), Cond.fieldLink RX3 18 "TwoTownAlmanac$Town" "gaps" "I", Cond.fieldLink RX3 9 "TwoTownAlmanac$Town" "gapDays" "[I", Cond.methodLink RX4 71 yX4_recordState, Cond.instanceMethod yX4_recordState, Cond.selects RX4 yX4_recordState yX4_recordState, Cond.code yX4_recordState cX4_recordState 1 none, Cond.fieldLink RX4 20 "TwoTownAlmanac" "recordedCount" "I", Cond.fieldLink RX4 16 "TwoTownAlmanac" "recorded" "[LTwoTownAlmanac$State;", Cond.methodLink RX4 232 yX4_dropOldestRecorded, Cond.instanceMethod yX4_dropOldestRecorded, Cond.selects RX4 yX4_dropOldestRecorded yX4_dropOldestRecorded, Cond.code yX4_dropOldestRecorded cX4_dropOldestRecorded 3 none, Cond.methodLink RX4 215 yX2_copyFrom, Cond.instanceMethod yX2_copyFrom, Cond.selects RX2 yX2_copyFrom yX2_copyFrom, Cond.code yX2_copyFrom cX2_copyFrom 3 none, Cond.fieldLink RX2 25 "TwoTownAlmanac$State" "feasts" "[LTwoTownAlmanac$Feast;", Cond.fieldLink RX2 29 "TwoTownAlmanac$State" "feastsAdded" "I"]
def wsX4_addGap_r3 : List Cond := [Cond.fieldLink RX2 33 "TwoTownAlmanac$State" "shiftDays" "I", Cond.fieldLink RX2 36 "TwoTownAlmanac$State" "copiesEachDay" "I", Cond.fieldLink RX2 39 "TwoTownAlmanac$State" "dayNow" "I", Cond.fieldLink RX2 42 "TwoTownAlmanac$State" "quarrels" "I", Cond.fieldLink RX2 45 "TwoTownAlmanac$State" "copies" "I", Cond.methodLink RX2 49 yX3_copyFrom, Cond.instanceMethod yX3_copyFrom, Cond.selects RX3 yX3_copyFrom yX3_copyFrom, Cond.code yX3_copyFrom cX3_copyFrom 3 none, Cond.fieldLink RX3 15 "TwoTownAlmanac$Town" "gapLengths" "[I", Cond.fieldLink RX3 22 "TwoTownAlmanac$Town" "keptCount" "I", Cond.methodLink RX2 53 yX1_copyFrom, Cond.instanceMethod yX1_copyFrom, Cond.selects RX1 yX1_copyFrom yX1_copyFrom, Cond.initialized RX1, Cond.code yX1_copyFrom cX1_copyFrom 2 none, Cond.fieldLink RX1 9 "TwoTownAlmanac$Feast" "town" "I", Cond.fieldLink RX1 15 "TwoTownAlmanac$Feast" "month" "I", Cond.fieldLink RX1 18 "TwoTownAlmanac$Feast" "dayOfMonth" "I", Cond.fieldLink RX1 21 "TwoTownAlmanac$Feast" "barred" "I", Cond.methodLink RX4 74 yX3_leaveOut, Cond.instanceMethod yX3_leaveOut, Cond.selects RX3 yX3_leaveOut yX3_leaveOut, Cond.code yX3_leaveOut cX3_leaveOut 3 (some .int)]
def wsX4_addGap : List Cond := .code yX4_addGap cX4_addGap 5 (some .int) :: ((wsX4_addGap_r1 ++ (wsX4_addGap_r2 ++ wsX4_addGap_r3)) ++ wsX30 ++ wsX40 ++ wsX20 ++ wsX10 ++ (vx_atS RX4 60 "java/lang/IllegalArgumentException" ["java/lang/RuntimeException", "java/lang/Exception"]).filter goodWord ++ (vx_atS RX4 70 "java/lang/IllegalStateException" ["java/lang/RuntimeException", "java/lang/Exception"]).filter goodWord ++ (vx_atS RX4 227 "java/lang/IndexOutOfBoundsException" ["java/lang/RuntimeException", "java/lang/Exception"]).filter goodWord)
def wsX4_gapCount : List Cond := .code yX4_gapCount cX4_gapCount 2 (some .int) :: ([.methodLink RX4 42 yX4_requireTown, .instanceMethod yX4_requireTown, .selects RX4 yX4_requireTown yX4_requireTown, .initialized RX4, .code yX4_requireTown cX4_requireTown 2 (some (.object "TwoTownAlmanac$Town")), .fieldLink RX4 10 "TwoTownAlmanac" "state" "LTwoTownAlmanac$State;", .methodLink RX4 78 yX4_requireIndex, .static yX4_requireIndex, .code yX4_requireIndex cX4_requireIndex 2 none, .classLink RX4 223 "java/lang/IndexOutOfBoundsException", .initialized "java/lang/IndexOutOfBoundsException", .methodLink RX4 127 yX2_townWith, .instanceMethod yX2_townWith, .selects RX2 yX2_townWith yX2_townWith, .initialized RX2, .code yX2_townWith cX2_townWith 2 (some (.object "TwoTownAlmanac$Town")), .fieldLink RX2 14 "TwoTownAlmanac$State" "townA" "LTwoTownAlmanac$Town;", .fieldLink RX2 20 "TwoTownAlmanac$State" "townB" "LTwoTownAlmanac$Town;"] ++ wsX30 ++ wsX40 ++ wsX20 ++ (vx_atS RX4 227 "java/lang/IndexOutOfBoundsException" ["java/lang/RuntimeException", "java/lang/Exception"]).filter goodWord)
def wsX4_gapDay : List Cond := .code yX4_gapDay cX4_gapDay 4 (some .int) :: ([.methodLink RX4 42 yX4_requireTown, .instanceMethod yX4_requireTown, .selects RX4 yX4_requireTown yX4_requireTown, .initialized RX4, .code yX4_requireTown cX4_requireTown 2 (some (.object "TwoTownAlmanac$Town")), .fieldLink RX4 10 "TwoTownAlmanac" "state" "LTwoTownAlmanac$State;", .methodLink RX4 78 yX4_requireIndex, .static yX4_requireIndex, .code yX4_requireIndex cX4_requireIndex 2 none, .classLink RX4 223 "java/lang/IndexOutOfBoundsException", .initialized "java/lang/IndexOutOfBoundsException", .methodLink RX4 127 yX2_townWith, .instanceMethod yX2_townWith, .selects RX2 yX2_townWith yX2_townWith, .initialized RX2, .code yX2_townWith cX2_townWith 2 (some (.object "TwoTownAlmanac$Town")), .fieldLink RX2 14 "TwoTownAlmanac$State" "townA" "LTwoTownAlmanac$Town;", .fieldLink RX2 20 "TwoTownAlmanac$State" "townB" "LTwoTownAlmanac$Town;"] ++ wsX30 ++ wsX40 ++ wsX20 ++ (vx_atS RX4 227 "java/lang/IndexOutOfBoundsException" ["java/lang/RuntimeException", "java/lang/Exception"]).filter goodWord)
def wsX4_gapLength : List Cond := .code yX4_gapLength cX4_gapLength 4 (some .int) :: ([.methodLink RX4 42 yX4_requireTown, .instanceMethod yX4_requireTown, .selects RX4 yX4_requireTown yX4_requireTown, .initialized RX4, .code yX4_requireTown cX4_requireTown 2 (some (.object "TwoTownAlmanac$Town")), .fieldLink RX4 10 "TwoTownAlmanac" "state" "LTwoTownAlmanac$State;", .methodLink RX4 78 yX4_requireIndex, .static yX4_requireIndex, .code yX4_requireIndex cX4_requireIndex 2 none, .classLink RX4 223 "java/lang/IndexOutOfBoundsException", .initialized "java/lang/IndexOutOfBoundsException", .methodLink RX4 127 yX2_townWith, .instanceMethod yX2_townWith, .selects RX2 yX2_townWith yX2_townWith, .initialized RX2, .code yX2_townWith cX2_townWith 2 (some (.object "TwoTownAlmanac$Town")), .fieldLink RX2 14 "TwoTownAlmanac$State" "townA" "LTwoTownAlmanac$Town;", .fieldLink RX2 20 "TwoTownAlmanac$State" "townB" "LTwoTownAlmanac$Town;"] ++ wsX30 ++ wsX40 ++ wsX20 ++ (vx_atS RX4 227 "java/lang/IndexOutOfBoundsException" ["java/lang/RuntimeException", "java/lang/Exception"]).filter goodWord)
def wsX4_monthLength_r1 : List Cond := [Cond.methodLink RX4 42 yX4_requireTown, Cond.instanceMethod yX4_requireTown, Cond.selects RX4 yX4_requireTown yX4_requireTown, Cond.initialized RX4, Cond.code yX4_requireTown cX4_requireTown 2 (some (.object "TwoTownAlmanac$Town")), Cond.fieldLink RX4 10 "TwoTownAlmanac" "state" "LTwoTownAlmanac$State;", Cond.methodLink RX4 78 yX4_requireIndex, Cond.static yX4_requireIndex, Cond.code yX4_requireIndex cX4_requireIndex 2 none, Cond.classLink RX4 223 "java/lang/IndexOutOfBoundsException", Cond.initialized "java/lang/IndexOutOfBoundsException", Cond.methodLink RX4 127 yX2_townWith, Cond.instanceMethod yX2_townWith, Cond.selects RX2 yX2_townWith yX2_townWith, Cond.initialized RX2, Cond.code yX2_townWith cX2_townWith 2 (some (.object "TwoTownAlmanac$Town")), Cond.fieldLink RX2 14 "TwoTownAlmanac$State" "townA" "LTwoTownAlmanac$Town;", Cond.fieldLink RX2 20 "TwoTownAlmanac$State" "townB" "LTwoTownAlmanac$Town;", Cond.methodLink RX4 46 yX4_requireRange, Cond.static yX4_requireRange, Cond.code yX4_requireRange cX4_requireRange 3 none, Cond.classLink RX4 56 "java/lang/IllegalArgumentException", Cond.initialized "java/lang/IllegalArgumentException", Cond.methodLink RX4 88 yX3_daysInMonth]
def wsX4_monthLength_r2 : List Cond := [Cond.instanceMethod yX3_daysInMonth, Cond.selects RX3 yX3_daysInMonth yX3_daysInMonth, Cond.initialized RX3, Cond.code yX3_daysInMonth cX3_daysInMonth 2 (some .int), Cond.fieldLink RX3 25 "TwoTownAlmanac$Town" "isA" "Z"]
def wsX4_monthLength : List Cond := .code yX4_monthLength cX4_monthLength 4 (some .int) :: ((wsX4_monthLength_r1 ++ wsX4_monthLength_r2) ++ wsX40 ++ wsX20 ++ wsX30 ++ (vx_atS RX4 227 "java/lang/IndexOutOfBoundsException" ["java/lang/RuntimeException", "java/lang/Exception"]).filter goodWord ++ (vx_atS RX4 60 "java/lang/IllegalArgumentException" ["java/lang/RuntimeException", "java/lang/Exception"]).filter goodWord)
def wsX4_dayOfMonth_r1 : List Cond := [Cond.methodLink RX4 42 yX4_requireTown, Cond.instanceMethod yX4_requireTown, Cond.selects RX4 yX4_requireTown yX4_requireTown, Cond.initialized RX4, Cond.code yX4_requireTown cX4_requireTown 2 (some (.object "TwoTownAlmanac$Town")), Cond.fieldLink RX4 10 "TwoTownAlmanac" "state" "LTwoTownAlmanac$State;", Cond.methodLink RX4 78 yX4_requireIndex, Cond.static yX4_requireIndex, Cond.code yX4_requireIndex cX4_requireIndex 2 none, Cond.classLink RX4 223 "java/lang/IndexOutOfBoundsException", Cond.initialized "java/lang/IndexOutOfBoundsException", Cond.methodLink RX4 127 yX2_townWith, Cond.instanceMethod yX2_townWith, Cond.selects RX2 yX2_townWith yX2_townWith, Cond.initialized RX2, Cond.code yX2_townWith cX2_townWith 2 (some (.object "TwoTownAlmanac$Town")), Cond.fieldLink RX2 14 "TwoTownAlmanac$State" "townA" "LTwoTownAlmanac$Town;", Cond.fieldLink RX2 20 "TwoTownAlmanac$State" "townB" "LTwoTownAlmanac$Town;", Cond.methodLink RX4 46 yX4_requireRange, Cond.static yX4_requireRange, Cond.code yX4_requireRange cX4_requireRange 3 none, Cond.classLink RX4 56 "java/lang/IllegalArgumentException", Cond.initialized "java/lang/IllegalArgumentException", Cond.methodLink RX4 92 yX3_dayOfMonthOn]
def wsX4_dayOfMonth_r2 : List Cond := [Cond.instanceMethod yX3_dayOfMonthOn, Cond.selects RX3 yX3_dayOfMonthOn yX3_dayOfMonthOn, Cond.initialized RX3, Cond.code yX3_dayOfMonthOn cX3_dayOfMonthOn 2 (some .int), Cond.methodLink RX3 40 yX3_dayInYearOn, Cond.instanceMethod yX3_dayInYearOn, Cond.selects RX3 yX3_dayInYearOn yX3_dayInYearOn, Cond.code yX3_dayInYearOn cX3_dayInYearOn 3 (some .int), Cond.fieldLink RX3 25 "TwoTownAlmanac$Town" "isA" "Z", Cond.methodLink RX3 37 yX3_dateOn, Cond.instanceMethod yX3_dateOn, Cond.selects RX3 yX3_dateOn yX3_dateOn, Cond.code yX3_dateOn cX3_dateOn 4 (some .int), Cond.fieldLink RX3 18 "TwoTownAlmanac$Town" "gaps" "I", Cond.fieldLink RX3 9 "TwoTownAlmanac$Town" "gapDays" "[I", Cond.fieldLink RX3 15 "TwoTownAlmanac$Town" "gapLengths" "[I", Cond.methodLink RX3 43 yX3_monthOn, Cond.instanceMethod yX3_monthOn, Cond.selects RX3 yX3_monthOn yX3_monthOn, Cond.code yX3_monthOn cX3_monthOn 4 (some .int), Cond.methodLink RX3 33 yX3_daysBeforeMonth, Cond.instanceMethod yX3_daysBeforeMonth, Cond.selects RX3 yX3_daysBeforeMonth yX3_daysBeforeMonth, Cond.code yX3_daysBeforeMonth cX3_daysBeforeMonth 3 (some .int)]
def wsX4_dayOfMonth : List Cond := .code yX4_dayOfMonth cX4_dayOfMonth 4 (some .int) :: ((wsX4_dayOfMonth_r1 ++ wsX4_dayOfMonth_r2) ++ wsX40 ++ wsX20 ++ wsX30 ++ (vx_atS RX4 227 "java/lang/IndexOutOfBoundsException" ["java/lang/RuntimeException", "java/lang/Exception"]).filter goodWord ++ (vx_atS RX4 60 "java/lang/IllegalArgumentException" ["java/lang/RuntimeException", "java/lang/Exception"]).filter goodWord)
def wsX4_monthOf_r1 : List Cond := [Cond.methodLink RX4 42 yX4_requireTown, Cond.instanceMethod yX4_requireTown, Cond.selects RX4 yX4_requireTown yX4_requireTown, Cond.initialized RX4, Cond.code yX4_requireTown cX4_requireTown 2 (some (.object "TwoTownAlmanac$Town")), Cond.fieldLink RX4 10 "TwoTownAlmanac" "state" "LTwoTownAlmanac$State;", Cond.methodLink RX4 78 yX4_requireIndex, Cond.static yX4_requireIndex, Cond.code yX4_requireIndex cX4_requireIndex 2 none, Cond.classLink RX4 223 "java/lang/IndexOutOfBoundsException", Cond.initialized "java/lang/IndexOutOfBoundsException", Cond.methodLink RX4 127 yX2_townWith, Cond.instanceMethod yX2_townWith, Cond.selects RX2 yX2_townWith yX2_townWith, Cond.initialized RX2, Cond.code yX2_townWith cX2_townWith 2 (some (.object "TwoTownAlmanac$Town")), Cond.fieldLink RX2 14 "TwoTownAlmanac$State" "townA" "LTwoTownAlmanac$Town;", Cond.fieldLink RX2 20 "TwoTownAlmanac$State" "townB" "LTwoTownAlmanac$Town;", Cond.methodLink RX4 46 yX4_requireRange, Cond.static yX4_requireRange, Cond.code yX4_requireRange cX4_requireRange 3 none, Cond.classLink RX4 56 "java/lang/IllegalArgumentException", Cond.initialized "java/lang/IllegalArgumentException", Cond.methodLink RX4 95 yX3_monthOn]
def wsX4_monthOf_r2 : List Cond := [Cond.instanceMethod yX3_monthOn, Cond.selects RX3 yX3_monthOn yX3_monthOn, Cond.initialized RX3, Cond.code yX3_monthOn cX3_monthOn 4 (some .int), Cond.methodLink RX3 40 yX3_dayInYearOn, Cond.instanceMethod yX3_dayInYearOn, Cond.selects RX3 yX3_dayInYearOn yX3_dayInYearOn, Cond.code yX3_dayInYearOn cX3_dayInYearOn 3 (some .int), Cond.fieldLink RX3 25 "TwoTownAlmanac$Town" "isA" "Z", Cond.methodLink RX3 37 yX3_dateOn, Cond.instanceMethod yX3_dateOn, Cond.selects RX3 yX3_dateOn yX3_dateOn, Cond.code yX3_dateOn cX3_dateOn 4 (some .int), Cond.fieldLink RX3 18 "TwoTownAlmanac$Town" "gaps" "I", Cond.fieldLink RX3 9 "TwoTownAlmanac$Town" "gapDays" "[I", Cond.fieldLink RX3 15 "TwoTownAlmanac$Town" "gapLengths" "[I", Cond.methodLink RX3 33 yX3_daysBeforeMonth, Cond.instanceMethod yX3_daysBeforeMonth, Cond.selects RX3 yX3_daysBeforeMonth yX3_daysBeforeMonth, Cond.code yX3_daysBeforeMonth cX3_daysBeforeMonth 3 (some .int)]
def wsX4_monthOf : List Cond := .code yX4_monthOf cX4_monthOf 4 (some .int) :: ((wsX4_monthOf_r1 ++ wsX4_monthOf_r2) ++ wsX40 ++ wsX20 ++ wsX30 ++ (vx_atS RX4 227 "java/lang/IndexOutOfBoundsException" ["java/lang/RuntimeException", "java/lang/Exception"]).filter goodWord ++ (vx_atS RX4 60 "java/lang/IllegalArgumentException" ["java/lang/RuntimeException", "java/lang/Exception"]).filter goodWord)
def wsX4_yearOf_r1 : List Cond := [Cond.methodLink RX4 42 yX4_requireTown, Cond.instanceMethod yX4_requireTown, Cond.selects RX4 yX4_requireTown yX4_requireTown, Cond.initialized RX4, Cond.code yX4_requireTown cX4_requireTown 2 (some (.object "TwoTownAlmanac$Town")), Cond.fieldLink RX4 10 "TwoTownAlmanac" "state" "LTwoTownAlmanac$State;", Cond.methodLink RX4 78 yX4_requireIndex, Cond.static yX4_requireIndex, Cond.code yX4_requireIndex cX4_requireIndex 2 none, Cond.classLink RX4 223 "java/lang/IndexOutOfBoundsException", Cond.initialized "java/lang/IndexOutOfBoundsException", Cond.methodLink RX4 127 yX2_townWith, Cond.instanceMethod yX2_townWith, Cond.selects RX2 yX2_townWith yX2_townWith, Cond.initialized RX2, Cond.code yX2_townWith cX2_townWith 2 (some (.object "TwoTownAlmanac$Town")), Cond.fieldLink RX2 14 "TwoTownAlmanac$State" "townA" "LTwoTownAlmanac$Town;", Cond.fieldLink RX2 20 "TwoTownAlmanac$State" "townB" "LTwoTownAlmanac$Town;", Cond.methodLink RX4 46 yX4_requireRange, Cond.static yX4_requireRange, Cond.code yX4_requireRange cX4_requireRange 3 none, Cond.classLink RX4 56 "java/lang/IllegalArgumentException", Cond.initialized "java/lang/IllegalArgumentException", Cond.methodLink RX4 98 yX3_yearOn]
def wsX4_yearOf_r2 : List Cond := [Cond.instanceMethod yX3_yearOn, Cond.selects RX3 yX3_yearOn yX3_yearOn, Cond.initialized RX3, Cond.code yX3_yearOn cX3_yearOn 3 (some .int), Cond.fieldLink RX3 25 "TwoTownAlmanac$Town" "isA" "Z", Cond.methodLink RX3 37 yX3_dateOn, Cond.instanceMethod yX3_dateOn, Cond.selects RX3 yX3_dateOn yX3_dateOn, Cond.code yX3_dateOn cX3_dateOn 4 (some .int), Cond.fieldLink RX3 18 "TwoTownAlmanac$Town" "gaps" "I", Cond.fieldLink RX3 9 "TwoTownAlmanac$Town" "gapDays" "[I", Cond.fieldLink RX3 15 "TwoTownAlmanac$Town" "gapLengths" "[I"]
def wsX4_yearOf : List Cond := .code yX4_yearOf cX4_yearOf 4 (some .int) :: ((wsX4_yearOf_r1 ++ wsX4_yearOf_r2) ++ wsX40 ++ wsX20 ++ wsX30 ++ (vx_atS RX4 227 "java/lang/IndexOutOfBoundsException" ["java/lang/RuntimeException", "java/lang/Exception"]).filter goodWord ++ (vx_atS RX4 60 "java/lang/IllegalArgumentException" ["java/lang/RuntimeException", "java/lang/Exception"]).filter goodWord)
def wsX4_weekday : List Cond := .code yX4_weekday cX4_weekday 2 (some .int) :: ([.methodLink RX4 46 yX4_requireRange, .static yX4_requireRange, .initialized RX4, .code yX4_requireRange cX4_requireRange 3 none, .classLink RX4 56 "java/lang/IllegalArgumentException", .initialized "java/lang/IllegalArgumentException"] ++ (vx_atS RX4 60 "java/lang/IllegalArgumentException" ["java/lang/RuntimeException", "java/lang/Exception"]).filter goodWord)
def wsX4_dayOfDate_r1 : List Cond := [Cond.methodLink RX4 42 yX4_requireTown, Cond.instanceMethod yX4_requireTown, Cond.selects RX4 yX4_requireTown yX4_requireTown, Cond.initialized RX4, Cond.code yX4_requireTown cX4_requireTown 2 (some (.object "TwoTownAlmanac$Town")), Cond.fieldLink RX4 10 "TwoTownAlmanac" "state" "LTwoTownAlmanac$State;", Cond.methodLink RX4 78 yX4_requireIndex, Cond.static yX4_requireIndex, Cond.code yX4_requireIndex cX4_requireIndex 2 none, Cond.classLink RX4 223 "java/lang/IndexOutOfBoundsException", Cond.initialized "java/lang/IndexOutOfBoundsException", Cond.methodLink RX4 127 yX2_townWith, Cond.instanceMethod yX2_townWith, Cond.selects RX2 yX2_townWith yX2_townWith, Cond.initialized RX2, Cond.code yX2_townWith cX2_townWith 2 (some (.object "TwoTownAlmanac$Town")), Cond.fieldLink RX2 14 "TwoTownAlmanac$State" "townA" "LTwoTownAlmanac$Town;", Cond.fieldLink RX2 20 "TwoTownAlmanac$State" "townB" "LTwoTownAlmanac$Town;", Cond.methodLink RX4 46 yX4_requireRange, Cond.static yX4_requireRange, Cond.code yX4_requireRange cX4_requireRange 3 none, Cond.classLink RX4 56 "java/lang/IllegalArgumentException", Cond.initialized "java/lang/IllegalArgumentException", Cond.methodLink RX4 101 yX3_dayWithDate]
def wsX4_dayOfDate_r2 : List Cond := [Cond.instanceMethod yX3_dayWithDate, Cond.selects RX3 yX3_dayWithDate yX3_dayWithDate, Cond.initialized RX3, Cond.code yX3_dayWithDate cX3_dayWithDate 6 (some .int), Cond.methodLink RX3 46 yX3_daysInMonth, Cond.instanceMethod yX3_daysInMonth, Cond.selects RX3 yX3_daysInMonth yX3_daysInMonth, Cond.code yX3_daysInMonth cX3_daysInMonth 2 (some .int), Cond.fieldLink RX3 25 "TwoTownAlmanac$Town" "isA" "Z", Cond.methodLink RX3 49 yX3_dateOf, Cond.instanceMethod yX3_dateOf, Cond.selects RX3 yX3_dateOf yX3_dateOf, Cond.code yX3_dateOf cX3_dateOf 4 (some .int), Cond.methodLink RX3 29 yX3_daysInYear, Cond.instanceMethod yX3_daysInYear, Cond.selects RX3 yX3_daysInYear yX3_daysInYear, Cond.code yX3_daysInYear cX3_daysInYear 1 (some .int), Cond.methodLink RX3 33 yX3_daysBeforeMonth, Cond.instanceMethod yX3_daysBeforeMonth, Cond.selects RX3 yX3_daysBeforeMonth yX3_daysBeforeMonth, Cond.code yX3_daysBeforeMonth cX3_daysBeforeMonth 3 (some .int), Cond.methodLink RX3 53 yX3_firstDayFrom, Cond.instanceMethod yX3_firstDayFrom, Cond.selects RX3 yX3_firstDayFrom yX3_firstDayFrom]
def wsX4_dayOfDate_r3 : List Cond := [Cond.code yX3_firstDayFrom cX3_firstDayFrom 6 (some .int), Cond.fieldLink RX3 18 "TwoTownAlmanac$Town" "gaps" "I", Cond.fieldLink RX3 9 "TwoTownAlmanac$Town" "gapDays" "[I", Cond.fieldLink RX3 15 "TwoTownAlmanac$Town" "gapLengths" "[I", Cond.methodLink RX3 37 yX3_dateOn, Cond.instanceMethod yX3_dateOn, Cond.selects RX3 yX3_dateOn yX3_dateOn, Cond.code yX3_dateOn cX3_dateOn 4 (some .int)]
def wsX4_dayOfDate : List Cond := .code yX4_dayOfDate cX4_dayOfDate 6 (some .int) :: ((wsX4_dayOfDate_r1 ++ (wsX4_dayOfDate_r2 ++ wsX4_dayOfDate_r3)) ++ wsX40 ++ wsX20 ++ wsX30 ++ (vx_atS RX4 227 "java/lang/IndexOutOfBoundsException" ["java/lang/RuntimeException", "java/lang/Exception"]).filter goodWord ++ (vx_atS RX4 60 "java/lang/IllegalArgumentException" ["java/lang/RuntimeException", "java/lang/Exception"]).filter goodWord)
def wsX4_addFeast_r1 : List Cond := [Cond.classLink RX4 66 "java/lang/IllegalStateException", Cond.initialized "java/lang/IllegalStateException", Cond.fieldLink RX4 10 "TwoTownAlmanac" "state" "LTwoTownAlmanac$State;", Cond.methodLink RX4 42 yX4_requireTown, Cond.instanceMethod yX4_requireTown, Cond.selects RX4 yX4_requireTown yX4_requireTown, Cond.initialized RX4, Cond.code yX4_requireTown cX4_requireTown 2 (some (.object "TwoTownAlmanac$Town")), Cond.methodLink RX4 78 yX4_requireIndex, Cond.static yX4_requireIndex, Cond.code yX4_requireIndex cX4_requireIndex 2 none, Cond.classLink RX4 223 "java/lang/IndexOutOfBoundsException", Cond.initialized "java/lang/IndexOutOfBoundsException", Cond.methodLink RX4 127 yX2_townWith, Cond.instanceMethod yX2_townWith, Cond.selects RX2 yX2_townWith yX2_townWith, Cond.initialized RX2, Cond.code yX2_townWith cX2_townWith 2 (some (.object "TwoTownAlmanac$Town")), Cond.fieldLink RX2 14 "TwoTownAlmanac$State" "townA" "LTwoTownAlmanac$Town;", Cond.fieldLink RX2 20 "TwoTownAlmanac$State" "townB" "LTwoTownAlmanac$Town;", Cond.methodLink RX4 46 yX4_requireRange, Cond.static yX4_requireRange, Cond.code yX4_requireRange cX4_requireRange 3 none, Cond.classLink RX4 56 "java/lang/IllegalArgumentException"]
def wsX4_addFeast_r2 : List Cond := [Cond.initialized "java/lang/IllegalArgumentException", Cond.methodLink RX4 71 yX4_recordState, Cond.instanceMethod yX4_recordState, Cond.selects RX4 yX4_recordState yX4_recordState, Cond.code yX4_recordState cX4_recordState 1 none, Cond.fieldLink RX4 20 "TwoTownAlmanac" "recordedCount" "I", Cond.fieldLink RX4 16 "TwoTownAlmanac" "recorded" "[LTwoTownAlmanac$State;", Cond.methodLink RX4 232 yX4_dropOldestRecorded, Cond.instanceMethod yX4_dropOldestRecorded, Cond.selects RX4 yX4_dropOldestRecorded yX4_dropOldestRecorded, Cond.code yX4_dropOldestRecorded cX4_dropOldestRecorded 3 none, Cond.methodLink RX4 215 yX2_copyFrom, Cond.instanceMethod yX2_copyFrom, Cond.selects RX2 yX2_copyFrom yX2_copyFrom, Cond.code yX2_copyFrom cX2_copyFrom 3 none, Cond.fieldLink RX2 25 "TwoTownAlmanac$State" "feasts" "[LTwoTownAlmanac$Feast;", Cond.fieldLink RX2 29 "TwoTownAlmanac$State" "feastsAdded" "I", Cond.fieldLink RX2 33 "TwoTownAlmanac$State" "shiftDays" "I", Cond.fieldLink RX2 36 "TwoTownAlmanac$State" "copiesEachDay" "I", Cond.fieldLink RX2 39 "TwoTownAlmanac$State" "dayNow" "I", Cond.fieldLink RX2 42 "TwoTownAlmanac$State" "quarrels" "I", Cond.fieldLink RX2 45 "TwoTownAlmanac$State" "copies" "I", Cond.methodLink RX2 49 yX3_copyFrom, Cond.instanceMethod yX3_copyFrom]
def wsX4_addFeast_r3 : List Cond := [Cond.selects RX3 yX3_copyFrom yX3_copyFrom, Cond.initialized RX3, Cond.code yX3_copyFrom cX3_copyFrom 3 none, Cond.fieldLink RX3 9 "TwoTownAlmanac$Town" "gapDays" "[I", Cond.fieldLink RX3 15 "TwoTownAlmanac$Town" "gapLengths" "[I", Cond.fieldLink RX3 18 "TwoTownAlmanac$Town" "gaps" "I", Cond.fieldLink RX3 22 "TwoTownAlmanac$Town" "keptCount" "I", Cond.methodLink RX2 53 yX1_copyFrom, Cond.instanceMethod yX1_copyFrom, Cond.selects RX1 yX1_copyFrom yX1_copyFrom, Cond.initialized RX1, Cond.code yX1_copyFrom cX1_copyFrom 2 none, Cond.fieldLink RX1 9 "TwoTownAlmanac$Feast" "town" "I", Cond.fieldLink RX1 15 "TwoTownAlmanac$Feast" "month" "I", Cond.fieldLink RX1 18 "TwoTownAlmanac$Feast" "dayOfMonth" "I", Cond.fieldLink RX1 21 "TwoTownAlmanac$Feast" "barred" "I", Cond.methodLink RX4 110 yX2_putFeast, Cond.instanceMethod yX2_putFeast, Cond.selects RX2 yX2_putFeast yX2_putFeast, Cond.code yX2_putFeast cX2_putFeast 6 (some .int)]
def wsX4_addFeast : List Cond := .code yX4_addFeast cX4_addFeast 4 (some .int) :: ((wsX4_addFeast_r1 ++ (wsX4_addFeast_r2 ++ wsX4_addFeast_r3)) ++ wsX40 ++ wsX20 ++ wsX30 ++ wsX10 ++ (vx_atS RX4 70 "java/lang/IllegalStateException" ["java/lang/RuntimeException", "java/lang/Exception"]).filter goodWord ++ (vx_atS RX4 227 "java/lang/IndexOutOfBoundsException" ["java/lang/RuntimeException", "java/lang/Exception"]).filter goodWord ++ (vx_atS RX4 60 "java/lang/IllegalArgumentException" ["java/lang/RuntimeException", "java/lang/Exception"]).filter goodWord)
def wsX4_requireFeast : List Cond := .code yX4_requireFeast cX4_requireFeast 2 (some (.object "TwoTownAlmanac$Feast")) :: ([.fieldLink RX4 10 "TwoTownAlmanac" "state" "LTwoTownAlmanac$State;", .methodLink RX4 78 yX4_requireIndex, .static yX4_requireIndex, .initialized RX4, .code yX4_requireIndex cX4_requireIndex 2 none, .classLink RX4 223 "java/lang/IndexOutOfBoundsException", .initialized "java/lang/IndexOutOfBoundsException"] ++ wsX40 ++ wsX20 ++ (vx_atS RX4 227 "java/lang/IndexOutOfBoundsException" ["java/lang/RuntimeException", "java/lang/Exception"]).filter goodWord)
def wsX4_barWeekday_r1 : List Cond := [Cond.methodLink RX4 113 yX4_requireFeast, Cond.instanceMethod yX4_requireFeast, Cond.selects RX4 yX4_requireFeast yX4_requireFeast, Cond.initialized RX4, Cond.code yX4_requireFeast cX4_requireFeast 2 (some (.object "TwoTownAlmanac$Feast")), Cond.fieldLink RX4 10 "TwoTownAlmanac" "state" "LTwoTownAlmanac$State;", Cond.methodLink RX4 78 yX4_requireIndex, Cond.static yX4_requireIndex, Cond.code yX4_requireIndex cX4_requireIndex 2 none, Cond.classLink RX4 223 "java/lang/IndexOutOfBoundsException", Cond.initialized "java/lang/IndexOutOfBoundsException", Cond.methodLink RX4 46 yX4_requireRange, Cond.static yX4_requireRange, Cond.code yX4_requireRange cX4_requireRange 3 none, Cond.classLink RX4 56 "java/lang/IllegalArgumentException", Cond.initialized "java/lang/IllegalArgumentException", Cond.methodLink RX4 71 yX4_recordState, Cond.instanceMethod yX4_recordState, Cond.selects RX4 yX4_recordState yX4_recordState, Cond.code yX4_recordState cX4_recordState 1 none, Cond.fieldLink RX4 20 "TwoTownAlmanac" "recordedCount" "I", Cond.fieldLink RX4 16 "TwoTownAlmanac" "recorded" "[LTwoTownAlmanac$State;", Cond.methodLink RX4 232 yX4_dropOldestRecorded, Cond.instanceMethod yX4_dropOldestRecorded]
def wsX4_barWeekday_r2 : List Cond := [Cond.selects RX4 yX4_dropOldestRecorded yX4_dropOldestRecorded, Cond.code yX4_dropOldestRecorded cX4_dropOldestRecorded 3 none, Cond.methodLink RX4 215 yX2_copyFrom, Cond.instanceMethod yX2_copyFrom, Cond.selects RX2 yX2_copyFrom yX2_copyFrom, Cond.initialized RX2, Cond.code yX2_copyFrom cX2_copyFrom 3 none, Cond.fieldLink RX2 14 "TwoTownAlmanac$State" "townA" "LTwoTownAlmanac$Town;", Cond.fieldLink RX2 20 "TwoTownAlmanac$State" "townB" "LTwoTownAlmanac$Town;", Cond.fieldLink RX2 25 "TwoTownAlmanac$State" "feasts" "[LTwoTownAlmanac$Feast;", Cond.fieldLink RX2 29 "TwoTownAlmanac$State" "feastsAdded" "I", Cond.fieldLink RX2 33 "TwoTownAlmanac$State" "shiftDays" "I", Cond.fieldLink RX2 36 "TwoTownAlmanac$State" "copiesEachDay" "I", Cond.fieldLink RX2 39 "TwoTownAlmanac$State" "dayNow" "I", Cond.fieldLink RX2 42 "TwoTownAlmanac$State" "quarrels" "I", Cond.fieldLink RX2 45 "TwoTownAlmanac$State" "copies" "I", Cond.methodLink RX2 49 yX3_copyFrom, Cond.instanceMethod yX3_copyFrom, Cond.selects RX3 yX3_copyFrom yX3_copyFrom, Cond.initialized RX3, Cond.code yX3_copyFrom cX3_copyFrom 3 none, Cond.fieldLink RX3 9 "TwoTownAlmanac$Town" "gapDays" "[I", Cond.fieldLink RX3 15 "TwoTownAlmanac$Town" "gapLengths" "[I", Cond.fieldLink RX3 18 "TwoTownAlmanac$Town" "gaps" "I"]
def wsX4_barWeekday_r3 : List Cond := [Cond.fieldLink RX3 22 "TwoTownAlmanac$Town" "keptCount" "I", Cond.methodLink RX2 53 yX1_copyFrom, Cond.instanceMethod yX1_copyFrom, Cond.selects RX1 yX1_copyFrom yX1_copyFrom, Cond.initialized RX1, Cond.code yX1_copyFrom cX1_copyFrom 2 none, Cond.fieldLink RX1 9 "TwoTownAlmanac$Feast" "town" "I", Cond.fieldLink RX1 15 "TwoTownAlmanac$Feast" "month" "I", Cond.fieldLink RX1 18 "TwoTownAlmanac$Feast" "dayOfMonth" "I", Cond.fieldLink RX1 21 "TwoTownAlmanac$Feast" "barred" "I"]
def wsX4_barWeekday : List Cond := .code yX4_barWeekday cX4_barWeekday 5 (some .int) :: ((wsX4_barWeekday_r1 ++ (wsX4_barWeekday_r2 ++ wsX4_barWeekday_r3)) ++ wsX10 ++ wsX40 ++ wsX20 ++ wsX30 ++ (vx_atS RX4 227 "java/lang/IndexOutOfBoundsException" ["java/lang/RuntimeException", "java/lang/Exception"]).filter goodWord ++ (vx_atS RX4 60 "java/lang/IllegalArgumentException" ["java/lang/RuntimeException", "java/lang/Exception"]).filter goodWord)
def wsX4_allowAllWeekdays_r1 : List Cond := [Cond.classLink RX4 66 "java/lang/IllegalStateException", Cond.initialized "java/lang/IllegalStateException", Cond.methodLink RX4 113 yX4_requireFeast, Cond.instanceMethod yX4_requireFeast, Cond.selects RX4 yX4_requireFeast yX4_requireFeast, Cond.initialized RX4, Cond.code yX4_requireFeast cX4_requireFeast 2 (some (.object "TwoTownAlmanac$Feast")), Cond.fieldLink RX4 10 "TwoTownAlmanac" "state" "LTwoTownAlmanac$State;", Cond.methodLink RX4 78 yX4_requireIndex, Cond.static yX4_requireIndex, Cond.code yX4_requireIndex cX4_requireIndex 2 none, Cond.classLink RX4 223 "java/lang/IndexOutOfBoundsException", Cond.initialized "java/lang/IndexOutOfBoundsException", Cond.methodLink RX4 71 yX4_recordState, Cond.instanceMethod yX4_recordState, Cond.selects RX4 yX4_recordState yX4_recordState, Cond.code yX4_recordState cX4_recordState 1 none, Cond.fieldLink RX4 20 "TwoTownAlmanac" "recordedCount" "I", Cond.fieldLink RX4 16 "TwoTownAlmanac" "recorded" "[LTwoTownAlmanac$State;", Cond.methodLink RX4 232 yX4_dropOldestRecorded, Cond.instanceMethod yX4_dropOldestRecorded, Cond.selects RX4 yX4_dropOldestRecorded yX4_dropOldestRecorded, Cond.code yX4_dropOldestRecorded cX4_dropOldestRecorded 3 none, Cond.methodLink RX4 215 yX2_copyFrom]
def wsX4_allowAllWeekdays_r2 : List Cond := [Cond.instanceMethod yX2_copyFrom, Cond.selects RX2 yX2_copyFrom yX2_copyFrom, Cond.initialized RX2, Cond.code yX2_copyFrom cX2_copyFrom 3 none, Cond.fieldLink RX2 14 "TwoTownAlmanac$State" "townA" "LTwoTownAlmanac$Town;", Cond.fieldLink RX2 20 "TwoTownAlmanac$State" "townB" "LTwoTownAlmanac$Town;", Cond.fieldLink RX2 25 "TwoTownAlmanac$State" "feasts" "[LTwoTownAlmanac$Feast;", Cond.fieldLink RX2 29 "TwoTownAlmanac$State" "feastsAdded" "I", Cond.fieldLink RX2 33 "TwoTownAlmanac$State" "shiftDays" "I", Cond.fieldLink RX2 36 "TwoTownAlmanac$State" "copiesEachDay" "I", Cond.fieldLink RX2 39 "TwoTownAlmanac$State" "dayNow" "I", Cond.fieldLink RX2 42 "TwoTownAlmanac$State" "quarrels" "I", Cond.fieldLink RX2 45 "TwoTownAlmanac$State" "copies" "I", Cond.methodLink RX2 49 yX3_copyFrom, Cond.instanceMethod yX3_copyFrom, Cond.selects RX3 yX3_copyFrom yX3_copyFrom, Cond.initialized RX3, Cond.code yX3_copyFrom cX3_copyFrom 3 none, Cond.fieldLink RX3 9 "TwoTownAlmanac$Town" "gapDays" "[I", Cond.fieldLink RX3 15 "TwoTownAlmanac$Town" "gapLengths" "[I", Cond.fieldLink RX3 18 "TwoTownAlmanac$Town" "gaps" "I", Cond.fieldLink RX3 22 "TwoTownAlmanac$Town" "keptCount" "I", Cond.methodLink RX2 53 yX1_copyFrom, Cond.instanceMethod yX1_copyFrom]
def wsX4_allowAllWeekdays_r3 : List Cond := [Cond.selects RX1 yX1_copyFrom yX1_copyFrom, Cond.initialized RX1, Cond.code yX1_copyFrom cX1_copyFrom 2 none, Cond.fieldLink RX1 9 "TwoTownAlmanac$Feast" "town" "I", Cond.fieldLink RX1 15 "TwoTownAlmanac$Feast" "month" "I", Cond.fieldLink RX1 18 "TwoTownAlmanac$Feast" "dayOfMonth" "I", Cond.fieldLink RX1 21 "TwoTownAlmanac$Feast" "barred" "I"]
def wsX4_allowAllWeekdays : List Cond := .code yX4_allowAllWeekdays cX4_allowAllWeekdays 4 (some .int) :: ((wsX4_allowAllWeekdays_r1 ++ (wsX4_allowAllWeekdays_r2 ++ wsX4_allowAllWeekdays_r3)) ++ wsX10 ++ wsX40 ++ wsX20 ++ wsX30 ++ (vx_atS RX4 70 "java/lang/IllegalStateException" ["java/lang/RuntimeException", "java/lang/Exception"]).filter goodWord ++ (vx_atS RX4 227 "java/lang/IndexOutOfBoundsException" ["java/lang/RuntimeException", "java/lang/Exception"]).filter goodWord)
def wsX4_feastCount : List Cond := .code yX4_feastCount cX4_feastCount 1 (some .int) :: ([.fieldLink RX4 10 "TwoTownAlmanac" "state" "LTwoTownAlmanac$State;"] ++ wsX40 ++ wsX20)
def wsX4_feastTown : List Cond := .code yX4_feastTown cX4_feastTown 2 (some .int) :: ([.methodLink RX4 113 yX4_requireFeast, .instanceMethod yX4_requireFeast, .selects RX4 yX4_requireFeast yX4_requireFeast, .initialized RX4, .code yX4_requireFeast cX4_requireFeast 2 (some (.object "TwoTownAlmanac$Feast")), .fieldLink RX4 10 "TwoTownAlmanac" "state" "LTwoTownAlmanac$State;", .methodLink RX4 78 yX4_requireIndex, .static yX4_requireIndex, .code yX4_requireIndex cX4_requireIndex 2 none, .classLink RX4 223 "java/lang/IndexOutOfBoundsException", .initialized "java/lang/IndexOutOfBoundsException"] ++ wsX10 ++ wsX40 ++ wsX20 ++ (vx_atS RX4 227 "java/lang/IndexOutOfBoundsException" ["java/lang/RuntimeException", "java/lang/Exception"]).filter goodWord)
def wsX4_barredWeekday : List Cond := .code yX4_barredWeekday cX4_barredWeekday 2 (some .int) :: ([.methodLink RX4 113 yX4_requireFeast, .instanceMethod yX4_requireFeast, .selects RX4 yX4_requireFeast yX4_requireFeast, .initialized RX4, .code yX4_requireFeast cX4_requireFeast 2 (some (.object "TwoTownAlmanac$Feast")), .fieldLink RX4 10 "TwoTownAlmanac" "state" "LTwoTownAlmanac$State;", .methodLink RX4 78 yX4_requireIndex, .static yX4_requireIndex, .code yX4_requireIndex cX4_requireIndex 2 none, .classLink RX4 223 "java/lang/IndexOutOfBoundsException", .initialized "java/lang/IndexOutOfBoundsException"] ++ wsX10 ++ wsX40 ++ wsX20 ++ (vx_atS RX4 227 "java/lang/IndexOutOfBoundsException" ["java/lang/RuntimeException", "java/lang/Exception"]).filter goodWord)
def wsX4_dayDue_r1 : List Cond := [Cond.fieldLink RX4 10 "TwoTownAlmanac" "state" "LTwoTownAlmanac$State;", Cond.methodLink RX4 113 yX4_requireFeast, Cond.instanceMethod yX4_requireFeast, Cond.selects RX4 yX4_requireFeast yX4_requireFeast, Cond.initialized RX4, Cond.code yX4_requireFeast cX4_requireFeast 2 (some (.object "TwoTownAlmanac$Feast")), Cond.methodLink RX4 78 yX4_requireIndex, Cond.static yX4_requireIndex, Cond.code yX4_requireIndex cX4_requireIndex 2 none, Cond.classLink RX4 223 "java/lang/IndexOutOfBoundsException", Cond.initialized "java/lang/IndexOutOfBoundsException", Cond.methodLink RX4 46 yX4_requireRange, Cond.static yX4_requireRange, Cond.code yX4_requireRange cX4_requireRange 3 none, Cond.classLink RX4 56 "java/lang/IllegalArgumentException", Cond.initialized "java/lang/IllegalArgumentException", Cond.methodLink RX4 127 yX2_townWith, Cond.instanceMethod yX2_townWith, Cond.selects RX2 yX2_townWith yX2_townWith, Cond.initialized RX2, Cond.code yX2_townWith cX2_townWith 2 (some (.object "TwoTownAlmanac$Town")), Cond.fieldLink RX2 14 "TwoTownAlmanac$State" "townA" "LTwoTownAlmanac$Town;", Cond.fieldLink RX2 20 "TwoTownAlmanac$State" "townB" "LTwoTownAlmanac$Town;", Cond.methodLink RX4 130 yX3_dueIn]
def wsX4_dayDue_r2 : List Cond := [Cond.instanceMethod yX3_dueIn, Cond.selects RX3 yX3_dueIn yX3_dueIn, Cond.initialized RX3, Cond.code yX3_dueIn cX3_dueIn 6 (some .int), Cond.methodLink RX3 46 yX3_daysInMonth, Cond.instanceMethod yX3_daysInMonth, Cond.selects RX3 yX3_daysInMonth yX3_daysInMonth, Cond.code yX3_daysInMonth cX3_daysInMonth 2 (some .int), Cond.fieldLink RX3 25 "TwoTownAlmanac$Town" "isA" "Z", Cond.methodLink RX3 49 yX3_dateOf, Cond.instanceMethod yX3_dateOf, Cond.selects RX3 yX3_dateOf yX3_dateOf, Cond.code yX3_dateOf cX3_dateOf 4 (some .int), Cond.methodLink RX3 29 yX3_daysInYear, Cond.instanceMethod yX3_daysInYear, Cond.selects RX3 yX3_daysInYear yX3_daysInYear, Cond.code yX3_daysInYear cX3_daysInYear 1 (some .int), Cond.methodLink RX3 33 yX3_daysBeforeMonth, Cond.instanceMethod yX3_daysBeforeMonth, Cond.selects RX3 yX3_daysBeforeMonth yX3_daysBeforeMonth, Cond.code yX3_daysBeforeMonth cX3_daysBeforeMonth 3 (some .int), Cond.methodLink RX3 53 yX3_firstDayFrom, Cond.instanceMethod yX3_firstDayFrom, Cond.selects RX3 yX3_firstDayFrom yX3_firstDayFrom]
def wsX4_dayDue_r3 : List Cond := [Cond.code yX3_firstDayFrom cX3_firstDayFrom 6 (some .int), Cond.fieldLink RX3 18 "TwoTownAlmanac$Town" "gaps" "I", Cond.fieldLink RX3 9 "TwoTownAlmanac$Town" "gapDays" "[I", Cond.fieldLink RX3 15 "TwoTownAlmanac$Town" "gapLengths" "[I", Cond.methodLink RX3 64 yX3_yearOn, Cond.instanceMethod yX3_yearOn, Cond.selects RX3 yX3_yearOn yX3_yearOn, Cond.code yX3_yearOn cX3_yearOn 3 (some .int), Cond.methodLink RX3 37 yX3_dateOn, Cond.instanceMethod yX3_dateOn, Cond.selects RX3 yX3_dateOn yX3_dateOn, Cond.code yX3_dateOn cX3_dateOn 4 (some .int)]
def wsX4_dayDue : List Cond := .code yX4_dayDue cX4_dayDue 4 (some .int) :: ((wsX4_dayDue_r1 ++ (wsX4_dayDue_r2 ++ wsX4_dayDue_r3)) ++ wsX40 ++ wsX10 ++ wsX20 ++ wsX30 ++ (vx_atS RX4 227 "java/lang/IndexOutOfBoundsException" ["java/lang/RuntimeException", "java/lang/Exception"]).filter goodWord ++ (vx_atS RX4 60 "java/lang/IllegalArgumentException" ["java/lang/RuntimeException", "java/lang/Exception"]).filter goodWord)
def wsX4_dayKept_r1 : List Cond := [Cond.fieldLink RX4 10 "TwoTownAlmanac" "state" "LTwoTownAlmanac$State;", Cond.methodLink RX4 113 yX4_requireFeast, Cond.instanceMethod yX4_requireFeast, Cond.selects RX4 yX4_requireFeast yX4_requireFeast, Cond.initialized RX4, Cond.code yX4_requireFeast cX4_requireFeast 2 (some (.object "TwoTownAlmanac$Feast")), Cond.methodLink RX4 78 yX4_requireIndex, Cond.static yX4_requireIndex, Cond.code yX4_requireIndex cX4_requireIndex 2 none, Cond.classLink RX4 223 "java/lang/IndexOutOfBoundsException", Cond.initialized "java/lang/IndexOutOfBoundsException", Cond.methodLink RX4 46 yX4_requireRange, Cond.static yX4_requireRange, Cond.code yX4_requireRange cX4_requireRange 3 none, Cond.classLink RX4 56 "java/lang/IllegalArgumentException", Cond.initialized "java/lang/IllegalArgumentException", Cond.methodLink RX4 134 yX2_keptIn, Cond.instanceMethod yX2_keptIn, Cond.selects RX2 yX2_keptIn yX2_keptIn, Cond.initialized RX2, Cond.code yX2_keptIn cX2_keptIn 4 (some .int), Cond.fieldLink RX2 33 "TwoTownAlmanac$State" "shiftDays" "I", Cond.methodLink RX2 68 yX2_townWith, Cond.instanceMethod yX2_townWith]
def wsX4_dayKept_r2 : List Cond := [Cond.selects RX2 yX2_townWith yX2_townWith, Cond.code yX2_townWith cX2_townWith 2 (some (.object "TwoTownAlmanac$Town")), Cond.fieldLink RX2 14 "TwoTownAlmanac$State" "townA" "LTwoTownAlmanac$Town;", Cond.fieldLink RX2 20 "TwoTownAlmanac$State" "townB" "LTwoTownAlmanac$Town;", Cond.methodLink RX2 72 yX3_dueIn, Cond.instanceMethod yX3_dueIn, Cond.selects RX3 yX3_dueIn yX3_dueIn, Cond.initialized RX3, Cond.code yX3_dueIn cX3_dueIn 6 (some .int), Cond.methodLink RX3 46 yX3_daysInMonth, Cond.instanceMethod yX3_daysInMonth, Cond.selects RX3 yX3_daysInMonth yX3_daysInMonth, Cond.code yX3_daysInMonth cX3_daysInMonth 2 (some .int), Cond.fieldLink RX3 25 "TwoTownAlmanac$Town" "isA" "Z", Cond.methodLink RX3 49 yX3_dateOf, Cond.instanceMethod yX3_dateOf, Cond.selects RX3 yX3_dateOf yX3_dateOf, Cond.code yX3_dateOf cX3_dateOf 4 (some .int), Cond.methodLink RX3 29 yX3_daysInYear, Cond.instanceMethod yX3_daysInYear, Cond.selects RX3 yX3_daysInYear yX3_daysInYear, Cond.code yX3_daysInYear cX3_daysInYear 1 (some .int), Cond.methodLink RX3 33 yX3_daysBeforeMonth, Cond.instanceMethod yX3_daysBeforeMonth]
def wsX4_dayKept_r3 : List Cond := [Cond.selects RX3 yX3_daysBeforeMonth yX3_daysBeforeMonth, Cond.code yX3_daysBeforeMonth cX3_daysBeforeMonth 3 (some .int), Cond.methodLink RX3 53 yX3_firstDayFrom, Cond.instanceMethod yX3_firstDayFrom, Cond.selects RX3 yX3_firstDayFrom yX3_firstDayFrom, Cond.code yX3_firstDayFrom cX3_firstDayFrom 6 (some .int), Cond.fieldLink RX3 18 "TwoTownAlmanac$Town" "gaps" "I", Cond.fieldLink RX3 9 "TwoTownAlmanac$Town" "gapDays" "[I", Cond.fieldLink RX3 15 "TwoTownAlmanac$Town" "gapLengths" "[I", Cond.methodLink RX3 64 yX3_yearOn, Cond.instanceMethod yX3_yearOn, Cond.selects RX3 yX3_yearOn yX3_yearOn, Cond.code yX3_yearOn cX3_yearOn 3 (some .int), Cond.methodLink RX3 37 yX3_dateOn, Cond.instanceMethod yX3_dateOn, Cond.selects RX3 yX3_dateOn yX3_dateOn, Cond.code yX3_dateOn cX3_dateOn 4 (some .int)]
def wsX4_dayKept : List Cond := .code yX4_dayKept cX4_dayKept 4 (some .int) :: ((wsX4_dayKept_r1 ++ (wsX4_dayKept_r2 ++ wsX4_dayKept_r3)) ++ wsX40 ++ wsX20 ++ wsX10 ++ wsX30 ++ (vx_atS RX4 227 "java/lang/IndexOutOfBoundsException" ["java/lang/RuntimeException", "java/lang/Exception"]).filter goodWord ++ (vx_atS RX4 60 "java/lang/IllegalArgumentException" ["java/lang/RuntimeException", "java/lang/Exception"]).filter goodWord)
def wsX4_isKept_r1 : List Cond := [Cond.fieldLink RX4 10 "TwoTownAlmanac" "state" "LTwoTownAlmanac$State;", Cond.methodLink RX4 113 yX4_requireFeast, Cond.instanceMethod yX4_requireFeast, Cond.selects RX4 yX4_requireFeast yX4_requireFeast, Cond.initialized RX4, Cond.code yX4_requireFeast cX4_requireFeast 2 (some (.object "TwoTownAlmanac$Feast")), Cond.methodLink RX4 78 yX4_requireIndex, Cond.static yX4_requireIndex, Cond.code yX4_requireIndex cX4_requireIndex 2 none, Cond.classLink RX4 223 "java/lang/IndexOutOfBoundsException", Cond.initialized "java/lang/IndexOutOfBoundsException", Cond.methodLink RX4 46 yX4_requireRange, Cond.static yX4_requireRange, Cond.code yX4_requireRange cX4_requireRange 3 none, Cond.classLink RX4 56 "java/lang/IllegalArgumentException", Cond.initialized "java/lang/IllegalArgumentException", Cond.methodLink RX4 137 yX2_firstKept, Cond.instanceMethod yX2_firstKept, Cond.selects RX2 yX2_firstKept yX2_firstKept, Cond.initialized RX2, Cond.code yX2_firstKept cX2_firstKept 7 (some .int), Cond.methodLink RX2 68 yX2_townWith, Cond.instanceMethod yX2_townWith, Cond.selects RX2 yX2_townWith yX2_townWith]
def wsX4_isKept_r2 : List Cond := [Cond.code yX2_townWith cX2_townWith 2 (some (.object "TwoTownAlmanac$Town")), Cond.fieldLink RX2 14 "TwoTownAlmanac$State" "townA" "LTwoTownAlmanac$Town;", Cond.fieldLink RX2 20 "TwoTownAlmanac$State" "townB" "LTwoTownAlmanac$Town;", Cond.methodLink RX2 82 yX3_yearOn, Cond.instanceMethod yX3_yearOn, Cond.selects RX3 yX3_yearOn yX3_yearOn, Cond.initialized RX3, Cond.code yX3_yearOn cX3_yearOn 3 (some .int), Cond.fieldLink RX3 25 "TwoTownAlmanac$Town" "isA" "Z", Cond.methodLink RX3 37 yX3_dateOn, Cond.instanceMethod yX3_dateOn, Cond.selects RX3 yX3_dateOn yX3_dateOn, Cond.code yX3_dateOn cX3_dateOn 4 (some .int), Cond.fieldLink RX3 18 "TwoTownAlmanac$Town" "gaps" "I", Cond.fieldLink RX3 9 "TwoTownAlmanac$Town" "gapDays" "[I", Cond.fieldLink RX3 15 "TwoTownAlmanac$Town" "gapLengths" "[I", Cond.methodLink RX2 86 yX2_firstYearFor, Cond.instanceMethod yX2_firstYearFor, Cond.selects RX2 yX2_firstYearFor yX2_firstYearFor, Cond.code yX2_firstYearFor cX2_firstYearFor 3 (some .int), Cond.methodLink RX2 76 Lib.Math.max.name, Cond.static Lib.Math.max.name, Cond.initialized "java/lang/Math", Cond.code Lib.Math.max.name Lib.Math.max.code 2 (some .int)]
def wsX4_isKept_r3 : List Cond := [Cond.methodLink RX2 89 yX2_keptIn, Cond.instanceMethod yX2_keptIn, Cond.selects RX2 yX2_keptIn yX2_keptIn, Cond.code yX2_keptIn cX2_keptIn 4 (some .int), Cond.fieldLink RX2 33 "TwoTownAlmanac$State" "shiftDays" "I", Cond.methodLink RX2 72 yX3_dueIn, Cond.instanceMethod yX3_dueIn, Cond.selects RX3 yX3_dueIn yX3_dueIn, Cond.code yX3_dueIn cX3_dueIn 6 (some .int), Cond.methodLink RX3 46 yX3_daysInMonth, Cond.instanceMethod yX3_daysInMonth, Cond.selects RX3 yX3_daysInMonth yX3_daysInMonth, Cond.code yX3_daysInMonth cX3_daysInMonth 2 (some .int), Cond.methodLink RX3 49 yX3_dateOf, Cond.instanceMethod yX3_dateOf, Cond.selects RX3 yX3_dateOf yX3_dateOf, Cond.code yX3_dateOf cX3_dateOf 4 (some .int), Cond.methodLink RX3 29 yX3_daysInYear, Cond.instanceMethod yX3_daysInYear, Cond.selects RX3 yX3_daysInYear yX3_daysInYear, Cond.code yX3_daysInYear cX3_daysInYear 1 (some .int), Cond.methodLink RX3 33 yX3_daysBeforeMonth, Cond.instanceMethod yX3_daysBeforeMonth, Cond.selects RX3 yX3_daysBeforeMonth yX3_daysBeforeMonth]
def wsX4_isKept_r4 : List Cond := [Cond.code yX3_daysBeforeMonth cX3_daysBeforeMonth 3 (some .int), Cond.methodLink RX3 53 yX3_firstDayFrom, Cond.instanceMethod yX3_firstDayFrom, Cond.selects RX3 yX3_firstDayFrom yX3_firstDayFrom, Cond.code yX3_firstDayFrom cX3_firstDayFrom 6 (some .int), Cond.methodLink RX3 64 yX3_yearOn]
def wsX4_isKept : List Cond := .code yX4_isKept cX4_isKept 4 (some .boolean) :: ((wsX4_isKept_r1 ++ (wsX4_isKept_r2 ++ (wsX4_isKept_r3 ++ wsX4_isKept_r4))) ++ wsX40 ++ wsX20 ++ wsX10 ++ wsX30 ++ (vx_atS RX4 227 "java/lang/IndexOutOfBoundsException" ["java/lang/RuntimeException", "java/lang/Exception"]).filter goodWord ++ (vx_atS RX4 60 "java/lang/IllegalArgumentException" ["java/lang/RuntimeException", "java/lang/Exception"]).filter goodWord)
def wsX4_feastsOn_r1 : List Cond := [Cond.fieldLink RX4 10 "TwoTownAlmanac" "state" "LTwoTownAlmanac$State;", Cond.fieldLink RX4 38 "TwoTownAlmanac" "feastSets" "[I", Cond.methodLink RX4 46 yX4_requireRange, Cond.static yX4_requireRange, Cond.initialized RX4, Cond.code yX4_requireRange cX4_requireRange 3 none, Cond.classLink RX4 56 "java/lang/IllegalArgumentException", Cond.initialized "java/lang/IllegalArgumentException", Cond.methodLink RX4 141 yX2_markFeasts, Cond.instanceMethod yX2_markFeasts, Cond.selects RX2 yX2_markFeasts yX2_markFeasts, Cond.initialized RX2, Cond.code yX2_markFeasts cX2_markFeasts 8 none, Cond.fieldLink RX2 29 "TwoTownAlmanac$State" "feastsAdded" "I", Cond.fieldLink RX2 25 "TwoTownAlmanac$State" "feasts" "[LTwoTownAlmanac$Feast;", Cond.methodLink RX2 68 yX2_townWith, Cond.instanceMethod yX2_townWith, Cond.selects RX2 yX2_townWith yX2_townWith, Cond.code yX2_townWith cX2_townWith 2 (some (.object "TwoTownAlmanac$Town")), Cond.fieldLink RX2 14 "TwoTownAlmanac$State" "townA" "LTwoTownAlmanac$Town;", Cond.fieldLink RX2 20 "TwoTownAlmanac$State" "townB" "LTwoTownAlmanac$Town;", Cond.methodLink RX2 82 yX3_yearOn, Cond.instanceMethod yX3_yearOn, Cond.selects RX3 yX3_yearOn yX3_yearOn]
def wsX4_feastsOn_r2 : List Cond := [Cond.initialized RX3, Cond.code yX3_yearOn cX3_yearOn 3 (some .int), Cond.fieldLink RX3 25 "TwoTownAlmanac$Town" "isA" "Z", Cond.methodLink RX3 37 yX3_dateOn, Cond.instanceMethod yX3_dateOn, Cond.selects RX3 yX3_dateOn yX3_dateOn, Cond.code yX3_dateOn cX3_dateOn 4 (some .int), Cond.fieldLink RX3 18 "TwoTownAlmanac$Town" "gaps" "I", Cond.fieldLink RX3 9 "TwoTownAlmanac$Town" "gapDays" "[I", Cond.fieldLink RX3 15 "TwoTownAlmanac$Town" "gapLengths" "[I", Cond.methodLink RX2 86 yX2_firstYearFor, Cond.instanceMethod yX2_firstYearFor, Cond.selects RX2 yX2_firstYearFor yX2_firstYearFor, Cond.code yX2_firstYearFor cX2_firstYearFor 3 (some .int), Cond.methodLink RX2 76 Lib.Math.max.name, Cond.static Lib.Math.max.name, Cond.initialized "java/lang/Math", Cond.code Lib.Math.max.name Lib.Math.max.code 2 (some .int), Cond.methodLink RX2 89 yX2_keptIn, Cond.instanceMethod yX2_keptIn, Cond.selects RX2 yX2_keptIn yX2_keptIn, Cond.code yX2_keptIn cX2_keptIn 4 (some .int), Cond.fieldLink RX2 33 "TwoTownAlmanac$State" "shiftDays" "I", Cond.methodLink RX2 72 yX3_dueIn]
def wsX4_feastsOn_r3 : List Cond := [Cond.instanceMethod yX3_dueIn, Cond.selects RX3 yX3_dueIn yX3_dueIn, Cond.code yX3_dueIn cX3_dueIn 6 (some .int), Cond.methodLink RX3 46 yX3_daysInMonth, Cond.instanceMethod yX3_daysInMonth, Cond.selects RX3 yX3_daysInMonth yX3_daysInMonth, Cond.code yX3_daysInMonth cX3_daysInMonth 2 (some .int), Cond.methodLink RX3 49 yX3_dateOf, Cond.instanceMethod yX3_dateOf, Cond.selects RX3 yX3_dateOf yX3_dateOf, Cond.code yX3_dateOf cX3_dateOf 4 (some .int), Cond.methodLink RX3 29 yX3_daysInYear, Cond.instanceMethod yX3_daysInYear, Cond.selects RX3 yX3_daysInYear yX3_daysInYear, Cond.code yX3_daysInYear cX3_daysInYear 1 (some .int), Cond.methodLink RX3 33 yX3_daysBeforeMonth, Cond.instanceMethod yX3_daysBeforeMonth, Cond.selects RX3 yX3_daysBeforeMonth yX3_daysBeforeMonth, Cond.code yX3_daysBeforeMonth cX3_daysBeforeMonth 3 (some .int), Cond.methodLink RX3 53 yX3_firstDayFrom, Cond.instanceMethod yX3_firstDayFrom, Cond.selects RX3 yX3_firstDayFrom yX3_firstDayFrom, Cond.code yX3_firstDayFrom cX3_firstDayFrom 6 (some .int), Cond.methodLink RX3 64 yX3_yearOn]
def wsX4_feastsOn : List Cond := .code yX4_feastsOn cX4_feastsOn 2 (some .int) :: ((wsX4_feastsOn_r1 ++ (wsX4_feastsOn_r2 ++ wsX4_feastsOn_r3)) ++ wsX40 ++ wsX20 ++ wsX10 ++ wsX30 ++ (vx_atS RX4 60 "java/lang/IllegalArgumentException" ["java/lang/RuntimeException", "java/lang/Exception"]).filter goodWord)
def wsX4_quarrelsFrom_r1 : List Cond := [Cond.fieldLink RX4 10 "TwoTownAlmanac" "state" "LTwoTownAlmanac$State;", Cond.fieldLink RX4 38 "TwoTownAlmanac" "feastSets" "[I", Cond.methodLink RX4 141 yX2_markFeasts, Cond.instanceMethod yX2_markFeasts, Cond.selects RX2 yX2_markFeasts yX2_markFeasts, Cond.initialized RX2, Cond.code yX2_markFeasts cX2_markFeasts 8 none, Cond.fieldLink RX2 29 "TwoTownAlmanac$State" "feastsAdded" "I", Cond.fieldLink RX2 25 "TwoTownAlmanac$State" "feasts" "[LTwoTownAlmanac$Feast;", Cond.methodLink RX2 68 yX2_townWith, Cond.instanceMethod yX2_townWith, Cond.selects RX2 yX2_townWith yX2_townWith, Cond.code yX2_townWith cX2_townWith 2 (some (.object "TwoTownAlmanac$Town")), Cond.fieldLink RX2 14 "TwoTownAlmanac$State" "townA" "LTwoTownAlmanac$Town;", Cond.fieldLink RX2 20 "TwoTownAlmanac$State" "townB" "LTwoTownAlmanac$Town;", Cond.methodLink RX2 82 yX3_yearOn, Cond.instanceMethod yX3_yearOn, Cond.selects RX3 yX3_yearOn yX3_yearOn, Cond.initialized RX3, Cond.code yX3_yearOn cX3_yearOn 3 (some .int), Cond.fieldLink RX3 25 "TwoTownAlmanac$Town" "isA" "Z", Cond.methodLink RX3 37 yX3_dateOn, Cond.instanceMethod yX3_dateOn, Cond.selects RX3 yX3_dateOn yX3_dateOn]
def wsX4_quarrelsFrom_r2 : List Cond := [Cond.code yX3_dateOn cX3_dateOn 4 (some .int), Cond.fieldLink RX3 18 "TwoTownAlmanac$Town" "gaps" "I", Cond.fieldLink RX3 9 "TwoTownAlmanac$Town" "gapDays" "[I", Cond.fieldLink RX3 15 "TwoTownAlmanac$Town" "gapLengths" "[I", Cond.methodLink RX2 86 yX2_firstYearFor, Cond.instanceMethod yX2_firstYearFor, Cond.selects RX2 yX2_firstYearFor yX2_firstYearFor, Cond.code yX2_firstYearFor cX2_firstYearFor 3 (some .int), Cond.methodLink RX2 76 Lib.Math.max.name, Cond.static Lib.Math.max.name, Cond.initialized "java/lang/Math", Cond.code Lib.Math.max.name Lib.Math.max.code 2 (some .int), Cond.methodLink RX2 89 yX2_keptIn, Cond.instanceMethod yX2_keptIn, Cond.selects RX2 yX2_keptIn yX2_keptIn, Cond.code yX2_keptIn cX2_keptIn 4 (some .int), Cond.fieldLink RX2 33 "TwoTownAlmanac$State" "shiftDays" "I", Cond.methodLink RX2 72 yX3_dueIn, Cond.instanceMethod yX3_dueIn, Cond.selects RX3 yX3_dueIn yX3_dueIn, Cond.code yX3_dueIn cX3_dueIn 6 (some .int), Cond.methodLink RX3 46 yX3_daysInMonth, Cond.instanceMethod yX3_daysInMonth, Cond.selects RX3 yX3_daysInMonth yX3_daysInMonth]
def wsX4_quarrelsFrom_r3 : List Cond := [Cond.code yX3_daysInMonth cX3_daysInMonth 2 (some .int), Cond.methodLink RX3 49 yX3_dateOf, Cond.instanceMethod yX3_dateOf, Cond.selects RX3 yX3_dateOf yX3_dateOf, Cond.code yX3_dateOf cX3_dateOf 4 (some .int), Cond.methodLink RX3 29 yX3_daysInYear, Cond.instanceMethod yX3_daysInYear, Cond.selects RX3 yX3_daysInYear yX3_daysInYear, Cond.code yX3_daysInYear cX3_daysInYear 1 (some .int), Cond.methodLink RX3 33 yX3_daysBeforeMonth, Cond.instanceMethod yX3_daysBeforeMonth, Cond.selects RX3 yX3_daysBeforeMonth yX3_daysBeforeMonth, Cond.code yX3_daysBeforeMonth cX3_daysBeforeMonth 3 (some .int), Cond.methodLink RX3 53 yX3_firstDayFrom, Cond.instanceMethod yX3_firstDayFrom, Cond.selects RX3 yX3_firstDayFrom yX3_firstDayFrom, Cond.code yX3_firstDayFrom cX3_firstDayFrom 6 (some .int), Cond.methodLink RX3 64 yX3_yearOn, Cond.methodLink RX4 235 yX2_countQuarrels, Cond.instanceMethod yX2_countQuarrels, Cond.selects RX2 yX2_countQuarrels yX2_countQuarrels, Cond.code yX2_countQuarrels cX2_countQuarrels 7 (some .int), Cond.methodLink RX2 96 yX2_feastsOf, Cond.instanceMethod yX2_feastsOf]
def wsX4_quarrelsFrom_r4 : List Cond := [Cond.selects RX2 yX2_feastsOf yX2_feastsOf, Cond.code yX2_feastsOf cX2_feastsOf 4 (some .int)]
def wsX4_quarrelsFrom : List Cond := .code yX4_quarrelsFrom cX4_quarrelsFrom 3 (some .int) :: ((wsX4_quarrelsFrom_r1 ++ (wsX4_quarrelsFrom_r2 ++ (wsX4_quarrelsFrom_r3 ++ wsX4_quarrelsFrom_r4))) ++ wsX40 ++ wsX20 ++ wsX10 ++ wsX30)
def wsX4_isQuarrel_r1 : List Cond := [Cond.methodLink RX4 46 yX4_requireRange, Cond.static yX4_requireRange, Cond.initialized RX4, Cond.code yX4_requireRange cX4_requireRange 3 none, Cond.classLink RX4 56 "java/lang/IllegalArgumentException", Cond.initialized "java/lang/IllegalArgumentException", Cond.methodLink RX4 145 yX4_quarrelsFrom, Cond.instanceMethod yX4_quarrelsFrom, Cond.selects RX4 yX4_quarrelsFrom yX4_quarrelsFrom, Cond.code yX4_quarrelsFrom cX4_quarrelsFrom 3 (some .int), Cond.fieldLink RX4 10 "TwoTownAlmanac" "state" "LTwoTownAlmanac$State;", Cond.fieldLink RX4 38 "TwoTownAlmanac" "feastSets" "[I", Cond.methodLink RX4 141 yX2_markFeasts, Cond.instanceMethod yX2_markFeasts, Cond.selects RX2 yX2_markFeasts yX2_markFeasts, Cond.initialized RX2, Cond.code yX2_markFeasts cX2_markFeasts 8 none, Cond.fieldLink RX2 29 "TwoTownAlmanac$State" "feastsAdded" "I", Cond.fieldLink RX2 25 "TwoTownAlmanac$State" "feasts" "[LTwoTownAlmanac$Feast;", Cond.methodLink RX2 68 yX2_townWith, Cond.instanceMethod yX2_townWith, Cond.selects RX2 yX2_townWith yX2_townWith, Cond.code yX2_townWith cX2_townWith 2 (some (.object "TwoTownAlmanac$Town")), Cond.fieldLink RX2 14 "TwoTownAlmanac$State" "townA" "LTwoTownAlmanac$Town;"]
def wsX4_isQuarrel_r2 : List Cond := [Cond.fieldLink RX2 20 "TwoTownAlmanac$State" "townB" "LTwoTownAlmanac$Town;", Cond.methodLink RX2 82 yX3_yearOn, Cond.instanceMethod yX3_yearOn, Cond.selects RX3 yX3_yearOn yX3_yearOn, Cond.initialized RX3, Cond.code yX3_yearOn cX3_yearOn 3 (some .int), Cond.fieldLink RX3 25 "TwoTownAlmanac$Town" "isA" "Z", Cond.methodLink RX3 37 yX3_dateOn, Cond.instanceMethod yX3_dateOn, Cond.selects RX3 yX3_dateOn yX3_dateOn, Cond.code yX3_dateOn cX3_dateOn 4 (some .int), Cond.fieldLink RX3 18 "TwoTownAlmanac$Town" "gaps" "I", Cond.fieldLink RX3 9 "TwoTownAlmanac$Town" "gapDays" "[I", Cond.fieldLink RX3 15 "TwoTownAlmanac$Town" "gapLengths" "[I", Cond.methodLink RX2 86 yX2_firstYearFor, Cond.instanceMethod yX2_firstYearFor, Cond.selects RX2 yX2_firstYearFor yX2_firstYearFor, Cond.code yX2_firstYearFor cX2_firstYearFor 3 (some .int), Cond.methodLink RX2 76 Lib.Math.max.name, Cond.static Lib.Math.max.name, Cond.initialized "java/lang/Math", Cond.code Lib.Math.max.name Lib.Math.max.code 2 (some .int), Cond.methodLink RX2 89 yX2_keptIn, Cond.instanceMethod yX2_keptIn]
def wsX4_isQuarrel_r3 : List Cond := [Cond.selects RX2 yX2_keptIn yX2_keptIn, Cond.code yX2_keptIn cX2_keptIn 4 (some .int), Cond.fieldLink RX2 33 "TwoTownAlmanac$State" "shiftDays" "I", Cond.methodLink RX2 72 yX3_dueIn, Cond.instanceMethod yX3_dueIn, Cond.selects RX3 yX3_dueIn yX3_dueIn, Cond.code yX3_dueIn cX3_dueIn 6 (some .int), Cond.methodLink RX3 46 yX3_daysInMonth, Cond.instanceMethod yX3_daysInMonth, Cond.selects RX3 yX3_daysInMonth yX3_daysInMonth, Cond.code yX3_daysInMonth cX3_daysInMonth 2 (some .int), Cond.methodLink RX3 49 yX3_dateOf, Cond.instanceMethod yX3_dateOf, Cond.selects RX3 yX3_dateOf yX3_dateOf, Cond.code yX3_dateOf cX3_dateOf 4 (some .int), Cond.methodLink RX3 29 yX3_daysInYear, Cond.instanceMethod yX3_daysInYear, Cond.selects RX3 yX3_daysInYear yX3_daysInYear, Cond.code yX3_daysInYear cX3_daysInYear 1 (some .int), Cond.methodLink RX3 33 yX3_daysBeforeMonth, Cond.instanceMethod yX3_daysBeforeMonth, Cond.selects RX3 yX3_daysBeforeMonth yX3_daysBeforeMonth, Cond.code yX3_daysBeforeMonth cX3_daysBeforeMonth 3 (some .int), Cond.methodLink RX3 53 yX3_firstDayFrom]
def wsX4_isQuarrel_r4 : List Cond := [Cond.instanceMethod yX3_firstDayFrom, Cond.selects RX3 yX3_firstDayFrom yX3_firstDayFrom, Cond.code yX3_firstDayFrom cX3_firstDayFrom 6 (some .int), Cond.methodLink RX3 64 yX3_yearOn, Cond.methodLink RX4 235 yX2_countQuarrels, Cond.instanceMethod yX2_countQuarrels, Cond.selects RX2 yX2_countQuarrels yX2_countQuarrels, Cond.code yX2_countQuarrels cX2_countQuarrels 7 (some .int), Cond.methodLink RX2 96 yX2_feastsOf, Cond.instanceMethod yX2_feastsOf, Cond.selects RX2 yX2_feastsOf yX2_feastsOf, Cond.code yX2_feastsOf cX2_feastsOf 4 (some .int)]
def wsX4_isQuarrel : List Cond := .code yX4_isQuarrel cX4_isQuarrel 2 (some .boolean) :: ((wsX4_isQuarrel_r1 ++ (wsX4_isQuarrel_r2 ++ (wsX4_isQuarrel_r3 ++ wsX4_isQuarrel_r4))) ++ wsX40 ++ wsX20 ++ wsX10 ++ wsX30 ++ (vx_atS RX4 60 "java/lang/IllegalArgumentException" ["java/lang/RuntimeException", "java/lang/Exception"]).filter goodWord)
def wsX4_setShift_r1 : List Cond := [Cond.fieldLink RX4 10 "TwoTownAlmanac" "state" "LTwoTownAlmanac$State;", Cond.methodLink RX4 46 yX4_requireRange, Cond.static yX4_requireRange, Cond.initialized RX4, Cond.code yX4_requireRange cX4_requireRange 3 none, Cond.classLink RX4 56 "java/lang/IllegalArgumentException", Cond.initialized "java/lang/IllegalArgumentException", Cond.methodLink RX4 71 yX4_recordState, Cond.instanceMethod yX4_recordState, Cond.selects RX4 yX4_recordState yX4_recordState, Cond.code yX4_recordState cX4_recordState 1 none, Cond.fieldLink RX4 20 "TwoTownAlmanac" "recordedCount" "I", Cond.fieldLink RX4 16 "TwoTownAlmanac" "recorded" "[LTwoTownAlmanac$State;", Cond.methodLink RX4 232 yX4_dropOldestRecorded, Cond.instanceMethod yX4_dropOldestRecorded, Cond.selects RX4 yX4_dropOldestRecorded yX4_dropOldestRecorded, Cond.code yX4_dropOldestRecorded cX4_dropOldestRecorded 3 none, Cond.methodLink RX4 215 yX2_copyFrom, Cond.instanceMethod yX2_copyFrom, Cond.selects RX2 yX2_copyFrom yX2_copyFrom, Cond.initialized RX2, Cond.code yX2_copyFrom cX2_copyFrom 3 none, Cond.fieldLink RX2 14 "TwoTownAlmanac$State" "townA" "LTwoTownAlmanac$Town;", Cond.fieldLink RX2 20 "TwoTownAlmanac$State" "townB" "LTwoTownAlmanac$Town;"]
def wsX4_setShift_r2 : List Cond := [Cond.fieldLink RX2 25 "TwoTownAlmanac$State" "feasts" "[LTwoTownAlmanac$Feast;", Cond.fieldLink RX2 29 "TwoTownAlmanac$State" "feastsAdded" "I", Cond.fieldLink RX2 33 "TwoTownAlmanac$State" "shiftDays" "I", Cond.fieldLink RX2 36 "TwoTownAlmanac$State" "copiesEachDay" "I", Cond.fieldLink RX2 39 "TwoTownAlmanac$State" "dayNow" "I", Cond.fieldLink RX2 42 "TwoTownAlmanac$State" "quarrels" "I", Cond.fieldLink RX2 45 "TwoTownAlmanac$State" "copies" "I", Cond.methodLink RX2 49 yX3_copyFrom, Cond.instanceMethod yX3_copyFrom, Cond.selects RX3 yX3_copyFrom yX3_copyFrom, Cond.initialized RX3, Cond.code yX3_copyFrom cX3_copyFrom 3 none, Cond.fieldLink RX3 9 "TwoTownAlmanac$Town" "gapDays" "[I", Cond.fieldLink RX3 15 "TwoTownAlmanac$Town" "gapLengths" "[I", Cond.fieldLink RX3 18 "TwoTownAlmanac$Town" "gaps" "I", Cond.fieldLink RX3 22 "TwoTownAlmanac$Town" "keptCount" "I", Cond.methodLink RX2 53 yX1_copyFrom, Cond.instanceMethod yX1_copyFrom, Cond.selects RX1 yX1_copyFrom yX1_copyFrom, Cond.initialized RX1, Cond.code yX1_copyFrom cX1_copyFrom 2 none, Cond.fieldLink RX1 9 "TwoTownAlmanac$Feast" "town" "I", Cond.fieldLink RX1 15 "TwoTownAlmanac$Feast" "month" "I", Cond.fieldLink RX1 18 "TwoTownAlmanac$Feast" "dayOfMonth" "I"]
def wsX4_setShift_r3 : List Cond := [Cond.fieldLink RX1 21 "TwoTownAlmanac$Feast" "barred" "I"]
def wsX4_setShift : List Cond := .code yX4_setShift cX4_setShift 3 (some .int) :: ((wsX4_setShift_r1 ++ (wsX4_setShift_r2 ++ wsX4_setShift_r3)) ++ wsX40 ++ wsX20 ++ wsX30 ++ wsX10 ++ (vx_atS RX4 60 "java/lang/IllegalArgumentException" ["java/lang/RuntimeException", "java/lang/Exception"]).filter goodWord)
def wsX4_shift : List Cond := .code yX4_shift cX4_shift 1 (some .int) :: ([.fieldLink RX4 10 "TwoTownAlmanac" "state" "LTwoTownAlmanac$State;"] ++ wsX40 ++ wsX20)
def wsX4_setCopiesPerDay_r1 : List Cond := [Cond.fieldLink RX4 10 "TwoTownAlmanac" "state" "LTwoTownAlmanac$State;", Cond.methodLink RX4 46 yX4_requireRange, Cond.static yX4_requireRange, Cond.initialized RX4, Cond.code yX4_requireRange cX4_requireRange 3 none, Cond.classLink RX4 56 "java/lang/IllegalArgumentException", Cond.initialized "java/lang/IllegalArgumentException", Cond.methodLink RX4 71 yX4_recordState, Cond.instanceMethod yX4_recordState, Cond.selects RX4 yX4_recordState yX4_recordState, Cond.code yX4_recordState cX4_recordState 1 none, Cond.fieldLink RX4 20 "TwoTownAlmanac" "recordedCount" "I", Cond.fieldLink RX4 16 "TwoTownAlmanac" "recorded" "[LTwoTownAlmanac$State;", Cond.methodLink RX4 232 yX4_dropOldestRecorded, Cond.instanceMethod yX4_dropOldestRecorded, Cond.selects RX4 yX4_dropOldestRecorded yX4_dropOldestRecorded, Cond.code yX4_dropOldestRecorded cX4_dropOldestRecorded 3 none, Cond.methodLink RX4 215 yX2_copyFrom, Cond.instanceMethod yX2_copyFrom, Cond.selects RX2 yX2_copyFrom yX2_copyFrom, Cond.initialized RX2, Cond.code yX2_copyFrom cX2_copyFrom 3 none, Cond.fieldLink RX2 14 "TwoTownAlmanac$State" "townA" "LTwoTownAlmanac$Town;", Cond.fieldLink RX2 20 "TwoTownAlmanac$State" "townB" "LTwoTownAlmanac$Town;"]
def wsX4_setCopiesPerDay_r2 : List Cond := [Cond.fieldLink RX2 25 "TwoTownAlmanac$State" "feasts" "[LTwoTownAlmanac$Feast;", Cond.fieldLink RX2 29 "TwoTownAlmanac$State" "feastsAdded" "I", Cond.fieldLink RX2 33 "TwoTownAlmanac$State" "shiftDays" "I", Cond.fieldLink RX2 36 "TwoTownAlmanac$State" "copiesEachDay" "I", Cond.fieldLink RX2 39 "TwoTownAlmanac$State" "dayNow" "I", Cond.fieldLink RX2 42 "TwoTownAlmanac$State" "quarrels" "I", Cond.fieldLink RX2 45 "TwoTownAlmanac$State" "copies" "I", Cond.methodLink RX2 49 yX3_copyFrom, Cond.instanceMethod yX3_copyFrom, Cond.selects RX3 yX3_copyFrom yX3_copyFrom, Cond.initialized RX3, Cond.code yX3_copyFrom cX3_copyFrom 3 none, Cond.fieldLink RX3 9 "TwoTownAlmanac$Town" "gapDays" "[I", Cond.fieldLink RX3 15 "TwoTownAlmanac$Town" "gapLengths" "[I", Cond.fieldLink RX3 18 "TwoTownAlmanac$Town" "gaps" "I", Cond.fieldLink RX3 22 "TwoTownAlmanac$Town" "keptCount" "I", Cond.methodLink RX2 53 yX1_copyFrom, Cond.instanceMethod yX1_copyFrom, Cond.selects RX1 yX1_copyFrom yX1_copyFrom, Cond.initialized RX1, Cond.code yX1_copyFrom cX1_copyFrom 2 none, Cond.fieldLink RX1 9 "TwoTownAlmanac$Feast" "town" "I", Cond.fieldLink RX1 15 "TwoTownAlmanac$Feast" "month" "I", Cond.fieldLink RX1 18 "TwoTownAlmanac$Feast" "dayOfMonth" "I"]
def wsX4_setCopiesPerDay_r3 : List Cond := [Cond.fieldLink RX1 21 "TwoTownAlmanac$Feast" "barred" "I"]
def wsX4_setCopiesPerDay : List Cond := .code yX4_setCopiesPerDay cX4_setCopiesPerDay 3 (some .int) :: ((wsX4_setCopiesPerDay_r1 ++ (wsX4_setCopiesPerDay_r2 ++ wsX4_setCopiesPerDay_r3)) ++ wsX40 ++ wsX20 ++ wsX30 ++ wsX10 ++ (vx_atS RX4 60 "java/lang/IllegalArgumentException" ["java/lang/RuntimeException", "java/lang/Exception"]).filter goodWord)
def wsX4_copiesPerDay : List Cond := .code yX4_copiesPerDay cX4_copiesPerDay 1 (some .int) :: ([.fieldLink RX4 10 "TwoTownAlmanac" "state" "LTwoTownAlmanac$State;"] ++ wsX40 ++ wsX20)
def wsX4_passDays_r1 : List Cond := [Cond.classLink RX4 66 "java/lang/IllegalStateException", Cond.initialized "java/lang/IllegalStateException", Cond.fieldLink RX4 10 "TwoTownAlmanac" "state" "LTwoTownAlmanac$State;", Cond.fieldLink RX4 38 "TwoTownAlmanac" "feastSets" "[I", Cond.methodLink RX4 46 yX4_requireRange, Cond.static yX4_requireRange, Cond.initialized RX4, Cond.code yX4_requireRange cX4_requireRange 3 none, Cond.classLink RX4 56 "java/lang/IllegalArgumentException", Cond.initialized "java/lang/IllegalArgumentException", Cond.methodLink RX4 71 yX4_recordState, Cond.instanceMethod yX4_recordState, Cond.selects RX4 yX4_recordState yX4_recordState, Cond.code yX4_recordState cX4_recordState 1 none, Cond.fieldLink RX4 20 "TwoTownAlmanac" "recordedCount" "I", Cond.fieldLink RX4 16 "TwoTownAlmanac" "recorded" "[LTwoTownAlmanac$State;", Cond.methodLink RX4 232 yX4_dropOldestRecorded, Cond.instanceMethod yX4_dropOldestRecorded, Cond.selects RX4 yX4_dropOldestRecorded yX4_dropOldestRecorded, Cond.code yX4_dropOldestRecorded cX4_dropOldestRecorded 3 none, Cond.methodLink RX4 215 yX2_copyFrom, Cond.instanceMethod yX2_copyFrom, Cond.selects RX2 yX2_copyFrom yX2_copyFrom, Cond.initialized RX2]
def wsX4_passDays_r2 : List Cond := [Cond.code yX2_copyFrom cX2_copyFrom 3 none, Cond.fieldLink RX2 14 "TwoTownAlmanac$State" "townA" "LTwoTownAlmanac$Town;", Cond.fieldLink RX2 20 "TwoTownAlmanac$State" "townB" "LTwoTownAlmanac$Town;", Cond.fieldLink RX2 25 "TwoTownAlmanac$State" "feasts" "[LTwoTownAlmanac$Feast;", Cond.fieldLink RX2 29 "TwoTownAlmanac$State" "feastsAdded" "I", Cond.fieldLink RX2 33 "TwoTownAlmanac$State" "shiftDays" "I", Cond.fieldLink RX2 36 "TwoTownAlmanac$State" "copiesEachDay" "I", Cond.fieldLink RX2 39 "TwoTownAlmanac$State" "dayNow" "I", Cond.fieldLink RX2 42 "TwoTownAlmanac$State" "quarrels" "I", Cond.fieldLink RX2 45 "TwoTownAlmanac$State" "copies" "I", Cond.methodLink RX2 49 yX3_copyFrom, Cond.instanceMethod yX3_copyFrom, Cond.selects RX3 yX3_copyFrom yX3_copyFrom, Cond.initialized RX3, Cond.code yX3_copyFrom cX3_copyFrom 3 none, Cond.fieldLink RX3 9 "TwoTownAlmanac$Town" "gapDays" "[I", Cond.fieldLink RX3 15 "TwoTownAlmanac$Town" "gapLengths" "[I", Cond.fieldLink RX3 18 "TwoTownAlmanac$Town" "gaps" "I", Cond.fieldLink RX3 22 "TwoTownAlmanac$Town" "keptCount" "I", Cond.methodLink RX2 53 yX1_copyFrom, Cond.instanceMethod yX1_copyFrom, Cond.selects RX1 yX1_copyFrom yX1_copyFrom, Cond.initialized RX1, Cond.code yX1_copyFrom cX1_copyFrom 2 none]
def wsX4_passDays_r3 : List Cond := [Cond.fieldLink RX1 9 "TwoTownAlmanac$Feast" "town" "I", Cond.fieldLink RX1 15 "TwoTownAlmanac$Feast" "month" "I", Cond.fieldLink RX1 18 "TwoTownAlmanac$Feast" "dayOfMonth" "I", Cond.fieldLink RX1 21 "TwoTownAlmanac$Feast" "barred" "I", Cond.methodLink RX4 145 yX4_quarrelsFrom, Cond.instanceMethod yX4_quarrelsFrom, Cond.selects RX4 yX4_quarrelsFrom yX4_quarrelsFrom, Cond.code yX4_quarrelsFrom cX4_quarrelsFrom 3 (some .int), Cond.methodLink RX4 141 yX2_markFeasts, Cond.instanceMethod yX2_markFeasts, Cond.selects RX2 yX2_markFeasts yX2_markFeasts, Cond.code yX2_markFeasts cX2_markFeasts 8 none, Cond.methodLink RX2 68 yX2_townWith, Cond.instanceMethod yX2_townWith, Cond.selects RX2 yX2_townWith yX2_townWith, Cond.code yX2_townWith cX2_townWith 2 (some (.object "TwoTownAlmanac$Town")), Cond.methodLink RX2 82 yX3_yearOn, Cond.instanceMethod yX3_yearOn, Cond.selects RX3 yX3_yearOn yX3_yearOn, Cond.code yX3_yearOn cX3_yearOn 3 (some .int), Cond.fieldLink RX3 25 "TwoTownAlmanac$Town" "isA" "Z", Cond.methodLink RX3 37 yX3_dateOn, Cond.instanceMethod yX3_dateOn, Cond.selects RX3 yX3_dateOn yX3_dateOn]
def wsX4_passDays_r4 : List Cond := [Cond.code yX3_dateOn cX3_dateOn 4 (some .int), Cond.methodLink RX2 86 yX2_firstYearFor, Cond.instanceMethod yX2_firstYearFor, Cond.selects RX2 yX2_firstYearFor yX2_firstYearFor, Cond.code yX2_firstYearFor cX2_firstYearFor 3 (some .int), Cond.methodLink RX2 76 Lib.Math.max.name, Cond.static Lib.Math.max.name, Cond.initialized "java/lang/Math", Cond.code Lib.Math.max.name Lib.Math.max.code 2 (some .int), Cond.methodLink RX2 89 yX2_keptIn, Cond.instanceMethod yX2_keptIn, Cond.selects RX2 yX2_keptIn yX2_keptIn, Cond.code yX2_keptIn cX2_keptIn 4 (some .int), Cond.methodLink RX2 72 yX3_dueIn, Cond.instanceMethod yX3_dueIn, Cond.selects RX3 yX3_dueIn yX3_dueIn, Cond.code yX3_dueIn cX3_dueIn 6 (some .int), Cond.methodLink RX3 46 yX3_daysInMonth, Cond.instanceMethod yX3_daysInMonth, Cond.selects RX3 yX3_daysInMonth yX3_daysInMonth, Cond.code yX3_daysInMonth cX3_daysInMonth 2 (some .int), Cond.methodLink RX3 49 yX3_dateOf, Cond.instanceMethod yX3_dateOf, Cond.selects RX3 yX3_dateOf yX3_dateOf]
def wsX4_passDays_r5 : List Cond := [Cond.code yX3_dateOf cX3_dateOf 4 (some .int), Cond.methodLink RX3 29 yX3_daysInYear, Cond.instanceMethod yX3_daysInYear, Cond.selects RX3 yX3_daysInYear yX3_daysInYear, Cond.code yX3_daysInYear cX3_daysInYear 1 (some .int), Cond.methodLink RX3 33 yX3_daysBeforeMonth, Cond.instanceMethod yX3_daysBeforeMonth, Cond.selects RX3 yX3_daysBeforeMonth yX3_daysBeforeMonth, Cond.code yX3_daysBeforeMonth cX3_daysBeforeMonth 3 (some .int), Cond.methodLink RX3 53 yX3_firstDayFrom, Cond.instanceMethod yX3_firstDayFrom, Cond.selects RX3 yX3_firstDayFrom yX3_firstDayFrom, Cond.code yX3_firstDayFrom cX3_firstDayFrom 6 (some .int), Cond.methodLink RX3 64 yX3_yearOn, Cond.methodLink RX4 235 yX2_countQuarrels, Cond.instanceMethod yX2_countQuarrels, Cond.selects RX2 yX2_countQuarrels yX2_countQuarrels, Cond.code yX2_countQuarrels cX2_countQuarrels 7 (some .int), Cond.methodLink RX2 96 yX2_feastsOf, Cond.instanceMethod yX2_feastsOf, Cond.selects RX2 yX2_feastsOf yX2_feastsOf, Cond.code yX2_feastsOf cX2_feastsOf 4 (some .int), Cond.methodLink RX4 162 yX2_countPassed, Cond.instanceMethod yX2_countPassed]
def wsX4_passDays_r6 : List Cond := [Cond.selects RX2 yX2_countPassed yX2_countPassed, Cond.code yX2_countPassed cX2_countPassed 6 none, Cond.methodLink RX2 102 yJ6_bitCount_0f7a4, Cond.static yJ6_bitCount_0f7a4, Cond.initialized RJ6, Cond.code yJ6_bitCount_0f7a4 cJ6_bitCount_0f7a4 1 (some .int), Cond.constant RJ6 265 (1431655765), Cond.constant RJ6 266 (858993459), Cond.constant RJ6 267 (252645135)]
def wsX4_passDays : List Cond := .code yX4_passDays cX4_passDays 3 (some .int) :: ((wsX4_passDays_r1 ++ (wsX4_passDays_r2 ++ (wsX4_passDays_r3 ++ (wsX4_passDays_r4 ++ (wsX4_passDays_r5 ++ wsX4_passDays_r6))))) ++ wsX40 ++ wsX20 ++ wsX30 ++ wsX10 ++ (vx_atS RX4 70 "java/lang/IllegalStateException" ["java/lang/RuntimeException", "java/lang/Exception"]).filter goodWord ++ (vx_atS RX4 60 "java/lang/IllegalArgumentException" ["java/lang/RuntimeException", "java/lang/Exception"]).filter goodWord)
def wsX4_today : List Cond := .code yX4_today cX4_today 1 (some .int) :: ([.fieldLink RX4 10 "TwoTownAlmanac" "state" "LTwoTownAlmanac$State;"] ++ wsX40 ++ wsX20)
def wsX4_feastsKept : List Cond := .code yX4_feastsKept cX4_feastsKept 2 (some .int) :: ([.methodLink RX4 42 yX4_requireTown, .instanceMethod yX4_requireTown, .selects RX4 yX4_requireTown yX4_requireTown, .initialized RX4, .code yX4_requireTown cX4_requireTown 2 (some (.object "TwoTownAlmanac$Town")), .fieldLink RX4 10 "TwoTownAlmanac" "state" "LTwoTownAlmanac$State;", .methodLink RX4 78 yX4_requireIndex, .static yX4_requireIndex, .code yX4_requireIndex cX4_requireIndex 2 none, .classLink RX4 223 "java/lang/IndexOutOfBoundsException", .initialized "java/lang/IndexOutOfBoundsException", .methodLink RX4 127 yX2_townWith, .instanceMethod yX2_townWith, .selects RX2 yX2_townWith yX2_townWith, .initialized RX2, .code yX2_townWith cX2_townWith 2 (some (.object "TwoTownAlmanac$Town")), .fieldLink RX2 14 "TwoTownAlmanac$State" "townA" "LTwoTownAlmanac$Town;", .fieldLink RX2 20 "TwoTownAlmanac$State" "townB" "LTwoTownAlmanac$Town;"] ++ wsX30 ++ wsX40 ++ wsX20 ++ (vx_atS RX4 227 "java/lang/IndexOutOfBoundsException" ["java/lang/RuntimeException", "java/lang/Exception"]).filter goodWord)
def wsX4_quarrelCount : List Cond := .code yX4_quarrelCount cX4_quarrelCount 1 (some .int) :: ([.fieldLink RX4 10 "TwoTownAlmanac" "state" "LTwoTownAlmanac$State;"] ++ wsX40 ++ wsX20)
def wsX4_copiesMade : List Cond := .code yX4_copiesMade cX4_copiesMade 1 (some .int) :: ([.fieldLink RX4 10 "TwoTownAlmanac" "state" "LTwoTownAlmanac$State;"] ++ wsX40 ++ wsX20)
def wsX4_nextDay_r1 : List Cond := [Cond.fieldLink RX4 10 "TwoTownAlmanac" "state" "LTwoTownAlmanac$State;", Cond.methodLink RX4 113 yX4_requireFeast, Cond.instanceMethod yX4_requireFeast, Cond.selects RX4 yX4_requireFeast yX4_requireFeast, Cond.initialized RX4, Cond.code yX4_requireFeast cX4_requireFeast 2 (some (.object "TwoTownAlmanac$Feast")), Cond.methodLink RX4 78 yX4_requireIndex, Cond.static yX4_requireIndex, Cond.code yX4_requireIndex cX4_requireIndex 2 none, Cond.classLink RX4 223 "java/lang/IndexOutOfBoundsException", Cond.initialized "java/lang/IndexOutOfBoundsException", Cond.methodLink RX4 137 yX2_firstKept, Cond.instanceMethod yX2_firstKept, Cond.selects RX2 yX2_firstKept yX2_firstKept, Cond.initialized RX2, Cond.code yX2_firstKept cX2_firstKept 7 (some .int), Cond.methodLink RX2 68 yX2_townWith, Cond.instanceMethod yX2_townWith, Cond.selects RX2 yX2_townWith yX2_townWith, Cond.code yX2_townWith cX2_townWith 2 (some (.object "TwoTownAlmanac$Town")), Cond.fieldLink RX2 14 "TwoTownAlmanac$State" "townA" "LTwoTownAlmanac$Town;", Cond.fieldLink RX2 20 "TwoTownAlmanac$State" "townB" "LTwoTownAlmanac$Town;", Cond.methodLink RX2 82 yX3_yearOn, Cond.instanceMethod yX3_yearOn]
def wsX4_nextDay_r2 : List Cond := [Cond.selects RX3 yX3_yearOn yX3_yearOn, Cond.initialized RX3, Cond.code yX3_yearOn cX3_yearOn 3 (some .int), Cond.fieldLink RX3 25 "TwoTownAlmanac$Town" "isA" "Z", Cond.methodLink RX3 37 yX3_dateOn, Cond.instanceMethod yX3_dateOn, Cond.selects RX3 yX3_dateOn yX3_dateOn, Cond.code yX3_dateOn cX3_dateOn 4 (some .int), Cond.fieldLink RX3 18 "TwoTownAlmanac$Town" "gaps" "I", Cond.fieldLink RX3 9 "TwoTownAlmanac$Town" "gapDays" "[I", Cond.fieldLink RX3 15 "TwoTownAlmanac$Town" "gapLengths" "[I", Cond.methodLink RX2 86 yX2_firstYearFor, Cond.instanceMethod yX2_firstYearFor, Cond.selects RX2 yX2_firstYearFor yX2_firstYearFor, Cond.code yX2_firstYearFor cX2_firstYearFor 3 (some .int), Cond.methodLink RX2 76 Lib.Math.max.name, Cond.static Lib.Math.max.name, Cond.initialized "java/lang/Math", Cond.code Lib.Math.max.name Lib.Math.max.code 2 (some .int), Cond.methodLink RX2 89 yX2_keptIn, Cond.instanceMethod yX2_keptIn, Cond.selects RX2 yX2_keptIn yX2_keptIn, Cond.code yX2_keptIn cX2_keptIn 4 (some .int), Cond.fieldLink RX2 33 "TwoTownAlmanac$State" "shiftDays" "I"]
def wsX4_nextDay_r3 : List Cond := [Cond.methodLink RX2 72 yX3_dueIn, Cond.instanceMethod yX3_dueIn, Cond.selects RX3 yX3_dueIn yX3_dueIn, Cond.code yX3_dueIn cX3_dueIn 6 (some .int), Cond.methodLink RX3 46 yX3_daysInMonth, Cond.instanceMethod yX3_daysInMonth, Cond.selects RX3 yX3_daysInMonth yX3_daysInMonth, Cond.code yX3_daysInMonth cX3_daysInMonth 2 (some .int), Cond.methodLink RX3 49 yX3_dateOf, Cond.instanceMethod yX3_dateOf, Cond.selects RX3 yX3_dateOf yX3_dateOf, Cond.code yX3_dateOf cX3_dateOf 4 (some .int), Cond.methodLink RX3 29 yX3_daysInYear, Cond.instanceMethod yX3_daysInYear, Cond.selects RX3 yX3_daysInYear yX3_daysInYear, Cond.code yX3_daysInYear cX3_daysInYear 1 (some .int), Cond.methodLink RX3 33 yX3_daysBeforeMonth, Cond.instanceMethod yX3_daysBeforeMonth, Cond.selects RX3 yX3_daysBeforeMonth yX3_daysBeforeMonth, Cond.code yX3_daysBeforeMonth cX3_daysBeforeMonth 3 (some .int), Cond.methodLink RX3 53 yX3_firstDayFrom, Cond.instanceMethod yX3_firstDayFrom, Cond.selects RX3 yX3_firstDayFrom yX3_firstDayFrom, Cond.code yX3_firstDayFrom cX3_firstDayFrom 6 (some .int)]
def wsX4_nextDay_r4 : List Cond := [Cond.methodLink RX3 64 yX3_yearOn]
def wsX4_nextDay : List Cond := .code yX4_nextDay cX4_nextDay 3 (some .int) :: ((wsX4_nextDay_r1 ++ (wsX4_nextDay_r2 ++ (wsX4_nextDay_r3 ++ wsX4_nextDay_r4))) ++ wsX40 ++ wsX20 ++ wsX10 ++ wsX30 ++ (vx_atS RX4 227 "java/lang/IndexOutOfBoundsException" ["java/lang/RuntimeException", "java/lang/Exception"]).filter goodWord)
def wsX4_daysUntilMeeting_r1 : List Cond := [Cond.classLink RX4 56 "java/lang/IllegalArgumentException", Cond.initialized "java/lang/IllegalArgumentException", Cond.fieldLink RX4 10 "TwoTownAlmanac" "state" "LTwoTownAlmanac$State;", Cond.methodLink RX4 113 yX4_requireFeast, Cond.instanceMethod yX4_requireFeast, Cond.selects RX4 yX4_requireFeast yX4_requireFeast, Cond.initialized RX4, Cond.code yX4_requireFeast cX4_requireFeast 2 (some (.object "TwoTownAlmanac$Feast")), Cond.methodLink RX4 78 yX4_requireIndex, Cond.static yX4_requireIndex, Cond.code yX4_requireIndex cX4_requireIndex 2 none, Cond.classLink RX4 223 "java/lang/IndexOutOfBoundsException", Cond.initialized "java/lang/IndexOutOfBoundsException", Cond.methodLink RX4 174 yX2_firstMeeting, Cond.instanceMethod yX2_firstMeeting, Cond.selects RX2 yX2_firstMeeting yX2_firstMeeting, Cond.initialized RX2, Cond.code yX2_firstMeeting cX2_firstMeeting 8 (some .int), Cond.methodLink RX2 68 yX2_townWith, Cond.instanceMethod yX2_townWith, Cond.selects RX2 yX2_townWith yX2_townWith, Cond.code yX2_townWith cX2_townWith 2 (some (.object "TwoTownAlmanac$Town")), Cond.fieldLink RX2 14 "TwoTownAlmanac$State" "townA" "LTwoTownAlmanac$Town;", Cond.fieldLink RX2 20 "TwoTownAlmanac$State" "townB" "LTwoTownAlmanac$Town;"]
def wsX4_daysUntilMeeting_r2 : List Cond := [Cond.methodLink RX2 82 yX3_yearOn, Cond.instanceMethod yX3_yearOn, Cond.selects RX3 yX3_yearOn yX3_yearOn, Cond.initialized RX3, Cond.code yX3_yearOn cX3_yearOn 3 (some .int), Cond.fieldLink RX3 25 "TwoTownAlmanac$Town" "isA" "Z", Cond.methodLink RX3 37 yX3_dateOn, Cond.instanceMethod yX3_dateOn, Cond.selects RX3 yX3_dateOn yX3_dateOn, Cond.code yX3_dateOn cX3_dateOn 4 (some .int), Cond.fieldLink RX3 18 "TwoTownAlmanac$Town" "gaps" "I", Cond.fieldLink RX3 9 "TwoTownAlmanac$Town" "gapDays" "[I", Cond.fieldLink RX3 15 "TwoTownAlmanac$Town" "gapLengths" "[I", Cond.methodLink RX2 86 yX2_firstYearFor, Cond.instanceMethod yX2_firstYearFor, Cond.selects RX2 yX2_firstYearFor yX2_firstYearFor, Cond.code yX2_firstYearFor cX2_firstYearFor 3 (some .int), Cond.methodLink RX2 76 Lib.Math.max.name, Cond.static Lib.Math.max.name, Cond.initialized "java/lang/Math", Cond.code Lib.Math.max.name Lib.Math.max.code 2 (some .int), Cond.methodLink RX2 89 yX2_keptIn, Cond.instanceMethod yX2_keptIn, Cond.selects RX2 yX2_keptIn yX2_keptIn]
def wsX4_daysUntilMeeting_r3 : List Cond := [Cond.code yX2_keptIn cX2_keptIn 4 (some .int), Cond.fieldLink RX2 33 "TwoTownAlmanac$State" "shiftDays" "I", Cond.methodLink RX2 72 yX3_dueIn, Cond.instanceMethod yX3_dueIn, Cond.selects RX3 yX3_dueIn yX3_dueIn, Cond.code yX3_dueIn cX3_dueIn 6 (some .int), Cond.methodLink RX3 46 yX3_daysInMonth, Cond.instanceMethod yX3_daysInMonth, Cond.selects RX3 yX3_daysInMonth yX3_daysInMonth, Cond.code yX3_daysInMonth cX3_daysInMonth 2 (some .int), Cond.methodLink RX3 49 yX3_dateOf, Cond.instanceMethod yX3_dateOf, Cond.selects RX3 yX3_dateOf yX3_dateOf, Cond.code yX3_dateOf cX3_dateOf 4 (some .int), Cond.methodLink RX3 29 yX3_daysInYear, Cond.instanceMethod yX3_daysInYear, Cond.selects RX3 yX3_daysInYear yX3_daysInYear, Cond.code yX3_daysInYear cX3_daysInYear 1 (some .int), Cond.methodLink RX3 33 yX3_daysBeforeMonth, Cond.instanceMethod yX3_daysBeforeMonth, Cond.selects RX3 yX3_daysBeforeMonth yX3_daysBeforeMonth, Cond.code yX3_daysBeforeMonth cX3_daysBeforeMonth 3 (some .int), Cond.methodLink RX3 53 yX3_firstDayFrom, Cond.instanceMethod yX3_firstDayFrom]
def wsX4_daysUntilMeeting_r4 : List Cond := [Cond.selects RX3 yX3_firstDayFrom yX3_firstDayFrom, Cond.code yX3_firstDayFrom cX3_firstDayFrom 6 (some .int), Cond.methodLink RX3 64 yX3_yearOn, Cond.methodLink RX2 92 yX2_firstKept, Cond.instanceMethod yX2_firstKept, Cond.selects RX2 yX2_firstKept yX2_firstKept, Cond.code yX2_firstKept cX2_firstKept 7 (some .int)]
def wsX4_daysUntilMeeting : List Cond := .code yX4_daysUntilMeeting cX4_daysUntilMeeting 6 (some .int) :: ((wsX4_daysUntilMeeting_r1 ++ (wsX4_daysUntilMeeting_r2 ++ (wsX4_daysUntilMeeting_r3 ++ wsX4_daysUntilMeeting_r4))) ++ wsX40 ++ wsX20 ++ wsX10 ++ wsX30 ++ (vx_atS RX4 60 "java/lang/IllegalArgumentException" ["java/lang/RuntimeException", "java/lang/Exception"]).filter goodWord ++ (vx_atS RX4 227 "java/lang/IndexOutOfBoundsException" ["java/lang/RuntimeException", "java/lang/Exception"]).filter goodWord)
def wsX4_quarrelsWithin_r1 : List Cond := [Cond.fieldLink RX4 10 "TwoTownAlmanac" "state" "LTwoTownAlmanac$State;", Cond.methodLink RX4 46 yX4_requireRange, Cond.static yX4_requireRange, Cond.initialized RX4, Cond.code yX4_requireRange cX4_requireRange 3 none, Cond.classLink RX4 56 "java/lang/IllegalArgumentException", Cond.initialized "java/lang/IllegalArgumentException", Cond.methodLink RX4 145 yX4_quarrelsFrom, Cond.instanceMethod yX4_quarrelsFrom, Cond.selects RX4 yX4_quarrelsFrom yX4_quarrelsFrom, Cond.code yX4_quarrelsFrom cX4_quarrelsFrom 3 (some .int), Cond.fieldLink RX4 38 "TwoTownAlmanac" "feastSets" "[I", Cond.methodLink RX4 141 yX2_markFeasts, Cond.instanceMethod yX2_markFeasts, Cond.selects RX2 yX2_markFeasts yX2_markFeasts, Cond.initialized RX2, Cond.code yX2_markFeasts cX2_markFeasts 8 none, Cond.fieldLink RX2 29 "TwoTownAlmanac$State" "feastsAdded" "I", Cond.fieldLink RX2 25 "TwoTownAlmanac$State" "feasts" "[LTwoTownAlmanac$Feast;", Cond.methodLink RX2 68 yX2_townWith, Cond.instanceMethod yX2_townWith, Cond.selects RX2 yX2_townWith yX2_townWith, Cond.code yX2_townWith cX2_townWith 2 (some (.object "TwoTownAlmanac$Town")), Cond.fieldLink RX2 14 "TwoTownAlmanac$State" "townA" "LTwoTownAlmanac$Town;"]
def wsX4_quarrelsWithin_r2 : List Cond := [Cond.fieldLink RX2 20 "TwoTownAlmanac$State" "townB" "LTwoTownAlmanac$Town;", Cond.methodLink RX2 82 yX3_yearOn, Cond.instanceMethod yX3_yearOn, Cond.selects RX3 yX3_yearOn yX3_yearOn, Cond.initialized RX3, Cond.code yX3_yearOn cX3_yearOn 3 (some .int), Cond.fieldLink RX3 25 "TwoTownAlmanac$Town" "isA" "Z", Cond.methodLink RX3 37 yX3_dateOn, Cond.instanceMethod yX3_dateOn, Cond.selects RX3 yX3_dateOn yX3_dateOn, Cond.code yX3_dateOn cX3_dateOn 4 (some .int), Cond.fieldLink RX3 18 "TwoTownAlmanac$Town" "gaps" "I", Cond.fieldLink RX3 9 "TwoTownAlmanac$Town" "gapDays" "[I", Cond.fieldLink RX3 15 "TwoTownAlmanac$Town" "gapLengths" "[I", Cond.methodLink RX2 86 yX2_firstYearFor, Cond.instanceMethod yX2_firstYearFor, Cond.selects RX2 yX2_firstYearFor yX2_firstYearFor, Cond.code yX2_firstYearFor cX2_firstYearFor 3 (some .int), Cond.methodLink RX2 76 Lib.Math.max.name, Cond.static Lib.Math.max.name, Cond.initialized "java/lang/Math", Cond.code Lib.Math.max.name Lib.Math.max.code 2 (some .int), Cond.methodLink RX2 89 yX2_keptIn, Cond.instanceMethod yX2_keptIn]
def wsX4_quarrelsWithin_r3 : List Cond := [Cond.selects RX2 yX2_keptIn yX2_keptIn, Cond.code yX2_keptIn cX2_keptIn 4 (some .int), Cond.fieldLink RX2 33 "TwoTownAlmanac$State" "shiftDays" "I", Cond.methodLink RX2 72 yX3_dueIn, Cond.instanceMethod yX3_dueIn, Cond.selects RX3 yX3_dueIn yX3_dueIn, Cond.code yX3_dueIn cX3_dueIn 6 (some .int), Cond.methodLink RX3 46 yX3_daysInMonth, Cond.instanceMethod yX3_daysInMonth, Cond.selects RX3 yX3_daysInMonth yX3_daysInMonth, Cond.code yX3_daysInMonth cX3_daysInMonth 2 (some .int), Cond.methodLink RX3 49 yX3_dateOf, Cond.instanceMethod yX3_dateOf, Cond.selects RX3 yX3_dateOf yX3_dateOf, Cond.code yX3_dateOf cX3_dateOf 4 (some .int), Cond.methodLink RX3 29 yX3_daysInYear, Cond.instanceMethod yX3_daysInYear, Cond.selects RX3 yX3_daysInYear yX3_daysInYear, Cond.code yX3_daysInYear cX3_daysInYear 1 (some .int), Cond.methodLink RX3 33 yX3_daysBeforeMonth, Cond.instanceMethod yX3_daysBeforeMonth, Cond.selects RX3 yX3_daysBeforeMonth yX3_daysBeforeMonth, Cond.code yX3_daysBeforeMonth cX3_daysBeforeMonth 3 (some .int), Cond.methodLink RX3 53 yX3_firstDayFrom]
def wsX4_quarrelsWithin_r4 : List Cond := [Cond.instanceMethod yX3_firstDayFrom, Cond.selects RX3 yX3_firstDayFrom yX3_firstDayFrom, Cond.code yX3_firstDayFrom cX3_firstDayFrom 6 (some .int), Cond.methodLink RX3 64 yX3_yearOn, Cond.methodLink RX4 235 yX2_countQuarrels, Cond.instanceMethod yX2_countQuarrels, Cond.selects RX2 yX2_countQuarrels yX2_countQuarrels, Cond.code yX2_countQuarrels cX2_countQuarrels 7 (some .int), Cond.methodLink RX2 96 yX2_feastsOf, Cond.instanceMethod yX2_feastsOf, Cond.selects RX2 yX2_feastsOf yX2_feastsOf, Cond.code yX2_feastsOf cX2_feastsOf 4 (some .int)]
def wsX4_quarrelsWithin : List Cond := .code yX4_quarrelsWithin cX4_quarrelsWithin 2 (some .int) :: ((wsX4_quarrelsWithin_r1 ++ (wsX4_quarrelsWithin_r2 ++ (wsX4_quarrelsWithin_r3 ++ wsX4_quarrelsWithin_r4))) ++ wsX40 ++ wsX20 ++ wsX10 ++ wsX30 ++ (vx_atS RX4 60 "java/lang/IllegalArgumentException" ["java/lang/RuntimeException", "java/lang/Exception"]).filter goodWord)
def wsX4_bestBarredWeekday_r1 : List Cond := [Cond.fieldLink RX4 10 "TwoTownAlmanac" "state" "LTwoTownAlmanac$State;", Cond.methodLink RX4 113 yX4_requireFeast, Cond.instanceMethod yX4_requireFeast, Cond.selects RX4 yX4_requireFeast yX4_requireFeast, Cond.initialized RX4, Cond.code yX4_requireFeast cX4_requireFeast 2 (some (.object "TwoTownAlmanac$Feast")), Cond.methodLink RX4 78 yX4_requireIndex, Cond.static yX4_requireIndex, Cond.code yX4_requireIndex cX4_requireIndex 2 none, Cond.classLink RX4 223 "java/lang/IndexOutOfBoundsException", Cond.initialized "java/lang/IndexOutOfBoundsException", Cond.methodLink RX4 145 yX4_quarrelsFrom, Cond.instanceMethod yX4_quarrelsFrom, Cond.selects RX4 yX4_quarrelsFrom yX4_quarrelsFrom, Cond.code yX4_quarrelsFrom cX4_quarrelsFrom 3 (some .int), Cond.fieldLink RX4 38 "TwoTownAlmanac" "feastSets" "[I", Cond.methodLink RX4 141 yX2_markFeasts, Cond.instanceMethod yX2_markFeasts, Cond.selects RX2 yX2_markFeasts yX2_markFeasts, Cond.initialized RX2, Cond.code yX2_markFeasts cX2_markFeasts 8 none, Cond.fieldLink RX2 29 "TwoTownAlmanac$State" "feastsAdded" "I", Cond.fieldLink RX2 25 "TwoTownAlmanac$State" "feasts" "[LTwoTownAlmanac$Feast;", Cond.methodLink RX2 68 yX2_townWith]
def wsX4_bestBarredWeekday_r2 : List Cond := [Cond.instanceMethod yX2_townWith, Cond.selects RX2 yX2_townWith yX2_townWith, Cond.code yX2_townWith cX2_townWith 2 (some (.object "TwoTownAlmanac$Town")), Cond.fieldLink RX2 14 "TwoTownAlmanac$State" "townA" "LTwoTownAlmanac$Town;", Cond.fieldLink RX2 20 "TwoTownAlmanac$State" "townB" "LTwoTownAlmanac$Town;", Cond.methodLink RX2 82 yX3_yearOn, Cond.instanceMethod yX3_yearOn, Cond.selects RX3 yX3_yearOn yX3_yearOn, Cond.initialized RX3, Cond.code yX3_yearOn cX3_yearOn 3 (some .int), Cond.fieldLink RX3 25 "TwoTownAlmanac$Town" "isA" "Z", Cond.methodLink RX3 37 yX3_dateOn, Cond.instanceMethod yX3_dateOn, Cond.selects RX3 yX3_dateOn yX3_dateOn, Cond.code yX3_dateOn cX3_dateOn 4 (some .int), Cond.fieldLink RX3 18 "TwoTownAlmanac$Town" "gaps" "I", Cond.fieldLink RX3 9 "TwoTownAlmanac$Town" "gapDays" "[I", Cond.fieldLink RX3 15 "TwoTownAlmanac$Town" "gapLengths" "[I", Cond.methodLink RX2 86 yX2_firstYearFor, Cond.instanceMethod yX2_firstYearFor, Cond.selects RX2 yX2_firstYearFor yX2_firstYearFor, Cond.code yX2_firstYearFor cX2_firstYearFor 3 (some .int), Cond.methodLink RX2 76 Lib.Math.max.name, Cond.static Lib.Math.max.name]
def wsX4_bestBarredWeekday_r3 : List Cond := [Cond.initialized "java/lang/Math", Cond.code Lib.Math.max.name Lib.Math.max.code 2 (some .int), Cond.methodLink RX2 89 yX2_keptIn, Cond.instanceMethod yX2_keptIn, Cond.selects RX2 yX2_keptIn yX2_keptIn, Cond.code yX2_keptIn cX2_keptIn 4 (some .int), Cond.fieldLink RX2 33 "TwoTownAlmanac$State" "shiftDays" "I", Cond.methodLink RX2 72 yX3_dueIn, Cond.instanceMethod yX3_dueIn, Cond.selects RX3 yX3_dueIn yX3_dueIn, Cond.code yX3_dueIn cX3_dueIn 6 (some .int), Cond.methodLink RX3 46 yX3_daysInMonth, Cond.instanceMethod yX3_daysInMonth, Cond.selects RX3 yX3_daysInMonth yX3_daysInMonth, Cond.code yX3_daysInMonth cX3_daysInMonth 2 (some .int), Cond.methodLink RX3 49 yX3_dateOf, Cond.instanceMethod yX3_dateOf, Cond.selects RX3 yX3_dateOf yX3_dateOf, Cond.code yX3_dateOf cX3_dateOf 4 (some .int), Cond.methodLink RX3 29 yX3_daysInYear, Cond.instanceMethod yX3_daysInYear, Cond.selects RX3 yX3_daysInYear yX3_daysInYear, Cond.code yX3_daysInYear cX3_daysInYear 1 (some .int), Cond.methodLink RX3 33 yX3_daysBeforeMonth]
def wsX4_bestBarredWeekday_r4 : List Cond := [Cond.instanceMethod yX3_daysBeforeMonth, Cond.selects RX3 yX3_daysBeforeMonth yX3_daysBeforeMonth, Cond.code yX3_daysBeforeMonth cX3_daysBeforeMonth 3 (some .int), Cond.methodLink RX3 53 yX3_firstDayFrom, Cond.instanceMethod yX3_firstDayFrom, Cond.selects RX3 yX3_firstDayFrom yX3_firstDayFrom, Cond.code yX3_firstDayFrom cX3_firstDayFrom 6 (some .int), Cond.methodLink RX3 64 yX3_yearOn, Cond.methodLink RX4 235 yX2_countQuarrels, Cond.instanceMethod yX2_countQuarrels, Cond.selects RX2 yX2_countQuarrels yX2_countQuarrels, Cond.code yX2_countQuarrels cX2_countQuarrels 7 (some .int), Cond.methodLink RX2 96 yX2_feastsOf, Cond.instanceMethod yX2_feastsOf, Cond.selects RX2 yX2_feastsOf yX2_feastsOf, Cond.code yX2_feastsOf cX2_feastsOf 4 (some .int)]
def wsX4_bestBarredWeekday : List Cond := .code yX4_bestBarredWeekday cX4_bestBarredWeekday 8 (some .int) :: ((wsX4_bestBarredWeekday_r1 ++ (wsX4_bestBarredWeekday_r2 ++ (wsX4_bestBarredWeekday_r3 ++ wsX4_bestBarredWeekday_r4))) ++ wsX10 ++ wsX40 ++ wsX20 ++ wsX30 ++ (vx_atS RX4 227 "java/lang/IndexOutOfBoundsException" ["java/lang/RuntimeException", "java/lang/Exception"]).filter goodWord)
def wsX4_codeAt : List Cond := .code yX4_codeAt cX4_codeAt 3 (some .int) :: ([.constantLong RX4 239 (255)])
def wsX4_charactersIn : List Cond := .code yX4_charactersIn cX4_charactersIn 4 (some .int) :: ([.methodLink RX4 189 yX4_codeAt, .static yX4_codeAt, .initialized RX4, .code yX4_codeAt cX4_codeAt 3 (some .int), .constantLong RX4 239 (255)])
def wsX4_appendText : List Cond := .code yX4_appendText cX4_appendText 5 (some .int) :: ([.classLink RX4 56 "java/lang/IllegalArgumentException", .initialized "java/lang/IllegalArgumentException", .classLink RX4 66 "java/lang/IllegalStateException", .initialized "java/lang/IllegalStateException", .fieldLink RX4 34 "TwoTownAlmanac" "text" "LTwoTownAlmanac$DateText;", .methodLink RX4 178 yX4_charactersIn, .static yX4_charactersIn, .initialized RX4, .code yX4_charactersIn cX4_charactersIn 4 (some .int), .methodLink RX4 189 yX4_codeAt, .static yX4_codeAt, .code yX4_codeAt cX4_codeAt 3 (some .int), .constantLong RX4 239 (255), .methodLink RX4 193 yX0_put, .instanceMethod yX0_put, .selects RX0 yX0_put yX0_put, .initialized RX0, .code yX0_put cX0_put 2 none, .fieldLink RX0 15 "TwoTownAlmanac$DateText" "length" "I", .fieldLink RX0 9 "TwoTownAlmanac$DateText" "codes" "[I"] ++ wsX40 ++ wsX00 ++ (vx_atS RX4 60 "java/lang/IllegalArgumentException" ["java/lang/RuntimeException", "java/lang/Exception"]).filter goodWord ++ (vx_atS RX4 70 "java/lang/IllegalStateException" ["java/lang/RuntimeException", "java/lang/Exception"]).filter goodWord)
def wsX4_clearText : List Cond := .code yX4_clearText cX4_clearText 2 (some .int) :: ([.fieldLink RX4 34 "TwoTownAlmanac" "text" "LTwoTownAlmanac$DateText;"] ++ wsX40 ++ wsX00)
def wsX4_textLength : List Cond := .code yX4_textLength cX4_textLength 1 (some .int) :: ([.fieldLink RX4 34 "TwoTownAlmanac" "text" "LTwoTownAlmanac$DateText;"] ++ wsX40 ++ wsX00)
def wsX4_textError : List Cond := .code yX4_textError cX4_textError 1 (some .int) :: ([.fieldLink RX4 34 "TwoTownAlmanac" "text" "LTwoTownAlmanac$DateText;", .methodLink RX4 197 yX0_firstError, .instanceMethod yX0_firstError, .selects RX0 yX0_firstError yX0_firstError, .initialized RX0, .code yX0_firstError cX0_firstError 4 (some .int), .fieldLink RX0 15 "TwoTownAlmanac$DateText" "length" "I", .fieldLink RX0 9 "TwoTownAlmanac$DateText" "codes" "[I", .methodLink RX0 23 yX0_fits, .static yX0_fits, .code yX0_fits cX0_fits 5 (some .boolean)] ++ wsX40 ++ wsX00)
def wsX4_textCharacter : List Cond := .code yX4_textCharacter cX4_textCharacter 2 (some .int) :: ([.fieldLink RX4 34 "TwoTownAlmanac" "text" "LTwoTownAlmanac$DateText;", .methodLink RX4 78 yX4_requireIndex, .static yX4_requireIndex, .initialized RX4, .code yX4_requireIndex cX4_requireIndex 2 none, .classLink RX4 223 "java/lang/IndexOutOfBoundsException", .initialized "java/lang/IndexOutOfBoundsException"] ++ wsX40 ++ wsX00 ++ (vx_atS RX4 227 "java/lang/IndexOutOfBoundsException" ["java/lang/RuntimeException", "java/lang/Exception"]).filter goodWord)
def wsX4_dayOfText_r1 : List Cond := [Cond.classLink RX4 66 "java/lang/IllegalStateException", Cond.initialized "java/lang/IllegalStateException", Cond.fieldLink RX4 34 "TwoTownAlmanac" "text" "LTwoTownAlmanac$DateText;", Cond.fieldLink RX4 10 "TwoTownAlmanac" "state" "LTwoTownAlmanac$State;", Cond.methodLink RX4 197 yX0_firstError, Cond.instanceMethod yX0_firstError, Cond.selects RX0 yX0_firstError yX0_firstError, Cond.initialized RX0, Cond.code yX0_firstError cX0_firstError 4 (some .int), Cond.fieldLink RX0 15 "TwoTownAlmanac$DateText" "length" "I", Cond.fieldLink RX0 9 "TwoTownAlmanac$DateText" "codes" "[I", Cond.methodLink RX0 23 yX0_fits, Cond.static yX0_fits, Cond.code yX0_fits cX0_fits 5 (some .boolean), Cond.methodLink RX4 205 yX0_town, Cond.instanceMethod yX0_town, Cond.selects RX0 yX0_town yX0_town, Cond.code yX0_town cX0_town 1 (some .int), Cond.methodLink RX4 127 yX2_townWith, Cond.instanceMethod yX2_townWith, Cond.selects RX2 yX2_townWith yX2_townWith, Cond.initialized RX2, Cond.code yX2_townWith cX2_townWith 2 (some (.object "TwoTownAlmanac$Town")), Cond.fieldLink RX2 14 "TwoTownAlmanac$State" "townA" "LTwoTownAlmanac$Town;"]
def wsX4_dayOfText_r2 : List Cond := [Cond.fieldLink RX2 20 "TwoTownAlmanac$State" "townB" "LTwoTownAlmanac$Town;", Cond.methodLink RX4 207 yX0_number, Cond.instanceMethod yX0_number, Cond.selects RX0 yX0_number yX0_number, Cond.code yX0_number cX0_number 5 (some .int), Cond.methodLink RX4 101 yX3_dayWithDate, Cond.instanceMethod yX3_dayWithDate, Cond.selects RX3 yX3_dayWithDate yX3_dayWithDate, Cond.initialized RX3, Cond.code yX3_dayWithDate cX3_dayWithDate 6 (some .int), Cond.methodLink RX3 46 yX3_daysInMonth, Cond.instanceMethod yX3_daysInMonth, Cond.selects RX3 yX3_daysInMonth yX3_daysInMonth, Cond.code yX3_daysInMonth cX3_daysInMonth 2 (some .int), Cond.fieldLink RX3 25 "TwoTownAlmanac$Town" "isA" "Z", Cond.methodLink RX3 49 yX3_dateOf, Cond.instanceMethod yX3_dateOf, Cond.selects RX3 yX3_dateOf yX3_dateOf, Cond.code yX3_dateOf cX3_dateOf 4 (some .int), Cond.methodLink RX3 29 yX3_daysInYear, Cond.instanceMethod yX3_daysInYear, Cond.selects RX3 yX3_daysInYear yX3_daysInYear, Cond.code yX3_daysInYear cX3_daysInYear 1 (some .int), Cond.methodLink RX3 33 yX3_daysBeforeMonth]
def wsX4_dayOfText_r3 : List Cond := [Cond.instanceMethod yX3_daysBeforeMonth, Cond.selects RX3 yX3_daysBeforeMonth yX3_daysBeforeMonth, Cond.code yX3_daysBeforeMonth cX3_daysBeforeMonth 3 (some .int), Cond.methodLink RX3 53 yX3_firstDayFrom, Cond.instanceMethod yX3_firstDayFrom, Cond.selects RX3 yX3_firstDayFrom yX3_firstDayFrom, Cond.code yX3_firstDayFrom cX3_firstDayFrom 6 (some .int), Cond.fieldLink RX3 18 "TwoTownAlmanac$Town" "gaps" "I", Cond.fieldLink RX3 9 "TwoTownAlmanac$Town" "gapDays" "[I", Cond.fieldLink RX3 15 "TwoTownAlmanac$Town" "gapLengths" "[I", Cond.methodLink RX3 37 yX3_dateOn, Cond.instanceMethod yX3_dateOn, Cond.selects RX3 yX3_dateOn yX3_dateOn, Cond.code yX3_dateOn cX3_dateOn 4 (some .int)]
def wsX4_dayOfText : List Cond := .code yX4_dayOfText cX4_dayOfText 2 (some .int) :: ((wsX4_dayOfText_r1 ++ (wsX4_dayOfText_r2 ++ wsX4_dayOfText_r3)) ++ wsX40 ++ wsX00 ++ wsX20 ++ wsX30 ++ (vx_atS RX4 70 "java/lang/IllegalStateException" ["java/lang/RuntimeException", "java/lang/Exception"]).filter goodWord)
def wsX4_writeDate_r1 : List Cond := [Cond.fieldLink RX4 34 "TwoTownAlmanac" "text" "LTwoTownAlmanac$DateText;", Cond.methodLink RX4 42 yX4_requireTown, Cond.instanceMethod yX4_requireTown, Cond.selects RX4 yX4_requireTown yX4_requireTown, Cond.initialized RX4, Cond.code yX4_requireTown cX4_requireTown 2 (some (.object "TwoTownAlmanac$Town")), Cond.fieldLink RX4 10 "TwoTownAlmanac" "state" "LTwoTownAlmanac$State;", Cond.methodLink RX4 78 yX4_requireIndex, Cond.static yX4_requireIndex, Cond.code yX4_requireIndex cX4_requireIndex 2 none, Cond.classLink RX4 223 "java/lang/IndexOutOfBoundsException", Cond.initialized "java/lang/IndexOutOfBoundsException", Cond.methodLink RX4 127 yX2_townWith, Cond.instanceMethod yX2_townWith, Cond.selects RX2 yX2_townWith yX2_townWith, Cond.initialized RX2, Cond.code yX2_townWith cX2_townWith 2 (some (.object "TwoTownAlmanac$Town")), Cond.fieldLink RX2 14 "TwoTownAlmanac$State" "townA" "LTwoTownAlmanac$Town;", Cond.fieldLink RX2 20 "TwoTownAlmanac$State" "townB" "LTwoTownAlmanac$Town;", Cond.methodLink RX4 46 yX4_requireRange, Cond.static yX4_requireRange, Cond.code yX4_requireRange cX4_requireRange 3 none, Cond.classLink RX4 56 "java/lang/IllegalArgumentException", Cond.initialized "java/lang/IllegalArgumentException"]
def wsX4_writeDate_r2 : List Cond := [Cond.methodLink RX4 193 yX0_put, Cond.instanceMethod yX0_put, Cond.selects RX0 yX0_put yX0_put, Cond.initialized RX0, Cond.code yX0_put cX0_put 2 none, Cond.fieldLink RX0 15 "TwoTownAlmanac$DateText" "length" "I", Cond.fieldLink RX0 9 "TwoTownAlmanac$DateText" "codes" "[I", Cond.methodLink RX4 92 yX3_dayOfMonthOn, Cond.instanceMethod yX3_dayOfMonthOn, Cond.selects RX3 yX3_dayOfMonthOn yX3_dayOfMonthOn, Cond.initialized RX3, Cond.code yX3_dayOfMonthOn cX3_dayOfMonthOn 2 (some .int), Cond.methodLink RX3 40 yX3_dayInYearOn, Cond.instanceMethod yX3_dayInYearOn, Cond.selects RX3 yX3_dayInYearOn yX3_dayInYearOn, Cond.code yX3_dayInYearOn cX3_dayInYearOn 3 (some .int), Cond.fieldLink RX3 25 "TwoTownAlmanac$Town" "isA" "Z", Cond.methodLink RX3 37 yX3_dateOn, Cond.instanceMethod yX3_dateOn, Cond.selects RX3 yX3_dateOn yX3_dateOn, Cond.code yX3_dateOn cX3_dateOn 4 (some .int), Cond.fieldLink RX3 18 "TwoTownAlmanac$Town" "gaps" "I", Cond.fieldLink RX3 9 "TwoTownAlmanac$Town" "gapDays" "[I", Cond.fieldLink RX3 15 "TwoTownAlmanac$Town" "gapLengths" "[I"]
def wsX4_writeDate_r3 : List Cond := [Cond.methodLink RX3 43 yX3_monthOn, Cond.instanceMethod yX3_monthOn, Cond.selects RX3 yX3_monthOn yX3_monthOn, Cond.code yX3_monthOn cX3_monthOn 4 (some .int), Cond.methodLink RX3 33 yX3_daysBeforeMonth, Cond.instanceMethod yX3_daysBeforeMonth, Cond.selects RX3 yX3_daysBeforeMonth yX3_daysBeforeMonth, Cond.code yX3_daysBeforeMonth cX3_daysBeforeMonth 3 (some .int), Cond.methodLink RX4 210 yX0_putNumber, Cond.instanceMethod yX0_putNumber, Cond.selects RX0 yX0_putNumber yX0_putNumber, Cond.code yX0_putNumber cX0_putNumber 2 none, Cond.methodLink RX0 19 yX0_put, Cond.methodLink RX4 95 yX3_monthOn, Cond.methodLink RX4 98 yX3_yearOn, Cond.instanceMethod yX3_yearOn, Cond.selects RX3 yX3_yearOn yX3_yearOn, Cond.code yX3_yearOn cX3_yearOn 3 (some .int)]
def wsX4_writeDate : List Cond := .code yX4_writeDate cX4_writeDate 4 (some .int) :: ((wsX4_writeDate_r1 ++ (wsX4_writeDate_r2 ++ wsX4_writeDate_r3)) ++ wsX40 ++ wsX00 ++ wsX20 ++ wsX30 ++ (vx_atS RX4 227 "java/lang/IndexOutOfBoundsException" ["java/lang/RuntimeException", "java/lang/Exception"]).filter goodWord ++ (vx_atS RX4 60 "java/lang/IllegalArgumentException" ["java/lang/RuntimeException", "java/lang/Exception"]).filter goodWord)
def wsX4_undo_r1 : List Cond := [Cond.classLink RX4 66 "java/lang/IllegalStateException", Cond.initialized "java/lang/IllegalStateException", Cond.fieldLink RX4 20 "TwoTownAlmanac" "recordedCount" "I", Cond.fieldLink RX4 10 "TwoTownAlmanac" "state" "LTwoTownAlmanac$State;", Cond.fieldLink RX4 16 "TwoTownAlmanac" "recorded" "[LTwoTownAlmanac$State;", Cond.methodLink RX4 215 yX2_copyFrom, Cond.instanceMethod yX2_copyFrom, Cond.selects RX2 yX2_copyFrom yX2_copyFrom, Cond.initialized RX2, Cond.code yX2_copyFrom cX2_copyFrom 3 none, Cond.fieldLink RX2 14 "TwoTownAlmanac$State" "townA" "LTwoTownAlmanac$Town;", Cond.fieldLink RX2 20 "TwoTownAlmanac$State" "townB" "LTwoTownAlmanac$Town;", Cond.fieldLink RX2 25 "TwoTownAlmanac$State" "feasts" "[LTwoTownAlmanac$Feast;", Cond.fieldLink RX2 29 "TwoTownAlmanac$State" "feastsAdded" "I", Cond.fieldLink RX2 33 "TwoTownAlmanac$State" "shiftDays" "I", Cond.fieldLink RX2 36 "TwoTownAlmanac$State" "copiesEachDay" "I", Cond.fieldLink RX2 39 "TwoTownAlmanac$State" "dayNow" "I", Cond.fieldLink RX2 42 "TwoTownAlmanac$State" "quarrels" "I", Cond.fieldLink RX2 45 "TwoTownAlmanac$State" "copies" "I", Cond.methodLink RX2 49 yX3_copyFrom, Cond.instanceMethod yX3_copyFrom, Cond.selects RX3 yX3_copyFrom yX3_copyFrom, Cond.initialized RX3, Cond.code yX3_copyFrom cX3_copyFrom 3 none]
def wsX4_undo_r2 : List Cond := [Cond.fieldLink RX3 9 "TwoTownAlmanac$Town" "gapDays" "[I", Cond.fieldLink RX3 15 "TwoTownAlmanac$Town" "gapLengths" "[I", Cond.fieldLink RX3 18 "TwoTownAlmanac$Town" "gaps" "I", Cond.fieldLink RX3 22 "TwoTownAlmanac$Town" "keptCount" "I", Cond.methodLink RX2 53 yX1_copyFrom, Cond.instanceMethod yX1_copyFrom, Cond.selects RX1 yX1_copyFrom yX1_copyFrom, Cond.initialized RX1, Cond.code yX1_copyFrom cX1_copyFrom 2 none, Cond.fieldLink RX1 9 "TwoTownAlmanac$Feast" "town" "I", Cond.fieldLink RX1 15 "TwoTownAlmanac$Feast" "month" "I", Cond.fieldLink RX1 18 "TwoTownAlmanac$Feast" "dayOfMonth" "I", Cond.fieldLink RX1 21 "TwoTownAlmanac$Feast" "barred" "I"]
def wsX4_undo : List Cond := .code yX4_undo cX4_undo 1 (some .int) :: ((wsX4_undo_r1 ++ wsX4_undo_r2) ++ wsX40 ++ wsX20 ++ wsX30 ++ wsX10 ++ (vx_atS RX4 70 "java/lang/IllegalStateException" ["java/lang/RuntimeException", "java/lang/Exception"]).filter goodWord)
def wsX4_undoCount : List Cond := .code yX4_undoCount cX4_undoCount 1 (some .int) :: ([.fieldLink RX4 20 "TwoTownAlmanac" "recordedCount" "I"] ++ wsX40)
def wsX4_saveState_r1 : List Cond := [Cond.fieldLink RX4 24 "TwoTownAlmanac" "slots" "[LTwoTownAlmanac$State;", Cond.fieldLink RX4 10 "TwoTownAlmanac" "state" "LTwoTownAlmanac$State;", Cond.fieldLink RX4 27 "TwoTownAlmanac" "slotIsFilled" "[Z", Cond.methodLink RX4 78 yX4_requireIndex, Cond.static yX4_requireIndex, Cond.initialized RX4, Cond.code yX4_requireIndex cX4_requireIndex 2 none, Cond.classLink RX4 223 "java/lang/IndexOutOfBoundsException", Cond.initialized "java/lang/IndexOutOfBoundsException", Cond.methodLink RX4 215 yX2_copyFrom, Cond.instanceMethod yX2_copyFrom, Cond.selects RX2 yX2_copyFrom yX2_copyFrom, Cond.initialized RX2, Cond.code yX2_copyFrom cX2_copyFrom 3 none, Cond.fieldLink RX2 14 "TwoTownAlmanac$State" "townA" "LTwoTownAlmanac$Town;", Cond.fieldLink RX2 20 "TwoTownAlmanac$State" "townB" "LTwoTownAlmanac$Town;", Cond.fieldLink RX2 25 "TwoTownAlmanac$State" "feasts" "[LTwoTownAlmanac$Feast;", Cond.fieldLink RX2 29 "TwoTownAlmanac$State" "feastsAdded" "I", Cond.fieldLink RX2 33 "TwoTownAlmanac$State" "shiftDays" "I", Cond.fieldLink RX2 36 "TwoTownAlmanac$State" "copiesEachDay" "I", Cond.fieldLink RX2 39 "TwoTownAlmanac$State" "dayNow" "I", Cond.fieldLink RX2 42 "TwoTownAlmanac$State" "quarrels" "I", Cond.fieldLink RX2 45 "TwoTownAlmanac$State" "copies" "I", Cond.methodLink RX2 49 yX3_copyFrom]
def wsX4_saveState_r2 : List Cond := [Cond.instanceMethod yX3_copyFrom, Cond.selects RX3 yX3_copyFrom yX3_copyFrom, Cond.initialized RX3, Cond.code yX3_copyFrom cX3_copyFrom 3 none, Cond.fieldLink RX3 9 "TwoTownAlmanac$Town" "gapDays" "[I", Cond.fieldLink RX3 15 "TwoTownAlmanac$Town" "gapLengths" "[I", Cond.fieldLink RX3 18 "TwoTownAlmanac$Town" "gaps" "I", Cond.fieldLink RX3 22 "TwoTownAlmanac$Town" "keptCount" "I", Cond.methodLink RX2 53 yX1_copyFrom, Cond.instanceMethod yX1_copyFrom, Cond.selects RX1 yX1_copyFrom yX1_copyFrom, Cond.initialized RX1, Cond.code yX1_copyFrom cX1_copyFrom 2 none, Cond.fieldLink RX1 9 "TwoTownAlmanac$Feast" "town" "I", Cond.fieldLink RX1 15 "TwoTownAlmanac$Feast" "month" "I", Cond.fieldLink RX1 18 "TwoTownAlmanac$Feast" "dayOfMonth" "I", Cond.fieldLink RX1 21 "TwoTownAlmanac$Feast" "barred" "I"]
def wsX4_saveState : List Cond := .code yX4_saveState cX4_saveState 2 (some .int) :: ((wsX4_saveState_r1 ++ wsX4_saveState_r2) ++ wsX40 ++ wsX20 ++ wsX30 ++ wsX10 ++ (vx_atS RX4 227 "java/lang/IndexOutOfBoundsException" ["java/lang/RuntimeException", "java/lang/Exception"]).filter goodWord)
def wsX4_loadState_r1 : List Cond := [Cond.classLink RX4 66 "java/lang/IllegalStateException", Cond.initialized "java/lang/IllegalStateException", Cond.fieldLink RX4 27 "TwoTownAlmanac" "slotIsFilled" "[Z", Cond.fieldLink RX4 10 "TwoTownAlmanac" "state" "LTwoTownAlmanac$State;", Cond.fieldLink RX4 24 "TwoTownAlmanac" "slots" "[LTwoTownAlmanac$State;", Cond.methodLink RX4 78 yX4_requireIndex, Cond.static yX4_requireIndex, Cond.initialized RX4, Cond.code yX4_requireIndex cX4_requireIndex 2 none, Cond.classLink RX4 223 "java/lang/IndexOutOfBoundsException", Cond.initialized "java/lang/IndexOutOfBoundsException", Cond.methodLink RX4 71 yX4_recordState, Cond.instanceMethod yX4_recordState, Cond.selects RX4 yX4_recordState yX4_recordState, Cond.code yX4_recordState cX4_recordState 1 none, Cond.fieldLink RX4 20 "TwoTownAlmanac" "recordedCount" "I", Cond.fieldLink RX4 16 "TwoTownAlmanac" "recorded" "[LTwoTownAlmanac$State;", Cond.methodLink RX4 232 yX4_dropOldestRecorded, Cond.instanceMethod yX4_dropOldestRecorded, Cond.selects RX4 yX4_dropOldestRecorded yX4_dropOldestRecorded, Cond.code yX4_dropOldestRecorded cX4_dropOldestRecorded 3 none, Cond.methodLink RX4 215 yX2_copyFrom, Cond.instanceMethod yX2_copyFrom, Cond.selects RX2 yX2_copyFrom yX2_copyFrom]
def wsX4_loadState_r2 : List Cond := [Cond.initialized RX2, Cond.code yX2_copyFrom cX2_copyFrom 3 none, Cond.fieldLink RX2 14 "TwoTownAlmanac$State" "townA" "LTwoTownAlmanac$Town;", Cond.fieldLink RX2 20 "TwoTownAlmanac$State" "townB" "LTwoTownAlmanac$Town;", Cond.fieldLink RX2 25 "TwoTownAlmanac$State" "feasts" "[LTwoTownAlmanac$Feast;", Cond.fieldLink RX2 29 "TwoTownAlmanac$State" "feastsAdded" "I", Cond.fieldLink RX2 33 "TwoTownAlmanac$State" "shiftDays" "I", Cond.fieldLink RX2 36 "TwoTownAlmanac$State" "copiesEachDay" "I", Cond.fieldLink RX2 39 "TwoTownAlmanac$State" "dayNow" "I", Cond.fieldLink RX2 42 "TwoTownAlmanac$State" "quarrels" "I", Cond.fieldLink RX2 45 "TwoTownAlmanac$State" "copies" "I", Cond.methodLink RX2 49 yX3_copyFrom, Cond.instanceMethod yX3_copyFrom, Cond.selects RX3 yX3_copyFrom yX3_copyFrom, Cond.initialized RX3, Cond.code yX3_copyFrom cX3_copyFrom 3 none, Cond.fieldLink RX3 9 "TwoTownAlmanac$Town" "gapDays" "[I", Cond.fieldLink RX3 15 "TwoTownAlmanac$Town" "gapLengths" "[I", Cond.fieldLink RX3 18 "TwoTownAlmanac$Town" "gaps" "I", Cond.fieldLink RX3 22 "TwoTownAlmanac$Town" "keptCount" "I", Cond.methodLink RX2 53 yX1_copyFrom, Cond.instanceMethod yX1_copyFrom, Cond.selects RX1 yX1_copyFrom yX1_copyFrom, Cond.initialized RX1]
def wsX4_loadState_r3 : List Cond := [Cond.code yX1_copyFrom cX1_copyFrom 2 none, Cond.fieldLink RX1 9 "TwoTownAlmanac$Feast" "town" "I", Cond.fieldLink RX1 15 "TwoTownAlmanac$Feast" "month" "I", Cond.fieldLink RX1 18 "TwoTownAlmanac$Feast" "dayOfMonth" "I", Cond.fieldLink RX1 21 "TwoTownAlmanac$Feast" "barred" "I"]
def wsX4_loadState : List Cond := .code yX4_loadState cX4_loadState 2 (some .int) :: ((wsX4_loadState_r1 ++ (wsX4_loadState_r2 ++ wsX4_loadState_r3)) ++ wsX40 ++ wsX20 ++ wsX30 ++ wsX10 ++ (vx_atS RX4 70 "java/lang/IllegalStateException" ["java/lang/RuntimeException", "java/lang/Exception"]).filter goodWord ++ (vx_atS RX4 227 "java/lang/IndexOutOfBoundsException" ["java/lang/RuntimeException", "java/lang/Exception"]).filter goodWord)
def wsX5_init : List Cond := .code yX5_init cX5_init 1 none :: ([.methodLink RX5 1 objectInit, .instanceMethod objectInit, .code objectInit ⟨#[0xb1]⟩ 1 none, .arrayClass .int, .fieldLink RX5 7 "TwoTownAlmanacModel" "row" "[I", .fieldLink RX5 13 "TwoTownAlmanacModel" "history" "[I", .fieldLink RX5 16 "TwoTownAlmanacModel" "slots" "[I", .arrayClass .boolean, .fieldLink RX5 19 "TwoTownAlmanacModel" "isSaved" "[Z", .fieldLink RX5 23 "TwoTownAlmanacModel" "text" "[I", .fieldLink RX5 26 "TwoTownAlmanacModel" "numbers" "[I"] ++ wsX50)
def wsX5_thrown : List Cond := .code yX5_thrown cX5_thrown 1 (some .int) :: ([.fieldLink RX5 29 "TwoTownAlmanacModel" "thrown" "I"] ++ wsX50)
def wsX5_fails : List Cond := .code yX5_fails cX5_fails 2 (some .int) :: ([.fieldLink RX5 29 "TwoTownAlmanacModel" "thrown" "I"] ++ wsX50)
def wsX5_in : List Cond := .code yX5_in cX5_in 3 (some .boolean) :: ([])
def wsX5_isTown : List Cond := .code yX5_isTown cX5_isTown 1 (some .boolean) :: ([.methodLink RX5 33 yX5_in, .static yX5_in, .initialized RX5, .code yX5_in cX5_in 3 (some .boolean)])
def wsX5_isFeast : List Cond := .code yX5_isFeast cX5_isFeast 2 (some .boolean) :: ([.fieldLink RX5 7 "TwoTownAlmanacModel" "row" "[I", .methodLink RX5 33 yX5_in, .static yX5_in, .initialized RX5, .code yX5_in cX5_in 3 (some .boolean)] ++ wsX50)
def wsX5_gaps : List Cond := .code yX5_gaps cX5_gaps 2 (some .int) :: ([.fieldLink RX5 7 "TwoTownAlmanacModel" "row" "[I"] ++ wsX50)
def wsX5_gap : List Cond := .code yX5_gap cX5_gap 4 (some .int) :: ([.fieldLink RX5 7 "TwoTownAlmanacModel" "row" "[I"] ++ wsX50)
def wsX5_feast : List Cond := .code yX5_feast cX5_feast 3 (some .int) :: ([.fieldLink RX5 7 "TwoTownAlmanacModel" "row" "[I"] ++ wsX50)
def wsX5_record : List Cond := .code yX5_record cX5_record 2 none :: ([.fieldLink RX5 37 "TwoTownAlmanacModel" "states" "I", .fieldLink RX5 13 "TwoTownAlmanacModel" "history" "[I", .fieldLink RX5 7 "TwoTownAlmanacModel" "row" "[I"] ++ wsX50)
def wsX5_undo : List Cond := .code yX5_undo cX5_undo 2 (some .int) :: ([.fieldLink RX5 29 "TwoTownAlmanacModel" "thrown" "I", .fieldLink RX5 37 "TwoTownAlmanacModel" "states" "I", .fieldLink RX5 7 "TwoTownAlmanacModel" "row" "[I", .fieldLink RX5 13 "TwoTownAlmanacModel" "history" "[I", .methodLink RX5 40 yX5_fails, .instanceMethod yX5_fails, .selects RX5 yX5_fails yX5_fails, .initialized RX5, .code yX5_fails cX5_fails 2 (some .int)] ++ wsX50)
def wsX5_undoCount : List Cond := .code yX5_undoCount cX5_undoCount 1 (some .int) :: ([.fieldLink RX5 29 "TwoTownAlmanacModel" "thrown" "I", .fieldLink RX5 37 "TwoTownAlmanacModel" "states" "I"] ++ wsX50)
def wsX5_saveState : List Cond := .code yX5_saveState cX5_saveState 3 (some .int) :: ([.fieldLink RX5 29 "TwoTownAlmanacModel" "thrown" "I", .fieldLink RX5 16 "TwoTownAlmanacModel" "slots" "[I", .fieldLink RX5 7 "TwoTownAlmanacModel" "row" "[I", .fieldLink RX5 19 "TwoTownAlmanacModel" "isSaved" "[Z", .methodLink RX5 33 yX5_in, .static yX5_in, .initialized RX5, .code yX5_in cX5_in 3 (some .boolean), .methodLink RX5 40 yX5_fails, .instanceMethod yX5_fails, .selects RX5 yX5_fails yX5_fails, .code yX5_fails cX5_fails 2 (some .int)] ++ wsX50)
def wsX5_loadState : List Cond := .code yX5_loadState cX5_loadState 3 (some .int) :: ([.fieldLink RX5 29 "TwoTownAlmanacModel" "thrown" "I", .fieldLink RX5 19 "TwoTownAlmanacModel" "isSaved" "[Z", .fieldLink RX5 7 "TwoTownAlmanacModel" "row" "[I", .fieldLink RX5 16 "TwoTownAlmanacModel" "slots" "[I", .methodLink RX5 33 yX5_in, .static yX5_in, .initialized RX5, .code yX5_in cX5_in 3 (some .boolean), .methodLink RX5 40 yX5_fails, .instanceMethod yX5_fails, .selects RX5 yX5_fails yX5_fails, .code yX5_fails cX5_fails 2 (some .int), .methodLink RX5 44 yX5_record, .instanceMethod yX5_record, .selects RX5 yX5_record yX5_record, .code yX5_record cX5_record 2 none, .fieldLink RX5 37 "TwoTownAlmanacModel" "states" "I", .fieldLink RX5 13 "TwoTownAlmanacModel" "history" "[I"] ++ wsX50)
def wsX5_addGap_r1 : List Cond := [Cond.fieldLink RX5 29 "TwoTownAlmanacModel" "thrown" "I", Cond.fieldLink RX5 7 "TwoTownAlmanacModel" "row" "[I", Cond.methodLink RX5 47 yX5_isTown, Cond.static yX5_isTown, Cond.initialized RX5, Cond.code yX5_isTown cX5_isTown 1 (some .boolean), Cond.methodLink RX5 33 yX5_in, Cond.static yX5_in, Cond.code yX5_in cX5_in 3 (some .boolean), Cond.methodLink RX5 40 yX5_fails, Cond.instanceMethod yX5_fails, Cond.selects RX5 yX5_fails yX5_fails, Cond.code yX5_fails cX5_fails 2 (some .int), Cond.methodLink RX5 51 yX5_gaps, Cond.instanceMethod yX5_gaps, Cond.selects RX5 yX5_gaps yX5_gaps, Cond.code yX5_gaps cX5_gaps 2 (some .int), Cond.methodLink RX5 54 yX5_gap, Cond.instanceMethod yX5_gap, Cond.selects RX5 yX5_gap yX5_gap, Cond.code yX5_gap cX5_gap 4 (some .int), Cond.methodLink RX5 44 yX5_record, Cond.instanceMethod yX5_record, Cond.selects RX5 yX5_record yX5_record]
def wsX5_addGap_r2 : List Cond := [Cond.code yX5_record cX5_record 2 none, Cond.fieldLink RX5 37 "TwoTownAlmanacModel" "states" "I", Cond.fieldLink RX5 13 "TwoTownAlmanacModel" "history" "[I"]
def wsX5_addGap : List Cond := .code yX5_addGap cX5_addGap 5 (some .int) :: ((wsX5_addGap_r1 ++ wsX5_addGap_r2) ++ wsX50)
def wsX5_gapCount : List Cond := .code yX5_gapCount cX5_gapCount 2 (some .int) :: ([.fieldLink RX5 29 "TwoTownAlmanacModel" "thrown" "I", .methodLink RX5 47 yX5_isTown, .static yX5_isTown, .initialized RX5, .code yX5_isTown cX5_isTown 1 (some .boolean), .methodLink RX5 33 yX5_in, .static yX5_in, .code yX5_in cX5_in 3 (some .boolean), .methodLink RX5 51 yX5_gaps, .instanceMethod yX5_gaps, .selects RX5 yX5_gaps yX5_gaps, .code yX5_gaps cX5_gaps 2 (some .int), .fieldLink RX5 7 "TwoTownAlmanacModel" "row" "[I", .methodLink RX5 40 yX5_fails, .instanceMethod yX5_fails, .selects RX5 yX5_fails yX5_fails, .code yX5_fails cX5_fails 2 (some .int)] ++ wsX50)
def wsX5_gapDay : List Cond := .code yX5_gapDay cX5_gapDay 3 (some .int) :: ([.fieldLink RX5 29 "TwoTownAlmanacModel" "thrown" "I", .methodLink RX5 47 yX5_isTown, .static yX5_isTown, .initialized RX5, .code yX5_isTown cX5_isTown 1 (some .boolean), .methodLink RX5 33 yX5_in, .static yX5_in, .code yX5_in cX5_in 3 (some .boolean), .methodLink RX5 51 yX5_gaps, .instanceMethod yX5_gaps, .selects RX5 yX5_gaps yX5_gaps, .code yX5_gaps cX5_gaps 2 (some .int), .fieldLink RX5 7 "TwoTownAlmanacModel" "row" "[I", .methodLink RX5 54 yX5_gap, .instanceMethod yX5_gap, .selects RX5 yX5_gap yX5_gap, .code yX5_gap cX5_gap 4 (some .int), .methodLink RX5 40 yX5_fails, .instanceMethod yX5_fails, .selects RX5 yX5_fails yX5_fails, .code yX5_fails cX5_fails 2 (some .int)] ++ wsX50)
def wsX5_gapLength : List Cond := .code yX5_gapLength cX5_gapLength 3 (some .int) :: ([.fieldLink RX5 29 "TwoTownAlmanacModel" "thrown" "I", .methodLink RX5 47 yX5_isTown, .static yX5_isTown, .initialized RX5, .code yX5_isTown cX5_isTown 1 (some .boolean), .methodLink RX5 33 yX5_in, .static yX5_in, .code yX5_in cX5_in 3 (some .boolean), .methodLink RX5 51 yX5_gaps, .instanceMethod yX5_gaps, .selects RX5 yX5_gaps yX5_gaps, .code yX5_gaps cX5_gaps 2 (some .int), .fieldLink RX5 7 "TwoTownAlmanacModel" "row" "[I", .methodLink RX5 54 yX5_gap, .instanceMethod yX5_gap, .selects RX5 yX5_gap yX5_gap, .code yX5_gap cX5_gap 4 (some .int), .methodLink RX5 40 yX5_fails, .instanceMethod yX5_fails, .selects RX5 yX5_fails yX5_fails, .code yX5_fails cX5_fails 2 (some .int)] ++ wsX50)
def wsX5_lengthOf : List Cond := .code yX5_lengthOf cX5_lengthOf 2 (some .int) :: ([])
def wsX5_daysAhead : List Cond := .code yX5_daysAhead cX5_daysAhead 4 (some .int) :: ([.methodLink RX5 58 yX5_lengthOf, .static yX5_lengthOf, .initialized RX5, .code yX5_lengthOf cX5_lengthOf 2 (some .int)])
def wsX5_yearLength : List Cond := .code yX5_yearLength cX5_yearLength 1 (some .int) :: ([.methodLink RX5 62 yX5_daysAhead, .static yX5_daysAhead, .initialized RX5, .code yX5_daysAhead cX5_daysAhead 4 (some .int), .methodLink RX5 58 yX5_lengthOf, .static yX5_lengthOf, .code yX5_lengthOf cX5_lengthOf 2 (some .int)])
def wsX5_monthLength : List Cond := .code yX5_monthLength cX5_monthLength 3 (some .int) :: ([.fieldLink RX5 29 "TwoTownAlmanacModel" "thrown" "I", .methodLink RX5 47 yX5_isTown, .static yX5_isTown, .initialized RX5, .code yX5_isTown cX5_isTown 1 (some .boolean), .methodLink RX5 33 yX5_in, .static yX5_in, .code yX5_in cX5_in 3 (some .boolean), .methodLink RX5 40 yX5_fails, .instanceMethod yX5_fails, .selects RX5 yX5_fails yX5_fails, .code yX5_fails cX5_fails 2 (some .int), .methodLink RX5 58 yX5_lengthOf, .static yX5_lengthOf, .code yX5_lengthOf cX5_lengthOf 2 (some .int)] ++ wsX50)
def wsX5_calendar : List Cond := .code yX5_calendar cX5_calendar 5 (some .int) :: ([.methodLink RX5 51 yX5_gaps, .instanceMethod yX5_gaps, .selects RX5 yX5_gaps yX5_gaps, .initialized RX5, .code yX5_gaps cX5_gaps 2 (some .int), .fieldLink RX5 7 "TwoTownAlmanacModel" "row" "[I", .methodLink RX5 54 yX5_gap, .instanceMethod yX5_gap, .selects RX5 yX5_gap yX5_gap, .code yX5_gap cX5_gap 4 (some .int)] ++ wsX50)
def wsX5_firstDay : List Cond := .code yX5_firstDay cX5_firstDay 7 (some .int) :: ([.methodLink RX5 51 yX5_gaps, .instanceMethod yX5_gaps, .selects RX5 yX5_gaps yX5_gaps, .initialized RX5, .code yX5_gaps cX5_gaps 2 (some .int), .fieldLink RX5 7 "TwoTownAlmanacModel" "row" "[I", .methodLink RX5 54 yX5_gap, .instanceMethod yX5_gap, .selects RX5 yX5_gap yX5_gap, .code yX5_gap cX5_gap 4 (some .int)] ++ wsX50)
def wsX5_yearAt : List Cond := .code yX5_yearAt cX5_yearAt 3 (some .int) :: ([.methodLink RX5 65 yX5_calendar, .instanceMethod yX5_calendar, .selects RX5 yX5_calendar yX5_calendar, .initialized RX5, .code yX5_calendar cX5_calendar 5 (some .int), .methodLink RX5 51 yX5_gaps, .instanceMethod yX5_gaps, .selects RX5 yX5_gaps yX5_gaps, .code yX5_gaps cX5_gaps 2 (some .int), .fieldLink RX5 7 "TwoTownAlmanacModel" "row" "[I", .methodLink RX5 54 yX5_gap, .instanceMethod yX5_gap, .selects RX5 yX5_gap yX5_gap, .code yX5_gap cX5_gap 4 (some .int), .methodLink RX5 68 yX5_yearLength, .static yX5_yearLength, .code yX5_yearLength cX5_yearLength 1 (some .int), .methodLink RX5 62 yX5_daysAhead, .static yX5_daysAhead, .code yX5_daysAhead cX5_daysAhead 4 (some .int), .methodLink RX5 58 yX5_lengthOf, .static yX5_lengthOf, .code yX5_lengthOf cX5_lengthOf 2 (some .int)] ++ wsX50)
def wsX5_monthAt : List Cond := .code yX5_monthAt cX5_monthAt 5 (some .int) :: ([.methodLink RX5 65 yX5_calendar, .instanceMethod yX5_calendar, .selects RX5 yX5_calendar yX5_calendar, .initialized RX5, .code yX5_calendar cX5_calendar 5 (some .int), .methodLink RX5 51 yX5_gaps, .instanceMethod yX5_gaps, .selects RX5 yX5_gaps yX5_gaps, .code yX5_gaps cX5_gaps 2 (some .int), .fieldLink RX5 7 "TwoTownAlmanacModel" "row" "[I", .methodLink RX5 54 yX5_gap, .instanceMethod yX5_gap, .selects RX5 yX5_gap yX5_gap, .code yX5_gap cX5_gap 4 (some .int), .methodLink RX5 68 yX5_yearLength, .static yX5_yearLength, .code yX5_yearLength cX5_yearLength 1 (some .int), .methodLink RX5 62 yX5_daysAhead, .static yX5_daysAhead, .code yX5_daysAhead cX5_daysAhead 4 (some .int), .methodLink RX5 58 yX5_lengthOf, .static yX5_lengthOf, .code yX5_lengthOf cX5_lengthOf 2 (some .int)] ++ wsX50)
def wsX5_dayAt_r1 : List Cond := [Cond.methodLink RX5 65 yX5_calendar, Cond.instanceMethod yX5_calendar, Cond.selects RX5 yX5_calendar yX5_calendar, Cond.initialized RX5, Cond.code yX5_calendar cX5_calendar 5 (some .int), Cond.methodLink RX5 51 yX5_gaps, Cond.instanceMethod yX5_gaps, Cond.selects RX5 yX5_gaps yX5_gaps, Cond.code yX5_gaps cX5_gaps 2 (some .int), Cond.fieldLink RX5 7 "TwoTownAlmanacModel" "row" "[I", Cond.methodLink RX5 54 yX5_gap, Cond.instanceMethod yX5_gap, Cond.selects RX5 yX5_gap yX5_gap, Cond.code yX5_gap cX5_gap 4 (some .int), Cond.methodLink RX5 68 yX5_yearLength, Cond.static yX5_yearLength, Cond.code yX5_yearLength cX5_yearLength 1 (some .int), Cond.methodLink RX5 62 yX5_daysAhead, Cond.static yX5_daysAhead, Cond.code yX5_daysAhead cX5_daysAhead 4 (some .int), Cond.methodLink RX5 58 yX5_lengthOf, Cond.static yX5_lengthOf, Cond.code yX5_lengthOf cX5_lengthOf 2 (some .int), Cond.methodLink RX5 71 yX5_monthAt]
def wsX5_dayAt_r2 : List Cond := [Cond.instanceMethod yX5_monthAt, Cond.selects RX5 yX5_monthAt yX5_monthAt, Cond.code yX5_monthAt cX5_monthAt 5 (some .int)]
def wsX5_dayAt : List Cond := .code yX5_dayAt cX5_dayAt 3 (some .int) :: ((wsX5_dayAt_r1 ++ wsX5_dayAt_r2) ++ wsX50)
def wsX5_dayOfMonth_r1 : List Cond := [Cond.fieldLink RX5 29 "TwoTownAlmanacModel" "thrown" "I", Cond.methodLink RX5 47 yX5_isTown, Cond.static yX5_isTown, Cond.initialized RX5, Cond.code yX5_isTown cX5_isTown 1 (some .boolean), Cond.methodLink RX5 33 yX5_in, Cond.static yX5_in, Cond.code yX5_in cX5_in 3 (some .boolean), Cond.methodLink RX5 40 yX5_fails, Cond.instanceMethod yX5_fails, Cond.selects RX5 yX5_fails yX5_fails, Cond.code yX5_fails cX5_fails 2 (some .int), Cond.methodLink RX5 74 yX5_dayAt, Cond.instanceMethod yX5_dayAt, Cond.selects RX5 yX5_dayAt yX5_dayAt, Cond.code yX5_dayAt cX5_dayAt 3 (some .int), Cond.methodLink RX5 65 yX5_calendar, Cond.instanceMethod yX5_calendar, Cond.selects RX5 yX5_calendar yX5_calendar, Cond.code yX5_calendar cX5_calendar 5 (some .int), Cond.methodLink RX5 51 yX5_gaps, Cond.instanceMethod yX5_gaps, Cond.selects RX5 yX5_gaps yX5_gaps, Cond.code yX5_gaps cX5_gaps 2 (some .int)]
def wsX5_dayOfMonth_r2 : List Cond := [Cond.fieldLink RX5 7 "TwoTownAlmanacModel" "row" "[I", Cond.methodLink RX5 54 yX5_gap, Cond.instanceMethod yX5_gap, Cond.selects RX5 yX5_gap yX5_gap, Cond.code yX5_gap cX5_gap 4 (some .int), Cond.methodLink RX5 68 yX5_yearLength, Cond.static yX5_yearLength, Cond.code yX5_yearLength cX5_yearLength 1 (some .int), Cond.methodLink RX5 62 yX5_daysAhead, Cond.static yX5_daysAhead, Cond.code yX5_daysAhead cX5_daysAhead 4 (some .int), Cond.methodLink RX5 58 yX5_lengthOf, Cond.static yX5_lengthOf, Cond.code yX5_lengthOf cX5_lengthOf 2 (some .int), Cond.methodLink RX5 71 yX5_monthAt, Cond.instanceMethod yX5_monthAt, Cond.selects RX5 yX5_monthAt yX5_monthAt, Cond.code yX5_monthAt cX5_monthAt 5 (some .int)]
def wsX5_dayOfMonth : List Cond := .code yX5_dayOfMonth cX5_dayOfMonth 3 (some .int) :: ((wsX5_dayOfMonth_r1 ++ wsX5_dayOfMonth_r2) ++ wsX50)
def wsX5_monthOf_r1 : List Cond := [Cond.fieldLink RX5 29 "TwoTownAlmanacModel" "thrown" "I", Cond.methodLink RX5 47 yX5_isTown, Cond.static yX5_isTown, Cond.initialized RX5, Cond.code yX5_isTown cX5_isTown 1 (some .boolean), Cond.methodLink RX5 33 yX5_in, Cond.static yX5_in, Cond.code yX5_in cX5_in 3 (some .boolean), Cond.methodLink RX5 40 yX5_fails, Cond.instanceMethod yX5_fails, Cond.selects RX5 yX5_fails yX5_fails, Cond.code yX5_fails cX5_fails 2 (some .int), Cond.methodLink RX5 71 yX5_monthAt, Cond.instanceMethod yX5_monthAt, Cond.selects RX5 yX5_monthAt yX5_monthAt, Cond.code yX5_monthAt cX5_monthAt 5 (some .int), Cond.methodLink RX5 65 yX5_calendar, Cond.instanceMethod yX5_calendar, Cond.selects RX5 yX5_calendar yX5_calendar, Cond.code yX5_calendar cX5_calendar 5 (some .int), Cond.methodLink RX5 51 yX5_gaps, Cond.instanceMethod yX5_gaps, Cond.selects RX5 yX5_gaps yX5_gaps, Cond.code yX5_gaps cX5_gaps 2 (some .int)]
def wsX5_monthOf_r2 : List Cond := [Cond.fieldLink RX5 7 "TwoTownAlmanacModel" "row" "[I", Cond.methodLink RX5 54 yX5_gap, Cond.instanceMethod yX5_gap, Cond.selects RX5 yX5_gap yX5_gap, Cond.code yX5_gap cX5_gap 4 (some .int), Cond.methodLink RX5 68 yX5_yearLength, Cond.static yX5_yearLength, Cond.code yX5_yearLength cX5_yearLength 1 (some .int), Cond.methodLink RX5 62 yX5_daysAhead, Cond.static yX5_daysAhead, Cond.code yX5_daysAhead cX5_daysAhead 4 (some .int), Cond.methodLink RX5 58 yX5_lengthOf, Cond.static yX5_lengthOf, Cond.code yX5_lengthOf cX5_lengthOf 2 (some .int)]
def wsX5_monthOf : List Cond := .code yX5_monthOf cX5_monthOf 3 (some .int) :: ((wsX5_monthOf_r1 ++ wsX5_monthOf_r2) ++ wsX50)
def wsX5_yearOf_r1 : List Cond := [Cond.fieldLink RX5 29 "TwoTownAlmanacModel" "thrown" "I", Cond.methodLink RX5 47 yX5_isTown, Cond.static yX5_isTown, Cond.initialized RX5, Cond.code yX5_isTown cX5_isTown 1 (some .boolean), Cond.methodLink RX5 33 yX5_in, Cond.static yX5_in, Cond.code yX5_in cX5_in 3 (some .boolean), Cond.methodLink RX5 40 yX5_fails, Cond.instanceMethod yX5_fails, Cond.selects RX5 yX5_fails yX5_fails, Cond.code yX5_fails cX5_fails 2 (some .int), Cond.methodLink RX5 77 yX5_yearAt, Cond.instanceMethod yX5_yearAt, Cond.selects RX5 yX5_yearAt yX5_yearAt, Cond.code yX5_yearAt cX5_yearAt 3 (some .int), Cond.methodLink RX5 65 yX5_calendar, Cond.instanceMethod yX5_calendar, Cond.selects RX5 yX5_calendar yX5_calendar, Cond.code yX5_calendar cX5_calendar 5 (some .int), Cond.methodLink RX5 51 yX5_gaps, Cond.instanceMethod yX5_gaps, Cond.selects RX5 yX5_gaps yX5_gaps, Cond.code yX5_gaps cX5_gaps 2 (some .int)]
def wsX5_yearOf_r2 : List Cond := [Cond.fieldLink RX5 7 "TwoTownAlmanacModel" "row" "[I", Cond.methodLink RX5 54 yX5_gap, Cond.instanceMethod yX5_gap, Cond.selects RX5 yX5_gap yX5_gap, Cond.code yX5_gap cX5_gap 4 (some .int), Cond.methodLink RX5 68 yX5_yearLength, Cond.static yX5_yearLength, Cond.code yX5_yearLength cX5_yearLength 1 (some .int), Cond.methodLink RX5 62 yX5_daysAhead, Cond.static yX5_daysAhead, Cond.code yX5_daysAhead cX5_daysAhead 4 (some .int), Cond.methodLink RX5 58 yX5_lengthOf, Cond.static yX5_lengthOf, Cond.code yX5_lengthOf cX5_lengthOf 2 (some .int)]
def wsX5_yearOf : List Cond := .code yX5_yearOf cX5_yearOf 3 (some .int) :: ((wsX5_yearOf_r1 ++ wsX5_yearOf_r2) ++ wsX50)
def wsX5_weekday : List Cond := .code yX5_weekday cX5_weekday 2 (some .int) :: ([.fieldLink RX5 29 "TwoTownAlmanacModel" "thrown" "I", .methodLink RX5 33 yX5_in, .static yX5_in, .initialized RX5, .code yX5_in cX5_in 3 (some .boolean), .methodLink RX5 40 yX5_fails, .instanceMethod yX5_fails, .selects RX5 yX5_fails yX5_fails, .code yX5_fails cX5_fails 2 (some .int)] ++ wsX50)
def wsX5_dayWith_r1 : List Cond := [Cond.methodLink RX5 33 yX5_in, Cond.static yX5_in, Cond.initialized RX5, Cond.code yX5_in cX5_in 3 (some .boolean), Cond.methodLink RX5 58 yX5_lengthOf, Cond.static yX5_lengthOf, Cond.code yX5_lengthOf cX5_lengthOf 2 (some .int), Cond.methodLink RX5 68 yX5_yearLength, Cond.static yX5_yearLength, Cond.code yX5_yearLength cX5_yearLength 1 (some .int), Cond.methodLink RX5 62 yX5_daysAhead, Cond.static yX5_daysAhead, Cond.code yX5_daysAhead cX5_daysAhead 4 (some .int), Cond.methodLink RX5 80 yX5_firstDay, Cond.instanceMethod yX5_firstDay, Cond.selects RX5 yX5_firstDay yX5_firstDay, Cond.code yX5_firstDay cX5_firstDay 7 (some .int), Cond.methodLink RX5 51 yX5_gaps, Cond.instanceMethod yX5_gaps, Cond.selects RX5 yX5_gaps yX5_gaps, Cond.code yX5_gaps cX5_gaps 2 (some .int), Cond.fieldLink RX5 7 "TwoTownAlmanacModel" "row" "[I", Cond.methodLink RX5 54 yX5_gap, Cond.instanceMethod yX5_gap]
def wsX5_dayWith_r2 : List Cond := [Cond.selects RX5 yX5_gap yX5_gap, Cond.code yX5_gap cX5_gap 4 (some .int), Cond.methodLink RX5 65 yX5_calendar, Cond.instanceMethod yX5_calendar, Cond.selects RX5 yX5_calendar yX5_calendar, Cond.code yX5_calendar cX5_calendar 5 (some .int)]
def wsX5_dayWith : List Cond := .code yX5_dayWith cX5_dayWith 7 (some .int) :: ((wsX5_dayWith_r1 ++ wsX5_dayWith_r2) ++ wsX50)
def wsX5_dayOfDate_r1 : List Cond := [Cond.fieldLink RX5 29 "TwoTownAlmanacModel" "thrown" "I", Cond.methodLink RX5 47 yX5_isTown, Cond.static yX5_isTown, Cond.initialized RX5, Cond.code yX5_isTown cX5_isTown 1 (some .boolean), Cond.methodLink RX5 33 yX5_in, Cond.static yX5_in, Cond.code yX5_in cX5_in 3 (some .boolean), Cond.methodLink RX5 40 yX5_fails, Cond.instanceMethod yX5_fails, Cond.selects RX5 yX5_fails yX5_fails, Cond.code yX5_fails cX5_fails 2 (some .int), Cond.methodLink RX5 83 yX5_dayWith, Cond.instanceMethod yX5_dayWith, Cond.selects RX5 yX5_dayWith yX5_dayWith, Cond.code yX5_dayWith cX5_dayWith 7 (some .int), Cond.methodLink RX5 58 yX5_lengthOf, Cond.static yX5_lengthOf, Cond.code yX5_lengthOf cX5_lengthOf 2 (some .int), Cond.methodLink RX5 68 yX5_yearLength, Cond.static yX5_yearLength, Cond.code yX5_yearLength cX5_yearLength 1 (some .int), Cond.methodLink RX5 62 yX5_daysAhead, Cond.static yX5_daysAhead]
def wsX5_dayOfDate_r2 : List Cond := [Cond.code yX5_daysAhead cX5_daysAhead 4 (some .int), Cond.methodLink RX5 80 yX5_firstDay, Cond.instanceMethod yX5_firstDay, Cond.selects RX5 yX5_firstDay yX5_firstDay, Cond.code yX5_firstDay cX5_firstDay 7 (some .int), Cond.methodLink RX5 51 yX5_gaps, Cond.instanceMethod yX5_gaps, Cond.selects RX5 yX5_gaps yX5_gaps, Cond.code yX5_gaps cX5_gaps 2 (some .int), Cond.fieldLink RX5 7 "TwoTownAlmanacModel" "row" "[I", Cond.methodLink RX5 54 yX5_gap, Cond.instanceMethod yX5_gap, Cond.selects RX5 yX5_gap yX5_gap, Cond.code yX5_gap cX5_gap 4 (some .int), Cond.methodLink RX5 65 yX5_calendar, Cond.instanceMethod yX5_calendar, Cond.selects RX5 yX5_calendar yX5_calendar, Cond.code yX5_calendar cX5_calendar 5 (some .int)]
def wsX5_dayOfDate : List Cond := .code yX5_dayOfDate cX5_dayOfDate 5 (some .int) :: ((wsX5_dayOfDate_r1 ++ wsX5_dayOfDate_r2) ++ wsX50)
def wsX5_addFeast : List Cond := .code yX5_addFeast cX5_addFeast 5 (some .int) :: ([.fieldLink RX5 29 "TwoTownAlmanacModel" "thrown" "I", .fieldLink RX5 7 "TwoTownAlmanacModel" "row" "[I", .methodLink RX5 47 yX5_isTown, .static yX5_isTown, .initialized RX5, .code yX5_isTown cX5_isTown 1 (some .boolean), .methodLink RX5 33 yX5_in, .static yX5_in, .code yX5_in cX5_in 3 (some .boolean), .methodLink RX5 40 yX5_fails, .instanceMethod yX5_fails, .selects RX5 yX5_fails yX5_fails, .code yX5_fails cX5_fails 2 (some .int), .methodLink RX5 44 yX5_record, .instanceMethod yX5_record, .selects RX5 yX5_record yX5_record, .code yX5_record cX5_record 2 none, .fieldLink RX5 37 "TwoTownAlmanacModel" "states" "I", .fieldLink RX5 13 "TwoTownAlmanacModel" "history" "[I"] ++ wsX50)
def wsX5_barWeekday : List Cond := .code yX5_barWeekday cX5_barWeekday 4 (some .int) :: ([.fieldLink RX5 29 "TwoTownAlmanacModel" "thrown" "I", .fieldLink RX5 7 "TwoTownAlmanacModel" "row" "[I", .methodLink RX5 87 yX5_isFeast, .instanceMethod yX5_isFeast, .selects RX5 yX5_isFeast yX5_isFeast, .initialized RX5, .code yX5_isFeast cX5_isFeast 2 (some .boolean), .methodLink RX5 33 yX5_in, .static yX5_in, .code yX5_in cX5_in 3 (some .boolean), .methodLink RX5 40 yX5_fails, .instanceMethod yX5_fails, .selects RX5 yX5_fails yX5_fails, .code yX5_fails cX5_fails 2 (some .int), .methodLink RX5 44 yX5_record, .instanceMethod yX5_record, .selects RX5 yX5_record yX5_record, .code yX5_record cX5_record 2 none, .fieldLink RX5 37 "TwoTownAlmanacModel" "states" "I", .fieldLink RX5 13 "TwoTownAlmanacModel" "history" "[I", .methodLink RX5 90 yX5_feast, .instanceMethod yX5_feast, .selects RX5 yX5_feast yX5_feast, .code yX5_feast cX5_feast 3 (some .int)] ++ wsX50)
def wsX5_allowAllWeekdays : List Cond := .code yX5_allowAllWeekdays cX5_allowAllWeekdays 3 (some .int) :: ([.fieldLink RX5 29 "TwoTownAlmanacModel" "thrown" "I", .fieldLink RX5 7 "TwoTownAlmanacModel" "row" "[I", .methodLink RX5 87 yX5_isFeast, .instanceMethod yX5_isFeast, .selects RX5 yX5_isFeast yX5_isFeast, .initialized RX5, .code yX5_isFeast cX5_isFeast 2 (some .boolean), .methodLink RX5 33 yX5_in, .static yX5_in, .code yX5_in cX5_in 3 (some .boolean), .methodLink RX5 40 yX5_fails, .instanceMethod yX5_fails, .selects RX5 yX5_fails yX5_fails, .code yX5_fails cX5_fails 2 (some .int), .methodLink RX5 90 yX5_feast, .instanceMethod yX5_feast, .selects RX5 yX5_feast yX5_feast, .code yX5_feast cX5_feast 3 (some .int), .methodLink RX5 44 yX5_record, .instanceMethod yX5_record, .selects RX5 yX5_record yX5_record, .code yX5_record cX5_record 2 none, .fieldLink RX5 37 "TwoTownAlmanacModel" "states" "I", .fieldLink RX5 13 "TwoTownAlmanacModel" "history" "[I"] ++ wsX50)
def wsX5_feastCount : List Cond := .code yX5_feastCount cX5_feastCount 1 (some .int) :: ([.fieldLink RX5 29 "TwoTownAlmanacModel" "thrown" "I", .fieldLink RX5 7 "TwoTownAlmanacModel" "row" "[I"] ++ wsX50)
def wsX5_feastTown : List Cond := .code yX5_feastTown cX5_feastTown 2 (some .int) :: ([.fieldLink RX5 29 "TwoTownAlmanacModel" "thrown" "I", .methodLink RX5 87 yX5_isFeast, .instanceMethod yX5_isFeast, .selects RX5 yX5_isFeast yX5_isFeast, .initialized RX5, .code yX5_isFeast cX5_isFeast 2 (some .boolean), .fieldLink RX5 7 "TwoTownAlmanacModel" "row" "[I", .methodLink RX5 33 yX5_in, .static yX5_in, .code yX5_in cX5_in 3 (some .boolean), .methodLink RX5 90 yX5_feast, .instanceMethod yX5_feast, .selects RX5 yX5_feast yX5_feast, .code yX5_feast cX5_feast 3 (some .int), .methodLink RX5 40 yX5_fails, .instanceMethod yX5_fails, .selects RX5 yX5_fails yX5_fails, .code yX5_fails cX5_fails 2 (some .int)] ++ wsX50)
def wsX5_barredWeekday : List Cond := .code yX5_barredWeekday cX5_barredWeekday 2 (some .int) :: ([.fieldLink RX5 29 "TwoTownAlmanacModel" "thrown" "I", .methodLink RX5 87 yX5_isFeast, .instanceMethod yX5_isFeast, .selects RX5 yX5_isFeast yX5_isFeast, .initialized RX5, .code yX5_isFeast cX5_isFeast 2 (some .boolean), .fieldLink RX5 7 "TwoTownAlmanacModel" "row" "[I", .methodLink RX5 33 yX5_in, .static yX5_in, .code yX5_in cX5_in 3 (some .boolean), .methodLink RX5 90 yX5_feast, .instanceMethod yX5_feast, .selects RX5 yX5_feast yX5_feast, .code yX5_feast cX5_feast 3 (some .int), .methodLink RX5 40 yX5_fails, .instanceMethod yX5_fails, .selects RX5 yX5_fails yX5_fails, .code yX5_fails cX5_fails 2 (some .int)] ++ wsX50)
def wsX5_due_r1 : List Cond := [Cond.methodLink RX5 90 yX5_feast, Cond.instanceMethod yX5_feast, Cond.selects RX5 yX5_feast yX5_feast, Cond.initialized RX5, Cond.code yX5_feast cX5_feast 3 (some .int), Cond.fieldLink RX5 7 "TwoTownAlmanacModel" "row" "[I", Cond.methodLink RX5 58 yX5_lengthOf, Cond.static yX5_lengthOf, Cond.code yX5_lengthOf cX5_lengthOf 2 (some .int), Cond.methodLink RX5 68 yX5_yearLength, Cond.static yX5_yearLength, Cond.code yX5_yearLength cX5_yearLength 1 (some .int), Cond.methodLink RX5 62 yX5_daysAhead, Cond.static yX5_daysAhead, Cond.code yX5_daysAhead cX5_daysAhead 4 (some .int), Cond.methodLink RX5 80 yX5_firstDay, Cond.instanceMethod yX5_firstDay, Cond.selects RX5 yX5_firstDay yX5_firstDay, Cond.code yX5_firstDay cX5_firstDay 7 (some .int), Cond.methodLink RX5 51 yX5_gaps, Cond.instanceMethod yX5_gaps, Cond.selects RX5 yX5_gaps yX5_gaps, Cond.code yX5_gaps cX5_gaps 2 (some .int), Cond.methodLink RX5 54 yX5_gap]
def wsX5_due_r2 : List Cond := [Cond.instanceMethod yX5_gap, Cond.selects RX5 yX5_gap yX5_gap, Cond.code yX5_gap cX5_gap 4 (some .int), Cond.methodLink RX5 65 yX5_calendar, Cond.instanceMethod yX5_calendar, Cond.selects RX5 yX5_calendar yX5_calendar, Cond.code yX5_calendar cX5_calendar 5 (some .int)]
def wsX5_due : List Cond := .code yX5_due cX5_due 10 (some .int) :: ((wsX5_due_r1 ++ wsX5_due_r2) ++ wsX50)
def wsX5_kept_r1 : List Cond := [Cond.fieldLink RX5 7 "TwoTownAlmanacModel" "row" "[I", Cond.methodLink RX5 93 yX5_due, Cond.instanceMethod yX5_due, Cond.selects RX5 yX5_due yX5_due, Cond.initialized RX5, Cond.code yX5_due cX5_due 10 (some .int), Cond.methodLink RX5 90 yX5_feast, Cond.instanceMethod yX5_feast, Cond.selects RX5 yX5_feast yX5_feast, Cond.code yX5_feast cX5_feast 3 (some .int), Cond.methodLink RX5 58 yX5_lengthOf, Cond.static yX5_lengthOf, Cond.code yX5_lengthOf cX5_lengthOf 2 (some .int), Cond.methodLink RX5 68 yX5_yearLength, Cond.static yX5_yearLength, Cond.code yX5_yearLength cX5_yearLength 1 (some .int), Cond.methodLink RX5 62 yX5_daysAhead, Cond.static yX5_daysAhead, Cond.code yX5_daysAhead cX5_daysAhead 4 (some .int), Cond.methodLink RX5 80 yX5_firstDay, Cond.instanceMethod yX5_firstDay, Cond.selects RX5 yX5_firstDay yX5_firstDay, Cond.code yX5_firstDay cX5_firstDay 7 (some .int), Cond.methodLink RX5 51 yX5_gaps]
def wsX5_kept_r2 : List Cond := [Cond.instanceMethod yX5_gaps, Cond.selects RX5 yX5_gaps yX5_gaps, Cond.code yX5_gaps cX5_gaps 2 (some .int), Cond.methodLink RX5 54 yX5_gap, Cond.instanceMethod yX5_gap, Cond.selects RX5 yX5_gap yX5_gap, Cond.code yX5_gap cX5_gap 4 (some .int), Cond.methodLink RX5 65 yX5_calendar, Cond.instanceMethod yX5_calendar, Cond.selects RX5 yX5_calendar yX5_calendar, Cond.code yX5_calendar cX5_calendar 5 (some .int)]
def wsX5_kept : List Cond := .code yX5_kept cX5_kept 5 (some .int) :: ((wsX5_kept_r1 ++ wsX5_kept_r2) ++ wsX50)
def wsX5_dayDue_r1 : List Cond := [Cond.fieldLink RX5 29 "TwoTownAlmanacModel" "thrown" "I", Cond.methodLink RX5 87 yX5_isFeast, Cond.instanceMethod yX5_isFeast, Cond.selects RX5 yX5_isFeast yX5_isFeast, Cond.initialized RX5, Cond.code yX5_isFeast cX5_isFeast 2 (some .boolean), Cond.fieldLink RX5 7 "TwoTownAlmanacModel" "row" "[I", Cond.methodLink RX5 33 yX5_in, Cond.static yX5_in, Cond.code yX5_in cX5_in 3 (some .boolean), Cond.methodLink RX5 40 yX5_fails, Cond.instanceMethod yX5_fails, Cond.selects RX5 yX5_fails yX5_fails, Cond.code yX5_fails cX5_fails 2 (some .int), Cond.methodLink RX5 93 yX5_due, Cond.instanceMethod yX5_due, Cond.selects RX5 yX5_due yX5_due, Cond.code yX5_due cX5_due 10 (some .int), Cond.methodLink RX5 90 yX5_feast, Cond.instanceMethod yX5_feast, Cond.selects RX5 yX5_feast yX5_feast, Cond.code yX5_feast cX5_feast 3 (some .int), Cond.methodLink RX5 58 yX5_lengthOf, Cond.static yX5_lengthOf]
def wsX5_dayDue_r2 : List Cond := [Cond.code yX5_lengthOf cX5_lengthOf 2 (some .int), Cond.methodLink RX5 68 yX5_yearLength, Cond.static yX5_yearLength, Cond.code yX5_yearLength cX5_yearLength 1 (some .int), Cond.methodLink RX5 62 yX5_daysAhead, Cond.static yX5_daysAhead, Cond.code yX5_daysAhead cX5_daysAhead 4 (some .int), Cond.methodLink RX5 80 yX5_firstDay, Cond.instanceMethod yX5_firstDay, Cond.selects RX5 yX5_firstDay yX5_firstDay, Cond.code yX5_firstDay cX5_firstDay 7 (some .int), Cond.methodLink RX5 51 yX5_gaps, Cond.instanceMethod yX5_gaps, Cond.selects RX5 yX5_gaps yX5_gaps, Cond.code yX5_gaps cX5_gaps 2 (some .int), Cond.methodLink RX5 54 yX5_gap, Cond.instanceMethod yX5_gap, Cond.selects RX5 yX5_gap yX5_gap, Cond.code yX5_gap cX5_gap 4 (some .int), Cond.methodLink RX5 65 yX5_calendar, Cond.instanceMethod yX5_calendar, Cond.selects RX5 yX5_calendar yX5_calendar, Cond.code yX5_calendar cX5_calendar 5 (some .int)]
def wsX5_dayDue : List Cond := .code yX5_dayDue cX5_dayDue 3 (some .int) :: ((wsX5_dayDue_r1 ++ wsX5_dayDue_r2) ++ wsX50)
def wsX5_dayKept_r1 : List Cond := [Cond.fieldLink RX5 29 "TwoTownAlmanacModel" "thrown" "I", Cond.methodLink RX5 87 yX5_isFeast, Cond.instanceMethod yX5_isFeast, Cond.selects RX5 yX5_isFeast yX5_isFeast, Cond.initialized RX5, Cond.code yX5_isFeast cX5_isFeast 2 (some .boolean), Cond.fieldLink RX5 7 "TwoTownAlmanacModel" "row" "[I", Cond.methodLink RX5 33 yX5_in, Cond.static yX5_in, Cond.code yX5_in cX5_in 3 (some .boolean), Cond.methodLink RX5 40 yX5_fails, Cond.instanceMethod yX5_fails, Cond.selects RX5 yX5_fails yX5_fails, Cond.code yX5_fails cX5_fails 2 (some .int), Cond.methodLink RX5 96 yX5_kept, Cond.instanceMethod yX5_kept, Cond.selects RX5 yX5_kept yX5_kept, Cond.code yX5_kept cX5_kept 5 (some .int), Cond.methodLink RX5 93 yX5_due, Cond.instanceMethod yX5_due, Cond.selects RX5 yX5_due yX5_due, Cond.code yX5_due cX5_due 10 (some .int), Cond.methodLink RX5 90 yX5_feast, Cond.instanceMethod yX5_feast]
def wsX5_dayKept_r2 : List Cond := [Cond.selects RX5 yX5_feast yX5_feast, Cond.code yX5_feast cX5_feast 3 (some .int), Cond.methodLink RX5 58 yX5_lengthOf, Cond.static yX5_lengthOf, Cond.code yX5_lengthOf cX5_lengthOf 2 (some .int), Cond.methodLink RX5 68 yX5_yearLength, Cond.static yX5_yearLength, Cond.code yX5_yearLength cX5_yearLength 1 (some .int), Cond.methodLink RX5 62 yX5_daysAhead, Cond.static yX5_daysAhead, Cond.code yX5_daysAhead cX5_daysAhead 4 (some .int), Cond.methodLink RX5 80 yX5_firstDay, Cond.instanceMethod yX5_firstDay, Cond.selects RX5 yX5_firstDay yX5_firstDay, Cond.code yX5_firstDay cX5_firstDay 7 (some .int), Cond.methodLink RX5 51 yX5_gaps, Cond.instanceMethod yX5_gaps, Cond.selects RX5 yX5_gaps yX5_gaps, Cond.code yX5_gaps cX5_gaps 2 (some .int), Cond.methodLink RX5 54 yX5_gap, Cond.instanceMethod yX5_gap, Cond.selects RX5 yX5_gap yX5_gap, Cond.code yX5_gap cX5_gap 4 (some .int), Cond.methodLink RX5 65 yX5_calendar]
def wsX5_dayKept_r3 : List Cond := [Cond.instanceMethod yX5_calendar, Cond.selects RX5 yX5_calendar yX5_calendar, Cond.code yX5_calendar cX5_calendar 5 (some .int)]
def wsX5_dayKept : List Cond := .code yX5_dayKept cX5_dayKept 3 (some .int) :: ((wsX5_dayKept_r1 ++ (wsX5_dayKept_r2 ++ wsX5_dayKept_r3)) ++ wsX50)
def wsX5_isOn_r1 : List Cond := [Cond.methodLink RX5 90 yX5_feast, Cond.instanceMethod yX5_feast, Cond.selects RX5 yX5_feast yX5_feast, Cond.initialized RX5, Cond.code yX5_feast cX5_feast 3 (some .int), Cond.fieldLink RX5 7 "TwoTownAlmanacModel" "row" "[I", Cond.methodLink RX5 77 yX5_yearAt, Cond.instanceMethod yX5_yearAt, Cond.selects RX5 yX5_yearAt yX5_yearAt, Cond.code yX5_yearAt cX5_yearAt 3 (some .int), Cond.methodLink RX5 65 yX5_calendar, Cond.instanceMethod yX5_calendar, Cond.selects RX5 yX5_calendar yX5_calendar, Cond.code yX5_calendar cX5_calendar 5 (some .int), Cond.methodLink RX5 51 yX5_gaps, Cond.instanceMethod yX5_gaps, Cond.selects RX5 yX5_gaps yX5_gaps, Cond.code yX5_gaps cX5_gaps 2 (some .int), Cond.methodLink RX5 54 yX5_gap, Cond.instanceMethod yX5_gap, Cond.selects RX5 yX5_gap yX5_gap, Cond.code yX5_gap cX5_gap 4 (some .int), Cond.methodLink RX5 68 yX5_yearLength, Cond.static yX5_yearLength]
def wsX5_isOn_r2 : List Cond := [Cond.code yX5_yearLength cX5_yearLength 1 (some .int), Cond.methodLink RX5 62 yX5_daysAhead, Cond.static yX5_daysAhead, Cond.code yX5_daysAhead cX5_daysAhead 4 (some .int), Cond.methodLink RX5 58 yX5_lengthOf, Cond.static yX5_lengthOf, Cond.code yX5_lengthOf cX5_lengthOf 2 (some .int), Cond.methodLink RX5 96 yX5_kept, Cond.instanceMethod yX5_kept, Cond.selects RX5 yX5_kept yX5_kept, Cond.code yX5_kept cX5_kept 5 (some .int), Cond.methodLink RX5 93 yX5_due, Cond.instanceMethod yX5_due, Cond.selects RX5 yX5_due yX5_due, Cond.code yX5_due cX5_due 10 (some .int), Cond.methodLink RX5 80 yX5_firstDay, Cond.instanceMethod yX5_firstDay, Cond.selects RX5 yX5_firstDay yX5_firstDay, Cond.code yX5_firstDay cX5_firstDay 7 (some .int)]
def wsX5_isOn : List Cond := .code yX5_isOn cX5_isOn 4 (some .boolean) :: ((wsX5_isOn_r1 ++ wsX5_isOn_r2) ++ wsX50)
def wsX5_isKept_r1 : List Cond := [Cond.fieldLink RX5 29 "TwoTownAlmanacModel" "thrown" "I", Cond.methodLink RX5 87 yX5_isFeast, Cond.instanceMethod yX5_isFeast, Cond.selects RX5 yX5_isFeast yX5_isFeast, Cond.initialized RX5, Cond.code yX5_isFeast cX5_isFeast 2 (some .boolean), Cond.fieldLink RX5 7 "TwoTownAlmanacModel" "row" "[I", Cond.methodLink RX5 33 yX5_in, Cond.static yX5_in, Cond.code yX5_in cX5_in 3 (some .boolean), Cond.methodLink RX5 40 yX5_fails, Cond.instanceMethod yX5_fails, Cond.selects RX5 yX5_fails yX5_fails, Cond.code yX5_fails cX5_fails 2 (some .int), Cond.methodLink RX5 99 yX5_isOn, Cond.instanceMethod yX5_isOn, Cond.selects RX5 yX5_isOn yX5_isOn, Cond.code yX5_isOn cX5_isOn 4 (some .boolean), Cond.methodLink RX5 90 yX5_feast, Cond.instanceMethod yX5_feast, Cond.selects RX5 yX5_feast yX5_feast, Cond.code yX5_feast cX5_feast 3 (some .int), Cond.methodLink RX5 77 yX5_yearAt, Cond.instanceMethod yX5_yearAt]
def wsX5_isKept_r2 : List Cond := [Cond.selects RX5 yX5_yearAt yX5_yearAt, Cond.code yX5_yearAt cX5_yearAt 3 (some .int), Cond.methodLink RX5 65 yX5_calendar, Cond.instanceMethod yX5_calendar, Cond.selects RX5 yX5_calendar yX5_calendar, Cond.code yX5_calendar cX5_calendar 5 (some .int), Cond.methodLink RX5 51 yX5_gaps, Cond.instanceMethod yX5_gaps, Cond.selects RX5 yX5_gaps yX5_gaps, Cond.code yX5_gaps cX5_gaps 2 (some .int), Cond.methodLink RX5 54 yX5_gap, Cond.instanceMethod yX5_gap, Cond.selects RX5 yX5_gap yX5_gap, Cond.code yX5_gap cX5_gap 4 (some .int), Cond.methodLink RX5 68 yX5_yearLength, Cond.static yX5_yearLength, Cond.code yX5_yearLength cX5_yearLength 1 (some .int), Cond.methodLink RX5 62 yX5_daysAhead, Cond.static yX5_daysAhead, Cond.code yX5_daysAhead cX5_daysAhead 4 (some .int), Cond.methodLink RX5 58 yX5_lengthOf, Cond.static yX5_lengthOf, Cond.code yX5_lengthOf cX5_lengthOf 2 (some .int), Cond.methodLink RX5 96 yX5_kept]
def wsX5_isKept_r3 : List Cond := [Cond.instanceMethod yX5_kept, Cond.selects RX5 yX5_kept yX5_kept, Cond.code yX5_kept cX5_kept 5 (some .int), Cond.methodLink RX5 93 yX5_due, Cond.instanceMethod yX5_due, Cond.selects RX5 yX5_due yX5_due, Cond.code yX5_due cX5_due 10 (some .int), Cond.methodLink RX5 80 yX5_firstDay, Cond.instanceMethod yX5_firstDay, Cond.selects RX5 yX5_firstDay yX5_firstDay, Cond.code yX5_firstDay cX5_firstDay 7 (some .int)]
def wsX5_isKept : List Cond := .code yX5_isKept cX5_isKept 3 (some .boolean) :: ((wsX5_isKept_r1 ++ (wsX5_isKept_r2 ++ wsX5_isKept_r3)) ++ wsX50)
def wsX5_setOn_r1 : List Cond := [Cond.fieldLink RX5 7 "TwoTownAlmanacModel" "row" "[I", Cond.methodLink RX5 99 yX5_isOn, Cond.instanceMethod yX5_isOn, Cond.selects RX5 yX5_isOn yX5_isOn, Cond.initialized RX5, Cond.code yX5_isOn cX5_isOn 4 (some .boolean), Cond.methodLink RX5 90 yX5_feast, Cond.instanceMethod yX5_feast, Cond.selects RX5 yX5_feast yX5_feast, Cond.code yX5_feast cX5_feast 3 (some .int), Cond.methodLink RX5 77 yX5_yearAt, Cond.instanceMethod yX5_yearAt, Cond.selects RX5 yX5_yearAt yX5_yearAt, Cond.code yX5_yearAt cX5_yearAt 3 (some .int), Cond.methodLink RX5 65 yX5_calendar, Cond.instanceMethod yX5_calendar, Cond.selects RX5 yX5_calendar yX5_calendar, Cond.code yX5_calendar cX5_calendar 5 (some .int), Cond.methodLink RX5 51 yX5_gaps, Cond.instanceMethod yX5_gaps, Cond.selects RX5 yX5_gaps yX5_gaps, Cond.code yX5_gaps cX5_gaps 2 (some .int), Cond.methodLink RX5 54 yX5_gap, Cond.instanceMethod yX5_gap]
def wsX5_setOn_r2 : List Cond := [Cond.selects RX5 yX5_gap yX5_gap, Cond.code yX5_gap cX5_gap 4 (some .int), Cond.methodLink RX5 68 yX5_yearLength, Cond.static yX5_yearLength, Cond.code yX5_yearLength cX5_yearLength 1 (some .int), Cond.methodLink RX5 62 yX5_daysAhead, Cond.static yX5_daysAhead, Cond.code yX5_daysAhead cX5_daysAhead 4 (some .int), Cond.methodLink RX5 58 yX5_lengthOf, Cond.static yX5_lengthOf, Cond.code yX5_lengthOf cX5_lengthOf 2 (some .int), Cond.methodLink RX5 96 yX5_kept, Cond.instanceMethod yX5_kept, Cond.selects RX5 yX5_kept yX5_kept, Cond.code yX5_kept cX5_kept 5 (some .int), Cond.methodLink RX5 93 yX5_due, Cond.instanceMethod yX5_due, Cond.selects RX5 yX5_due yX5_due, Cond.code yX5_due cX5_due 10 (some .int), Cond.methodLink RX5 80 yX5_firstDay, Cond.instanceMethod yX5_firstDay, Cond.selects RX5 yX5_firstDay yX5_firstDay, Cond.code yX5_firstDay cX5_firstDay 7 (some .int)]
def wsX5_setOn : List Cond := .code yX5_setOn cX5_setOn 4 (some .int) :: ((wsX5_setOn_r1 ++ wsX5_setOn_r2) ++ wsX50)
def wsX5_ofTown : List Cond := .code yX5_ofTown cX5_ofTown 5 (some .int) :: ([.fieldLink RX5 7 "TwoTownAlmanacModel" "row" "[I", .methodLink RX5 90 yX5_feast, .instanceMethod yX5_feast, .selects RX5 yX5_feast yX5_feast, .initialized RX5, .code yX5_feast cX5_feast 3 (some .int)] ++ wsX50)
def wsX5_quarrels_r1 : List Cond := [Cond.methodLink RX5 103 yX5_setOn, Cond.instanceMethod yX5_setOn, Cond.selects RX5 yX5_setOn yX5_setOn, Cond.initialized RX5, Cond.code yX5_setOn cX5_setOn 4 (some .int), Cond.fieldLink RX5 7 "TwoTownAlmanacModel" "row" "[I", Cond.methodLink RX5 99 yX5_isOn, Cond.instanceMethod yX5_isOn, Cond.selects RX5 yX5_isOn yX5_isOn, Cond.code yX5_isOn cX5_isOn 4 (some .boolean), Cond.methodLink RX5 90 yX5_feast, Cond.instanceMethod yX5_feast, Cond.selects RX5 yX5_feast yX5_feast, Cond.code yX5_feast cX5_feast 3 (some .int), Cond.methodLink RX5 77 yX5_yearAt, Cond.instanceMethod yX5_yearAt, Cond.selects RX5 yX5_yearAt yX5_yearAt, Cond.code yX5_yearAt cX5_yearAt 3 (some .int), Cond.methodLink RX5 65 yX5_calendar, Cond.instanceMethod yX5_calendar, Cond.selects RX5 yX5_calendar yX5_calendar, Cond.code yX5_calendar cX5_calendar 5 (some .int), Cond.methodLink RX5 51 yX5_gaps, Cond.instanceMethod yX5_gaps]
def wsX5_quarrels_r2 : List Cond := [Cond.selects RX5 yX5_gaps yX5_gaps, Cond.code yX5_gaps cX5_gaps 2 (some .int), Cond.methodLink RX5 54 yX5_gap, Cond.instanceMethod yX5_gap, Cond.selects RX5 yX5_gap yX5_gap, Cond.code yX5_gap cX5_gap 4 (some .int), Cond.methodLink RX5 68 yX5_yearLength, Cond.static yX5_yearLength, Cond.code yX5_yearLength cX5_yearLength 1 (some .int), Cond.methodLink RX5 62 yX5_daysAhead, Cond.static yX5_daysAhead, Cond.code yX5_daysAhead cX5_daysAhead 4 (some .int), Cond.methodLink RX5 58 yX5_lengthOf, Cond.static yX5_lengthOf, Cond.code yX5_lengthOf cX5_lengthOf 2 (some .int), Cond.methodLink RX5 96 yX5_kept, Cond.instanceMethod yX5_kept, Cond.selects RX5 yX5_kept yX5_kept, Cond.code yX5_kept cX5_kept 5 (some .int), Cond.methodLink RX5 93 yX5_due, Cond.instanceMethod yX5_due, Cond.selects RX5 yX5_due yX5_due, Cond.code yX5_due cX5_due 10 (some .int), Cond.methodLink RX5 80 yX5_firstDay]
def wsX5_quarrels_r3 : List Cond := [Cond.instanceMethod yX5_firstDay, Cond.selects RX5 yX5_firstDay yX5_firstDay, Cond.code yX5_firstDay cX5_firstDay 7 (some .int), Cond.methodLink RX5 106 yX5_ofTown, Cond.instanceMethod yX5_ofTown, Cond.selects RX5 yX5_ofTown yX5_ofTown, Cond.code yX5_ofTown cX5_ofTown 5 (some .int)]
def wsX5_quarrels : List Cond := .code yX5_quarrels cX5_quarrels 3 (some .boolean) :: ((wsX5_quarrels_r1 ++ (wsX5_quarrels_r2 ++ wsX5_quarrels_r3)) ++ wsX50)
def wsX5_feastsOn_r1 : List Cond := [Cond.fieldLink RX5 29 "TwoTownAlmanacModel" "thrown" "I", Cond.methodLink RX5 33 yX5_in, Cond.static yX5_in, Cond.initialized RX5, Cond.code yX5_in cX5_in 3 (some .boolean), Cond.methodLink RX5 103 yX5_setOn, Cond.instanceMethod yX5_setOn, Cond.selects RX5 yX5_setOn yX5_setOn, Cond.code yX5_setOn cX5_setOn 4 (some .int), Cond.fieldLink RX5 7 "TwoTownAlmanacModel" "row" "[I", Cond.methodLink RX5 99 yX5_isOn, Cond.instanceMethod yX5_isOn, Cond.selects RX5 yX5_isOn yX5_isOn, Cond.code yX5_isOn cX5_isOn 4 (some .boolean), Cond.methodLink RX5 90 yX5_feast, Cond.instanceMethod yX5_feast, Cond.selects RX5 yX5_feast yX5_feast, Cond.code yX5_feast cX5_feast 3 (some .int), Cond.methodLink RX5 77 yX5_yearAt, Cond.instanceMethod yX5_yearAt, Cond.selects RX5 yX5_yearAt yX5_yearAt, Cond.code yX5_yearAt cX5_yearAt 3 (some .int), Cond.methodLink RX5 65 yX5_calendar, Cond.instanceMethod yX5_calendar]
def wsX5_feastsOn_r2 : List Cond := [Cond.selects RX5 yX5_calendar yX5_calendar, Cond.code yX5_calendar cX5_calendar 5 (some .int), Cond.methodLink RX5 51 yX5_gaps, Cond.instanceMethod yX5_gaps, Cond.selects RX5 yX5_gaps yX5_gaps, Cond.code yX5_gaps cX5_gaps 2 (some .int), Cond.methodLink RX5 54 yX5_gap, Cond.instanceMethod yX5_gap, Cond.selects RX5 yX5_gap yX5_gap, Cond.code yX5_gap cX5_gap 4 (some .int), Cond.methodLink RX5 68 yX5_yearLength, Cond.static yX5_yearLength, Cond.code yX5_yearLength cX5_yearLength 1 (some .int), Cond.methodLink RX5 62 yX5_daysAhead, Cond.static yX5_daysAhead, Cond.code yX5_daysAhead cX5_daysAhead 4 (some .int), Cond.methodLink RX5 58 yX5_lengthOf, Cond.static yX5_lengthOf, Cond.code yX5_lengthOf cX5_lengthOf 2 (some .int), Cond.methodLink RX5 96 yX5_kept, Cond.instanceMethod yX5_kept, Cond.selects RX5 yX5_kept yX5_kept, Cond.code yX5_kept cX5_kept 5 (some .int), Cond.methodLink RX5 93 yX5_due]
def wsX5_feastsOn_r3 : List Cond := [Cond.instanceMethod yX5_due, Cond.selects RX5 yX5_due yX5_due, Cond.code yX5_due cX5_due 10 (some .int), Cond.methodLink RX5 80 yX5_firstDay, Cond.instanceMethod yX5_firstDay, Cond.selects RX5 yX5_firstDay yX5_firstDay, Cond.code yX5_firstDay cX5_firstDay 7 (some .int), Cond.methodLink RX5 40 yX5_fails, Cond.instanceMethod yX5_fails, Cond.selects RX5 yX5_fails yX5_fails, Cond.code yX5_fails cX5_fails 2 (some .int)]
def wsX5_feastsOn : List Cond := .code yX5_feastsOn cX5_feastsOn 2 (some .int) :: ((wsX5_feastsOn_r1 ++ (wsX5_feastsOn_r2 ++ wsX5_feastsOn_r3)) ++ wsX50)
def wsX5_isQuarrel_r1 : List Cond := [Cond.fieldLink RX5 29 "TwoTownAlmanacModel" "thrown" "I", Cond.methodLink RX5 33 yX5_in, Cond.static yX5_in, Cond.initialized RX5, Cond.code yX5_in cX5_in 3 (some .boolean), Cond.methodLink RX5 109 yX5_quarrels, Cond.instanceMethod yX5_quarrels, Cond.selects RX5 yX5_quarrels yX5_quarrels, Cond.code yX5_quarrels cX5_quarrels 3 (some .boolean), Cond.methodLink RX5 103 yX5_setOn, Cond.instanceMethod yX5_setOn, Cond.selects RX5 yX5_setOn yX5_setOn, Cond.code yX5_setOn cX5_setOn 4 (some .int), Cond.fieldLink RX5 7 "TwoTownAlmanacModel" "row" "[I", Cond.methodLink RX5 99 yX5_isOn, Cond.instanceMethod yX5_isOn, Cond.selects RX5 yX5_isOn yX5_isOn, Cond.code yX5_isOn cX5_isOn 4 (some .boolean), Cond.methodLink RX5 90 yX5_feast, Cond.instanceMethod yX5_feast, Cond.selects RX5 yX5_feast yX5_feast, Cond.code yX5_feast cX5_feast 3 (some .int), Cond.methodLink RX5 77 yX5_yearAt, Cond.instanceMethod yX5_yearAt]
def wsX5_isQuarrel_r2 : List Cond := [Cond.selects RX5 yX5_yearAt yX5_yearAt, Cond.code yX5_yearAt cX5_yearAt 3 (some .int), Cond.methodLink RX5 65 yX5_calendar, Cond.instanceMethod yX5_calendar, Cond.selects RX5 yX5_calendar yX5_calendar, Cond.code yX5_calendar cX5_calendar 5 (some .int), Cond.methodLink RX5 51 yX5_gaps, Cond.instanceMethod yX5_gaps, Cond.selects RX5 yX5_gaps yX5_gaps, Cond.code yX5_gaps cX5_gaps 2 (some .int), Cond.methodLink RX5 54 yX5_gap, Cond.instanceMethod yX5_gap, Cond.selects RX5 yX5_gap yX5_gap, Cond.code yX5_gap cX5_gap 4 (some .int), Cond.methodLink RX5 68 yX5_yearLength, Cond.static yX5_yearLength, Cond.code yX5_yearLength cX5_yearLength 1 (some .int), Cond.methodLink RX5 62 yX5_daysAhead, Cond.static yX5_daysAhead, Cond.code yX5_daysAhead cX5_daysAhead 4 (some .int), Cond.methodLink RX5 58 yX5_lengthOf, Cond.static yX5_lengthOf, Cond.code yX5_lengthOf cX5_lengthOf 2 (some .int), Cond.methodLink RX5 96 yX5_kept]
def wsX5_isQuarrel_r3 : List Cond := [Cond.instanceMethod yX5_kept, Cond.selects RX5 yX5_kept yX5_kept, Cond.code yX5_kept cX5_kept 5 (some .int), Cond.methodLink RX5 93 yX5_due, Cond.instanceMethod yX5_due, Cond.selects RX5 yX5_due yX5_due, Cond.code yX5_due cX5_due 10 (some .int), Cond.methodLink RX5 80 yX5_firstDay, Cond.instanceMethod yX5_firstDay, Cond.selects RX5 yX5_firstDay yX5_firstDay, Cond.code yX5_firstDay cX5_firstDay 7 (some .int), Cond.methodLink RX5 106 yX5_ofTown, Cond.instanceMethod yX5_ofTown, Cond.selects RX5 yX5_ofTown yX5_ofTown, Cond.code yX5_ofTown cX5_ofTown 5 (some .int), Cond.methodLink RX5 40 yX5_fails, Cond.instanceMethod yX5_fails, Cond.selects RX5 yX5_fails yX5_fails, Cond.code yX5_fails cX5_fails 2 (some .int)]
def wsX5_isQuarrel : List Cond := .code yX5_isQuarrel cX5_isQuarrel 2 (some .boolean) :: ((wsX5_isQuarrel_r1 ++ (wsX5_isQuarrel_r2 ++ wsX5_isQuarrel_r3)) ++ wsX50)
def wsX5_setShift : List Cond := .code yX5_setShift cX5_setShift 3 (some .int) :: ([.fieldLink RX5 29 "TwoTownAlmanacModel" "thrown" "I", .fieldLink RX5 7 "TwoTownAlmanacModel" "row" "[I", .methodLink RX5 33 yX5_in, .static yX5_in, .initialized RX5, .code yX5_in cX5_in 3 (some .boolean), .methodLink RX5 40 yX5_fails, .instanceMethod yX5_fails, .selects RX5 yX5_fails yX5_fails, .code yX5_fails cX5_fails 2 (some .int), .methodLink RX5 44 yX5_record, .instanceMethod yX5_record, .selects RX5 yX5_record yX5_record, .code yX5_record cX5_record 2 none, .fieldLink RX5 37 "TwoTownAlmanacModel" "states" "I", .fieldLink RX5 13 "TwoTownAlmanacModel" "history" "[I"] ++ wsX50)
def wsX5_shift : List Cond := .code yX5_shift cX5_shift 1 (some .int) :: ([.fieldLink RX5 29 "TwoTownAlmanacModel" "thrown" "I", .fieldLink RX5 7 "TwoTownAlmanacModel" "row" "[I"] ++ wsX50)
def wsX5_setCopiesPerDay : List Cond := .code yX5_setCopiesPerDay cX5_setCopiesPerDay 3 (some .int) :: ([.fieldLink RX5 29 "TwoTownAlmanacModel" "thrown" "I", .fieldLink RX5 7 "TwoTownAlmanacModel" "row" "[I", .methodLink RX5 33 yX5_in, .static yX5_in, .initialized RX5, .code yX5_in cX5_in 3 (some .boolean), .methodLink RX5 40 yX5_fails, .instanceMethod yX5_fails, .selects RX5 yX5_fails yX5_fails, .code yX5_fails cX5_fails 2 (some .int), .methodLink RX5 44 yX5_record, .instanceMethod yX5_record, .selects RX5 yX5_record yX5_record, .code yX5_record cX5_record 2 none, .fieldLink RX5 37 "TwoTownAlmanacModel" "states" "I", .fieldLink RX5 13 "TwoTownAlmanacModel" "history" "[I"] ++ wsX50)
def wsX5_copiesPerDay : List Cond := .code yX5_copiesPerDay cX5_copiesPerDay 1 (some .int) :: ([.fieldLink RX5 29 "TwoTownAlmanacModel" "thrown" "I", .fieldLink RX5 7 "TwoTownAlmanacModel" "row" "[I"] ++ wsX50)
def wsX5_passDays_r1 : List Cond := [Cond.fieldLink RX5 29 "TwoTownAlmanacModel" "thrown" "I", Cond.fieldLink RX5 7 "TwoTownAlmanacModel" "row" "[I", Cond.methodLink RX5 33 yX5_in, Cond.static yX5_in, Cond.initialized RX5, Cond.code yX5_in cX5_in 3 (some .boolean), Cond.methodLink RX5 40 yX5_fails, Cond.instanceMethod yX5_fails, Cond.selects RX5 yX5_fails yX5_fails, Cond.code yX5_fails cX5_fails 2 (some .int), Cond.methodLink RX5 44 yX5_record, Cond.instanceMethod yX5_record, Cond.selects RX5 yX5_record yX5_record, Cond.code yX5_record cX5_record 2 none, Cond.fieldLink RX5 37 "TwoTownAlmanacModel" "states" "I", Cond.fieldLink RX5 13 "TwoTownAlmanacModel" "history" "[I", Cond.methodLink RX5 103 yX5_setOn, Cond.instanceMethod yX5_setOn, Cond.selects RX5 yX5_setOn yX5_setOn, Cond.code yX5_setOn cX5_setOn 4 (some .int), Cond.methodLink RX5 99 yX5_isOn, Cond.instanceMethod yX5_isOn, Cond.selects RX5 yX5_isOn yX5_isOn, Cond.code yX5_isOn cX5_isOn 4 (some .boolean)]
def wsX5_passDays_r2 : List Cond := [Cond.methodLink RX5 90 yX5_feast, Cond.instanceMethod yX5_feast, Cond.selects RX5 yX5_feast yX5_feast, Cond.code yX5_feast cX5_feast 3 (some .int), Cond.methodLink RX5 77 yX5_yearAt, Cond.instanceMethod yX5_yearAt, Cond.selects RX5 yX5_yearAt yX5_yearAt, Cond.code yX5_yearAt cX5_yearAt 3 (some .int), Cond.methodLink RX5 65 yX5_calendar, Cond.instanceMethod yX5_calendar, Cond.selects RX5 yX5_calendar yX5_calendar, Cond.code yX5_calendar cX5_calendar 5 (some .int), Cond.methodLink RX5 51 yX5_gaps, Cond.instanceMethod yX5_gaps, Cond.selects RX5 yX5_gaps yX5_gaps, Cond.code yX5_gaps cX5_gaps 2 (some .int), Cond.methodLink RX5 54 yX5_gap, Cond.instanceMethod yX5_gap, Cond.selects RX5 yX5_gap yX5_gap, Cond.code yX5_gap cX5_gap 4 (some .int), Cond.methodLink RX5 68 yX5_yearLength, Cond.static yX5_yearLength, Cond.code yX5_yearLength cX5_yearLength 1 (some .int), Cond.methodLink RX5 62 yX5_daysAhead]
def wsX5_passDays_r3 : List Cond := [Cond.static yX5_daysAhead, Cond.code yX5_daysAhead cX5_daysAhead 4 (some .int), Cond.methodLink RX5 58 yX5_lengthOf, Cond.static yX5_lengthOf, Cond.code yX5_lengthOf cX5_lengthOf 2 (some .int), Cond.methodLink RX5 96 yX5_kept, Cond.instanceMethod yX5_kept, Cond.selects RX5 yX5_kept yX5_kept, Cond.code yX5_kept cX5_kept 5 (some .int), Cond.methodLink RX5 93 yX5_due, Cond.instanceMethod yX5_due, Cond.selects RX5 yX5_due yX5_due, Cond.code yX5_due cX5_due 10 (some .int), Cond.methodLink RX5 80 yX5_firstDay, Cond.instanceMethod yX5_firstDay, Cond.selects RX5 yX5_firstDay yX5_firstDay, Cond.code yX5_firstDay cX5_firstDay 7 (some .int), Cond.methodLink RX5 106 yX5_ofTown, Cond.instanceMethod yX5_ofTown, Cond.selects RX5 yX5_ofTown yX5_ofTown, Cond.code yX5_ofTown cX5_ofTown 5 (some .int)]
def wsX5_passDays : List Cond := .code yX5_passDays cX5_passDays 7 (some .int) :: ((wsX5_passDays_r1 ++ (wsX5_passDays_r2 ++ wsX5_passDays_r3)) ++ wsX50)
def wsX5_today : List Cond := .code yX5_today cX5_today 1 (some .int) :: ([.fieldLink RX5 29 "TwoTownAlmanacModel" "thrown" "I", .fieldLink RX5 7 "TwoTownAlmanacModel" "row" "[I"] ++ wsX50)
def wsX5_feastsKept : List Cond := .code yX5_feastsKept cX5_feastsKept 2 (some .int) :: ([.fieldLink RX5 29 "TwoTownAlmanacModel" "thrown" "I", .fieldLink RX5 7 "TwoTownAlmanacModel" "row" "[I", .methodLink RX5 47 yX5_isTown, .static yX5_isTown, .initialized RX5, .code yX5_isTown cX5_isTown 1 (some .boolean), .methodLink RX5 33 yX5_in, .static yX5_in, .code yX5_in cX5_in 3 (some .boolean), .methodLink RX5 40 yX5_fails, .instanceMethod yX5_fails, .selects RX5 yX5_fails yX5_fails, .code yX5_fails cX5_fails 2 (some .int)] ++ wsX50)
def wsX5_quarrelCount : List Cond := .code yX5_quarrelCount cX5_quarrelCount 1 (some .int) :: ([.fieldLink RX5 29 "TwoTownAlmanacModel" "thrown" "I", .fieldLink RX5 7 "TwoTownAlmanacModel" "row" "[I"] ++ wsX50)
def wsX5_copiesMade : List Cond := .code yX5_copiesMade cX5_copiesMade 1 (some .int) :: ([.fieldLink RX5 29 "TwoTownAlmanacModel" "thrown" "I", .fieldLink RX5 7 "TwoTownAlmanacModel" "row" "[I"] ++ wsX50)
def wsX5_nextDay_r1 : List Cond := [Cond.fieldLink RX5 29 "TwoTownAlmanacModel" "thrown" "I", Cond.fieldLink RX5 7 "TwoTownAlmanacModel" "row" "[I", Cond.methodLink RX5 87 yX5_isFeast, Cond.instanceMethod yX5_isFeast, Cond.selects RX5 yX5_isFeast yX5_isFeast, Cond.initialized RX5, Cond.code yX5_isFeast cX5_isFeast 2 (some .boolean), Cond.methodLink RX5 33 yX5_in, Cond.static yX5_in, Cond.code yX5_in cX5_in 3 (some .boolean), Cond.methodLink RX5 40 yX5_fails, Cond.instanceMethod yX5_fails, Cond.selects RX5 yX5_fails yX5_fails, Cond.code yX5_fails cX5_fails 2 (some .int), Cond.methodLink RX5 99 yX5_isOn, Cond.instanceMethod yX5_isOn, Cond.selects RX5 yX5_isOn yX5_isOn, Cond.code yX5_isOn cX5_isOn 4 (some .boolean), Cond.methodLink RX5 90 yX5_feast, Cond.instanceMethod yX5_feast, Cond.selects RX5 yX5_feast yX5_feast, Cond.code yX5_feast cX5_feast 3 (some .int), Cond.methodLink RX5 77 yX5_yearAt, Cond.instanceMethod yX5_yearAt]
def wsX5_nextDay_r2 : List Cond := [Cond.selects RX5 yX5_yearAt yX5_yearAt, Cond.code yX5_yearAt cX5_yearAt 3 (some .int), Cond.methodLink RX5 65 yX5_calendar, Cond.instanceMethod yX5_calendar, Cond.selects RX5 yX5_calendar yX5_calendar, Cond.code yX5_calendar cX5_calendar 5 (some .int), Cond.methodLink RX5 51 yX5_gaps, Cond.instanceMethod yX5_gaps, Cond.selects RX5 yX5_gaps yX5_gaps, Cond.code yX5_gaps cX5_gaps 2 (some .int), Cond.methodLink RX5 54 yX5_gap, Cond.instanceMethod yX5_gap, Cond.selects RX5 yX5_gap yX5_gap, Cond.code yX5_gap cX5_gap 4 (some .int), Cond.methodLink RX5 68 yX5_yearLength, Cond.static yX5_yearLength, Cond.code yX5_yearLength cX5_yearLength 1 (some .int), Cond.methodLink RX5 62 yX5_daysAhead, Cond.static yX5_daysAhead, Cond.code yX5_daysAhead cX5_daysAhead 4 (some .int), Cond.methodLink RX5 58 yX5_lengthOf, Cond.static yX5_lengthOf, Cond.code yX5_lengthOf cX5_lengthOf 2 (some .int), Cond.methodLink RX5 96 yX5_kept]
def wsX5_nextDay_r3 : List Cond := [Cond.instanceMethod yX5_kept, Cond.selects RX5 yX5_kept yX5_kept, Cond.code yX5_kept cX5_kept 5 (some .int), Cond.methodLink RX5 93 yX5_due, Cond.instanceMethod yX5_due, Cond.selects RX5 yX5_due yX5_due, Cond.code yX5_due cX5_due 10 (some .int), Cond.methodLink RX5 80 yX5_firstDay, Cond.instanceMethod yX5_firstDay, Cond.selects RX5 yX5_firstDay yX5_firstDay, Cond.code yX5_firstDay cX5_firstDay 7 (some .int)]
def wsX5_nextDay : List Cond := .code yX5_nextDay cX5_nextDay 3 (some .int) :: ((wsX5_nextDay_r1 ++ (wsX5_nextDay_r2 ++ wsX5_nextDay_r3)) ++ wsX50)
def wsX5_daysUntilMeeting_r1 : List Cond := [Cond.fieldLink RX5 29 "TwoTownAlmanacModel" "thrown" "I", Cond.fieldLink RX5 7 "TwoTownAlmanacModel" "row" "[I", Cond.methodLink RX5 87 yX5_isFeast, Cond.instanceMethod yX5_isFeast, Cond.selects RX5 yX5_isFeast yX5_isFeast, Cond.initialized RX5, Cond.code yX5_isFeast cX5_isFeast 2 (some .boolean), Cond.methodLink RX5 33 yX5_in, Cond.static yX5_in, Cond.code yX5_in cX5_in 3 (some .boolean), Cond.methodLink RX5 40 yX5_fails, Cond.instanceMethod yX5_fails, Cond.selects RX5 yX5_fails yX5_fails, Cond.code yX5_fails cX5_fails 2 (some .int), Cond.methodLink RX5 99 yX5_isOn, Cond.instanceMethod yX5_isOn, Cond.selects RX5 yX5_isOn yX5_isOn, Cond.code yX5_isOn cX5_isOn 4 (some .boolean), Cond.methodLink RX5 90 yX5_feast, Cond.instanceMethod yX5_feast, Cond.selects RX5 yX5_feast yX5_feast, Cond.code yX5_feast cX5_feast 3 (some .int), Cond.methodLink RX5 77 yX5_yearAt, Cond.instanceMethod yX5_yearAt]
def wsX5_daysUntilMeeting_r2 : List Cond := [Cond.selects RX5 yX5_yearAt yX5_yearAt, Cond.code yX5_yearAt cX5_yearAt 3 (some .int), Cond.methodLink RX5 65 yX5_calendar, Cond.instanceMethod yX5_calendar, Cond.selects RX5 yX5_calendar yX5_calendar, Cond.code yX5_calendar cX5_calendar 5 (some .int), Cond.methodLink RX5 51 yX5_gaps, Cond.instanceMethod yX5_gaps, Cond.selects RX5 yX5_gaps yX5_gaps, Cond.code yX5_gaps cX5_gaps 2 (some .int), Cond.methodLink RX5 54 yX5_gap, Cond.instanceMethod yX5_gap, Cond.selects RX5 yX5_gap yX5_gap, Cond.code yX5_gap cX5_gap 4 (some .int), Cond.methodLink RX5 68 yX5_yearLength, Cond.static yX5_yearLength, Cond.code yX5_yearLength cX5_yearLength 1 (some .int), Cond.methodLink RX5 62 yX5_daysAhead, Cond.static yX5_daysAhead, Cond.code yX5_daysAhead cX5_daysAhead 4 (some .int), Cond.methodLink RX5 58 yX5_lengthOf, Cond.static yX5_lengthOf, Cond.code yX5_lengthOf cX5_lengthOf 2 (some .int), Cond.methodLink RX5 96 yX5_kept]
def wsX5_daysUntilMeeting_r3 : List Cond := [Cond.instanceMethod yX5_kept, Cond.selects RX5 yX5_kept yX5_kept, Cond.code yX5_kept cX5_kept 5 (some .int), Cond.methodLink RX5 93 yX5_due, Cond.instanceMethod yX5_due, Cond.selects RX5 yX5_due yX5_due, Cond.code yX5_due cX5_due 10 (some .int), Cond.methodLink RX5 80 yX5_firstDay, Cond.instanceMethod yX5_firstDay, Cond.selects RX5 yX5_firstDay yX5_firstDay, Cond.code yX5_firstDay cX5_firstDay 7 (some .int)]
def wsX5_daysUntilMeeting : List Cond := .code yX5_daysUntilMeeting cX5_daysUntilMeeting 4 (some .int) :: ((wsX5_daysUntilMeeting_r1 ++ (wsX5_daysUntilMeeting_r2 ++ wsX5_daysUntilMeeting_r3)) ++ wsX50)
def wsX5_quarrelsIn_r1 : List Cond := [Cond.fieldLink RX5 7 "TwoTownAlmanacModel" "row" "[I", Cond.methodLink RX5 109 yX5_quarrels, Cond.instanceMethod yX5_quarrels, Cond.selects RX5 yX5_quarrels yX5_quarrels, Cond.initialized RX5, Cond.code yX5_quarrels cX5_quarrels 3 (some .boolean), Cond.methodLink RX5 103 yX5_setOn, Cond.instanceMethod yX5_setOn, Cond.selects RX5 yX5_setOn yX5_setOn, Cond.code yX5_setOn cX5_setOn 4 (some .int), Cond.methodLink RX5 99 yX5_isOn, Cond.instanceMethod yX5_isOn, Cond.selects RX5 yX5_isOn yX5_isOn, Cond.code yX5_isOn cX5_isOn 4 (some .boolean), Cond.methodLink RX5 90 yX5_feast, Cond.instanceMethod yX5_feast, Cond.selects RX5 yX5_feast yX5_feast, Cond.code yX5_feast cX5_feast 3 (some .int), Cond.methodLink RX5 77 yX5_yearAt, Cond.instanceMethod yX5_yearAt, Cond.selects RX5 yX5_yearAt yX5_yearAt, Cond.code yX5_yearAt cX5_yearAt 3 (some .int), Cond.methodLink RX5 65 yX5_calendar, Cond.instanceMethod yX5_calendar]
def wsX5_quarrelsIn_r2 : List Cond := [Cond.selects RX5 yX5_calendar yX5_calendar, Cond.code yX5_calendar cX5_calendar 5 (some .int), Cond.methodLink RX5 51 yX5_gaps, Cond.instanceMethod yX5_gaps, Cond.selects RX5 yX5_gaps yX5_gaps, Cond.code yX5_gaps cX5_gaps 2 (some .int), Cond.methodLink RX5 54 yX5_gap, Cond.instanceMethod yX5_gap, Cond.selects RX5 yX5_gap yX5_gap, Cond.code yX5_gap cX5_gap 4 (some .int), Cond.methodLink RX5 68 yX5_yearLength, Cond.static yX5_yearLength, Cond.code yX5_yearLength cX5_yearLength 1 (some .int), Cond.methodLink RX5 62 yX5_daysAhead, Cond.static yX5_daysAhead, Cond.code yX5_daysAhead cX5_daysAhead 4 (some .int), Cond.methodLink RX5 58 yX5_lengthOf, Cond.static yX5_lengthOf, Cond.code yX5_lengthOf cX5_lengthOf 2 (some .int), Cond.methodLink RX5 96 yX5_kept, Cond.instanceMethod yX5_kept, Cond.selects RX5 yX5_kept yX5_kept, Cond.code yX5_kept cX5_kept 5 (some .int), Cond.methodLink RX5 93 yX5_due]
def wsX5_quarrelsIn_r3 : List Cond := [Cond.instanceMethod yX5_due, Cond.selects RX5 yX5_due yX5_due, Cond.code yX5_due cX5_due 10 (some .int), Cond.methodLink RX5 80 yX5_firstDay, Cond.instanceMethod yX5_firstDay, Cond.selects RX5 yX5_firstDay yX5_firstDay, Cond.code yX5_firstDay cX5_firstDay 7 (some .int), Cond.methodLink RX5 106 yX5_ofTown, Cond.instanceMethod yX5_ofTown, Cond.selects RX5 yX5_ofTown yX5_ofTown, Cond.code yX5_ofTown cX5_ofTown 5 (some .int)]
def wsX5_quarrelsIn : List Cond := .code yX5_quarrelsIn cX5_quarrelsIn 4 (some .int) :: ((wsX5_quarrelsIn_r1 ++ (wsX5_quarrelsIn_r2 ++ wsX5_quarrelsIn_r3)) ++ wsX50)
def wsX5_quarrelsWithin_r1 : List Cond := [Cond.fieldLink RX5 29 "TwoTownAlmanacModel" "thrown" "I", Cond.methodLink RX5 33 yX5_in, Cond.static yX5_in, Cond.initialized RX5, Cond.code yX5_in cX5_in 3 (some .boolean), Cond.methodLink RX5 112 yX5_quarrelsIn, Cond.instanceMethod yX5_quarrelsIn, Cond.selects RX5 yX5_quarrelsIn yX5_quarrelsIn, Cond.code yX5_quarrelsIn cX5_quarrelsIn 4 (some .int), Cond.fieldLink RX5 7 "TwoTownAlmanacModel" "row" "[I", Cond.methodLink RX5 109 yX5_quarrels, Cond.instanceMethod yX5_quarrels, Cond.selects RX5 yX5_quarrels yX5_quarrels, Cond.code yX5_quarrels cX5_quarrels 3 (some .boolean), Cond.methodLink RX5 103 yX5_setOn, Cond.instanceMethod yX5_setOn, Cond.selects RX5 yX5_setOn yX5_setOn, Cond.code yX5_setOn cX5_setOn 4 (some .int), Cond.methodLink RX5 99 yX5_isOn, Cond.instanceMethod yX5_isOn, Cond.selects RX5 yX5_isOn yX5_isOn, Cond.code yX5_isOn cX5_isOn 4 (some .boolean), Cond.methodLink RX5 90 yX5_feast, Cond.instanceMethod yX5_feast]
def wsX5_quarrelsWithin_r2 : List Cond := [Cond.selects RX5 yX5_feast yX5_feast, Cond.code yX5_feast cX5_feast 3 (some .int), Cond.methodLink RX5 77 yX5_yearAt, Cond.instanceMethod yX5_yearAt, Cond.selects RX5 yX5_yearAt yX5_yearAt, Cond.code yX5_yearAt cX5_yearAt 3 (some .int), Cond.methodLink RX5 65 yX5_calendar, Cond.instanceMethod yX5_calendar, Cond.selects RX5 yX5_calendar yX5_calendar, Cond.code yX5_calendar cX5_calendar 5 (some .int), Cond.methodLink RX5 51 yX5_gaps, Cond.instanceMethod yX5_gaps, Cond.selects RX5 yX5_gaps yX5_gaps, Cond.code yX5_gaps cX5_gaps 2 (some .int), Cond.methodLink RX5 54 yX5_gap, Cond.instanceMethod yX5_gap, Cond.selects RX5 yX5_gap yX5_gap, Cond.code yX5_gap cX5_gap 4 (some .int), Cond.methodLink RX5 68 yX5_yearLength, Cond.static yX5_yearLength, Cond.code yX5_yearLength cX5_yearLength 1 (some .int), Cond.methodLink RX5 62 yX5_daysAhead, Cond.static yX5_daysAhead, Cond.code yX5_daysAhead cX5_daysAhead 4 (some .int)]
def wsX5_quarrelsWithin_r3 : List Cond := [Cond.methodLink RX5 58 yX5_lengthOf, Cond.static yX5_lengthOf, Cond.code yX5_lengthOf cX5_lengthOf 2 (some .int), Cond.methodLink RX5 96 yX5_kept, Cond.instanceMethod yX5_kept, Cond.selects RX5 yX5_kept yX5_kept, Cond.code yX5_kept cX5_kept 5 (some .int), Cond.methodLink RX5 93 yX5_due, Cond.instanceMethod yX5_due, Cond.selects RX5 yX5_due yX5_due, Cond.code yX5_due cX5_due 10 (some .int), Cond.methodLink RX5 80 yX5_firstDay, Cond.instanceMethod yX5_firstDay, Cond.selects RX5 yX5_firstDay yX5_firstDay, Cond.code yX5_firstDay cX5_firstDay 7 (some .int), Cond.methodLink RX5 106 yX5_ofTown, Cond.instanceMethod yX5_ofTown, Cond.selects RX5 yX5_ofTown yX5_ofTown, Cond.code yX5_ofTown cX5_ofTown 5 (some .int), Cond.methodLink RX5 40 yX5_fails, Cond.instanceMethod yX5_fails, Cond.selects RX5 yX5_fails yX5_fails, Cond.code yX5_fails cX5_fails 2 (some .int)]
def wsX5_quarrelsWithin : List Cond := .code yX5_quarrelsWithin cX5_quarrelsWithin 2 (some .int) :: ((wsX5_quarrelsWithin_r1 ++ (wsX5_quarrelsWithin_r2 ++ wsX5_quarrelsWithin_r3)) ++ wsX50)
def wsX5_bestBarredWeekday_r1 : List Cond := [Cond.fieldLink RX5 29 "TwoTownAlmanacModel" "thrown" "I", Cond.fieldLink RX5 7 "TwoTownAlmanacModel" "row" "[I", Cond.methodLink RX5 87 yX5_isFeast, Cond.instanceMethod yX5_isFeast, Cond.selects RX5 yX5_isFeast yX5_isFeast, Cond.initialized RX5, Cond.code yX5_isFeast cX5_isFeast 2 (some .boolean), Cond.methodLink RX5 33 yX5_in, Cond.static yX5_in, Cond.code yX5_in cX5_in 3 (some .boolean), Cond.methodLink RX5 40 yX5_fails, Cond.instanceMethod yX5_fails, Cond.selects RX5 yX5_fails yX5_fails, Cond.code yX5_fails cX5_fails 2 (some .int), Cond.methodLink RX5 112 yX5_quarrelsIn, Cond.instanceMethod yX5_quarrelsIn, Cond.selects RX5 yX5_quarrelsIn yX5_quarrelsIn, Cond.code yX5_quarrelsIn cX5_quarrelsIn 4 (some .int), Cond.methodLink RX5 109 yX5_quarrels, Cond.instanceMethod yX5_quarrels, Cond.selects RX5 yX5_quarrels yX5_quarrels, Cond.code yX5_quarrels cX5_quarrels 3 (some .boolean), Cond.methodLink RX5 103 yX5_setOn, Cond.instanceMethod yX5_setOn]
def wsX5_bestBarredWeekday_r2 : List Cond := [Cond.selects RX5 yX5_setOn yX5_setOn, Cond.code yX5_setOn cX5_setOn 4 (some .int), Cond.methodLink RX5 99 yX5_isOn, Cond.instanceMethod yX5_isOn, Cond.selects RX5 yX5_isOn yX5_isOn, Cond.code yX5_isOn cX5_isOn 4 (some .boolean), Cond.methodLink RX5 90 yX5_feast, Cond.instanceMethod yX5_feast, Cond.selects RX5 yX5_feast yX5_feast, Cond.code yX5_feast cX5_feast 3 (some .int), Cond.methodLink RX5 77 yX5_yearAt, Cond.instanceMethod yX5_yearAt, Cond.selects RX5 yX5_yearAt yX5_yearAt, Cond.code yX5_yearAt cX5_yearAt 3 (some .int), Cond.methodLink RX5 65 yX5_calendar, Cond.instanceMethod yX5_calendar, Cond.selects RX5 yX5_calendar yX5_calendar, Cond.code yX5_calendar cX5_calendar 5 (some .int), Cond.methodLink RX5 51 yX5_gaps, Cond.instanceMethod yX5_gaps, Cond.selects RX5 yX5_gaps yX5_gaps, Cond.code yX5_gaps cX5_gaps 2 (some .int), Cond.methodLink RX5 54 yX5_gap, Cond.instanceMethod yX5_gap]
def wsX5_bestBarredWeekday_r3 : List Cond := [Cond.selects RX5 yX5_gap yX5_gap, Cond.code yX5_gap cX5_gap 4 (some .int), Cond.methodLink RX5 68 yX5_yearLength, Cond.static yX5_yearLength, Cond.code yX5_yearLength cX5_yearLength 1 (some .int), Cond.methodLink RX5 62 yX5_daysAhead, Cond.static yX5_daysAhead, Cond.code yX5_daysAhead cX5_daysAhead 4 (some .int), Cond.methodLink RX5 58 yX5_lengthOf, Cond.static yX5_lengthOf, Cond.code yX5_lengthOf cX5_lengthOf 2 (some .int), Cond.methodLink RX5 96 yX5_kept, Cond.instanceMethod yX5_kept, Cond.selects RX5 yX5_kept yX5_kept, Cond.code yX5_kept cX5_kept 5 (some .int), Cond.methodLink RX5 93 yX5_due, Cond.instanceMethod yX5_due, Cond.selects RX5 yX5_due yX5_due, Cond.code yX5_due cX5_due 10 (some .int), Cond.methodLink RX5 80 yX5_firstDay, Cond.instanceMethod yX5_firstDay, Cond.selects RX5 yX5_firstDay yX5_firstDay, Cond.code yX5_firstDay cX5_firstDay 7 (some .int), Cond.methodLink RX5 106 yX5_ofTown]
def wsX5_bestBarredWeekday_r4 : List Cond := [Cond.instanceMethod yX5_ofTown, Cond.selects RX5 yX5_ofTown yX5_ofTown, Cond.code yX5_ofTown cX5_ofTown 5 (some .int)]
def wsX5_bestBarredWeekday : List Cond := .code yX5_bestBarredWeekday cX5_bestBarredWeekday 8 (some .int) :: ((wsX5_bestBarredWeekday_r1 ++ (wsX5_bestBarredWeekday_r2 ++ (wsX5_bestBarredWeekday_r3 ++ wsX5_bestBarredWeekday_r4))) ++ wsX50)
def wsX5_appendText : List Cond := .code yX5_appendText cX5_appendText 8 (some .int) :: ([.fieldLink RX5 29 "TwoTownAlmanacModel" "thrown" "I", .constantLong RX5 115 (255), .fieldLink RX5 117 "TwoTownAlmanacModel" "length" "I", .fieldLink RX5 23 "TwoTownAlmanacModel" "text" "[I", .methodLink RX5 33 yX5_in, .static yX5_in, .initialized RX5, .code yX5_in cX5_in 3 (some .boolean), .methodLink RX5 40 yX5_fails, .instanceMethod yX5_fails, .selects RX5 yX5_fails yX5_fails, .code yX5_fails cX5_fails 2 (some .int)] ++ wsX50)
def wsX5_clearText : List Cond := .code yX5_clearText cX5_clearText 2 (some .int) :: ([.fieldLink RX5 29 "TwoTownAlmanacModel" "thrown" "I", .fieldLink RX5 117 "TwoTownAlmanacModel" "length" "I"] ++ wsX50)
def wsX5_textLength : List Cond := .code yX5_textLength cX5_textLength 1 (some .int) :: ([.fieldLink RX5 29 "TwoTownAlmanacModel" "thrown" "I", .fieldLink RX5 117 "TwoTownAlmanacModel" "length" "I"] ++ wsX50)
def wsX5_takes : List Cond := .code yX5_takes cX5_takes 4 (some .boolean) :: ([.fieldLink RX5 120 "TwoTownAlmanacModel" "spot" "I", .fieldLink RX5 117 "TwoTownAlmanacModel" "length" "I", .fieldLink RX5 23 "TwoTownAlmanacModel" "text" "[I", .methodLink RX5 33 yX5_in, .static yX5_in, .initialized RX5, .code yX5_in cX5_in 3 (some .boolean)] ++ wsX50)
def wsX5_readsNumber : List Cond := .code yX5_readsNumber cX5_readsNumber 4 (some .boolean) :: ([.fieldLink RX5 120 "TwoTownAlmanacModel" "spot" "I", .fieldLink RX5 26 "TwoTownAlmanacModel" "numbers" "[I", .fieldLink RX5 23 "TwoTownAlmanacModel" "text" "[I", .methodLink RX5 123 yX5_takes, .instanceMethod yX5_takes, .selects RX5 yX5_takes yX5_takes, .initialized RX5, .code yX5_takes cX5_takes 4 (some .boolean), .fieldLink RX5 117 "TwoTownAlmanacModel" "length" "I", .methodLink RX5 33 yX5_in, .static yX5_in, .code yX5_in cX5_in 3 (some .boolean)] ++ wsX50)
def wsX5_isDate : List Cond := .code yX5_isDate cX5_isDate 1 (some .boolean) :: ([.fieldLink RX5 120 "TwoTownAlmanacModel" "spot" "I", .fieldLink RX5 26 "TwoTownAlmanacModel" "numbers" "[I", .fieldLink RX5 23 "TwoTownAlmanacModel" "text" "[I", .fieldLink RX5 117 "TwoTownAlmanacModel" "length" "I", .methodLink RX5 123 yX5_takes, .instanceMethod yX5_takes, .selects RX5 yX5_takes yX5_takes, .initialized RX5, .code yX5_takes cX5_takes 4 (some .boolean), .methodLink RX5 33 yX5_in, .static yX5_in, .code yX5_in cX5_in 3 (some .boolean), .methodLink RX5 126 yX5_readsNumber, .instanceMethod yX5_readsNumber, .selects RX5 yX5_readsNumber yX5_readsNumber, .code yX5_readsNumber cX5_readsNumber 4 (some .boolean)] ++ wsX50)
def wsX5_textError : List Cond := .code yX5_textError cX5_textError 1 (some .int) :: ([.fieldLink RX5 29 "TwoTownAlmanacModel" "thrown" "I", .fieldLink RX5 120 "TwoTownAlmanacModel" "spot" "I", .methodLink RX5 129 yX5_isDate, .instanceMethod yX5_isDate, .selects RX5 yX5_isDate yX5_isDate, .initialized RX5, .code yX5_isDate cX5_isDate 1 (some .boolean), .fieldLink RX5 26 "TwoTownAlmanacModel" "numbers" "[I", .fieldLink RX5 23 "TwoTownAlmanacModel" "text" "[I", .fieldLink RX5 117 "TwoTownAlmanacModel" "length" "I", .methodLink RX5 123 yX5_takes, .instanceMethod yX5_takes, .selects RX5 yX5_takes yX5_takes, .code yX5_takes cX5_takes 4 (some .boolean), .methodLink RX5 33 yX5_in, .static yX5_in, .code yX5_in cX5_in 3 (some .boolean), .methodLink RX5 126 yX5_readsNumber, .instanceMethod yX5_readsNumber, .selects RX5 yX5_readsNumber yX5_readsNumber, .code yX5_readsNumber cX5_readsNumber 4 (some .boolean)] ++ wsX50)
def wsX5_textCharacter : List Cond := .code yX5_textCharacter cX5_textCharacter 2 (some .int) :: ([.fieldLink RX5 29 "TwoTownAlmanacModel" "thrown" "I", .fieldLink RX5 117 "TwoTownAlmanacModel" "length" "I", .fieldLink RX5 23 "TwoTownAlmanacModel" "text" "[I", .methodLink RX5 33 yX5_in, .static yX5_in, .initialized RX5, .code yX5_in cX5_in 3 (some .boolean), .methodLink RX5 40 yX5_fails, .instanceMethod yX5_fails, .selects RX5 yX5_fails yX5_fails, .code yX5_fails cX5_fails 2 (some .int)] ++ wsX50)
def wsX5_dayOfText_r1 : List Cond := [Cond.fieldLink RX5 29 "TwoTownAlmanacModel" "thrown" "I", Cond.fieldLink RX5 26 "TwoTownAlmanacModel" "numbers" "[I", Cond.methodLink RX5 129 yX5_isDate, Cond.instanceMethod yX5_isDate, Cond.selects RX5 yX5_isDate yX5_isDate, Cond.initialized RX5, Cond.code yX5_isDate cX5_isDate 1 (some .boolean), Cond.fieldLink RX5 120 "TwoTownAlmanacModel" "spot" "I", Cond.fieldLink RX5 23 "TwoTownAlmanacModel" "text" "[I", Cond.fieldLink RX5 117 "TwoTownAlmanacModel" "length" "I", Cond.methodLink RX5 123 yX5_takes, Cond.instanceMethod yX5_takes, Cond.selects RX5 yX5_takes yX5_takes, Cond.code yX5_takes cX5_takes 4 (some .boolean), Cond.methodLink RX5 33 yX5_in, Cond.static yX5_in, Cond.code yX5_in cX5_in 3 (some .boolean), Cond.methodLink RX5 126 yX5_readsNumber, Cond.instanceMethod yX5_readsNumber, Cond.selects RX5 yX5_readsNumber yX5_readsNumber, Cond.code yX5_readsNumber cX5_readsNumber 4 (some .boolean), Cond.methodLink RX5 83 yX5_dayWith, Cond.instanceMethod yX5_dayWith, Cond.selects RX5 yX5_dayWith yX5_dayWith]
def wsX5_dayOfText_r2 : List Cond := [Cond.code yX5_dayWith cX5_dayWith 7 (some .int), Cond.methodLink RX5 58 yX5_lengthOf, Cond.static yX5_lengthOf, Cond.code yX5_lengthOf cX5_lengthOf 2 (some .int), Cond.methodLink RX5 68 yX5_yearLength, Cond.static yX5_yearLength, Cond.code yX5_yearLength cX5_yearLength 1 (some .int), Cond.methodLink RX5 62 yX5_daysAhead, Cond.static yX5_daysAhead, Cond.code yX5_daysAhead cX5_daysAhead 4 (some .int), Cond.methodLink RX5 80 yX5_firstDay, Cond.instanceMethod yX5_firstDay, Cond.selects RX5 yX5_firstDay yX5_firstDay, Cond.code yX5_firstDay cX5_firstDay 7 (some .int), Cond.methodLink RX5 51 yX5_gaps, Cond.instanceMethod yX5_gaps, Cond.selects RX5 yX5_gaps yX5_gaps, Cond.code yX5_gaps cX5_gaps 2 (some .int), Cond.fieldLink RX5 7 "TwoTownAlmanacModel" "row" "[I", Cond.methodLink RX5 54 yX5_gap, Cond.instanceMethod yX5_gap, Cond.selects RX5 yX5_gap yX5_gap, Cond.code yX5_gap cX5_gap 4 (some .int), Cond.methodLink RX5 65 yX5_calendar]
def wsX5_dayOfText_r3 : List Cond := [Cond.instanceMethod yX5_calendar, Cond.selects RX5 yX5_calendar yX5_calendar, Cond.code yX5_calendar cX5_calendar 5 (some .int), Cond.methodLink RX5 40 yX5_fails, Cond.instanceMethod yX5_fails, Cond.selects RX5 yX5_fails yX5_fails, Cond.code yX5_fails cX5_fails 2 (some .int)]
def wsX5_dayOfText : List Cond := .code yX5_dayOfText cX5_dayOfText 1 (some .int) :: ((wsX5_dayOfText_r1 ++ (wsX5_dayOfText_r2 ++ wsX5_dayOfText_r3)) ++ wsX50)
def wsX5_write : List Cond := .code yX5_write cX5_write 2 none :: ([.fieldLink RX5 23 "TwoTownAlmanacModel" "text" "[I", .fieldLink RX5 117 "TwoTownAlmanacModel" "length" "I"] ++ wsX50)
def wsX5_writeNumber : List Cond := .code yX5_writeNumber cX5_writeNumber 2 none :: ([.methodLink RX5 133 yX5_write, .instanceMethod yX5_write, .selects RX5 yX5_write yX5_write, .initialized RX5, .code yX5_write cX5_write 2 none, .fieldLink RX5 23 "TwoTownAlmanacModel" "text" "[I", .fieldLink RX5 117 "TwoTownAlmanacModel" "length" "I"] ++ wsX50)
def wsX5_writeDate_r1 : List Cond := [Cond.fieldLink RX5 29 "TwoTownAlmanacModel" "thrown" "I", Cond.fieldLink RX5 117 "TwoTownAlmanacModel" "length" "I", Cond.methodLink RX5 47 yX5_isTown, Cond.static yX5_isTown, Cond.initialized RX5, Cond.code yX5_isTown cX5_isTown 1 (some .boolean), Cond.methodLink RX5 33 yX5_in, Cond.static yX5_in, Cond.code yX5_in cX5_in 3 (some .boolean), Cond.methodLink RX5 40 yX5_fails, Cond.instanceMethod yX5_fails, Cond.selects RX5 yX5_fails yX5_fails, Cond.code yX5_fails cX5_fails 2 (some .int), Cond.methodLink RX5 133 yX5_write, Cond.instanceMethod yX5_write, Cond.selects RX5 yX5_write yX5_write, Cond.code yX5_write cX5_write 2 none, Cond.fieldLink RX5 23 "TwoTownAlmanacModel" "text" "[I", Cond.methodLink RX5 74 yX5_dayAt, Cond.instanceMethod yX5_dayAt, Cond.selects RX5 yX5_dayAt yX5_dayAt, Cond.code yX5_dayAt cX5_dayAt 3 (some .int), Cond.methodLink RX5 65 yX5_calendar, Cond.instanceMethod yX5_calendar]
def wsX5_writeDate_r2 : List Cond := [Cond.selects RX5 yX5_calendar yX5_calendar, Cond.code yX5_calendar cX5_calendar 5 (some .int), Cond.methodLink RX5 51 yX5_gaps, Cond.instanceMethod yX5_gaps, Cond.selects RX5 yX5_gaps yX5_gaps, Cond.code yX5_gaps cX5_gaps 2 (some .int), Cond.fieldLink RX5 7 "TwoTownAlmanacModel" "row" "[I", Cond.methodLink RX5 54 yX5_gap, Cond.instanceMethod yX5_gap, Cond.selects RX5 yX5_gap yX5_gap, Cond.code yX5_gap cX5_gap 4 (some .int), Cond.methodLink RX5 68 yX5_yearLength, Cond.static yX5_yearLength, Cond.code yX5_yearLength cX5_yearLength 1 (some .int), Cond.methodLink RX5 62 yX5_daysAhead, Cond.static yX5_daysAhead, Cond.code yX5_daysAhead cX5_daysAhead 4 (some .int), Cond.methodLink RX5 58 yX5_lengthOf, Cond.static yX5_lengthOf, Cond.code yX5_lengthOf cX5_lengthOf 2 (some .int), Cond.methodLink RX5 71 yX5_monthAt, Cond.instanceMethod yX5_monthAt, Cond.selects RX5 yX5_monthAt yX5_monthAt, Cond.code yX5_monthAt cX5_monthAt 5 (some .int)]
def wsX5_writeDate_r3 : List Cond := [Cond.methodLink RX5 137 yX5_writeNumber, Cond.instanceMethod yX5_writeNumber, Cond.selects RX5 yX5_writeNumber yX5_writeNumber, Cond.code yX5_writeNumber cX5_writeNumber 2 none, Cond.methodLink RX5 77 yX5_yearAt, Cond.instanceMethod yX5_yearAt, Cond.selects RX5 yX5_yearAt yX5_yearAt, Cond.code yX5_yearAt cX5_yearAt 3 (some .int)]
def wsX5_writeDate : List Cond := .code yX5_writeDate cX5_writeDate 3 (some .int) :: ((wsX5_writeDate_r1 ++ (wsX5_writeDate_r2 ++ wsX5_writeDate_r3)) ++ wsX50)
def wsJ9_max_7cf53 : List Cond := .code yJ9_max_7cf53 cJ9_max_7cf53 2 (some .int) :: ([])
def wsL_addGap_r1 : List Cond := [Cond.classLink RL 13 "java/lang/IndexOutOfBoundsException", Cond.classLink RL 15 "java/lang/IllegalArgumentException", Cond.classLink RL 17 "java/lang/IllegalStateException", Cond.methodLink RL 7 yX4_addGap, Cond.instanceMethod yX4_addGap, Cond.selects RX4 yX4_addGap yX4_addGap, Cond.initialized RX4, Cond.code yX4_addGap cX4_addGap 5 (some .int), Cond.classLink RX4 56 "java/lang/IllegalArgumentException", Cond.initialized "java/lang/IllegalArgumentException", Cond.classLink RX4 66 "java/lang/IllegalStateException", Cond.initialized "java/lang/IllegalStateException", Cond.methodLink RX4 42 yX4_requireTown, Cond.instanceMethod yX4_requireTown, Cond.selects RX4 yX4_requireTown yX4_requireTown, Cond.code yX4_requireTown cX4_requireTown 2 (some (.object "TwoTownAlmanac$Town")), Cond.fieldLink RX4 10 "TwoTownAlmanac" "state" "LTwoTownAlmanac$State;", Cond.methodLink RX4 78 yX4_requireIndex, Cond.static yX4_requireIndex, Cond.code yX4_requireIndex cX4_requireIndex 2 none, Cond.classLink RX4 223 "java/lang/IndexOutOfBoundsException", Cond.initialized "java/lang/IndexOutOfBoundsException", Cond.methodLink RX4 127 yX2_townWith, Cond.instanceMethod yX2_townWith]
def wsL_addGap_r2 : List Cond := [Cond.selects RX2 yX2_townWith yX2_townWith, Cond.initialized RX2, Cond.code yX2_townWith cX2_townWith 2 (some (.object "TwoTownAlmanac$Town")), Cond.fieldLink RX2 14 "TwoTownAlmanac$State" "townA" "LTwoTownAlmanac$Town;", Cond.fieldLink RX2 20 "TwoTownAlmanac$State" "townB" "LTwoTownAlmanac$Town;", Cond.methodLink RX4 46 yX4_requireRange, Cond.static yX4_requireRange, Cond.code yX4_requireRange cX4_requireRange 3 none, Cond.methodLink RX4 50 yX3_latestGapDay, Cond.instanceMethod yX3_latestGapDay, Cond.selects RX3 yX3_latestGapDay yX3_latestGapDay, Cond.initialized RX3, Cond.code yX3_latestGapDay cX3_latestGapDay 1 (some .int), Cond.fieldLink RX3 18 "TwoTownAlmanac$Town" "gaps" "I", Cond.fieldLink RX3 9 "TwoTownAlmanac$Town" "gapDays" "[I", Cond.methodLink RX4 71 yX4_recordState, Cond.instanceMethod yX4_recordState, Cond.selects RX4 yX4_recordState yX4_recordState, Cond.code yX4_recordState cX4_recordState 1 none, Cond.fieldLink RX4 20 "TwoTownAlmanac" "recordedCount" "I", Cond.fieldLink RX4 16 "TwoTownAlmanac" "recorded" "[LTwoTownAlmanac$State;", Cond.methodLink RX4 232 yX4_dropOldestRecorded, Cond.instanceMethod yX4_dropOldestRecorded, Cond.selects RX4 yX4_dropOldestRecorded yX4_dropOldestRecorded]
def wsL_addGap_r3 : List Cond := [Cond.code yX4_dropOldestRecorded cX4_dropOldestRecorded 3 none, Cond.methodLink RX4 215 yX2_copyFrom, Cond.instanceMethod yX2_copyFrom, Cond.selects RX2 yX2_copyFrom yX2_copyFrom, Cond.code yX2_copyFrom cX2_copyFrom 3 none, Cond.fieldLink RX2 25 "TwoTownAlmanac$State" "feasts" "[LTwoTownAlmanac$Feast;", Cond.fieldLink RX2 29 "TwoTownAlmanac$State" "feastsAdded" "I", Cond.fieldLink RX2 33 "TwoTownAlmanac$State" "shiftDays" "I", Cond.fieldLink RX2 36 "TwoTownAlmanac$State" "copiesEachDay" "I", Cond.fieldLink RX2 39 "TwoTownAlmanac$State" "dayNow" "I", Cond.fieldLink RX2 42 "TwoTownAlmanac$State" "quarrels" "I", Cond.fieldLink RX2 45 "TwoTownAlmanac$State" "copies" "I", Cond.methodLink RX2 49 yX3_copyFrom, Cond.instanceMethod yX3_copyFrom, Cond.selects RX3 yX3_copyFrom yX3_copyFrom, Cond.code yX3_copyFrom cX3_copyFrom 3 none, Cond.fieldLink RX3 15 "TwoTownAlmanac$Town" "gapLengths" "[I", Cond.fieldLink RX3 22 "TwoTownAlmanac$Town" "keptCount" "I", Cond.methodLink RX2 53 yX1_copyFrom, Cond.instanceMethod yX1_copyFrom, Cond.selects RX1 yX1_copyFrom yX1_copyFrom, Cond.initialized RX1, Cond.code yX1_copyFrom cX1_copyFrom 2 none, Cond.fieldLink RX1 9 "TwoTownAlmanac$Feast" "town" "I"]
def wsL_addGap_r4 : List Cond := [Cond.fieldLink RX1 15 "TwoTownAlmanac$Feast" "month" "I", Cond.fieldLink RX1 18 "TwoTownAlmanac$Feast" "dayOfMonth" "I", Cond.fieldLink RX1 21 "TwoTownAlmanac$Feast" "barred" "I", Cond.methodLink RX4 74 yX3_leaveOut, Cond.instanceMethod yX3_leaveOut, Cond.selects RX3 yX3_leaveOut yX3_leaveOut, Cond.code yX3_leaveOut cX3_leaveOut 3 (some .int)]
def wsL_addGap : List Cond := .codeWith yL_addGap cL_addGap 6 (some .int) [(0, 12, 15, 13), (0, 12, 19, 15), (0, 12, 23, 17)] :: ((wsL_addGap_r1 ++ (wsL_addGap_r2 ++ (wsL_addGap_r3 ++ wsL_addGap_r4))) ++ wsX30 ++ wsX40 ++ wsX20 ++ wsX10 ++ (vx_atS RX4 60 "java/lang/IllegalArgumentException" ["java/lang/RuntimeException", "java/lang/Exception"]).filter goodWord ++ (vx_atS RX4 70 "java/lang/IllegalStateException" ["java/lang/RuntimeException", "java/lang/Exception"]).filter goodWord ++ (vx_atS RX4 227 "java/lang/IndexOutOfBoundsException" ["java/lang/RuntimeException", "java/lang/Exception"]).filter goodWord)
def wsL_gapCount : List Cond := .codeWith yL_gapCount cL_gapCount 4 (some .int) [(0, 9, 12, 13)] :: ([.classLink RL 13 "java/lang/IndexOutOfBoundsException", .methodLink RL 19 yX4_gapCount, .instanceMethod yX4_gapCount, .selects RX4 yX4_gapCount yX4_gapCount, .initialized RX4, .code yX4_gapCount cX4_gapCount 2 (some .int), .methodLink RX4 42 yX4_requireTown, .instanceMethod yX4_requireTown, .selects RX4 yX4_requireTown yX4_requireTown, .code yX4_requireTown cX4_requireTown 2 (some (.object "TwoTownAlmanac$Town")), .fieldLink RX4 10 "TwoTownAlmanac" "state" "LTwoTownAlmanac$State;", .methodLink RX4 78 yX4_requireIndex, .static yX4_requireIndex, .code yX4_requireIndex cX4_requireIndex 2 none, .classLink RX4 223 "java/lang/IndexOutOfBoundsException", .initialized "java/lang/IndexOutOfBoundsException", .methodLink RX4 127 yX2_townWith, .instanceMethod yX2_townWith, .selects RX2 yX2_townWith yX2_townWith, .initialized RX2, .code yX2_townWith cX2_townWith 2 (some (.object "TwoTownAlmanac$Town")), .fieldLink RX2 14 "TwoTownAlmanac$State" "townA" "LTwoTownAlmanac$Town;", .fieldLink RX2 20 "TwoTownAlmanac$State" "townB" "LTwoTownAlmanac$Town;"] ++ wsX30 ++ wsX40 ++ wsX20 ++ (vx_atS RX4 227 "java/lang/IndexOutOfBoundsException" ["java/lang/RuntimeException", "java/lang/Exception"]).filter goodWord)
def wsL_gapDay : List Cond := .codeWith yL_gapDay cL_gapDay 5 (some .int) [(0, 10, 13, 13)] :: ([.classLink RL 13 "java/lang/IndexOutOfBoundsException", .methodLink RL 23 yX4_gapDay, .instanceMethod yX4_gapDay, .selects RX4 yX4_gapDay yX4_gapDay, .initialized RX4, .code yX4_gapDay cX4_gapDay 4 (some .int), .methodLink RX4 42 yX4_requireTown, .instanceMethod yX4_requireTown, .selects RX4 yX4_requireTown yX4_requireTown, .code yX4_requireTown cX4_requireTown 2 (some (.object "TwoTownAlmanac$Town")), .fieldLink RX4 10 "TwoTownAlmanac" "state" "LTwoTownAlmanac$State;", .methodLink RX4 78 yX4_requireIndex, .static yX4_requireIndex, .code yX4_requireIndex cX4_requireIndex 2 none, .classLink RX4 223 "java/lang/IndexOutOfBoundsException", .initialized "java/lang/IndexOutOfBoundsException", .methodLink RX4 127 yX2_townWith, .instanceMethod yX2_townWith, .selects RX2 yX2_townWith yX2_townWith, .initialized RX2, .code yX2_townWith cX2_townWith 2 (some (.object "TwoTownAlmanac$Town")), .fieldLink RX2 14 "TwoTownAlmanac$State" "townA" "LTwoTownAlmanac$Town;", .fieldLink RX2 20 "TwoTownAlmanac$State" "townB" "LTwoTownAlmanac$Town;"] ++ wsX30 ++ wsX40 ++ wsX20 ++ (vx_atS RX4 227 "java/lang/IndexOutOfBoundsException" ["java/lang/RuntimeException", "java/lang/Exception"]).filter goodWord)
def wsL_gapLength : List Cond := .codeWith yL_gapLength cL_gapLength 5 (some .int) [(0, 10, 13, 13)] :: ([.classLink RL 13 "java/lang/IndexOutOfBoundsException", .methodLink RL 27 yX4_gapLength, .instanceMethod yX4_gapLength, .selects RX4 yX4_gapLength yX4_gapLength, .initialized RX4, .code yX4_gapLength cX4_gapLength 4 (some .int), .methodLink RX4 42 yX4_requireTown, .instanceMethod yX4_requireTown, .selects RX4 yX4_requireTown yX4_requireTown, .code yX4_requireTown cX4_requireTown 2 (some (.object "TwoTownAlmanac$Town")), .fieldLink RX4 10 "TwoTownAlmanac" "state" "LTwoTownAlmanac$State;", .methodLink RX4 78 yX4_requireIndex, .static yX4_requireIndex, .code yX4_requireIndex cX4_requireIndex 2 none, .classLink RX4 223 "java/lang/IndexOutOfBoundsException", .initialized "java/lang/IndexOutOfBoundsException", .methodLink RX4 127 yX2_townWith, .instanceMethod yX2_townWith, .selects RX2 yX2_townWith yX2_townWith, .initialized RX2, .code yX2_townWith cX2_townWith 2 (some (.object "TwoTownAlmanac$Town")), .fieldLink RX2 14 "TwoTownAlmanac$State" "townA" "LTwoTownAlmanac$Town;", .fieldLink RX2 20 "TwoTownAlmanac$State" "townB" "LTwoTownAlmanac$Town;"] ++ wsX30 ++ wsX40 ++ wsX20 ++ (vx_atS RX4 227 "java/lang/IndexOutOfBoundsException" ["java/lang/RuntimeException", "java/lang/Exception"]).filter goodWord)
def wsL_monthLength_r1 : List Cond := [Cond.classLink RL 13 "java/lang/IndexOutOfBoundsException", Cond.classLink RL 15 "java/lang/IllegalArgumentException", Cond.methodLink RL 30 yX4_monthLength, Cond.instanceMethod yX4_monthLength, Cond.selects RX4 yX4_monthLength yX4_monthLength, Cond.initialized RX4, Cond.code yX4_monthLength cX4_monthLength 4 (some .int), Cond.methodLink RX4 42 yX4_requireTown, Cond.instanceMethod yX4_requireTown, Cond.selects RX4 yX4_requireTown yX4_requireTown, Cond.code yX4_requireTown cX4_requireTown 2 (some (.object "TwoTownAlmanac$Town")), Cond.fieldLink RX4 10 "TwoTownAlmanac" "state" "LTwoTownAlmanac$State;", Cond.methodLink RX4 78 yX4_requireIndex, Cond.static yX4_requireIndex, Cond.code yX4_requireIndex cX4_requireIndex 2 none, Cond.classLink RX4 223 "java/lang/IndexOutOfBoundsException", Cond.initialized "java/lang/IndexOutOfBoundsException", Cond.methodLink RX4 127 yX2_townWith, Cond.instanceMethod yX2_townWith, Cond.selects RX2 yX2_townWith yX2_townWith, Cond.initialized RX2, Cond.code yX2_townWith cX2_townWith 2 (some (.object "TwoTownAlmanac$Town")), Cond.fieldLink RX2 14 "TwoTownAlmanac$State" "townA" "LTwoTownAlmanac$Town;", Cond.fieldLink RX2 20 "TwoTownAlmanac$State" "townB" "LTwoTownAlmanac$Town;"]
def wsL_monthLength_r2 : List Cond := [Cond.methodLink RX4 46 yX4_requireRange, Cond.static yX4_requireRange, Cond.code yX4_requireRange cX4_requireRange 3 none, Cond.classLink RX4 56 "java/lang/IllegalArgumentException", Cond.initialized "java/lang/IllegalArgumentException", Cond.methodLink RX4 88 yX3_daysInMonth, Cond.instanceMethod yX3_daysInMonth, Cond.selects RX3 yX3_daysInMonth yX3_daysInMonth, Cond.initialized RX3, Cond.code yX3_daysInMonth cX3_daysInMonth 2 (some .int), Cond.fieldLink RX3 25 "TwoTownAlmanac$Town" "isA" "Z"]
def wsL_monthLength : List Cond := .codeWith yL_monthLength cL_monthLength 5 (some .int) [(0, 10, 13, 13), (0, 10, 17, 15)] :: ((wsL_monthLength_r1 ++ wsL_monthLength_r2) ++ wsX40 ++ wsX20 ++ wsX30 ++ (vx_atS RX4 227 "java/lang/IndexOutOfBoundsException" ["java/lang/RuntimeException", "java/lang/Exception"]).filter goodWord ++ (vx_atS RX4 60 "java/lang/IllegalArgumentException" ["java/lang/RuntimeException", "java/lang/Exception"]).filter goodWord)
def wsL_dayOfMonth_r1 : List Cond := [Cond.classLink RL 13 "java/lang/IndexOutOfBoundsException", Cond.classLink RL 15 "java/lang/IllegalArgumentException", Cond.methodLink RL 33 yX4_dayOfMonth, Cond.instanceMethod yX4_dayOfMonth, Cond.selects RX4 yX4_dayOfMonth yX4_dayOfMonth, Cond.initialized RX4, Cond.code yX4_dayOfMonth cX4_dayOfMonth 4 (some .int), Cond.methodLink RX4 42 yX4_requireTown, Cond.instanceMethod yX4_requireTown, Cond.selects RX4 yX4_requireTown yX4_requireTown, Cond.code yX4_requireTown cX4_requireTown 2 (some (.object "TwoTownAlmanac$Town")), Cond.fieldLink RX4 10 "TwoTownAlmanac" "state" "LTwoTownAlmanac$State;", Cond.methodLink RX4 78 yX4_requireIndex, Cond.static yX4_requireIndex, Cond.code yX4_requireIndex cX4_requireIndex 2 none, Cond.classLink RX4 223 "java/lang/IndexOutOfBoundsException", Cond.initialized "java/lang/IndexOutOfBoundsException", Cond.methodLink RX4 127 yX2_townWith, Cond.instanceMethod yX2_townWith, Cond.selects RX2 yX2_townWith yX2_townWith, Cond.initialized RX2, Cond.code yX2_townWith cX2_townWith 2 (some (.object "TwoTownAlmanac$Town")), Cond.fieldLink RX2 14 "TwoTownAlmanac$State" "townA" "LTwoTownAlmanac$Town;", Cond.fieldLink RX2 20 "TwoTownAlmanac$State" "townB" "LTwoTownAlmanac$Town;"]
def wsL_dayOfMonth_r2 : List Cond := [Cond.methodLink RX4 46 yX4_requireRange, Cond.static yX4_requireRange, Cond.code yX4_requireRange cX4_requireRange 3 none, Cond.classLink RX4 56 "java/lang/IllegalArgumentException", Cond.initialized "java/lang/IllegalArgumentException", Cond.methodLink RX4 92 yX3_dayOfMonthOn, Cond.instanceMethod yX3_dayOfMonthOn, Cond.selects RX3 yX3_dayOfMonthOn yX3_dayOfMonthOn, Cond.initialized RX3, Cond.code yX3_dayOfMonthOn cX3_dayOfMonthOn 2 (some .int), Cond.methodLink RX3 40 yX3_dayInYearOn, Cond.instanceMethod yX3_dayInYearOn, Cond.selects RX3 yX3_dayInYearOn yX3_dayInYearOn, Cond.code yX3_dayInYearOn cX3_dayInYearOn 3 (some .int), Cond.fieldLink RX3 25 "TwoTownAlmanac$Town" "isA" "Z", Cond.methodLink RX3 37 yX3_dateOn, Cond.instanceMethod yX3_dateOn, Cond.selects RX3 yX3_dateOn yX3_dateOn, Cond.code yX3_dateOn cX3_dateOn 4 (some .int), Cond.fieldLink RX3 18 "TwoTownAlmanac$Town" "gaps" "I", Cond.fieldLink RX3 9 "TwoTownAlmanac$Town" "gapDays" "[I", Cond.fieldLink RX3 15 "TwoTownAlmanac$Town" "gapLengths" "[I", Cond.methodLink RX3 43 yX3_monthOn, Cond.instanceMethod yX3_monthOn]
def wsL_dayOfMonth_r3 : List Cond := [Cond.selects RX3 yX3_monthOn yX3_monthOn, Cond.code yX3_monthOn cX3_monthOn 4 (some .int), Cond.methodLink RX3 33 yX3_daysBeforeMonth, Cond.instanceMethod yX3_daysBeforeMonth, Cond.selects RX3 yX3_daysBeforeMonth yX3_daysBeforeMonth, Cond.code yX3_daysBeforeMonth cX3_daysBeforeMonth 3 (some .int)]
def wsL_dayOfMonth : List Cond := .codeWith yL_dayOfMonth cL_dayOfMonth 5 (some .int) [(0, 10, 13, 13), (0, 10, 17, 15)] :: ((wsL_dayOfMonth_r1 ++ (wsL_dayOfMonth_r2 ++ wsL_dayOfMonth_r3)) ++ wsX40 ++ wsX20 ++ wsX30 ++ (vx_atS RX4 227 "java/lang/IndexOutOfBoundsException" ["java/lang/RuntimeException", "java/lang/Exception"]).filter goodWord ++ (vx_atS RX4 60 "java/lang/IllegalArgumentException" ["java/lang/RuntimeException", "java/lang/Exception"]).filter goodWord)
def wsL_monthOf_r1 : List Cond := [Cond.classLink RL 13 "java/lang/IndexOutOfBoundsException", Cond.classLink RL 15 "java/lang/IllegalArgumentException", Cond.methodLink RL 36 yX4_monthOf, Cond.instanceMethod yX4_monthOf, Cond.selects RX4 yX4_monthOf yX4_monthOf, Cond.initialized RX4, Cond.code yX4_monthOf cX4_monthOf 4 (some .int), Cond.methodLink RX4 42 yX4_requireTown, Cond.instanceMethod yX4_requireTown, Cond.selects RX4 yX4_requireTown yX4_requireTown, Cond.code yX4_requireTown cX4_requireTown 2 (some (.object "TwoTownAlmanac$Town")), Cond.fieldLink RX4 10 "TwoTownAlmanac" "state" "LTwoTownAlmanac$State;", Cond.methodLink RX4 78 yX4_requireIndex, Cond.static yX4_requireIndex, Cond.code yX4_requireIndex cX4_requireIndex 2 none, Cond.classLink RX4 223 "java/lang/IndexOutOfBoundsException", Cond.initialized "java/lang/IndexOutOfBoundsException", Cond.methodLink RX4 127 yX2_townWith, Cond.instanceMethod yX2_townWith, Cond.selects RX2 yX2_townWith yX2_townWith, Cond.initialized RX2, Cond.code yX2_townWith cX2_townWith 2 (some (.object "TwoTownAlmanac$Town")), Cond.fieldLink RX2 14 "TwoTownAlmanac$State" "townA" "LTwoTownAlmanac$Town;", Cond.fieldLink RX2 20 "TwoTownAlmanac$State" "townB" "LTwoTownAlmanac$Town;"]
def wsL_monthOf_r2 : List Cond := [Cond.methodLink RX4 46 yX4_requireRange, Cond.static yX4_requireRange, Cond.code yX4_requireRange cX4_requireRange 3 none, Cond.classLink RX4 56 "java/lang/IllegalArgumentException", Cond.initialized "java/lang/IllegalArgumentException", Cond.methodLink RX4 95 yX3_monthOn, Cond.instanceMethod yX3_monthOn, Cond.selects RX3 yX3_monthOn yX3_monthOn, Cond.initialized RX3, Cond.code yX3_monthOn cX3_monthOn 4 (some .int), Cond.methodLink RX3 40 yX3_dayInYearOn, Cond.instanceMethod yX3_dayInYearOn, Cond.selects RX3 yX3_dayInYearOn yX3_dayInYearOn, Cond.code yX3_dayInYearOn cX3_dayInYearOn 3 (some .int), Cond.fieldLink RX3 25 "TwoTownAlmanac$Town" "isA" "Z", Cond.methodLink RX3 37 yX3_dateOn, Cond.instanceMethod yX3_dateOn, Cond.selects RX3 yX3_dateOn yX3_dateOn, Cond.code yX3_dateOn cX3_dateOn 4 (some .int), Cond.fieldLink RX3 18 "TwoTownAlmanac$Town" "gaps" "I", Cond.fieldLink RX3 9 "TwoTownAlmanac$Town" "gapDays" "[I", Cond.fieldLink RX3 15 "TwoTownAlmanac$Town" "gapLengths" "[I", Cond.methodLink RX3 33 yX3_daysBeforeMonth, Cond.instanceMethod yX3_daysBeforeMonth]
def wsL_monthOf_r3 : List Cond := [Cond.selects RX3 yX3_daysBeforeMonth yX3_daysBeforeMonth, Cond.code yX3_daysBeforeMonth cX3_daysBeforeMonth 3 (some .int)]
def wsL_monthOf : List Cond := .codeWith yL_monthOf cL_monthOf 5 (some .int) [(0, 10, 13, 13), (0, 10, 17, 15)] :: ((wsL_monthOf_r1 ++ (wsL_monthOf_r2 ++ wsL_monthOf_r3)) ++ wsX40 ++ wsX20 ++ wsX30 ++ (vx_atS RX4 227 "java/lang/IndexOutOfBoundsException" ["java/lang/RuntimeException", "java/lang/Exception"]).filter goodWord ++ (vx_atS RX4 60 "java/lang/IllegalArgumentException" ["java/lang/RuntimeException", "java/lang/Exception"]).filter goodWord)
def wsL_yearOf_r1 : List Cond := [Cond.classLink RL 13 "java/lang/IndexOutOfBoundsException", Cond.classLink RL 15 "java/lang/IllegalArgumentException", Cond.methodLink RL 39 yX4_yearOf, Cond.instanceMethod yX4_yearOf, Cond.selects RX4 yX4_yearOf yX4_yearOf, Cond.initialized RX4, Cond.code yX4_yearOf cX4_yearOf 4 (some .int), Cond.methodLink RX4 42 yX4_requireTown, Cond.instanceMethod yX4_requireTown, Cond.selects RX4 yX4_requireTown yX4_requireTown, Cond.code yX4_requireTown cX4_requireTown 2 (some (.object "TwoTownAlmanac$Town")), Cond.fieldLink RX4 10 "TwoTownAlmanac" "state" "LTwoTownAlmanac$State;", Cond.methodLink RX4 78 yX4_requireIndex, Cond.static yX4_requireIndex, Cond.code yX4_requireIndex cX4_requireIndex 2 none, Cond.classLink RX4 223 "java/lang/IndexOutOfBoundsException", Cond.initialized "java/lang/IndexOutOfBoundsException", Cond.methodLink RX4 127 yX2_townWith, Cond.instanceMethod yX2_townWith, Cond.selects RX2 yX2_townWith yX2_townWith, Cond.initialized RX2, Cond.code yX2_townWith cX2_townWith 2 (some (.object "TwoTownAlmanac$Town")), Cond.fieldLink RX2 14 "TwoTownAlmanac$State" "townA" "LTwoTownAlmanac$Town;", Cond.fieldLink RX2 20 "TwoTownAlmanac$State" "townB" "LTwoTownAlmanac$Town;"]
def wsL_yearOf_r2 : List Cond := [Cond.methodLink RX4 46 yX4_requireRange, Cond.static yX4_requireRange, Cond.code yX4_requireRange cX4_requireRange 3 none, Cond.classLink RX4 56 "java/lang/IllegalArgumentException", Cond.initialized "java/lang/IllegalArgumentException", Cond.methodLink RX4 98 yX3_yearOn, Cond.instanceMethod yX3_yearOn, Cond.selects RX3 yX3_yearOn yX3_yearOn, Cond.initialized RX3, Cond.code yX3_yearOn cX3_yearOn 3 (some .int), Cond.fieldLink RX3 25 "TwoTownAlmanac$Town" "isA" "Z", Cond.methodLink RX3 37 yX3_dateOn, Cond.instanceMethod yX3_dateOn, Cond.selects RX3 yX3_dateOn yX3_dateOn, Cond.code yX3_dateOn cX3_dateOn 4 (some .int), Cond.fieldLink RX3 18 "TwoTownAlmanac$Town" "gaps" "I", Cond.fieldLink RX3 9 "TwoTownAlmanac$Town" "gapDays" "[I", Cond.fieldLink RX3 15 "TwoTownAlmanac$Town" "gapLengths" "[I"]
def wsL_yearOf : List Cond := .codeWith yL_yearOf cL_yearOf 5 (some .int) [(0, 10, 13, 13), (0, 10, 17, 15)] :: ((wsL_yearOf_r1 ++ wsL_yearOf_r2) ++ wsX40 ++ wsX20 ++ wsX30 ++ (vx_atS RX4 227 "java/lang/IndexOutOfBoundsException" ["java/lang/RuntimeException", "java/lang/Exception"]).filter goodWord ++ (vx_atS RX4 60 "java/lang/IllegalArgumentException" ["java/lang/RuntimeException", "java/lang/Exception"]).filter goodWord)
def wsL_weekday : List Cond := .codeWith yL_weekday cL_weekday 4 (some .int) [(0, 9, 12, 15)] :: ([.classLink RL 15 "java/lang/IllegalArgumentException", .methodLink RL 42 yX4_weekday, .instanceMethod yX4_weekday, .selects RX4 yX4_weekday yX4_weekday, .initialized RX4, .code yX4_weekday cX4_weekday 2 (some .int), .methodLink RX4 46 yX4_requireRange, .static yX4_requireRange, .code yX4_requireRange cX4_requireRange 3 none, .classLink RX4 56 "java/lang/IllegalArgumentException", .initialized "java/lang/IllegalArgumentException"] ++ (vx_atS RX4 60 "java/lang/IllegalArgumentException" ["java/lang/RuntimeException", "java/lang/Exception"]).filter goodWord)
def wsL_dayOfDate_r1 : List Cond := [Cond.classLink RL 13 "java/lang/IndexOutOfBoundsException", Cond.classLink RL 15 "java/lang/IllegalArgumentException", Cond.methodLink RL 45 yX4_dayOfDate, Cond.instanceMethod yX4_dayOfDate, Cond.selects RX4 yX4_dayOfDate yX4_dayOfDate, Cond.initialized RX4, Cond.code yX4_dayOfDate cX4_dayOfDate 6 (some .int), Cond.methodLink RX4 42 yX4_requireTown, Cond.instanceMethod yX4_requireTown, Cond.selects RX4 yX4_requireTown yX4_requireTown, Cond.code yX4_requireTown cX4_requireTown 2 (some (.object "TwoTownAlmanac$Town")), Cond.fieldLink RX4 10 "TwoTownAlmanac" "state" "LTwoTownAlmanac$State;", Cond.methodLink RX4 78 yX4_requireIndex, Cond.static yX4_requireIndex, Cond.code yX4_requireIndex cX4_requireIndex 2 none, Cond.classLink RX4 223 "java/lang/IndexOutOfBoundsException", Cond.initialized "java/lang/IndexOutOfBoundsException", Cond.methodLink RX4 127 yX2_townWith, Cond.instanceMethod yX2_townWith, Cond.selects RX2 yX2_townWith yX2_townWith, Cond.initialized RX2, Cond.code yX2_townWith cX2_townWith 2 (some (.object "TwoTownAlmanac$Town")), Cond.fieldLink RX2 14 "TwoTownAlmanac$State" "townA" "LTwoTownAlmanac$Town;", Cond.fieldLink RX2 20 "TwoTownAlmanac$State" "townB" "LTwoTownAlmanac$Town;"]
def wsL_dayOfDate_r2 : List Cond := [Cond.methodLink RX4 46 yX4_requireRange, Cond.static yX4_requireRange, Cond.code yX4_requireRange cX4_requireRange 3 none, Cond.classLink RX4 56 "java/lang/IllegalArgumentException", Cond.initialized "java/lang/IllegalArgumentException", Cond.methodLink RX4 101 yX3_dayWithDate, Cond.instanceMethod yX3_dayWithDate, Cond.selects RX3 yX3_dayWithDate yX3_dayWithDate, Cond.initialized RX3, Cond.code yX3_dayWithDate cX3_dayWithDate 6 (some .int), Cond.methodLink RX3 46 yX3_daysInMonth, Cond.instanceMethod yX3_daysInMonth, Cond.selects RX3 yX3_daysInMonth yX3_daysInMonth, Cond.code yX3_daysInMonth cX3_daysInMonth 2 (some .int), Cond.fieldLink RX3 25 "TwoTownAlmanac$Town" "isA" "Z", Cond.methodLink RX3 49 yX3_dateOf, Cond.instanceMethod yX3_dateOf, Cond.selects RX3 yX3_dateOf yX3_dateOf, Cond.code yX3_dateOf cX3_dateOf 4 (some .int), Cond.methodLink RX3 29 yX3_daysInYear, Cond.instanceMethod yX3_daysInYear, Cond.selects RX3 yX3_daysInYear yX3_daysInYear, Cond.code yX3_daysInYear cX3_daysInYear 1 (some .int), Cond.methodLink RX3 33 yX3_daysBeforeMonth]
def wsL_dayOfDate_r3 : List Cond := [Cond.instanceMethod yX3_daysBeforeMonth, Cond.selects RX3 yX3_daysBeforeMonth yX3_daysBeforeMonth, Cond.code yX3_daysBeforeMonth cX3_daysBeforeMonth 3 (some .int), Cond.methodLink RX3 53 yX3_firstDayFrom, Cond.instanceMethod yX3_firstDayFrom, Cond.selects RX3 yX3_firstDayFrom yX3_firstDayFrom, Cond.code yX3_firstDayFrom cX3_firstDayFrom 6 (some .int), Cond.fieldLink RX3 18 "TwoTownAlmanac$Town" "gaps" "I", Cond.fieldLink RX3 9 "TwoTownAlmanac$Town" "gapDays" "[I", Cond.fieldLink RX3 15 "TwoTownAlmanac$Town" "gapLengths" "[I", Cond.methodLink RX3 37 yX3_dateOn, Cond.instanceMethod yX3_dateOn, Cond.selects RX3 yX3_dateOn yX3_dateOn, Cond.code yX3_dateOn cX3_dateOn 4 (some .int)]
def wsL_dayOfDate : List Cond := .codeWith yL_dayOfDate cL_dayOfDate 7 (some .int) [(0, 14, 17, 13), (0, 14, 21, 15)] :: ((wsL_dayOfDate_r1 ++ (wsL_dayOfDate_r2 ++ wsL_dayOfDate_r3)) ++ wsX40 ++ wsX20 ++ wsX30 ++ (vx_atS RX4 227 "java/lang/IndexOutOfBoundsException" ["java/lang/RuntimeException", "java/lang/Exception"]).filter goodWord ++ (vx_atS RX4 60 "java/lang/IllegalArgumentException" ["java/lang/RuntimeException", "java/lang/Exception"]).filter goodWord)
def wsL_addFeast_r1 : List Cond := [Cond.classLink RL 13 "java/lang/IndexOutOfBoundsException", Cond.classLink RL 15 "java/lang/IllegalArgumentException", Cond.classLink RL 17 "java/lang/IllegalStateException", Cond.methodLink RL 49 yX4_addFeast, Cond.instanceMethod yX4_addFeast, Cond.selects RX4 yX4_addFeast yX4_addFeast, Cond.initialized RX4, Cond.code yX4_addFeast cX4_addFeast 4 (some .int), Cond.classLink RX4 66 "java/lang/IllegalStateException", Cond.initialized "java/lang/IllegalStateException", Cond.fieldLink RX4 10 "TwoTownAlmanac" "state" "LTwoTownAlmanac$State;", Cond.methodLink RX4 42 yX4_requireTown, Cond.instanceMethod yX4_requireTown, Cond.selects RX4 yX4_requireTown yX4_requireTown, Cond.code yX4_requireTown cX4_requireTown 2 (some (.object "TwoTownAlmanac$Town")), Cond.methodLink RX4 78 yX4_requireIndex, Cond.static yX4_requireIndex, Cond.code yX4_requireIndex cX4_requireIndex 2 none, Cond.classLink RX4 223 "java/lang/IndexOutOfBoundsException", Cond.initialized "java/lang/IndexOutOfBoundsException", Cond.methodLink RX4 127 yX2_townWith, Cond.instanceMethod yX2_townWith, Cond.selects RX2 yX2_townWith yX2_townWith, Cond.initialized RX2]
def wsL_addFeast_r2 : List Cond := [Cond.code yX2_townWith cX2_townWith 2 (some (.object "TwoTownAlmanac$Town")), Cond.fieldLink RX2 14 "TwoTownAlmanac$State" "townA" "LTwoTownAlmanac$Town;", Cond.fieldLink RX2 20 "TwoTownAlmanac$State" "townB" "LTwoTownAlmanac$Town;", Cond.methodLink RX4 46 yX4_requireRange, Cond.static yX4_requireRange, Cond.code yX4_requireRange cX4_requireRange 3 none, Cond.classLink RX4 56 "java/lang/IllegalArgumentException", Cond.initialized "java/lang/IllegalArgumentException", Cond.methodLink RX4 71 yX4_recordState, Cond.instanceMethod yX4_recordState, Cond.selects RX4 yX4_recordState yX4_recordState, Cond.code yX4_recordState cX4_recordState 1 none, Cond.fieldLink RX4 20 "TwoTownAlmanac" "recordedCount" "I", Cond.fieldLink RX4 16 "TwoTownAlmanac" "recorded" "[LTwoTownAlmanac$State;", Cond.methodLink RX4 232 yX4_dropOldestRecorded, Cond.instanceMethod yX4_dropOldestRecorded, Cond.selects RX4 yX4_dropOldestRecorded yX4_dropOldestRecorded, Cond.code yX4_dropOldestRecorded cX4_dropOldestRecorded 3 none, Cond.methodLink RX4 215 yX2_copyFrom, Cond.instanceMethod yX2_copyFrom, Cond.selects RX2 yX2_copyFrom yX2_copyFrom, Cond.code yX2_copyFrom cX2_copyFrom 3 none, Cond.fieldLink RX2 25 "TwoTownAlmanac$State" "feasts" "[LTwoTownAlmanac$Feast;", Cond.fieldLink RX2 29 "TwoTownAlmanac$State" "feastsAdded" "I"]
def wsL_addFeast_r3 : List Cond := [Cond.fieldLink RX2 33 "TwoTownAlmanac$State" "shiftDays" "I", Cond.fieldLink RX2 36 "TwoTownAlmanac$State" "copiesEachDay" "I", Cond.fieldLink RX2 39 "TwoTownAlmanac$State" "dayNow" "I", Cond.fieldLink RX2 42 "TwoTownAlmanac$State" "quarrels" "I", Cond.fieldLink RX2 45 "TwoTownAlmanac$State" "copies" "I", Cond.methodLink RX2 49 yX3_copyFrom, Cond.instanceMethod yX3_copyFrom, Cond.selects RX3 yX3_copyFrom yX3_copyFrom, Cond.initialized RX3, Cond.code yX3_copyFrom cX3_copyFrom 3 none, Cond.fieldLink RX3 9 "TwoTownAlmanac$Town" "gapDays" "[I", Cond.fieldLink RX3 15 "TwoTownAlmanac$Town" "gapLengths" "[I", Cond.fieldLink RX3 18 "TwoTownAlmanac$Town" "gaps" "I", Cond.fieldLink RX3 22 "TwoTownAlmanac$Town" "keptCount" "I", Cond.methodLink RX2 53 yX1_copyFrom, Cond.instanceMethod yX1_copyFrom, Cond.selects RX1 yX1_copyFrom yX1_copyFrom, Cond.initialized RX1, Cond.code yX1_copyFrom cX1_copyFrom 2 none, Cond.fieldLink RX1 9 "TwoTownAlmanac$Feast" "town" "I", Cond.fieldLink RX1 15 "TwoTownAlmanac$Feast" "month" "I", Cond.fieldLink RX1 18 "TwoTownAlmanac$Feast" "dayOfMonth" "I", Cond.fieldLink RX1 21 "TwoTownAlmanac$Feast" "barred" "I", Cond.methodLink RX4 110 yX2_putFeast]
def wsL_addFeast_r4 : List Cond := [Cond.instanceMethod yX2_putFeast, Cond.selects RX2 yX2_putFeast yX2_putFeast, Cond.code yX2_putFeast cX2_putFeast 6 (some .int)]
def wsL_addFeast : List Cond := .codeWith yL_addFeast cL_addFeast 6 (some .int) [(0, 12, 15, 13), (0, 12, 19, 15), (0, 12, 23, 17)] :: ((wsL_addFeast_r1 ++ (wsL_addFeast_r2 ++ (wsL_addFeast_r3 ++ wsL_addFeast_r4))) ++ wsX40 ++ wsX20 ++ wsX30 ++ wsX10 ++ (vx_atS RX4 70 "java/lang/IllegalStateException" ["java/lang/RuntimeException", "java/lang/Exception"]).filter goodWord ++ (vx_atS RX4 227 "java/lang/IndexOutOfBoundsException" ["java/lang/RuntimeException", "java/lang/Exception"]).filter goodWord ++ (vx_atS RX4 60 "java/lang/IllegalArgumentException" ["java/lang/RuntimeException", "java/lang/Exception"]).filter goodWord)
def wsL_barWeekday_r1 : List Cond := [Cond.classLink RL 13 "java/lang/IndexOutOfBoundsException", Cond.classLink RL 15 "java/lang/IllegalArgumentException", Cond.methodLink RL 52 yX4_barWeekday, Cond.instanceMethod yX4_barWeekday, Cond.selects RX4 yX4_barWeekday yX4_barWeekday, Cond.initialized RX4, Cond.code yX4_barWeekday cX4_barWeekday 5 (some .int), Cond.methodLink RX4 113 yX4_requireFeast, Cond.instanceMethod yX4_requireFeast, Cond.selects RX4 yX4_requireFeast yX4_requireFeast, Cond.code yX4_requireFeast cX4_requireFeast 2 (some (.object "TwoTownAlmanac$Feast")), Cond.fieldLink RX4 10 "TwoTownAlmanac" "state" "LTwoTownAlmanac$State;", Cond.methodLink RX4 78 yX4_requireIndex, Cond.static yX4_requireIndex, Cond.code yX4_requireIndex cX4_requireIndex 2 none, Cond.classLink RX4 223 "java/lang/IndexOutOfBoundsException", Cond.initialized "java/lang/IndexOutOfBoundsException", Cond.methodLink RX4 46 yX4_requireRange, Cond.static yX4_requireRange, Cond.code yX4_requireRange cX4_requireRange 3 none, Cond.classLink RX4 56 "java/lang/IllegalArgumentException", Cond.initialized "java/lang/IllegalArgumentException", Cond.methodLink RX4 71 yX4_recordState, Cond.instanceMethod yX4_recordState]
def wsL_barWeekday_r2 : List Cond := [Cond.selects RX4 yX4_recordState yX4_recordState, Cond.code yX4_recordState cX4_recordState 1 none, Cond.fieldLink RX4 20 "TwoTownAlmanac" "recordedCount" "I", Cond.fieldLink RX4 16 "TwoTownAlmanac" "recorded" "[LTwoTownAlmanac$State;", Cond.methodLink RX4 232 yX4_dropOldestRecorded, Cond.instanceMethod yX4_dropOldestRecorded, Cond.selects RX4 yX4_dropOldestRecorded yX4_dropOldestRecorded, Cond.code yX4_dropOldestRecorded cX4_dropOldestRecorded 3 none, Cond.methodLink RX4 215 yX2_copyFrom, Cond.instanceMethod yX2_copyFrom, Cond.selects RX2 yX2_copyFrom yX2_copyFrom, Cond.initialized RX2, Cond.code yX2_copyFrom cX2_copyFrom 3 none, Cond.fieldLink RX2 14 "TwoTownAlmanac$State" "townA" "LTwoTownAlmanac$Town;", Cond.fieldLink RX2 20 "TwoTownAlmanac$State" "townB" "LTwoTownAlmanac$Town;", Cond.fieldLink RX2 25 "TwoTownAlmanac$State" "feasts" "[LTwoTownAlmanac$Feast;", Cond.fieldLink RX2 29 "TwoTownAlmanac$State" "feastsAdded" "I", Cond.fieldLink RX2 33 "TwoTownAlmanac$State" "shiftDays" "I", Cond.fieldLink RX2 36 "TwoTownAlmanac$State" "copiesEachDay" "I", Cond.fieldLink RX2 39 "TwoTownAlmanac$State" "dayNow" "I", Cond.fieldLink RX2 42 "TwoTownAlmanac$State" "quarrels" "I", Cond.fieldLink RX2 45 "TwoTownAlmanac$State" "copies" "I", Cond.methodLink RX2 49 yX3_copyFrom, Cond.instanceMethod yX3_copyFrom]
def wsL_barWeekday_r3 : List Cond := [Cond.selects RX3 yX3_copyFrom yX3_copyFrom, Cond.initialized RX3, Cond.code yX3_copyFrom cX3_copyFrom 3 none, Cond.fieldLink RX3 9 "TwoTownAlmanac$Town" "gapDays" "[I", Cond.fieldLink RX3 15 "TwoTownAlmanac$Town" "gapLengths" "[I", Cond.fieldLink RX3 18 "TwoTownAlmanac$Town" "gaps" "I", Cond.fieldLink RX3 22 "TwoTownAlmanac$Town" "keptCount" "I", Cond.methodLink RX2 53 yX1_copyFrom, Cond.instanceMethod yX1_copyFrom, Cond.selects RX1 yX1_copyFrom yX1_copyFrom, Cond.initialized RX1, Cond.code yX1_copyFrom cX1_copyFrom 2 none, Cond.fieldLink RX1 9 "TwoTownAlmanac$Feast" "town" "I", Cond.fieldLink RX1 15 "TwoTownAlmanac$Feast" "month" "I", Cond.fieldLink RX1 18 "TwoTownAlmanac$Feast" "dayOfMonth" "I", Cond.fieldLink RX1 21 "TwoTownAlmanac$Feast" "barred" "I"]
def wsL_barWeekday : List Cond := .codeWith yL_barWeekday cL_barWeekday 5 (some .int) [(0, 10, 13, 13), (0, 10, 17, 15)] :: ((wsL_barWeekday_r1 ++ (wsL_barWeekday_r2 ++ wsL_barWeekday_r3)) ++ wsX10 ++ wsX40 ++ wsX20 ++ wsX30 ++ (vx_atS RX4 227 "java/lang/IndexOutOfBoundsException" ["java/lang/RuntimeException", "java/lang/Exception"]).filter goodWord ++ (vx_atS RX4 60 "java/lang/IllegalArgumentException" ["java/lang/RuntimeException", "java/lang/Exception"]).filter goodWord)
def wsL_allowAllWeekdays_r1 : List Cond := [Cond.classLink RL 13 "java/lang/IndexOutOfBoundsException", Cond.classLink RL 17 "java/lang/IllegalStateException", Cond.methodLink RL 55 yX4_allowAllWeekdays, Cond.instanceMethod yX4_allowAllWeekdays, Cond.selects RX4 yX4_allowAllWeekdays yX4_allowAllWeekdays, Cond.initialized RX4, Cond.code yX4_allowAllWeekdays cX4_allowAllWeekdays 4 (some .int), Cond.classLink RX4 66 "java/lang/IllegalStateException", Cond.initialized "java/lang/IllegalStateException", Cond.methodLink RX4 113 yX4_requireFeast, Cond.instanceMethod yX4_requireFeast, Cond.selects RX4 yX4_requireFeast yX4_requireFeast, Cond.code yX4_requireFeast cX4_requireFeast 2 (some (.object "TwoTownAlmanac$Feast")), Cond.fieldLink RX4 10 "TwoTownAlmanac" "state" "LTwoTownAlmanac$State;", Cond.methodLink RX4 78 yX4_requireIndex, Cond.static yX4_requireIndex, Cond.code yX4_requireIndex cX4_requireIndex 2 none, Cond.classLink RX4 223 "java/lang/IndexOutOfBoundsException", Cond.initialized "java/lang/IndexOutOfBoundsException", Cond.methodLink RX4 71 yX4_recordState, Cond.instanceMethod yX4_recordState, Cond.selects RX4 yX4_recordState yX4_recordState, Cond.code yX4_recordState cX4_recordState 1 none, Cond.fieldLink RX4 20 "TwoTownAlmanac" "recordedCount" "I"]
def wsL_allowAllWeekdays_r2 : List Cond := [Cond.fieldLink RX4 16 "TwoTownAlmanac" "recorded" "[LTwoTownAlmanac$State;", Cond.methodLink RX4 232 yX4_dropOldestRecorded, Cond.instanceMethod yX4_dropOldestRecorded, Cond.selects RX4 yX4_dropOldestRecorded yX4_dropOldestRecorded, Cond.code yX4_dropOldestRecorded cX4_dropOldestRecorded 3 none, Cond.methodLink RX4 215 yX2_copyFrom, Cond.instanceMethod yX2_copyFrom, Cond.selects RX2 yX2_copyFrom yX2_copyFrom, Cond.initialized RX2, Cond.code yX2_copyFrom cX2_copyFrom 3 none, Cond.fieldLink RX2 14 "TwoTownAlmanac$State" "townA" "LTwoTownAlmanac$Town;", Cond.fieldLink RX2 20 "TwoTownAlmanac$State" "townB" "LTwoTownAlmanac$Town;", Cond.fieldLink RX2 25 "TwoTownAlmanac$State" "feasts" "[LTwoTownAlmanac$Feast;", Cond.fieldLink RX2 29 "TwoTownAlmanac$State" "feastsAdded" "I", Cond.fieldLink RX2 33 "TwoTownAlmanac$State" "shiftDays" "I", Cond.fieldLink RX2 36 "TwoTownAlmanac$State" "copiesEachDay" "I", Cond.fieldLink RX2 39 "TwoTownAlmanac$State" "dayNow" "I", Cond.fieldLink RX2 42 "TwoTownAlmanac$State" "quarrels" "I", Cond.fieldLink RX2 45 "TwoTownAlmanac$State" "copies" "I", Cond.methodLink RX2 49 yX3_copyFrom, Cond.instanceMethod yX3_copyFrom, Cond.selects RX3 yX3_copyFrom yX3_copyFrom, Cond.initialized RX3, Cond.code yX3_copyFrom cX3_copyFrom 3 none]
def wsL_allowAllWeekdays_r3 : List Cond := [Cond.fieldLink RX3 9 "TwoTownAlmanac$Town" "gapDays" "[I", Cond.fieldLink RX3 15 "TwoTownAlmanac$Town" "gapLengths" "[I", Cond.fieldLink RX3 18 "TwoTownAlmanac$Town" "gaps" "I", Cond.fieldLink RX3 22 "TwoTownAlmanac$Town" "keptCount" "I", Cond.methodLink RX2 53 yX1_copyFrom, Cond.instanceMethod yX1_copyFrom, Cond.selects RX1 yX1_copyFrom yX1_copyFrom, Cond.initialized RX1, Cond.code yX1_copyFrom cX1_copyFrom 2 none, Cond.fieldLink RX1 9 "TwoTownAlmanac$Feast" "town" "I", Cond.fieldLink RX1 15 "TwoTownAlmanac$Feast" "month" "I", Cond.fieldLink RX1 18 "TwoTownAlmanac$Feast" "dayOfMonth" "I", Cond.fieldLink RX1 21 "TwoTownAlmanac$Feast" "barred" "I"]
def wsL_allowAllWeekdays : List Cond := .codeWith yL_allowAllWeekdays cL_allowAllWeekdays 4 (some .int) [(0, 9, 12, 13), (0, 9, 15, 17)] :: ((wsL_allowAllWeekdays_r1 ++ (wsL_allowAllWeekdays_r2 ++ wsL_allowAllWeekdays_r3)) ++ wsX10 ++ wsX40 ++ wsX20 ++ wsX30 ++ (vx_atS RX4 70 "java/lang/IllegalStateException" ["java/lang/RuntimeException", "java/lang/Exception"]).filter goodWord ++ (vx_atS RX4 227 "java/lang/IndexOutOfBoundsException" ["java/lang/RuntimeException", "java/lang/Exception"]).filter goodWord)
def wsL_feastTown : List Cond := .codeWith yL_feastTown cL_feastTown 4 (some .int) [(0, 9, 12, 13)] :: ([.classLink RL 13 "java/lang/IndexOutOfBoundsException", .methodLink RL 58 yX4_feastTown, .instanceMethod yX4_feastTown, .selects RX4 yX4_feastTown yX4_feastTown, .initialized RX4, .code yX4_feastTown cX4_feastTown 2 (some .int), .methodLink RX4 113 yX4_requireFeast, .instanceMethod yX4_requireFeast, .selects RX4 yX4_requireFeast yX4_requireFeast, .code yX4_requireFeast cX4_requireFeast 2 (some (.object "TwoTownAlmanac$Feast")), .fieldLink RX4 10 "TwoTownAlmanac" "state" "LTwoTownAlmanac$State;", .methodLink RX4 78 yX4_requireIndex, .static yX4_requireIndex, .code yX4_requireIndex cX4_requireIndex 2 none, .classLink RX4 223 "java/lang/IndexOutOfBoundsException", .initialized "java/lang/IndexOutOfBoundsException"] ++ wsX10 ++ wsX40 ++ wsX20 ++ (vx_atS RX4 227 "java/lang/IndexOutOfBoundsException" ["java/lang/RuntimeException", "java/lang/Exception"]).filter goodWord)
def wsL_barredWeekday : List Cond := .codeWith yL_barredWeekday cL_barredWeekday 4 (some .int) [(0, 9, 12, 13)] :: ([.classLink RL 13 "java/lang/IndexOutOfBoundsException", .methodLink RL 61 yX4_barredWeekday, .instanceMethod yX4_barredWeekday, .selects RX4 yX4_barredWeekday yX4_barredWeekday, .initialized RX4, .code yX4_barredWeekday cX4_barredWeekday 2 (some .int), .methodLink RX4 113 yX4_requireFeast, .instanceMethod yX4_requireFeast, .selects RX4 yX4_requireFeast yX4_requireFeast, .code yX4_requireFeast cX4_requireFeast 2 (some (.object "TwoTownAlmanac$Feast")), .fieldLink RX4 10 "TwoTownAlmanac" "state" "LTwoTownAlmanac$State;", .methodLink RX4 78 yX4_requireIndex, .static yX4_requireIndex, .code yX4_requireIndex cX4_requireIndex 2 none, .classLink RX4 223 "java/lang/IndexOutOfBoundsException", .initialized "java/lang/IndexOutOfBoundsException"] ++ wsX10 ++ wsX40 ++ wsX20 ++ (vx_atS RX4 227 "java/lang/IndexOutOfBoundsException" ["java/lang/RuntimeException", "java/lang/Exception"]).filter goodWord)
def wsL_dayDue_r1 : List Cond := [Cond.classLink RL 13 "java/lang/IndexOutOfBoundsException", Cond.classLink RL 15 "java/lang/IllegalArgumentException", Cond.methodLink RL 64 yX4_dayDue, Cond.instanceMethod yX4_dayDue, Cond.selects RX4 yX4_dayDue yX4_dayDue, Cond.initialized RX4, Cond.code yX4_dayDue cX4_dayDue 4 (some .int), Cond.fieldLink RX4 10 "TwoTownAlmanac" "state" "LTwoTownAlmanac$State;", Cond.methodLink RX4 113 yX4_requireFeast, Cond.instanceMethod yX4_requireFeast, Cond.selects RX4 yX4_requireFeast yX4_requireFeast, Cond.code yX4_requireFeast cX4_requireFeast 2 (some (.object "TwoTownAlmanac$Feast")), Cond.methodLink RX4 78 yX4_requireIndex, Cond.static yX4_requireIndex, Cond.code yX4_requireIndex cX4_requireIndex 2 none, Cond.classLink RX4 223 "java/lang/IndexOutOfBoundsException", Cond.initialized "java/lang/IndexOutOfBoundsException", Cond.methodLink RX4 46 yX4_requireRange, Cond.static yX4_requireRange, Cond.code yX4_requireRange cX4_requireRange 3 none, Cond.classLink RX4 56 "java/lang/IllegalArgumentException", Cond.initialized "java/lang/IllegalArgumentException", Cond.methodLink RX4 127 yX2_townWith, Cond.instanceMethod yX2_townWith]
def wsL_dayDue_r2 : List Cond := [Cond.selects RX2 yX2_townWith yX2_townWith, Cond.initialized RX2, Cond.code yX2_townWith cX2_townWith 2 (some (.object "TwoTownAlmanac$Town")), Cond.fieldLink RX2 14 "TwoTownAlmanac$State" "townA" "LTwoTownAlmanac$Town;", Cond.fieldLink RX2 20 "TwoTownAlmanac$State" "townB" "LTwoTownAlmanac$Town;", Cond.methodLink RX4 130 yX3_dueIn, Cond.instanceMethod yX3_dueIn, Cond.selects RX3 yX3_dueIn yX3_dueIn, Cond.initialized RX3, Cond.code yX3_dueIn cX3_dueIn 6 (some .int), Cond.methodLink RX3 46 yX3_daysInMonth, Cond.instanceMethod yX3_daysInMonth, Cond.selects RX3 yX3_daysInMonth yX3_daysInMonth, Cond.code yX3_daysInMonth cX3_daysInMonth 2 (some .int), Cond.fieldLink RX3 25 "TwoTownAlmanac$Town" "isA" "Z", Cond.methodLink RX3 49 yX3_dateOf, Cond.instanceMethod yX3_dateOf, Cond.selects RX3 yX3_dateOf yX3_dateOf, Cond.code yX3_dateOf cX3_dateOf 4 (some .int), Cond.methodLink RX3 29 yX3_daysInYear, Cond.instanceMethod yX3_daysInYear, Cond.selects RX3 yX3_daysInYear yX3_daysInYear, Cond.code yX3_daysInYear cX3_daysInYear 1 (some .int), Cond.methodLink RX3 33 yX3_daysBeforeMonth]
def wsL_dayDue_r3 : List Cond := [Cond.instanceMethod yX3_daysBeforeMonth, Cond.selects RX3 yX3_daysBeforeMonth yX3_daysBeforeMonth, Cond.code yX3_daysBeforeMonth cX3_daysBeforeMonth 3 (some .int), Cond.methodLink RX3 53 yX3_firstDayFrom, Cond.instanceMethod yX3_firstDayFrom, Cond.selects RX3 yX3_firstDayFrom yX3_firstDayFrom, Cond.code yX3_firstDayFrom cX3_firstDayFrom 6 (some .int), Cond.fieldLink RX3 18 "TwoTownAlmanac$Town" "gaps" "I", Cond.fieldLink RX3 9 "TwoTownAlmanac$Town" "gapDays" "[I", Cond.fieldLink RX3 15 "TwoTownAlmanac$Town" "gapLengths" "[I", Cond.methodLink RX3 64 yX3_yearOn, Cond.instanceMethod yX3_yearOn, Cond.selects RX3 yX3_yearOn yX3_yearOn, Cond.code yX3_yearOn cX3_yearOn 3 (some .int), Cond.methodLink RX3 37 yX3_dateOn, Cond.instanceMethod yX3_dateOn, Cond.selects RX3 yX3_dateOn yX3_dateOn, Cond.code yX3_dateOn cX3_dateOn 4 (some .int)]
def wsL_dayDue : List Cond := .codeWith yL_dayDue cL_dayDue 5 (some .int) [(0, 10, 13, 13), (0, 10, 17, 15)] :: ((wsL_dayDue_r1 ++ (wsL_dayDue_r2 ++ wsL_dayDue_r3)) ++ wsX40 ++ wsX10 ++ wsX20 ++ wsX30 ++ (vx_atS RX4 227 "java/lang/IndexOutOfBoundsException" ["java/lang/RuntimeException", "java/lang/Exception"]).filter goodWord ++ (vx_atS RX4 60 "java/lang/IllegalArgumentException" ["java/lang/RuntimeException", "java/lang/Exception"]).filter goodWord)
def wsL_dayKept_r1 : List Cond := [Cond.classLink RL 13 "java/lang/IndexOutOfBoundsException", Cond.classLink RL 15 "java/lang/IllegalArgumentException", Cond.methodLink RL 67 yX4_dayKept, Cond.instanceMethod yX4_dayKept, Cond.selects RX4 yX4_dayKept yX4_dayKept, Cond.initialized RX4, Cond.code yX4_dayKept cX4_dayKept 4 (some .int), Cond.fieldLink RX4 10 "TwoTownAlmanac" "state" "LTwoTownAlmanac$State;", Cond.methodLink RX4 113 yX4_requireFeast, Cond.instanceMethod yX4_requireFeast, Cond.selects RX4 yX4_requireFeast yX4_requireFeast, Cond.code yX4_requireFeast cX4_requireFeast 2 (some (.object "TwoTownAlmanac$Feast")), Cond.methodLink RX4 78 yX4_requireIndex, Cond.static yX4_requireIndex, Cond.code yX4_requireIndex cX4_requireIndex 2 none, Cond.classLink RX4 223 "java/lang/IndexOutOfBoundsException", Cond.initialized "java/lang/IndexOutOfBoundsException", Cond.methodLink RX4 46 yX4_requireRange, Cond.static yX4_requireRange, Cond.code yX4_requireRange cX4_requireRange 3 none, Cond.classLink RX4 56 "java/lang/IllegalArgumentException", Cond.initialized "java/lang/IllegalArgumentException", Cond.methodLink RX4 134 yX2_keptIn, Cond.instanceMethod yX2_keptIn]
def wsL_dayKept_r2 : List Cond := [Cond.selects RX2 yX2_keptIn yX2_keptIn, Cond.initialized RX2, Cond.code yX2_keptIn cX2_keptIn 4 (some .int), Cond.fieldLink RX2 33 "TwoTownAlmanac$State" "shiftDays" "I", Cond.methodLink RX2 68 yX2_townWith, Cond.instanceMethod yX2_townWith, Cond.selects RX2 yX2_townWith yX2_townWith, Cond.code yX2_townWith cX2_townWith 2 (some (.object "TwoTownAlmanac$Town")), Cond.fieldLink RX2 14 "TwoTownAlmanac$State" "townA" "LTwoTownAlmanac$Town;", Cond.fieldLink RX2 20 "TwoTownAlmanac$State" "townB" "LTwoTownAlmanac$Town;", Cond.methodLink RX2 72 yX3_dueIn, Cond.instanceMethod yX3_dueIn, Cond.selects RX3 yX3_dueIn yX3_dueIn, Cond.initialized RX3, Cond.code yX3_dueIn cX3_dueIn 6 (some .int), Cond.methodLink RX3 46 yX3_daysInMonth, Cond.instanceMethod yX3_daysInMonth, Cond.selects RX3 yX3_daysInMonth yX3_daysInMonth, Cond.code yX3_daysInMonth cX3_daysInMonth 2 (some .int), Cond.fieldLink RX3 25 "TwoTownAlmanac$Town" "isA" "Z", Cond.methodLink RX3 49 yX3_dateOf, Cond.instanceMethod yX3_dateOf, Cond.selects RX3 yX3_dateOf yX3_dateOf, Cond.code yX3_dateOf cX3_dateOf 4 (some .int)]
def wsL_dayKept_r3 : List Cond := [Cond.methodLink RX3 29 yX3_daysInYear, Cond.instanceMethod yX3_daysInYear, Cond.selects RX3 yX3_daysInYear yX3_daysInYear, Cond.code yX3_daysInYear cX3_daysInYear 1 (some .int), Cond.methodLink RX3 33 yX3_daysBeforeMonth, Cond.instanceMethod yX3_daysBeforeMonth, Cond.selects RX3 yX3_daysBeforeMonth yX3_daysBeforeMonth, Cond.code yX3_daysBeforeMonth cX3_daysBeforeMonth 3 (some .int), Cond.methodLink RX3 53 yX3_firstDayFrom, Cond.instanceMethod yX3_firstDayFrom, Cond.selects RX3 yX3_firstDayFrom yX3_firstDayFrom, Cond.code yX3_firstDayFrom cX3_firstDayFrom 6 (some .int), Cond.fieldLink RX3 18 "TwoTownAlmanac$Town" "gaps" "I", Cond.fieldLink RX3 9 "TwoTownAlmanac$Town" "gapDays" "[I", Cond.fieldLink RX3 15 "TwoTownAlmanac$Town" "gapLengths" "[I", Cond.methodLink RX3 64 yX3_yearOn, Cond.instanceMethod yX3_yearOn, Cond.selects RX3 yX3_yearOn yX3_yearOn, Cond.code yX3_yearOn cX3_yearOn 3 (some .int), Cond.methodLink RX3 37 yX3_dateOn, Cond.instanceMethod yX3_dateOn, Cond.selects RX3 yX3_dateOn yX3_dateOn, Cond.code yX3_dateOn cX3_dateOn 4 (some .int)]
def wsL_dayKept : List Cond := .codeWith yL_dayKept cL_dayKept 5 (some .int) [(0, 10, 13, 13), (0, 10, 17, 15)] :: ((wsL_dayKept_r1 ++ (wsL_dayKept_r2 ++ wsL_dayKept_r3)) ++ wsX40 ++ wsX20 ++ wsX10 ++ wsX30 ++ (vx_atS RX4 227 "java/lang/IndexOutOfBoundsException" ["java/lang/RuntimeException", "java/lang/Exception"]).filter goodWord ++ (vx_atS RX4 60 "java/lang/IllegalArgumentException" ["java/lang/RuntimeException", "java/lang/Exception"]).filter goodWord)
def wsL_isKept_r1 : List Cond := [Cond.classLink RL 13 "java/lang/IndexOutOfBoundsException", Cond.classLink RL 15 "java/lang/IllegalArgumentException", Cond.methodLink RL 70 yX4_isKept, Cond.instanceMethod yX4_isKept, Cond.selects RX4 yX4_isKept yX4_isKept, Cond.initialized RX4, Cond.code yX4_isKept cX4_isKept 4 (some .boolean), Cond.fieldLink RX4 10 "TwoTownAlmanac" "state" "LTwoTownAlmanac$State;", Cond.methodLink RX4 113 yX4_requireFeast, Cond.instanceMethod yX4_requireFeast, Cond.selects RX4 yX4_requireFeast yX4_requireFeast, Cond.code yX4_requireFeast cX4_requireFeast 2 (some (.object "TwoTownAlmanac$Feast")), Cond.methodLink RX4 78 yX4_requireIndex, Cond.static yX4_requireIndex, Cond.code yX4_requireIndex cX4_requireIndex 2 none, Cond.classLink RX4 223 "java/lang/IndexOutOfBoundsException", Cond.initialized "java/lang/IndexOutOfBoundsException", Cond.methodLink RX4 46 yX4_requireRange, Cond.static yX4_requireRange, Cond.code yX4_requireRange cX4_requireRange 3 none, Cond.classLink RX4 56 "java/lang/IllegalArgumentException", Cond.initialized "java/lang/IllegalArgumentException", Cond.methodLink RX4 137 yX2_firstKept, Cond.instanceMethod yX2_firstKept]
def wsL_isKept_r2 : List Cond := [Cond.selects RX2 yX2_firstKept yX2_firstKept, Cond.initialized RX2, Cond.code yX2_firstKept cX2_firstKept 7 (some .int), Cond.methodLink RX2 68 yX2_townWith, Cond.instanceMethod yX2_townWith, Cond.selects RX2 yX2_townWith yX2_townWith, Cond.code yX2_townWith cX2_townWith 2 (some (.object "TwoTownAlmanac$Town")), Cond.fieldLink RX2 14 "TwoTownAlmanac$State" "townA" "LTwoTownAlmanac$Town;", Cond.fieldLink RX2 20 "TwoTownAlmanac$State" "townB" "LTwoTownAlmanac$Town;", Cond.methodLink RX2 82 yX3_yearOn, Cond.instanceMethod yX3_yearOn, Cond.selects RX3 yX3_yearOn yX3_yearOn, Cond.initialized RX3, Cond.code yX3_yearOn cX3_yearOn 3 (some .int), Cond.fieldLink RX3 25 "TwoTownAlmanac$Town" "isA" "Z", Cond.methodLink RX3 37 yX3_dateOn, Cond.instanceMethod yX3_dateOn, Cond.selects RX3 yX3_dateOn yX3_dateOn, Cond.code yX3_dateOn cX3_dateOn 4 (some .int), Cond.fieldLink RX3 18 "TwoTownAlmanac$Town" "gaps" "I", Cond.fieldLink RX3 9 "TwoTownAlmanac$Town" "gapDays" "[I", Cond.fieldLink RX3 15 "TwoTownAlmanac$Town" "gapLengths" "[I", Cond.methodLink RX2 86 yX2_firstYearFor, Cond.instanceMethod yX2_firstYearFor]
def wsL_isKept_r3 : List Cond := [Cond.selects RX2 yX2_firstYearFor yX2_firstYearFor, Cond.code yX2_firstYearFor cX2_firstYearFor 3 (some .int), Cond.methodLink RX2 76 Lib.Math.max.name, Cond.static Lib.Math.max.name, Cond.initialized "java/lang/Math", Cond.code Lib.Math.max.name Lib.Math.max.code 2 (some .int), Cond.methodLink RX2 89 yX2_keptIn, Cond.instanceMethod yX2_keptIn, Cond.selects RX2 yX2_keptIn yX2_keptIn, Cond.code yX2_keptIn cX2_keptIn 4 (some .int), Cond.fieldLink RX2 33 "TwoTownAlmanac$State" "shiftDays" "I", Cond.methodLink RX2 72 yX3_dueIn, Cond.instanceMethod yX3_dueIn, Cond.selects RX3 yX3_dueIn yX3_dueIn, Cond.code yX3_dueIn cX3_dueIn 6 (some .int), Cond.methodLink RX3 46 yX3_daysInMonth, Cond.instanceMethod yX3_daysInMonth, Cond.selects RX3 yX3_daysInMonth yX3_daysInMonth, Cond.code yX3_daysInMonth cX3_daysInMonth 2 (some .int), Cond.methodLink RX3 49 yX3_dateOf, Cond.instanceMethod yX3_dateOf, Cond.selects RX3 yX3_dateOf yX3_dateOf, Cond.code yX3_dateOf cX3_dateOf 4 (some .int), Cond.methodLink RX3 29 yX3_daysInYear]
def wsL_isKept_r4 : List Cond := [Cond.instanceMethod yX3_daysInYear, Cond.selects RX3 yX3_daysInYear yX3_daysInYear, Cond.code yX3_daysInYear cX3_daysInYear 1 (some .int), Cond.methodLink RX3 33 yX3_daysBeforeMonth, Cond.instanceMethod yX3_daysBeforeMonth, Cond.selects RX3 yX3_daysBeforeMonth yX3_daysBeforeMonth, Cond.code yX3_daysBeforeMonth cX3_daysBeforeMonth 3 (some .int), Cond.methodLink RX3 53 yX3_firstDayFrom, Cond.instanceMethod yX3_firstDayFrom, Cond.selects RX3 yX3_firstDayFrom yX3_firstDayFrom, Cond.code yX3_firstDayFrom cX3_firstDayFrom 6 (some .int), Cond.methodLink RX3 64 yX3_yearOn]
def wsL_isKept : List Cond := .codeWith yL_isKept cL_isKept 5 (some .int) [(0, 17, 20, 13), (0, 17, 24, 15)] :: ((wsL_isKept_r1 ++ (wsL_isKept_r2 ++ (wsL_isKept_r3 ++ wsL_isKept_r4))) ++ wsX40 ++ wsX20 ++ wsX10 ++ wsX30 ++ (vx_atS RX4 227 "java/lang/IndexOutOfBoundsException" ["java/lang/RuntimeException", "java/lang/Exception"]).filter goodWord ++ (vx_atS RX4 60 "java/lang/IllegalArgumentException" ["java/lang/RuntimeException", "java/lang/Exception"]).filter goodWord)
def wsL_feastsOn_r1 : List Cond := [Cond.classLink RL 15 "java/lang/IllegalArgumentException", Cond.methodLink RL 74 yX4_feastsOn, Cond.instanceMethod yX4_feastsOn, Cond.selects RX4 yX4_feastsOn yX4_feastsOn, Cond.initialized RX4, Cond.code yX4_feastsOn cX4_feastsOn 2 (some .int), Cond.fieldLink RX4 10 "TwoTownAlmanac" "state" "LTwoTownAlmanac$State;", Cond.fieldLink RX4 38 "TwoTownAlmanac" "feastSets" "[I", Cond.methodLink RX4 46 yX4_requireRange, Cond.static yX4_requireRange, Cond.code yX4_requireRange cX4_requireRange 3 none, Cond.classLink RX4 56 "java/lang/IllegalArgumentException", Cond.initialized "java/lang/IllegalArgumentException", Cond.methodLink RX4 141 yX2_markFeasts, Cond.instanceMethod yX2_markFeasts, Cond.selects RX2 yX2_markFeasts yX2_markFeasts, Cond.initialized RX2, Cond.code yX2_markFeasts cX2_markFeasts 8 none, Cond.fieldLink RX2 29 "TwoTownAlmanac$State" "feastsAdded" "I", Cond.fieldLink RX2 25 "TwoTownAlmanac$State" "feasts" "[LTwoTownAlmanac$Feast;", Cond.methodLink RX2 68 yX2_townWith, Cond.instanceMethod yX2_townWith, Cond.selects RX2 yX2_townWith yX2_townWith, Cond.code yX2_townWith cX2_townWith 2 (some (.object "TwoTownAlmanac$Town"))]
def wsL_feastsOn_r2 : List Cond := [Cond.fieldLink RX2 14 "TwoTownAlmanac$State" "townA" "LTwoTownAlmanac$Town;", Cond.fieldLink RX2 20 "TwoTownAlmanac$State" "townB" "LTwoTownAlmanac$Town;", Cond.methodLink RX2 82 yX3_yearOn, Cond.instanceMethod yX3_yearOn, Cond.selects RX3 yX3_yearOn yX3_yearOn, Cond.initialized RX3, Cond.code yX3_yearOn cX3_yearOn 3 (some .int), Cond.fieldLink RX3 25 "TwoTownAlmanac$Town" "isA" "Z", Cond.methodLink RX3 37 yX3_dateOn, Cond.instanceMethod yX3_dateOn, Cond.selects RX3 yX3_dateOn yX3_dateOn, Cond.code yX3_dateOn cX3_dateOn 4 (some .int), Cond.fieldLink RX3 18 "TwoTownAlmanac$Town" "gaps" "I", Cond.fieldLink RX3 9 "TwoTownAlmanac$Town" "gapDays" "[I", Cond.fieldLink RX3 15 "TwoTownAlmanac$Town" "gapLengths" "[I", Cond.methodLink RX2 86 yX2_firstYearFor, Cond.instanceMethod yX2_firstYearFor, Cond.selects RX2 yX2_firstYearFor yX2_firstYearFor, Cond.code yX2_firstYearFor cX2_firstYearFor 3 (some .int), Cond.methodLink RX2 76 Lib.Math.max.name, Cond.static Lib.Math.max.name, Cond.initialized "java/lang/Math", Cond.code Lib.Math.max.name Lib.Math.max.code 2 (some .int), Cond.methodLink RX2 89 yX2_keptIn]
def wsL_feastsOn_r3 : List Cond := [Cond.instanceMethod yX2_keptIn, Cond.selects RX2 yX2_keptIn yX2_keptIn, Cond.code yX2_keptIn cX2_keptIn 4 (some .int), Cond.fieldLink RX2 33 "TwoTownAlmanac$State" "shiftDays" "I", Cond.methodLink RX2 72 yX3_dueIn, Cond.instanceMethod yX3_dueIn, Cond.selects RX3 yX3_dueIn yX3_dueIn, Cond.code yX3_dueIn cX3_dueIn 6 (some .int), Cond.methodLink RX3 46 yX3_daysInMonth, Cond.instanceMethod yX3_daysInMonth, Cond.selects RX3 yX3_daysInMonth yX3_daysInMonth, Cond.code yX3_daysInMonth cX3_daysInMonth 2 (some .int), Cond.methodLink RX3 49 yX3_dateOf, Cond.instanceMethod yX3_dateOf, Cond.selects RX3 yX3_dateOf yX3_dateOf, Cond.code yX3_dateOf cX3_dateOf 4 (some .int), Cond.methodLink RX3 29 yX3_daysInYear, Cond.instanceMethod yX3_daysInYear, Cond.selects RX3 yX3_daysInYear yX3_daysInYear, Cond.code yX3_daysInYear cX3_daysInYear 1 (some .int), Cond.methodLink RX3 33 yX3_daysBeforeMonth, Cond.instanceMethod yX3_daysBeforeMonth, Cond.selects RX3 yX3_daysBeforeMonth yX3_daysBeforeMonth, Cond.code yX3_daysBeforeMonth cX3_daysBeforeMonth 3 (some .int)]
def wsL_feastsOn_r4 : List Cond := [Cond.methodLink RX3 53 yX3_firstDayFrom, Cond.instanceMethod yX3_firstDayFrom, Cond.selects RX3 yX3_firstDayFrom yX3_firstDayFrom, Cond.code yX3_firstDayFrom cX3_firstDayFrom 6 (some .int), Cond.methodLink RX3 64 yX3_yearOn]
def wsL_feastsOn : List Cond := .codeWith yL_feastsOn cL_feastsOn 4 (some .int) [(0, 9, 12, 15)] :: ((wsL_feastsOn_r1 ++ (wsL_feastsOn_r2 ++ (wsL_feastsOn_r3 ++ wsL_feastsOn_r4))) ++ wsX40 ++ wsX20 ++ wsX10 ++ wsX30 ++ (vx_atS RX4 60 "java/lang/IllegalArgumentException" ["java/lang/RuntimeException", "java/lang/Exception"]).filter goodWord)
def wsL_isQuarrel_r1 : List Cond := [Cond.classLink RL 15 "java/lang/IllegalArgumentException", Cond.methodLink RL 77 yX4_isQuarrel, Cond.instanceMethod yX4_isQuarrel, Cond.selects RX4 yX4_isQuarrel yX4_isQuarrel, Cond.initialized RX4, Cond.code yX4_isQuarrel cX4_isQuarrel 2 (some .boolean), Cond.methodLink RX4 46 yX4_requireRange, Cond.static yX4_requireRange, Cond.code yX4_requireRange cX4_requireRange 3 none, Cond.classLink RX4 56 "java/lang/IllegalArgumentException", Cond.initialized "java/lang/IllegalArgumentException", Cond.methodLink RX4 145 yX4_quarrelsFrom, Cond.instanceMethod yX4_quarrelsFrom, Cond.selects RX4 yX4_quarrelsFrom yX4_quarrelsFrom, Cond.code yX4_quarrelsFrom cX4_quarrelsFrom 3 (some .int), Cond.fieldLink RX4 10 "TwoTownAlmanac" "state" "LTwoTownAlmanac$State;", Cond.fieldLink RX4 38 "TwoTownAlmanac" "feastSets" "[I", Cond.methodLink RX4 141 yX2_markFeasts, Cond.instanceMethod yX2_markFeasts, Cond.selects RX2 yX2_markFeasts yX2_markFeasts, Cond.initialized RX2, Cond.code yX2_markFeasts cX2_markFeasts 8 none, Cond.fieldLink RX2 29 "TwoTownAlmanac$State" "feastsAdded" "I", Cond.fieldLink RX2 25 "TwoTownAlmanac$State" "feasts" "[LTwoTownAlmanac$Feast;"]
def wsL_isQuarrel_r2 : List Cond := [Cond.methodLink RX2 68 yX2_townWith, Cond.instanceMethod yX2_townWith, Cond.selects RX2 yX2_townWith yX2_townWith, Cond.code yX2_townWith cX2_townWith 2 (some (.object "TwoTownAlmanac$Town")), Cond.fieldLink RX2 14 "TwoTownAlmanac$State" "townA" "LTwoTownAlmanac$Town;", Cond.fieldLink RX2 20 "TwoTownAlmanac$State" "townB" "LTwoTownAlmanac$Town;", Cond.methodLink RX2 82 yX3_yearOn, Cond.instanceMethod yX3_yearOn, Cond.selects RX3 yX3_yearOn yX3_yearOn, Cond.initialized RX3, Cond.code yX3_yearOn cX3_yearOn 3 (some .int), Cond.fieldLink RX3 25 "TwoTownAlmanac$Town" "isA" "Z", Cond.methodLink RX3 37 yX3_dateOn, Cond.instanceMethod yX3_dateOn, Cond.selects RX3 yX3_dateOn yX3_dateOn, Cond.code yX3_dateOn cX3_dateOn 4 (some .int), Cond.fieldLink RX3 18 "TwoTownAlmanac$Town" "gaps" "I", Cond.fieldLink RX3 9 "TwoTownAlmanac$Town" "gapDays" "[I", Cond.fieldLink RX3 15 "TwoTownAlmanac$Town" "gapLengths" "[I", Cond.methodLink RX2 86 yX2_firstYearFor, Cond.instanceMethod yX2_firstYearFor, Cond.selects RX2 yX2_firstYearFor yX2_firstYearFor, Cond.code yX2_firstYearFor cX2_firstYearFor 3 (some .int), Cond.methodLink RX2 76 Lib.Math.max.name]
def wsL_isQuarrel_r3 : List Cond := [Cond.static Lib.Math.max.name, Cond.initialized "java/lang/Math", Cond.code Lib.Math.max.name Lib.Math.max.code 2 (some .int), Cond.methodLink RX2 89 yX2_keptIn, Cond.instanceMethod yX2_keptIn, Cond.selects RX2 yX2_keptIn yX2_keptIn, Cond.code yX2_keptIn cX2_keptIn 4 (some .int), Cond.fieldLink RX2 33 "TwoTownAlmanac$State" "shiftDays" "I", Cond.methodLink RX2 72 yX3_dueIn, Cond.instanceMethod yX3_dueIn, Cond.selects RX3 yX3_dueIn yX3_dueIn, Cond.code yX3_dueIn cX3_dueIn 6 (some .int), Cond.methodLink RX3 46 yX3_daysInMonth, Cond.instanceMethod yX3_daysInMonth, Cond.selects RX3 yX3_daysInMonth yX3_daysInMonth, Cond.code yX3_daysInMonth cX3_daysInMonth 2 (some .int), Cond.methodLink RX3 49 yX3_dateOf, Cond.instanceMethod yX3_dateOf, Cond.selects RX3 yX3_dateOf yX3_dateOf, Cond.code yX3_dateOf cX3_dateOf 4 (some .int), Cond.methodLink RX3 29 yX3_daysInYear, Cond.instanceMethod yX3_daysInYear, Cond.selects RX3 yX3_daysInYear yX3_daysInYear, Cond.code yX3_daysInYear cX3_daysInYear 1 (some .int)]
def wsL_isQuarrel_r4 : List Cond := [Cond.methodLink RX3 33 yX3_daysBeforeMonth, Cond.instanceMethod yX3_daysBeforeMonth, Cond.selects RX3 yX3_daysBeforeMonth yX3_daysBeforeMonth, Cond.code yX3_daysBeforeMonth cX3_daysBeforeMonth 3 (some .int), Cond.methodLink RX3 53 yX3_firstDayFrom, Cond.instanceMethod yX3_firstDayFrom, Cond.selects RX3 yX3_firstDayFrom yX3_firstDayFrom, Cond.code yX3_firstDayFrom cX3_firstDayFrom 6 (some .int), Cond.methodLink RX3 64 yX3_yearOn, Cond.methodLink RX4 235 yX2_countQuarrels, Cond.instanceMethod yX2_countQuarrels, Cond.selects RX2 yX2_countQuarrels yX2_countQuarrels, Cond.code yX2_countQuarrels cX2_countQuarrels 7 (some .int), Cond.methodLink RX2 96 yX2_feastsOf, Cond.instanceMethod yX2_feastsOf, Cond.selects RX2 yX2_feastsOf yX2_feastsOf, Cond.code yX2_feastsOf cX2_feastsOf 4 (some .int)]
def wsL_isQuarrel : List Cond := .codeWith yL_isQuarrel cL_isQuarrel 4 (some .int) [(0, 16, 19, 15)] :: ((wsL_isQuarrel_r1 ++ (wsL_isQuarrel_r2 ++ (wsL_isQuarrel_r3 ++ wsL_isQuarrel_r4))) ++ wsX40 ++ wsX20 ++ wsX10 ++ wsX30 ++ (vx_atS RX4 60 "java/lang/IllegalArgumentException" ["java/lang/RuntimeException", "java/lang/Exception"]).filter goodWord)
def wsL_setShift_r1 : List Cond := [Cond.classLink RL 15 "java/lang/IllegalArgumentException", Cond.methodLink RL 81 yX4_setShift, Cond.instanceMethod yX4_setShift, Cond.selects RX4 yX4_setShift yX4_setShift, Cond.initialized RX4, Cond.code yX4_setShift cX4_setShift 3 (some .int), Cond.fieldLink RX4 10 "TwoTownAlmanac" "state" "LTwoTownAlmanac$State;", Cond.methodLink RX4 46 yX4_requireRange, Cond.static yX4_requireRange, Cond.code yX4_requireRange cX4_requireRange 3 none, Cond.classLink RX4 56 "java/lang/IllegalArgumentException", Cond.initialized "java/lang/IllegalArgumentException", Cond.methodLink RX4 71 yX4_recordState, Cond.instanceMethod yX4_recordState, Cond.selects RX4 yX4_recordState yX4_recordState, Cond.code yX4_recordState cX4_recordState 1 none, Cond.fieldLink RX4 20 "TwoTownAlmanac" "recordedCount" "I", Cond.fieldLink RX4 16 "TwoTownAlmanac" "recorded" "[LTwoTownAlmanac$State;", Cond.methodLink RX4 232 yX4_dropOldestRecorded, Cond.instanceMethod yX4_dropOldestRecorded, Cond.selects RX4 yX4_dropOldestRecorded yX4_dropOldestRecorded, Cond.code yX4_dropOldestRecorded cX4_dropOldestRecorded 3 none, Cond.methodLink RX4 215 yX2_copyFrom, Cond.instanceMethod yX2_copyFrom]
def wsL_setShift_r2 : List Cond := [Cond.selects RX2 yX2_copyFrom yX2_copyFrom, Cond.initialized RX2, Cond.code yX2_copyFrom cX2_copyFrom 3 none, Cond.fieldLink RX2 14 "TwoTownAlmanac$State" "townA" "LTwoTownAlmanac$Town;", Cond.fieldLink RX2 20 "TwoTownAlmanac$State" "townB" "LTwoTownAlmanac$Town;", Cond.fieldLink RX2 25 "TwoTownAlmanac$State" "feasts" "[LTwoTownAlmanac$Feast;", Cond.fieldLink RX2 29 "TwoTownAlmanac$State" "feastsAdded" "I", Cond.fieldLink RX2 33 "TwoTownAlmanac$State" "shiftDays" "I", Cond.fieldLink RX2 36 "TwoTownAlmanac$State" "copiesEachDay" "I", Cond.fieldLink RX2 39 "TwoTownAlmanac$State" "dayNow" "I", Cond.fieldLink RX2 42 "TwoTownAlmanac$State" "quarrels" "I", Cond.fieldLink RX2 45 "TwoTownAlmanac$State" "copies" "I", Cond.methodLink RX2 49 yX3_copyFrom, Cond.instanceMethod yX3_copyFrom, Cond.selects RX3 yX3_copyFrom yX3_copyFrom, Cond.initialized RX3, Cond.code yX3_copyFrom cX3_copyFrom 3 none, Cond.fieldLink RX3 9 "TwoTownAlmanac$Town" "gapDays" "[I", Cond.fieldLink RX3 15 "TwoTownAlmanac$Town" "gapLengths" "[I", Cond.fieldLink RX3 18 "TwoTownAlmanac$Town" "gaps" "I", Cond.fieldLink RX3 22 "TwoTownAlmanac$Town" "keptCount" "I", Cond.methodLink RX2 53 yX1_copyFrom, Cond.instanceMethod yX1_copyFrom, Cond.selects RX1 yX1_copyFrom yX1_copyFrom]
def wsL_setShift_r3 : List Cond := [Cond.initialized RX1, Cond.code yX1_copyFrom cX1_copyFrom 2 none, Cond.fieldLink RX1 9 "TwoTownAlmanac$Feast" "town" "I", Cond.fieldLink RX1 15 "TwoTownAlmanac$Feast" "month" "I", Cond.fieldLink RX1 18 "TwoTownAlmanac$Feast" "dayOfMonth" "I", Cond.fieldLink RX1 21 "TwoTownAlmanac$Feast" "barred" "I"]
def wsL_setShift : List Cond := .codeWith yL_setShift cL_setShift 4 (some .int) [(0, 9, 12, 15)] :: ((wsL_setShift_r1 ++ (wsL_setShift_r2 ++ wsL_setShift_r3)) ++ wsX40 ++ wsX20 ++ wsX30 ++ wsX10 ++ (vx_atS RX4 60 "java/lang/IllegalArgumentException" ["java/lang/RuntimeException", "java/lang/Exception"]).filter goodWord)
def wsL_setCopiesPerDay_r1 : List Cond := [Cond.classLink RL 15 "java/lang/IllegalArgumentException", Cond.methodLink RL 84 yX4_setCopiesPerDay, Cond.instanceMethod yX4_setCopiesPerDay, Cond.selects RX4 yX4_setCopiesPerDay yX4_setCopiesPerDay, Cond.initialized RX4, Cond.code yX4_setCopiesPerDay cX4_setCopiesPerDay 3 (some .int), Cond.fieldLink RX4 10 "TwoTownAlmanac" "state" "LTwoTownAlmanac$State;", Cond.methodLink RX4 46 yX4_requireRange, Cond.static yX4_requireRange, Cond.code yX4_requireRange cX4_requireRange 3 none, Cond.classLink RX4 56 "java/lang/IllegalArgumentException", Cond.initialized "java/lang/IllegalArgumentException", Cond.methodLink RX4 71 yX4_recordState, Cond.instanceMethod yX4_recordState, Cond.selects RX4 yX4_recordState yX4_recordState, Cond.code yX4_recordState cX4_recordState 1 none, Cond.fieldLink RX4 20 "TwoTownAlmanac" "recordedCount" "I", Cond.fieldLink RX4 16 "TwoTownAlmanac" "recorded" "[LTwoTownAlmanac$State;", Cond.methodLink RX4 232 yX4_dropOldestRecorded, Cond.instanceMethod yX4_dropOldestRecorded, Cond.selects RX4 yX4_dropOldestRecorded yX4_dropOldestRecorded, Cond.code yX4_dropOldestRecorded cX4_dropOldestRecorded 3 none, Cond.methodLink RX4 215 yX2_copyFrom, Cond.instanceMethod yX2_copyFrom]
def wsL_setCopiesPerDay_r2 : List Cond := [Cond.selects RX2 yX2_copyFrom yX2_copyFrom, Cond.initialized RX2, Cond.code yX2_copyFrom cX2_copyFrom 3 none, Cond.fieldLink RX2 14 "TwoTownAlmanac$State" "townA" "LTwoTownAlmanac$Town;", Cond.fieldLink RX2 20 "TwoTownAlmanac$State" "townB" "LTwoTownAlmanac$Town;", Cond.fieldLink RX2 25 "TwoTownAlmanac$State" "feasts" "[LTwoTownAlmanac$Feast;", Cond.fieldLink RX2 29 "TwoTownAlmanac$State" "feastsAdded" "I", Cond.fieldLink RX2 33 "TwoTownAlmanac$State" "shiftDays" "I", Cond.fieldLink RX2 36 "TwoTownAlmanac$State" "copiesEachDay" "I", Cond.fieldLink RX2 39 "TwoTownAlmanac$State" "dayNow" "I", Cond.fieldLink RX2 42 "TwoTownAlmanac$State" "quarrels" "I", Cond.fieldLink RX2 45 "TwoTownAlmanac$State" "copies" "I", Cond.methodLink RX2 49 yX3_copyFrom, Cond.instanceMethod yX3_copyFrom, Cond.selects RX3 yX3_copyFrom yX3_copyFrom, Cond.initialized RX3, Cond.code yX3_copyFrom cX3_copyFrom 3 none, Cond.fieldLink RX3 9 "TwoTownAlmanac$Town" "gapDays" "[I", Cond.fieldLink RX3 15 "TwoTownAlmanac$Town" "gapLengths" "[I", Cond.fieldLink RX3 18 "TwoTownAlmanac$Town" "gaps" "I", Cond.fieldLink RX3 22 "TwoTownAlmanac$Town" "keptCount" "I", Cond.methodLink RX2 53 yX1_copyFrom, Cond.instanceMethod yX1_copyFrom, Cond.selects RX1 yX1_copyFrom yX1_copyFrom]
def wsL_setCopiesPerDay_r3 : List Cond := [Cond.initialized RX1, Cond.code yX1_copyFrom cX1_copyFrom 2 none, Cond.fieldLink RX1 9 "TwoTownAlmanac$Feast" "town" "I", Cond.fieldLink RX1 15 "TwoTownAlmanac$Feast" "month" "I", Cond.fieldLink RX1 18 "TwoTownAlmanac$Feast" "dayOfMonth" "I", Cond.fieldLink RX1 21 "TwoTownAlmanac$Feast" "barred" "I"]
def wsL_setCopiesPerDay : List Cond := .codeWith yL_setCopiesPerDay cL_setCopiesPerDay 4 (some .int) [(0, 9, 12, 15)] :: ((wsL_setCopiesPerDay_r1 ++ (wsL_setCopiesPerDay_r2 ++ wsL_setCopiesPerDay_r3)) ++ wsX40 ++ wsX20 ++ wsX30 ++ wsX10 ++ (vx_atS RX4 60 "java/lang/IllegalArgumentException" ["java/lang/RuntimeException", "java/lang/Exception"]).filter goodWord)
def wsL_passDays_r1 : List Cond := [Cond.classLink RL 15 "java/lang/IllegalArgumentException", Cond.classLink RL 17 "java/lang/IllegalStateException", Cond.methodLink RL 87 yX4_passDays, Cond.instanceMethod yX4_passDays, Cond.selects RX4 yX4_passDays yX4_passDays, Cond.initialized RX4, Cond.code yX4_passDays cX4_passDays 3 (some .int), Cond.classLink RX4 66 "java/lang/IllegalStateException", Cond.initialized "java/lang/IllegalStateException", Cond.fieldLink RX4 10 "TwoTownAlmanac" "state" "LTwoTownAlmanac$State;", Cond.fieldLink RX4 38 "TwoTownAlmanac" "feastSets" "[I", Cond.methodLink RX4 46 yX4_requireRange, Cond.static yX4_requireRange, Cond.code yX4_requireRange cX4_requireRange 3 none, Cond.classLink RX4 56 "java/lang/IllegalArgumentException", Cond.initialized "java/lang/IllegalArgumentException", Cond.methodLink RX4 71 yX4_recordState, Cond.instanceMethod yX4_recordState, Cond.selects RX4 yX4_recordState yX4_recordState, Cond.code yX4_recordState cX4_recordState 1 none, Cond.fieldLink RX4 20 "TwoTownAlmanac" "recordedCount" "I", Cond.fieldLink RX4 16 "TwoTownAlmanac" "recorded" "[LTwoTownAlmanac$State;", Cond.methodLink RX4 232 yX4_dropOldestRecorded, Cond.instanceMethod yX4_dropOldestRecorded]
def wsL_passDays_r2 : List Cond := [Cond.selects RX4 yX4_dropOldestRecorded yX4_dropOldestRecorded, Cond.code yX4_dropOldestRecorded cX4_dropOldestRecorded 3 none, Cond.methodLink RX4 215 yX2_copyFrom, Cond.instanceMethod yX2_copyFrom, Cond.selects RX2 yX2_copyFrom yX2_copyFrom, Cond.initialized RX2, Cond.code yX2_copyFrom cX2_copyFrom 3 none, Cond.fieldLink RX2 14 "TwoTownAlmanac$State" "townA" "LTwoTownAlmanac$Town;", Cond.fieldLink RX2 20 "TwoTownAlmanac$State" "townB" "LTwoTownAlmanac$Town;", Cond.fieldLink RX2 25 "TwoTownAlmanac$State" "feasts" "[LTwoTownAlmanac$Feast;", Cond.fieldLink RX2 29 "TwoTownAlmanac$State" "feastsAdded" "I", Cond.fieldLink RX2 33 "TwoTownAlmanac$State" "shiftDays" "I", Cond.fieldLink RX2 36 "TwoTownAlmanac$State" "copiesEachDay" "I", Cond.fieldLink RX2 39 "TwoTownAlmanac$State" "dayNow" "I", Cond.fieldLink RX2 42 "TwoTownAlmanac$State" "quarrels" "I", Cond.fieldLink RX2 45 "TwoTownAlmanac$State" "copies" "I", Cond.methodLink RX2 49 yX3_copyFrom, Cond.instanceMethod yX3_copyFrom, Cond.selects RX3 yX3_copyFrom yX3_copyFrom, Cond.initialized RX3, Cond.code yX3_copyFrom cX3_copyFrom 3 none, Cond.fieldLink RX3 9 "TwoTownAlmanac$Town" "gapDays" "[I", Cond.fieldLink RX3 15 "TwoTownAlmanac$Town" "gapLengths" "[I", Cond.fieldLink RX3 18 "TwoTownAlmanac$Town" "gaps" "I"]
def wsL_passDays_r3 : List Cond := [Cond.fieldLink RX3 22 "TwoTownAlmanac$Town" "keptCount" "I", Cond.methodLink RX2 53 yX1_copyFrom, Cond.instanceMethod yX1_copyFrom, Cond.selects RX1 yX1_copyFrom yX1_copyFrom, Cond.initialized RX1, Cond.code yX1_copyFrom cX1_copyFrom 2 none, Cond.fieldLink RX1 9 "TwoTownAlmanac$Feast" "town" "I", Cond.fieldLink RX1 15 "TwoTownAlmanac$Feast" "month" "I", Cond.fieldLink RX1 18 "TwoTownAlmanac$Feast" "dayOfMonth" "I", Cond.fieldLink RX1 21 "TwoTownAlmanac$Feast" "barred" "I", Cond.methodLink RX4 145 yX4_quarrelsFrom, Cond.instanceMethod yX4_quarrelsFrom, Cond.selects RX4 yX4_quarrelsFrom yX4_quarrelsFrom, Cond.code yX4_quarrelsFrom cX4_quarrelsFrom 3 (some .int), Cond.methodLink RX4 141 yX2_markFeasts, Cond.instanceMethod yX2_markFeasts, Cond.selects RX2 yX2_markFeasts yX2_markFeasts, Cond.code yX2_markFeasts cX2_markFeasts 8 none, Cond.methodLink RX2 68 yX2_townWith, Cond.instanceMethod yX2_townWith, Cond.selects RX2 yX2_townWith yX2_townWith, Cond.code yX2_townWith cX2_townWith 2 (some (.object "TwoTownAlmanac$Town")), Cond.methodLink RX2 82 yX3_yearOn, Cond.instanceMethod yX3_yearOn]
def wsL_passDays_r4 : List Cond := [Cond.selects RX3 yX3_yearOn yX3_yearOn, Cond.code yX3_yearOn cX3_yearOn 3 (some .int), Cond.fieldLink RX3 25 "TwoTownAlmanac$Town" "isA" "Z", Cond.methodLink RX3 37 yX3_dateOn, Cond.instanceMethod yX3_dateOn, Cond.selects RX3 yX3_dateOn yX3_dateOn, Cond.code yX3_dateOn cX3_dateOn 4 (some .int), Cond.methodLink RX2 86 yX2_firstYearFor, Cond.instanceMethod yX2_firstYearFor, Cond.selects RX2 yX2_firstYearFor yX2_firstYearFor, Cond.code yX2_firstYearFor cX2_firstYearFor 3 (some .int), Cond.methodLink RX2 76 Lib.Math.max.name, Cond.static Lib.Math.max.name, Cond.initialized "java/lang/Math", Cond.code Lib.Math.max.name Lib.Math.max.code 2 (some .int), Cond.methodLink RX2 89 yX2_keptIn, Cond.instanceMethod yX2_keptIn, Cond.selects RX2 yX2_keptIn yX2_keptIn, Cond.code yX2_keptIn cX2_keptIn 4 (some .int), Cond.methodLink RX2 72 yX3_dueIn, Cond.instanceMethod yX3_dueIn, Cond.selects RX3 yX3_dueIn yX3_dueIn, Cond.code yX3_dueIn cX3_dueIn 6 (some .int), Cond.methodLink RX3 46 yX3_daysInMonth]
def wsL_passDays_r5 : List Cond := [Cond.instanceMethod yX3_daysInMonth, Cond.selects RX3 yX3_daysInMonth yX3_daysInMonth, Cond.code yX3_daysInMonth cX3_daysInMonth 2 (some .int), Cond.methodLink RX3 49 yX3_dateOf, Cond.instanceMethod yX3_dateOf, Cond.selects RX3 yX3_dateOf yX3_dateOf, Cond.code yX3_dateOf cX3_dateOf 4 (some .int), Cond.methodLink RX3 29 yX3_daysInYear, Cond.instanceMethod yX3_daysInYear, Cond.selects RX3 yX3_daysInYear yX3_daysInYear, Cond.code yX3_daysInYear cX3_daysInYear 1 (some .int), Cond.methodLink RX3 33 yX3_daysBeforeMonth, Cond.instanceMethod yX3_daysBeforeMonth, Cond.selects RX3 yX3_daysBeforeMonth yX3_daysBeforeMonth, Cond.code yX3_daysBeforeMonth cX3_daysBeforeMonth 3 (some .int), Cond.methodLink RX3 53 yX3_firstDayFrom, Cond.instanceMethod yX3_firstDayFrom, Cond.selects RX3 yX3_firstDayFrom yX3_firstDayFrom, Cond.code yX3_firstDayFrom cX3_firstDayFrom 6 (some .int), Cond.methodLink RX3 64 yX3_yearOn, Cond.methodLink RX4 235 yX2_countQuarrels, Cond.instanceMethod yX2_countQuarrels, Cond.selects RX2 yX2_countQuarrels yX2_countQuarrels, Cond.code yX2_countQuarrels cX2_countQuarrels 7 (some .int)]
def wsL_passDays_r6 : List Cond := [Cond.methodLink RX2 96 yX2_feastsOf, Cond.instanceMethod yX2_feastsOf, Cond.selects RX2 yX2_feastsOf yX2_feastsOf, Cond.code yX2_feastsOf cX2_feastsOf 4 (some .int), Cond.methodLink RX4 162 yX2_countPassed, Cond.instanceMethod yX2_countPassed, Cond.selects RX2 yX2_countPassed yX2_countPassed, Cond.code yX2_countPassed cX2_countPassed 6 none, Cond.methodLink RX2 102 yJ6_bitCount_0f7a4, Cond.static yJ6_bitCount_0f7a4, Cond.initialized RJ6, Cond.code yJ6_bitCount_0f7a4 cJ6_bitCount_0f7a4 1 (some .int), Cond.constant RJ6 265 (1431655765), Cond.constant RJ6 266 (858993459), Cond.constant RJ6 267 (252645135)]
def wsL_passDays : List Cond := .codeWith yL_passDays cL_passDays 4 (some .int) [(0, 9, 12, 15), (0, 9, 15, 17)] :: ((wsL_passDays_r1 ++ (wsL_passDays_r2 ++ (wsL_passDays_r3 ++ (wsL_passDays_r4 ++ (wsL_passDays_r5 ++ wsL_passDays_r6))))) ++ wsX40 ++ wsX20 ++ wsX30 ++ wsX10 ++ (vx_atS RX4 70 "java/lang/IllegalStateException" ["java/lang/RuntimeException", "java/lang/Exception"]).filter goodWord ++ (vx_atS RX4 60 "java/lang/IllegalArgumentException" ["java/lang/RuntimeException", "java/lang/Exception"]).filter goodWord)
def wsL_feastsKept : List Cond := .codeWith yL_feastsKept cL_feastsKept 4 (some .int) [(0, 9, 12, 13)] :: ([.classLink RL 13 "java/lang/IndexOutOfBoundsException", .methodLink RL 90 yX4_feastsKept, .instanceMethod yX4_feastsKept, .selects RX4 yX4_feastsKept yX4_feastsKept, .initialized RX4, .code yX4_feastsKept cX4_feastsKept 2 (some .int), .methodLink RX4 42 yX4_requireTown, .instanceMethod yX4_requireTown, .selects RX4 yX4_requireTown yX4_requireTown, .code yX4_requireTown cX4_requireTown 2 (some (.object "TwoTownAlmanac$Town")), .fieldLink RX4 10 "TwoTownAlmanac" "state" "LTwoTownAlmanac$State;", .methodLink RX4 78 yX4_requireIndex, .static yX4_requireIndex, .code yX4_requireIndex cX4_requireIndex 2 none, .classLink RX4 223 "java/lang/IndexOutOfBoundsException", .initialized "java/lang/IndexOutOfBoundsException", .methodLink RX4 127 yX2_townWith, .instanceMethod yX2_townWith, .selects RX2 yX2_townWith yX2_townWith, .initialized RX2, .code yX2_townWith cX2_townWith 2 (some (.object "TwoTownAlmanac$Town")), .fieldLink RX2 14 "TwoTownAlmanac$State" "townA" "LTwoTownAlmanac$Town;", .fieldLink RX2 20 "TwoTownAlmanac$State" "townB" "LTwoTownAlmanac$Town;"] ++ wsX30 ++ wsX40 ++ wsX20 ++ (vx_atS RX4 227 "java/lang/IndexOutOfBoundsException" ["java/lang/RuntimeException", "java/lang/Exception"]).filter goodWord)
def wsL_nextDay_r1 : List Cond := [Cond.classLink RL 13 "java/lang/IndexOutOfBoundsException", Cond.methodLink RL 93 yX4_nextDay, Cond.instanceMethod yX4_nextDay, Cond.selects RX4 yX4_nextDay yX4_nextDay, Cond.initialized RX4, Cond.code yX4_nextDay cX4_nextDay 3 (some .int), Cond.fieldLink RX4 10 "TwoTownAlmanac" "state" "LTwoTownAlmanac$State;", Cond.methodLink RX4 113 yX4_requireFeast, Cond.instanceMethod yX4_requireFeast, Cond.selects RX4 yX4_requireFeast yX4_requireFeast, Cond.code yX4_requireFeast cX4_requireFeast 2 (some (.object "TwoTownAlmanac$Feast")), Cond.methodLink RX4 78 yX4_requireIndex, Cond.static yX4_requireIndex, Cond.code yX4_requireIndex cX4_requireIndex 2 none, Cond.classLink RX4 223 "java/lang/IndexOutOfBoundsException", Cond.initialized "java/lang/IndexOutOfBoundsException", Cond.methodLink RX4 137 yX2_firstKept, Cond.instanceMethod yX2_firstKept, Cond.selects RX2 yX2_firstKept yX2_firstKept, Cond.initialized RX2, Cond.code yX2_firstKept cX2_firstKept 7 (some .int), Cond.methodLink RX2 68 yX2_townWith, Cond.instanceMethod yX2_townWith, Cond.selects RX2 yX2_townWith yX2_townWith]
def wsL_nextDay_r2 : List Cond := [Cond.code yX2_townWith cX2_townWith 2 (some (.object "TwoTownAlmanac$Town")), Cond.fieldLink RX2 14 "TwoTownAlmanac$State" "townA" "LTwoTownAlmanac$Town;", Cond.fieldLink RX2 20 "TwoTownAlmanac$State" "townB" "LTwoTownAlmanac$Town;", Cond.methodLink RX2 82 yX3_yearOn, Cond.instanceMethod yX3_yearOn, Cond.selects RX3 yX3_yearOn yX3_yearOn, Cond.initialized RX3, Cond.code yX3_yearOn cX3_yearOn 3 (some .int), Cond.fieldLink RX3 25 "TwoTownAlmanac$Town" "isA" "Z", Cond.methodLink RX3 37 yX3_dateOn, Cond.instanceMethod yX3_dateOn, Cond.selects RX3 yX3_dateOn yX3_dateOn, Cond.code yX3_dateOn cX3_dateOn 4 (some .int), Cond.fieldLink RX3 18 "TwoTownAlmanac$Town" "gaps" "I", Cond.fieldLink RX3 9 "TwoTownAlmanac$Town" "gapDays" "[I", Cond.fieldLink RX3 15 "TwoTownAlmanac$Town" "gapLengths" "[I", Cond.methodLink RX2 86 yX2_firstYearFor, Cond.instanceMethod yX2_firstYearFor, Cond.selects RX2 yX2_firstYearFor yX2_firstYearFor, Cond.code yX2_firstYearFor cX2_firstYearFor 3 (some .int), Cond.methodLink RX2 76 Lib.Math.max.name, Cond.static Lib.Math.max.name, Cond.initialized "java/lang/Math", Cond.code Lib.Math.max.name Lib.Math.max.code 2 (some .int)]
def wsL_nextDay_r3 : List Cond := [Cond.methodLink RX2 89 yX2_keptIn, Cond.instanceMethod yX2_keptIn, Cond.selects RX2 yX2_keptIn yX2_keptIn, Cond.code yX2_keptIn cX2_keptIn 4 (some .int), Cond.fieldLink RX2 33 "TwoTownAlmanac$State" "shiftDays" "I", Cond.methodLink RX2 72 yX3_dueIn, Cond.instanceMethod yX3_dueIn, Cond.selects RX3 yX3_dueIn yX3_dueIn, Cond.code yX3_dueIn cX3_dueIn 6 (some .int), Cond.methodLink RX3 46 yX3_daysInMonth, Cond.instanceMethod yX3_daysInMonth, Cond.selects RX3 yX3_daysInMonth yX3_daysInMonth, Cond.code yX3_daysInMonth cX3_daysInMonth 2 (some .int), Cond.methodLink RX3 49 yX3_dateOf, Cond.instanceMethod yX3_dateOf, Cond.selects RX3 yX3_dateOf yX3_dateOf, Cond.code yX3_dateOf cX3_dateOf 4 (some .int), Cond.methodLink RX3 29 yX3_daysInYear, Cond.instanceMethod yX3_daysInYear, Cond.selects RX3 yX3_daysInYear yX3_daysInYear, Cond.code yX3_daysInYear cX3_daysInYear 1 (some .int), Cond.methodLink RX3 33 yX3_daysBeforeMonth, Cond.instanceMethod yX3_daysBeforeMonth, Cond.selects RX3 yX3_daysBeforeMonth yX3_daysBeforeMonth]
def wsL_nextDay_r4 : List Cond := [Cond.code yX3_daysBeforeMonth cX3_daysBeforeMonth 3 (some .int), Cond.methodLink RX3 53 yX3_firstDayFrom, Cond.instanceMethod yX3_firstDayFrom, Cond.selects RX3 yX3_firstDayFrom yX3_firstDayFrom, Cond.code yX3_firstDayFrom cX3_firstDayFrom 6 (some .int), Cond.methodLink RX3 64 yX3_yearOn]
def wsL_nextDay : List Cond := .codeWith yL_nextDay cL_nextDay 4 (some .int) [(0, 9, 12, 13)] :: ((wsL_nextDay_r1 ++ (wsL_nextDay_r2 ++ (wsL_nextDay_r3 ++ wsL_nextDay_r4))) ++ wsX40 ++ wsX20 ++ wsX10 ++ wsX30 ++ (vx_atS RX4 227 "java/lang/IndexOutOfBoundsException" ["java/lang/RuntimeException", "java/lang/Exception"]).filter goodWord)
def wsL_daysUntilMeeting_r1 : List Cond := [Cond.classLink RL 13 "java/lang/IndexOutOfBoundsException", Cond.classLink RL 15 "java/lang/IllegalArgumentException", Cond.methodLink RL 96 yX4_daysUntilMeeting, Cond.instanceMethod yX4_daysUntilMeeting, Cond.selects RX4 yX4_daysUntilMeeting yX4_daysUntilMeeting, Cond.initialized RX4, Cond.code yX4_daysUntilMeeting cX4_daysUntilMeeting 6 (some .int), Cond.classLink RX4 56 "java/lang/IllegalArgumentException", Cond.initialized "java/lang/IllegalArgumentException", Cond.fieldLink RX4 10 "TwoTownAlmanac" "state" "LTwoTownAlmanac$State;", Cond.methodLink RX4 113 yX4_requireFeast, Cond.instanceMethod yX4_requireFeast, Cond.selects RX4 yX4_requireFeast yX4_requireFeast, Cond.code yX4_requireFeast cX4_requireFeast 2 (some (.object "TwoTownAlmanac$Feast")), Cond.methodLink RX4 78 yX4_requireIndex, Cond.static yX4_requireIndex, Cond.code yX4_requireIndex cX4_requireIndex 2 none, Cond.classLink RX4 223 "java/lang/IndexOutOfBoundsException", Cond.initialized "java/lang/IndexOutOfBoundsException", Cond.methodLink RX4 174 yX2_firstMeeting, Cond.instanceMethod yX2_firstMeeting, Cond.selects RX2 yX2_firstMeeting yX2_firstMeeting, Cond.initialized RX2, Cond.code yX2_firstMeeting cX2_firstMeeting 8 (some .int)]
def wsL_daysUntilMeeting_r2 : List Cond := [Cond.methodLink RX2 68 yX2_townWith, Cond.instanceMethod yX2_townWith, Cond.selects RX2 yX2_townWith yX2_townWith, Cond.code yX2_townWith cX2_townWith 2 (some (.object "TwoTownAlmanac$Town")), Cond.fieldLink RX2 14 "TwoTownAlmanac$State" "townA" "LTwoTownAlmanac$Town;", Cond.fieldLink RX2 20 "TwoTownAlmanac$State" "townB" "LTwoTownAlmanac$Town;", Cond.methodLink RX2 82 yX3_yearOn, Cond.instanceMethod yX3_yearOn, Cond.selects RX3 yX3_yearOn yX3_yearOn, Cond.initialized RX3, Cond.code yX3_yearOn cX3_yearOn 3 (some .int), Cond.fieldLink RX3 25 "TwoTownAlmanac$Town" "isA" "Z", Cond.methodLink RX3 37 yX3_dateOn, Cond.instanceMethod yX3_dateOn, Cond.selects RX3 yX3_dateOn yX3_dateOn, Cond.code yX3_dateOn cX3_dateOn 4 (some .int), Cond.fieldLink RX3 18 "TwoTownAlmanac$Town" "gaps" "I", Cond.fieldLink RX3 9 "TwoTownAlmanac$Town" "gapDays" "[I", Cond.fieldLink RX3 15 "TwoTownAlmanac$Town" "gapLengths" "[I", Cond.methodLink RX2 86 yX2_firstYearFor, Cond.instanceMethod yX2_firstYearFor, Cond.selects RX2 yX2_firstYearFor yX2_firstYearFor, Cond.code yX2_firstYearFor cX2_firstYearFor 3 (some .int), Cond.methodLink RX2 76 Lib.Math.max.name]
def wsL_daysUntilMeeting_r3 : List Cond := [Cond.static Lib.Math.max.name, Cond.initialized "java/lang/Math", Cond.code Lib.Math.max.name Lib.Math.max.code 2 (some .int), Cond.methodLink RX2 89 yX2_keptIn, Cond.instanceMethod yX2_keptIn, Cond.selects RX2 yX2_keptIn yX2_keptIn, Cond.code yX2_keptIn cX2_keptIn 4 (some .int), Cond.fieldLink RX2 33 "TwoTownAlmanac$State" "shiftDays" "I", Cond.methodLink RX2 72 yX3_dueIn, Cond.instanceMethod yX3_dueIn, Cond.selects RX3 yX3_dueIn yX3_dueIn, Cond.code yX3_dueIn cX3_dueIn 6 (some .int), Cond.methodLink RX3 46 yX3_daysInMonth, Cond.instanceMethod yX3_daysInMonth, Cond.selects RX3 yX3_daysInMonth yX3_daysInMonth, Cond.code yX3_daysInMonth cX3_daysInMonth 2 (some .int), Cond.methodLink RX3 49 yX3_dateOf, Cond.instanceMethod yX3_dateOf, Cond.selects RX3 yX3_dateOf yX3_dateOf, Cond.code yX3_dateOf cX3_dateOf 4 (some .int), Cond.methodLink RX3 29 yX3_daysInYear, Cond.instanceMethod yX3_daysInYear, Cond.selects RX3 yX3_daysInYear yX3_daysInYear, Cond.code yX3_daysInYear cX3_daysInYear 1 (some .int)]
def wsL_daysUntilMeeting_r4 : List Cond := [Cond.methodLink RX3 33 yX3_daysBeforeMonth, Cond.instanceMethod yX3_daysBeforeMonth, Cond.selects RX3 yX3_daysBeforeMonth yX3_daysBeforeMonth, Cond.code yX3_daysBeforeMonth cX3_daysBeforeMonth 3 (some .int), Cond.methodLink RX3 53 yX3_firstDayFrom, Cond.instanceMethod yX3_firstDayFrom, Cond.selects RX3 yX3_firstDayFrom yX3_firstDayFrom, Cond.code yX3_firstDayFrom cX3_firstDayFrom 6 (some .int), Cond.methodLink RX3 64 yX3_yearOn, Cond.methodLink RX2 92 yX2_firstKept, Cond.instanceMethod yX2_firstKept, Cond.selects RX2 yX2_firstKept yX2_firstKept, Cond.code yX2_firstKept cX2_firstKept 7 (some .int)]
def wsL_daysUntilMeeting : List Cond := .codeWith yL_daysUntilMeeting cL_daysUntilMeeting 5 (some .int) [(0, 10, 13, 13), (0, 10, 17, 15)] :: ((wsL_daysUntilMeeting_r1 ++ (wsL_daysUntilMeeting_r2 ++ (wsL_daysUntilMeeting_r3 ++ wsL_daysUntilMeeting_r4))) ++ wsX40 ++ wsX20 ++ wsX10 ++ wsX30 ++ (vx_atS RX4 60 "java/lang/IllegalArgumentException" ["java/lang/RuntimeException", "java/lang/Exception"]).filter goodWord ++ (vx_atS RX4 227 "java/lang/IndexOutOfBoundsException" ["java/lang/RuntimeException", "java/lang/Exception"]).filter goodWord)
def wsL_quarrelsWithin_r1 : List Cond := [Cond.classLink RL 15 "java/lang/IllegalArgumentException", Cond.methodLink RL 99 yX4_quarrelsWithin, Cond.instanceMethod yX4_quarrelsWithin, Cond.selects RX4 yX4_quarrelsWithin yX4_quarrelsWithin, Cond.initialized RX4, Cond.code yX4_quarrelsWithin cX4_quarrelsWithin 2 (some .int), Cond.fieldLink RX4 10 "TwoTownAlmanac" "state" "LTwoTownAlmanac$State;", Cond.methodLink RX4 46 yX4_requireRange, Cond.static yX4_requireRange, Cond.code yX4_requireRange cX4_requireRange 3 none, Cond.classLink RX4 56 "java/lang/IllegalArgumentException", Cond.initialized "java/lang/IllegalArgumentException", Cond.methodLink RX4 145 yX4_quarrelsFrom, Cond.instanceMethod yX4_quarrelsFrom, Cond.selects RX4 yX4_quarrelsFrom yX4_quarrelsFrom, Cond.code yX4_quarrelsFrom cX4_quarrelsFrom 3 (some .int), Cond.fieldLink RX4 38 "TwoTownAlmanac" "feastSets" "[I", Cond.methodLink RX4 141 yX2_markFeasts, Cond.instanceMethod yX2_markFeasts, Cond.selects RX2 yX2_markFeasts yX2_markFeasts, Cond.initialized RX2, Cond.code yX2_markFeasts cX2_markFeasts 8 none, Cond.fieldLink RX2 29 "TwoTownAlmanac$State" "feastsAdded" "I", Cond.fieldLink RX2 25 "TwoTownAlmanac$State" "feasts" "[LTwoTownAlmanac$Feast;"]
def wsL_quarrelsWithin_r2 : List Cond := [Cond.methodLink RX2 68 yX2_townWith, Cond.instanceMethod yX2_townWith, Cond.selects RX2 yX2_townWith yX2_townWith, Cond.code yX2_townWith cX2_townWith 2 (some (.object "TwoTownAlmanac$Town")), Cond.fieldLink RX2 14 "TwoTownAlmanac$State" "townA" "LTwoTownAlmanac$Town;", Cond.fieldLink RX2 20 "TwoTownAlmanac$State" "townB" "LTwoTownAlmanac$Town;", Cond.methodLink RX2 82 yX3_yearOn, Cond.instanceMethod yX3_yearOn, Cond.selects RX3 yX3_yearOn yX3_yearOn, Cond.initialized RX3, Cond.code yX3_yearOn cX3_yearOn 3 (some .int), Cond.fieldLink RX3 25 "TwoTownAlmanac$Town" "isA" "Z", Cond.methodLink RX3 37 yX3_dateOn, Cond.instanceMethod yX3_dateOn, Cond.selects RX3 yX3_dateOn yX3_dateOn, Cond.code yX3_dateOn cX3_dateOn 4 (some .int), Cond.fieldLink RX3 18 "TwoTownAlmanac$Town" "gaps" "I", Cond.fieldLink RX3 9 "TwoTownAlmanac$Town" "gapDays" "[I", Cond.fieldLink RX3 15 "TwoTownAlmanac$Town" "gapLengths" "[I", Cond.methodLink RX2 86 yX2_firstYearFor, Cond.instanceMethod yX2_firstYearFor, Cond.selects RX2 yX2_firstYearFor yX2_firstYearFor, Cond.code yX2_firstYearFor cX2_firstYearFor 3 (some .int), Cond.methodLink RX2 76 Lib.Math.max.name]
def wsL_quarrelsWithin_r3 : List Cond := [Cond.static Lib.Math.max.name, Cond.initialized "java/lang/Math", Cond.code Lib.Math.max.name Lib.Math.max.code 2 (some .int), Cond.methodLink RX2 89 yX2_keptIn, Cond.instanceMethod yX2_keptIn, Cond.selects RX2 yX2_keptIn yX2_keptIn, Cond.code yX2_keptIn cX2_keptIn 4 (some .int), Cond.fieldLink RX2 33 "TwoTownAlmanac$State" "shiftDays" "I", Cond.methodLink RX2 72 yX3_dueIn, Cond.instanceMethod yX3_dueIn, Cond.selects RX3 yX3_dueIn yX3_dueIn, Cond.code yX3_dueIn cX3_dueIn 6 (some .int), Cond.methodLink RX3 46 yX3_daysInMonth, Cond.instanceMethod yX3_daysInMonth, Cond.selects RX3 yX3_daysInMonth yX3_daysInMonth, Cond.code yX3_daysInMonth cX3_daysInMonth 2 (some .int), Cond.methodLink RX3 49 yX3_dateOf, Cond.instanceMethod yX3_dateOf, Cond.selects RX3 yX3_dateOf yX3_dateOf, Cond.code yX3_dateOf cX3_dateOf 4 (some .int), Cond.methodLink RX3 29 yX3_daysInYear, Cond.instanceMethod yX3_daysInYear, Cond.selects RX3 yX3_daysInYear yX3_daysInYear, Cond.code yX3_daysInYear cX3_daysInYear 1 (some .int)]
def wsL_quarrelsWithin_r4 : List Cond := [Cond.methodLink RX3 33 yX3_daysBeforeMonth, Cond.instanceMethod yX3_daysBeforeMonth, Cond.selects RX3 yX3_daysBeforeMonth yX3_daysBeforeMonth, Cond.code yX3_daysBeforeMonth cX3_daysBeforeMonth 3 (some .int), Cond.methodLink RX3 53 yX3_firstDayFrom, Cond.instanceMethod yX3_firstDayFrom, Cond.selects RX3 yX3_firstDayFrom yX3_firstDayFrom, Cond.code yX3_firstDayFrom cX3_firstDayFrom 6 (some .int), Cond.methodLink RX3 64 yX3_yearOn, Cond.methodLink RX4 235 yX2_countQuarrels, Cond.instanceMethod yX2_countQuarrels, Cond.selects RX2 yX2_countQuarrels yX2_countQuarrels, Cond.code yX2_countQuarrels cX2_countQuarrels 7 (some .int), Cond.methodLink RX2 96 yX2_feastsOf, Cond.instanceMethod yX2_feastsOf, Cond.selects RX2 yX2_feastsOf yX2_feastsOf, Cond.code yX2_feastsOf cX2_feastsOf 4 (some .int)]
def wsL_quarrelsWithin : List Cond := .codeWith yL_quarrelsWithin cL_quarrelsWithin 4 (some .int) [(0, 9, 12, 15)] :: ((wsL_quarrelsWithin_r1 ++ (wsL_quarrelsWithin_r2 ++ (wsL_quarrelsWithin_r3 ++ wsL_quarrelsWithin_r4))) ++ wsX40 ++ wsX20 ++ wsX10 ++ wsX30 ++ (vx_atS RX4 60 "java/lang/IllegalArgumentException" ["java/lang/RuntimeException", "java/lang/Exception"]).filter goodWord)
def wsL_bestBarredWeekday_r1 : List Cond := [Cond.classLink RL 13 "java/lang/IndexOutOfBoundsException", Cond.methodLink RL 102 yX4_bestBarredWeekday, Cond.instanceMethod yX4_bestBarredWeekday, Cond.selects RX4 yX4_bestBarredWeekday yX4_bestBarredWeekday, Cond.initialized RX4, Cond.code yX4_bestBarredWeekday cX4_bestBarredWeekday 8 (some .int), Cond.fieldLink RX4 10 "TwoTownAlmanac" "state" "LTwoTownAlmanac$State;", Cond.methodLink RX4 113 yX4_requireFeast, Cond.instanceMethod yX4_requireFeast, Cond.selects RX4 yX4_requireFeast yX4_requireFeast, Cond.code yX4_requireFeast cX4_requireFeast 2 (some (.object "TwoTownAlmanac$Feast")), Cond.methodLink RX4 78 yX4_requireIndex, Cond.static yX4_requireIndex, Cond.code yX4_requireIndex cX4_requireIndex 2 none, Cond.classLink RX4 223 "java/lang/IndexOutOfBoundsException", Cond.initialized "java/lang/IndexOutOfBoundsException", Cond.methodLink RX4 145 yX4_quarrelsFrom, Cond.instanceMethod yX4_quarrelsFrom, Cond.selects RX4 yX4_quarrelsFrom yX4_quarrelsFrom, Cond.code yX4_quarrelsFrom cX4_quarrelsFrom 3 (some .int), Cond.fieldLink RX4 38 "TwoTownAlmanac" "feastSets" "[I", Cond.methodLink RX4 141 yX2_markFeasts, Cond.instanceMethod yX2_markFeasts, Cond.selects RX2 yX2_markFeasts yX2_markFeasts]
def wsL_bestBarredWeekday_r2 : List Cond := [Cond.initialized RX2, Cond.code yX2_markFeasts cX2_markFeasts 8 none, Cond.fieldLink RX2 29 "TwoTownAlmanac$State" "feastsAdded" "I", Cond.fieldLink RX2 25 "TwoTownAlmanac$State" "feasts" "[LTwoTownAlmanac$Feast;", Cond.methodLink RX2 68 yX2_townWith, Cond.instanceMethod yX2_townWith, Cond.selects RX2 yX2_townWith yX2_townWith, Cond.code yX2_townWith cX2_townWith 2 (some (.object "TwoTownAlmanac$Town")), Cond.fieldLink RX2 14 "TwoTownAlmanac$State" "townA" "LTwoTownAlmanac$Town;", Cond.fieldLink RX2 20 "TwoTownAlmanac$State" "townB" "LTwoTownAlmanac$Town;", Cond.methodLink RX2 82 yX3_yearOn, Cond.instanceMethod yX3_yearOn, Cond.selects RX3 yX3_yearOn yX3_yearOn, Cond.initialized RX3, Cond.code yX3_yearOn cX3_yearOn 3 (some .int), Cond.fieldLink RX3 25 "TwoTownAlmanac$Town" "isA" "Z", Cond.methodLink RX3 37 yX3_dateOn, Cond.instanceMethod yX3_dateOn, Cond.selects RX3 yX3_dateOn yX3_dateOn, Cond.code yX3_dateOn cX3_dateOn 4 (some .int), Cond.fieldLink RX3 18 "TwoTownAlmanac$Town" "gaps" "I", Cond.fieldLink RX3 9 "TwoTownAlmanac$Town" "gapDays" "[I", Cond.fieldLink RX3 15 "TwoTownAlmanac$Town" "gapLengths" "[I", Cond.methodLink RX2 86 yX2_firstYearFor]
def wsL_bestBarredWeekday_r3 : List Cond := [Cond.instanceMethod yX2_firstYearFor, Cond.selects RX2 yX2_firstYearFor yX2_firstYearFor, Cond.code yX2_firstYearFor cX2_firstYearFor 3 (some .int), Cond.methodLink RX2 76 Lib.Math.max.name, Cond.static Lib.Math.max.name, Cond.initialized "java/lang/Math", Cond.code Lib.Math.max.name Lib.Math.max.code 2 (some .int), Cond.methodLink RX2 89 yX2_keptIn, Cond.instanceMethod yX2_keptIn, Cond.selects RX2 yX2_keptIn yX2_keptIn, Cond.code yX2_keptIn cX2_keptIn 4 (some .int), Cond.fieldLink RX2 33 "TwoTownAlmanac$State" "shiftDays" "I", Cond.methodLink RX2 72 yX3_dueIn, Cond.instanceMethod yX3_dueIn, Cond.selects RX3 yX3_dueIn yX3_dueIn, Cond.code yX3_dueIn cX3_dueIn 6 (some .int), Cond.methodLink RX3 46 yX3_daysInMonth, Cond.instanceMethod yX3_daysInMonth, Cond.selects RX3 yX3_daysInMonth yX3_daysInMonth, Cond.code yX3_daysInMonth cX3_daysInMonth 2 (some .int), Cond.methodLink RX3 49 yX3_dateOf, Cond.instanceMethod yX3_dateOf, Cond.selects RX3 yX3_dateOf yX3_dateOf, Cond.code yX3_dateOf cX3_dateOf 4 (some .int)]
def wsL_bestBarredWeekday_r4 : List Cond := [Cond.methodLink RX3 29 yX3_daysInYear, Cond.instanceMethod yX3_daysInYear, Cond.selects RX3 yX3_daysInYear yX3_daysInYear, Cond.code yX3_daysInYear cX3_daysInYear 1 (some .int), Cond.methodLink RX3 33 yX3_daysBeforeMonth, Cond.instanceMethod yX3_daysBeforeMonth, Cond.selects RX3 yX3_daysBeforeMonth yX3_daysBeforeMonth, Cond.code yX3_daysBeforeMonth cX3_daysBeforeMonth 3 (some .int), Cond.methodLink RX3 53 yX3_firstDayFrom, Cond.instanceMethod yX3_firstDayFrom, Cond.selects RX3 yX3_firstDayFrom yX3_firstDayFrom, Cond.code yX3_firstDayFrom cX3_firstDayFrom 6 (some .int), Cond.methodLink RX3 64 yX3_yearOn, Cond.methodLink RX4 235 yX2_countQuarrels, Cond.instanceMethod yX2_countQuarrels, Cond.selects RX2 yX2_countQuarrels yX2_countQuarrels, Cond.code yX2_countQuarrels cX2_countQuarrels 7 (some .int), Cond.methodLink RX2 96 yX2_feastsOf, Cond.instanceMethod yX2_feastsOf, Cond.selects RX2 yX2_feastsOf yX2_feastsOf, Cond.code yX2_feastsOf cX2_feastsOf 4 (some .int)]
def wsL_bestBarredWeekday : List Cond := .codeWith yL_bestBarredWeekday cL_bestBarredWeekday 4 (some .int) [(0, 9, 12, 13)] :: ((wsL_bestBarredWeekday_r1 ++ (wsL_bestBarredWeekday_r2 ++ (wsL_bestBarredWeekday_r3 ++ wsL_bestBarredWeekday_r4))) ++ wsX10 ++ wsX40 ++ wsX20 ++ wsX30 ++ (vx_atS RX4 227 "java/lang/IndexOutOfBoundsException" ["java/lang/RuntimeException", "java/lang/Exception"]).filter goodWord)
def wsL_appendText_r1 : List Cond := [Cond.classLink RL 15 "java/lang/IllegalArgumentException", Cond.classLink RL 17 "java/lang/IllegalStateException", Cond.methodLink RL 105 yX4_appendText, Cond.instanceMethod yX4_appendText, Cond.selects RX4 yX4_appendText yX4_appendText, Cond.initialized RX4, Cond.code yX4_appendText cX4_appendText 5 (some .int), Cond.classLink RX4 56 "java/lang/IllegalArgumentException", Cond.initialized "java/lang/IllegalArgumentException", Cond.classLink RX4 66 "java/lang/IllegalStateException", Cond.initialized "java/lang/IllegalStateException", Cond.fieldLink RX4 34 "TwoTownAlmanac" "text" "LTwoTownAlmanac$DateText;", Cond.methodLink RX4 178 yX4_charactersIn, Cond.static yX4_charactersIn, Cond.code yX4_charactersIn cX4_charactersIn 4 (some .int), Cond.methodLink RX4 189 yX4_codeAt, Cond.static yX4_codeAt, Cond.code yX4_codeAt cX4_codeAt 3 (some .int), Cond.constantLong RX4 239 (255), Cond.methodLink RX4 193 yX0_put, Cond.instanceMethod yX0_put, Cond.selects RX0 yX0_put yX0_put, Cond.initialized RX0, Cond.code yX0_put cX0_put 2 none]
def wsL_appendText_r2 : List Cond := [Cond.fieldLink RX0 15 "TwoTownAlmanac$DateText" "length" "I", Cond.fieldLink RX0 9 "TwoTownAlmanac$DateText" "codes" "[I"]
def wsL_appendText : List Cond := .codeWith yL_appendText cL_appendText 5 (some .int) [(0, 9, 12, 15), (0, 9, 16, 17)] :: ((wsL_appendText_r1 ++ wsL_appendText_r2) ++ wsX40 ++ wsX00 ++ (vx_atS RX4 60 "java/lang/IllegalArgumentException" ["java/lang/RuntimeException", "java/lang/Exception"]).filter goodWord ++ (vx_atS RX4 70 "java/lang/IllegalStateException" ["java/lang/RuntimeException", "java/lang/Exception"]).filter goodWord)
def wsL_textCharacter : List Cond := .codeWith yL_textCharacter cL_textCharacter 4 (some .int) [(0, 9, 12, 13)] :: ([.classLink RL 13 "java/lang/IndexOutOfBoundsException", .methodLink RL 109 yX4_textCharacter, .instanceMethod yX4_textCharacter, .selects RX4 yX4_textCharacter yX4_textCharacter, .initialized RX4, .code yX4_textCharacter cX4_textCharacter 2 (some .int), .fieldLink RX4 34 "TwoTownAlmanac" "text" "LTwoTownAlmanac$DateText;", .methodLink RX4 78 yX4_requireIndex, .static yX4_requireIndex, .code yX4_requireIndex cX4_requireIndex 2 none, .classLink RX4 223 "java/lang/IndexOutOfBoundsException", .initialized "java/lang/IndexOutOfBoundsException"] ++ wsX40 ++ wsX00 ++ (vx_atS RX4 227 "java/lang/IndexOutOfBoundsException" ["java/lang/RuntimeException", "java/lang/Exception"]).filter goodWord)
def wsL_dayOfText_r1 : List Cond := [Cond.classLink RL 17 "java/lang/IllegalStateException", Cond.methodLink RL 112 yX4_dayOfText, Cond.instanceMethod yX4_dayOfText, Cond.selects RX4 yX4_dayOfText yX4_dayOfText, Cond.initialized RX4, Cond.code yX4_dayOfText cX4_dayOfText 2 (some .int), Cond.classLink RX4 66 "java/lang/IllegalStateException", Cond.initialized "java/lang/IllegalStateException", Cond.fieldLink RX4 34 "TwoTownAlmanac" "text" "LTwoTownAlmanac$DateText;", Cond.fieldLink RX4 10 "TwoTownAlmanac" "state" "LTwoTownAlmanac$State;", Cond.methodLink RX4 197 yX0_firstError, Cond.instanceMethod yX0_firstError, Cond.selects RX0 yX0_firstError yX0_firstError, Cond.initialized RX0, Cond.code yX0_firstError cX0_firstError 4 (some .int), Cond.fieldLink RX0 15 "TwoTownAlmanac$DateText" "length" "I", Cond.fieldLink RX0 9 "TwoTownAlmanac$DateText" "codes" "[I", Cond.methodLink RX0 23 yX0_fits, Cond.static yX0_fits, Cond.code yX0_fits cX0_fits 5 (some .boolean), Cond.methodLink RX4 205 yX0_town, Cond.instanceMethod yX0_town, Cond.selects RX0 yX0_town yX0_town, Cond.code yX0_town cX0_town 1 (some .int)]
def wsL_dayOfText_r2 : List Cond := [Cond.methodLink RX4 127 yX2_townWith, Cond.instanceMethod yX2_townWith, Cond.selects RX2 yX2_townWith yX2_townWith, Cond.initialized RX2, Cond.code yX2_townWith cX2_townWith 2 (some (.object "TwoTownAlmanac$Town")), Cond.fieldLink RX2 14 "TwoTownAlmanac$State" "townA" "LTwoTownAlmanac$Town;", Cond.fieldLink RX2 20 "TwoTownAlmanac$State" "townB" "LTwoTownAlmanac$Town;", Cond.methodLink RX4 207 yX0_number, Cond.instanceMethod yX0_number, Cond.selects RX0 yX0_number yX0_number, Cond.code yX0_number cX0_number 5 (some .int), Cond.methodLink RX4 101 yX3_dayWithDate, Cond.instanceMethod yX3_dayWithDate, Cond.selects RX3 yX3_dayWithDate yX3_dayWithDate, Cond.initialized RX3, Cond.code yX3_dayWithDate cX3_dayWithDate 6 (some .int), Cond.methodLink RX3 46 yX3_daysInMonth, Cond.instanceMethod yX3_daysInMonth, Cond.selects RX3 yX3_daysInMonth yX3_daysInMonth, Cond.code yX3_daysInMonth cX3_daysInMonth 2 (some .int), Cond.fieldLink RX3 25 "TwoTownAlmanac$Town" "isA" "Z", Cond.methodLink RX3 49 yX3_dateOf, Cond.instanceMethod yX3_dateOf, Cond.selects RX3 yX3_dateOf yX3_dateOf]
def wsL_dayOfText_r3 : List Cond := [Cond.code yX3_dateOf cX3_dateOf 4 (some .int), Cond.methodLink RX3 29 yX3_daysInYear, Cond.instanceMethod yX3_daysInYear, Cond.selects RX3 yX3_daysInYear yX3_daysInYear, Cond.code yX3_daysInYear cX3_daysInYear 1 (some .int), Cond.methodLink RX3 33 yX3_daysBeforeMonth, Cond.instanceMethod yX3_daysBeforeMonth, Cond.selects RX3 yX3_daysBeforeMonth yX3_daysBeforeMonth, Cond.code yX3_daysBeforeMonth cX3_daysBeforeMonth 3 (some .int), Cond.methodLink RX3 53 yX3_firstDayFrom, Cond.instanceMethod yX3_firstDayFrom, Cond.selects RX3 yX3_firstDayFrom yX3_firstDayFrom, Cond.code yX3_firstDayFrom cX3_firstDayFrom 6 (some .int), Cond.fieldLink RX3 18 "TwoTownAlmanac$Town" "gaps" "I", Cond.fieldLink RX3 9 "TwoTownAlmanac$Town" "gapDays" "[I", Cond.fieldLink RX3 15 "TwoTownAlmanac$Town" "gapLengths" "[I", Cond.methodLink RX3 37 yX3_dateOn, Cond.instanceMethod yX3_dateOn, Cond.selects RX3 yX3_dateOn yX3_dateOn, Cond.code yX3_dateOn cX3_dateOn 4 (some .int)]
def wsL_dayOfText : List Cond := .codeWith yL_dayOfText cL_dayOfText 3 (some .int) [(0, 8, 11, 17)] :: ((wsL_dayOfText_r1 ++ (wsL_dayOfText_r2 ++ wsL_dayOfText_r3)) ++ wsX40 ++ wsX00 ++ wsX20 ++ wsX30 ++ (vx_atS RX4 70 "java/lang/IllegalStateException" ["java/lang/RuntimeException", "java/lang/Exception"]).filter goodWord)
def wsL_writeDate_r1 : List Cond := [Cond.classLink RL 13 "java/lang/IndexOutOfBoundsException", Cond.classLink RL 15 "java/lang/IllegalArgumentException", Cond.methodLink RL 116 yX4_writeDate, Cond.instanceMethod yX4_writeDate, Cond.selects RX4 yX4_writeDate yX4_writeDate, Cond.initialized RX4, Cond.code yX4_writeDate cX4_writeDate 4 (some .int), Cond.fieldLink RX4 34 "TwoTownAlmanac" "text" "LTwoTownAlmanac$DateText;", Cond.methodLink RX4 42 yX4_requireTown, Cond.instanceMethod yX4_requireTown, Cond.selects RX4 yX4_requireTown yX4_requireTown, Cond.code yX4_requireTown cX4_requireTown 2 (some (.object "TwoTownAlmanac$Town")), Cond.fieldLink RX4 10 "TwoTownAlmanac" "state" "LTwoTownAlmanac$State;", Cond.methodLink RX4 78 yX4_requireIndex, Cond.static yX4_requireIndex, Cond.code yX4_requireIndex cX4_requireIndex 2 none, Cond.classLink RX4 223 "java/lang/IndexOutOfBoundsException", Cond.initialized "java/lang/IndexOutOfBoundsException", Cond.methodLink RX4 127 yX2_townWith, Cond.instanceMethod yX2_townWith, Cond.selects RX2 yX2_townWith yX2_townWith, Cond.initialized RX2, Cond.code yX2_townWith cX2_townWith 2 (some (.object "TwoTownAlmanac$Town")), Cond.fieldLink RX2 14 "TwoTownAlmanac$State" "townA" "LTwoTownAlmanac$Town;"]
def wsL_writeDate_r2 : List Cond := [Cond.fieldLink RX2 20 "TwoTownAlmanac$State" "townB" "LTwoTownAlmanac$Town;", Cond.methodLink RX4 46 yX4_requireRange, Cond.static yX4_requireRange, Cond.code yX4_requireRange cX4_requireRange 3 none, Cond.classLink RX4 56 "java/lang/IllegalArgumentException", Cond.initialized "java/lang/IllegalArgumentException", Cond.methodLink RX4 193 yX0_put, Cond.instanceMethod yX0_put, Cond.selects RX0 yX0_put yX0_put, Cond.initialized RX0, Cond.code yX0_put cX0_put 2 none, Cond.fieldLink RX0 15 "TwoTownAlmanac$DateText" "length" "I", Cond.fieldLink RX0 9 "TwoTownAlmanac$DateText" "codes" "[I", Cond.methodLink RX4 92 yX3_dayOfMonthOn, Cond.instanceMethod yX3_dayOfMonthOn, Cond.selects RX3 yX3_dayOfMonthOn yX3_dayOfMonthOn, Cond.initialized RX3, Cond.code yX3_dayOfMonthOn cX3_dayOfMonthOn 2 (some .int), Cond.methodLink RX3 40 yX3_dayInYearOn, Cond.instanceMethod yX3_dayInYearOn, Cond.selects RX3 yX3_dayInYearOn yX3_dayInYearOn, Cond.code yX3_dayInYearOn cX3_dayInYearOn 3 (some .int), Cond.fieldLink RX3 25 "TwoTownAlmanac$Town" "isA" "Z", Cond.methodLink RX3 37 yX3_dateOn]
def wsL_writeDate_r3 : List Cond := [Cond.instanceMethod yX3_dateOn, Cond.selects RX3 yX3_dateOn yX3_dateOn, Cond.code yX3_dateOn cX3_dateOn 4 (some .int), Cond.fieldLink RX3 18 "TwoTownAlmanac$Town" "gaps" "I", Cond.fieldLink RX3 9 "TwoTownAlmanac$Town" "gapDays" "[I", Cond.fieldLink RX3 15 "TwoTownAlmanac$Town" "gapLengths" "[I", Cond.methodLink RX3 43 yX3_monthOn, Cond.instanceMethod yX3_monthOn, Cond.selects RX3 yX3_monthOn yX3_monthOn, Cond.code yX3_monthOn cX3_monthOn 4 (some .int), Cond.methodLink RX3 33 yX3_daysBeforeMonth, Cond.instanceMethod yX3_daysBeforeMonth, Cond.selects RX3 yX3_daysBeforeMonth yX3_daysBeforeMonth, Cond.code yX3_daysBeforeMonth cX3_daysBeforeMonth 3 (some .int), Cond.methodLink RX4 210 yX0_putNumber, Cond.instanceMethod yX0_putNumber, Cond.selects RX0 yX0_putNumber yX0_putNumber, Cond.code yX0_putNumber cX0_putNumber 2 none, Cond.methodLink RX0 19 yX0_put, Cond.methodLink RX4 95 yX3_monthOn, Cond.methodLink RX4 98 yX3_yearOn, Cond.instanceMethod yX3_yearOn, Cond.selects RX3 yX3_yearOn yX3_yearOn, Cond.code yX3_yearOn cX3_yearOn 3 (some .int)]
def wsL_writeDate : List Cond := .codeWith yL_writeDate cL_writeDate 5 (some .int) [(0, 10, 13, 13), (0, 10, 17, 15)] :: ((wsL_writeDate_r1 ++ (wsL_writeDate_r2 ++ wsL_writeDate_r3)) ++ wsX40 ++ wsX00 ++ wsX20 ++ wsX30 ++ (vx_atS RX4 227 "java/lang/IndexOutOfBoundsException" ["java/lang/RuntimeException", "java/lang/Exception"]).filter goodWord ++ (vx_atS RX4 60 "java/lang/IllegalArgumentException" ["java/lang/RuntimeException", "java/lang/Exception"]).filter goodWord)
def wsL_undo_r1 : List Cond := [Cond.classLink RL 17 "java/lang/IllegalStateException", Cond.methodLink RL 119 yX4_undo, Cond.instanceMethod yX4_undo, Cond.selects RX4 yX4_undo yX4_undo, Cond.initialized RX4, Cond.code yX4_undo cX4_undo 1 (some .int), Cond.classLink RX4 66 "java/lang/IllegalStateException", Cond.initialized "java/lang/IllegalStateException", Cond.fieldLink RX4 20 "TwoTownAlmanac" "recordedCount" "I", Cond.fieldLink RX4 10 "TwoTownAlmanac" "state" "LTwoTownAlmanac$State;", Cond.fieldLink RX4 16 "TwoTownAlmanac" "recorded" "[LTwoTownAlmanac$State;", Cond.methodLink RX4 215 yX2_copyFrom, Cond.instanceMethod yX2_copyFrom, Cond.selects RX2 yX2_copyFrom yX2_copyFrom, Cond.initialized RX2, Cond.code yX2_copyFrom cX2_copyFrom 3 none, Cond.fieldLink RX2 14 "TwoTownAlmanac$State" "townA" "LTwoTownAlmanac$Town;", Cond.fieldLink RX2 20 "TwoTownAlmanac$State" "townB" "LTwoTownAlmanac$Town;", Cond.fieldLink RX2 25 "TwoTownAlmanac$State" "feasts" "[LTwoTownAlmanac$Feast;", Cond.fieldLink RX2 29 "TwoTownAlmanac$State" "feastsAdded" "I", Cond.fieldLink RX2 33 "TwoTownAlmanac$State" "shiftDays" "I", Cond.fieldLink RX2 36 "TwoTownAlmanac$State" "copiesEachDay" "I", Cond.fieldLink RX2 39 "TwoTownAlmanac$State" "dayNow" "I", Cond.fieldLink RX2 42 "TwoTownAlmanac$State" "quarrels" "I"]
def wsL_undo_r2 : List Cond := [Cond.fieldLink RX2 45 "TwoTownAlmanac$State" "copies" "I", Cond.methodLink RX2 49 yX3_copyFrom, Cond.instanceMethod yX3_copyFrom, Cond.selects RX3 yX3_copyFrom yX3_copyFrom, Cond.initialized RX3, Cond.code yX3_copyFrom cX3_copyFrom 3 none, Cond.fieldLink RX3 9 "TwoTownAlmanac$Town" "gapDays" "[I", Cond.fieldLink RX3 15 "TwoTownAlmanac$Town" "gapLengths" "[I", Cond.fieldLink RX3 18 "TwoTownAlmanac$Town" "gaps" "I", Cond.fieldLink RX3 22 "TwoTownAlmanac$Town" "keptCount" "I", Cond.methodLink RX2 53 yX1_copyFrom, Cond.instanceMethod yX1_copyFrom, Cond.selects RX1 yX1_copyFrom yX1_copyFrom, Cond.initialized RX1, Cond.code yX1_copyFrom cX1_copyFrom 2 none, Cond.fieldLink RX1 9 "TwoTownAlmanac$Feast" "town" "I", Cond.fieldLink RX1 15 "TwoTownAlmanac$Feast" "month" "I", Cond.fieldLink RX1 18 "TwoTownAlmanac$Feast" "dayOfMonth" "I", Cond.fieldLink RX1 21 "TwoTownAlmanac$Feast" "barred" "I"]
def wsL_undo : List Cond := .codeWith yL_undo cL_undo 3 (some .int) [(0, 8, 11, 17)] :: ((wsL_undo_r1 ++ wsL_undo_r2) ++ wsX40 ++ wsX20 ++ wsX30 ++ wsX10 ++ (vx_atS RX4 70 "java/lang/IllegalStateException" ["java/lang/RuntimeException", "java/lang/Exception"]).filter goodWord)
def wsL_saveState_r1 : List Cond := [Cond.classLink RL 13 "java/lang/IndexOutOfBoundsException", Cond.methodLink RL 122 yX4_saveState, Cond.instanceMethod yX4_saveState, Cond.selects RX4 yX4_saveState yX4_saveState, Cond.initialized RX4, Cond.code yX4_saveState cX4_saveState 2 (some .int), Cond.fieldLink RX4 24 "TwoTownAlmanac" "slots" "[LTwoTownAlmanac$State;", Cond.fieldLink RX4 10 "TwoTownAlmanac" "state" "LTwoTownAlmanac$State;", Cond.fieldLink RX4 27 "TwoTownAlmanac" "slotIsFilled" "[Z", Cond.methodLink RX4 78 yX4_requireIndex, Cond.static yX4_requireIndex, Cond.code yX4_requireIndex cX4_requireIndex 2 none, Cond.classLink RX4 223 "java/lang/IndexOutOfBoundsException", Cond.initialized "java/lang/IndexOutOfBoundsException", Cond.methodLink RX4 215 yX2_copyFrom, Cond.instanceMethod yX2_copyFrom, Cond.selects RX2 yX2_copyFrom yX2_copyFrom, Cond.initialized RX2, Cond.code yX2_copyFrom cX2_copyFrom 3 none, Cond.fieldLink RX2 14 "TwoTownAlmanac$State" "townA" "LTwoTownAlmanac$Town;", Cond.fieldLink RX2 20 "TwoTownAlmanac$State" "townB" "LTwoTownAlmanac$Town;", Cond.fieldLink RX2 25 "TwoTownAlmanac$State" "feasts" "[LTwoTownAlmanac$Feast;", Cond.fieldLink RX2 29 "TwoTownAlmanac$State" "feastsAdded" "I", Cond.fieldLink RX2 33 "TwoTownAlmanac$State" "shiftDays" "I"]
def wsL_saveState_r2 : List Cond := [Cond.fieldLink RX2 36 "TwoTownAlmanac$State" "copiesEachDay" "I", Cond.fieldLink RX2 39 "TwoTownAlmanac$State" "dayNow" "I", Cond.fieldLink RX2 42 "TwoTownAlmanac$State" "quarrels" "I", Cond.fieldLink RX2 45 "TwoTownAlmanac$State" "copies" "I", Cond.methodLink RX2 49 yX3_copyFrom, Cond.instanceMethod yX3_copyFrom, Cond.selects RX3 yX3_copyFrom yX3_copyFrom, Cond.initialized RX3, Cond.code yX3_copyFrom cX3_copyFrom 3 none, Cond.fieldLink RX3 9 "TwoTownAlmanac$Town" "gapDays" "[I", Cond.fieldLink RX3 15 "TwoTownAlmanac$Town" "gapLengths" "[I", Cond.fieldLink RX3 18 "TwoTownAlmanac$Town" "gaps" "I", Cond.fieldLink RX3 22 "TwoTownAlmanac$Town" "keptCount" "I", Cond.methodLink RX2 53 yX1_copyFrom, Cond.instanceMethod yX1_copyFrom, Cond.selects RX1 yX1_copyFrom yX1_copyFrom, Cond.initialized RX1, Cond.code yX1_copyFrom cX1_copyFrom 2 none, Cond.fieldLink RX1 9 "TwoTownAlmanac$Feast" "town" "I", Cond.fieldLink RX1 15 "TwoTownAlmanac$Feast" "month" "I", Cond.fieldLink RX1 18 "TwoTownAlmanac$Feast" "dayOfMonth" "I", Cond.fieldLink RX1 21 "TwoTownAlmanac$Feast" "barred" "I"]
def wsL_saveState : List Cond := .codeWith yL_saveState cL_saveState 4 (some .int) [(0, 9, 12, 13)] :: ((wsL_saveState_r1 ++ wsL_saveState_r2) ++ wsX40 ++ wsX20 ++ wsX30 ++ wsX10 ++ (vx_atS RX4 227 "java/lang/IndexOutOfBoundsException" ["java/lang/RuntimeException", "java/lang/Exception"]).filter goodWord)
def wsL_loadState_r1 : List Cond := [Cond.classLink RL 13 "java/lang/IndexOutOfBoundsException", Cond.classLink RL 17 "java/lang/IllegalStateException", Cond.methodLink RL 125 yX4_loadState, Cond.instanceMethod yX4_loadState, Cond.selects RX4 yX4_loadState yX4_loadState, Cond.initialized RX4, Cond.code yX4_loadState cX4_loadState 2 (some .int), Cond.classLink RX4 66 "java/lang/IllegalStateException", Cond.initialized "java/lang/IllegalStateException", Cond.fieldLink RX4 27 "TwoTownAlmanac" "slotIsFilled" "[Z", Cond.fieldLink RX4 10 "TwoTownAlmanac" "state" "LTwoTownAlmanac$State;", Cond.fieldLink RX4 24 "TwoTownAlmanac" "slots" "[LTwoTownAlmanac$State;", Cond.methodLink RX4 78 yX4_requireIndex, Cond.static yX4_requireIndex, Cond.code yX4_requireIndex cX4_requireIndex 2 none, Cond.classLink RX4 223 "java/lang/IndexOutOfBoundsException", Cond.initialized "java/lang/IndexOutOfBoundsException", Cond.methodLink RX4 71 yX4_recordState, Cond.instanceMethod yX4_recordState, Cond.selects RX4 yX4_recordState yX4_recordState, Cond.code yX4_recordState cX4_recordState 1 none, Cond.fieldLink RX4 20 "TwoTownAlmanac" "recordedCount" "I", Cond.fieldLink RX4 16 "TwoTownAlmanac" "recorded" "[LTwoTownAlmanac$State;", Cond.methodLink RX4 232 yX4_dropOldestRecorded]
def wsL_loadState_r2 : List Cond := [Cond.instanceMethod yX4_dropOldestRecorded, Cond.selects RX4 yX4_dropOldestRecorded yX4_dropOldestRecorded, Cond.code yX4_dropOldestRecorded cX4_dropOldestRecorded 3 none, Cond.methodLink RX4 215 yX2_copyFrom, Cond.instanceMethod yX2_copyFrom, Cond.selects RX2 yX2_copyFrom yX2_copyFrom, Cond.initialized RX2, Cond.code yX2_copyFrom cX2_copyFrom 3 none, Cond.fieldLink RX2 14 "TwoTownAlmanac$State" "townA" "LTwoTownAlmanac$Town;", Cond.fieldLink RX2 20 "TwoTownAlmanac$State" "townB" "LTwoTownAlmanac$Town;", Cond.fieldLink RX2 25 "TwoTownAlmanac$State" "feasts" "[LTwoTownAlmanac$Feast;", Cond.fieldLink RX2 29 "TwoTownAlmanac$State" "feastsAdded" "I", Cond.fieldLink RX2 33 "TwoTownAlmanac$State" "shiftDays" "I", Cond.fieldLink RX2 36 "TwoTownAlmanac$State" "copiesEachDay" "I", Cond.fieldLink RX2 39 "TwoTownAlmanac$State" "dayNow" "I", Cond.fieldLink RX2 42 "TwoTownAlmanac$State" "quarrels" "I", Cond.fieldLink RX2 45 "TwoTownAlmanac$State" "copies" "I", Cond.methodLink RX2 49 yX3_copyFrom, Cond.instanceMethod yX3_copyFrom, Cond.selects RX3 yX3_copyFrom yX3_copyFrom, Cond.initialized RX3, Cond.code yX3_copyFrom cX3_copyFrom 3 none, Cond.fieldLink RX3 9 "TwoTownAlmanac$Town" "gapDays" "[I", Cond.fieldLink RX3 15 "TwoTownAlmanac$Town" "gapLengths" "[I"]
def wsL_loadState_r3 : List Cond := [Cond.fieldLink RX3 18 "TwoTownAlmanac$Town" "gaps" "I", Cond.fieldLink RX3 22 "TwoTownAlmanac$Town" "keptCount" "I", Cond.methodLink RX2 53 yX1_copyFrom, Cond.instanceMethod yX1_copyFrom, Cond.selects RX1 yX1_copyFrom yX1_copyFrom, Cond.initialized RX1, Cond.code yX1_copyFrom cX1_copyFrom 2 none, Cond.fieldLink RX1 9 "TwoTownAlmanac$Feast" "town" "I", Cond.fieldLink RX1 15 "TwoTownAlmanac$Feast" "month" "I", Cond.fieldLink RX1 18 "TwoTownAlmanac$Feast" "dayOfMonth" "I", Cond.fieldLink RX1 21 "TwoTownAlmanac$Feast" "barred" "I"]
def wsL_loadState : List Cond := .codeWith yL_loadState cL_loadState 4 (some .int) [(0, 9, 12, 13), (0, 9, 15, 17)] :: ((wsL_loadState_r1 ++ (wsL_loadState_r2 ++ wsL_loadState_r3)) ++ wsX40 ++ wsX20 ++ wsX30 ++ wsX10 ++ (vx_atS RX4 70 "java/lang/IllegalStateException" ["java/lang/RuntimeException", "java/lang/Exception"]).filter goodWord ++ (vx_atS RX4 227 "java/lang/IndexOutOfBoundsException" ["java/lang/RuntimeException", "java/lang/Exception"]).filter goodWord)
def wsL_law0_r1 : List Cond := [Cond.classLink RL 8 RX4, Cond.instantiable RX4 7, Cond.initialized RX4, Cond.classLink RL 129 RX5, Cond.instantiable RX5 10, Cond.initialized RX5, Cond.arrayClass .long, Cond.constantLong RL 249 (4294967295), Cond.methodLink RL 128 yX4_init, Cond.instanceMethod yX4_init, Cond.code yX4_init cX4_init 2 none, Cond.methodLink RX4 1 objectInit, Cond.instanceMethod objectInit, Cond.code objectInit ⟨#[0xb1]⟩ 1 none, Cond.classLink RX4 7 RX2, Cond.instantiable RX2 9, Cond.initialized RX2, Cond.fieldLink RX4 10 "TwoTownAlmanac" "state" "LTwoTownAlmanac$State;", Cond.fieldLink RX4 16 "TwoTownAlmanac" "recorded" "[LTwoTownAlmanac$State;", Cond.fieldLink RX4 20 "TwoTownAlmanac" "recordedCount" "I", Cond.fieldLink RX4 24 "TwoTownAlmanac" "slots" "[LTwoTownAlmanac$State;", Cond.arrayClass .boolean, Cond.fieldLink RX4 27 "TwoTownAlmanac" "slotIsFilled" "[Z", Cond.classLink RX4 31 RX0]
def wsL_law0_r2 : List Cond := [Cond.instantiable RX0 2, Cond.initialized RX0, Cond.fieldLink RX4 34 "TwoTownAlmanac" "text" "LTwoTownAlmanac$DateText;", Cond.arrayClass .int, Cond.fieldLink RX4 38 "TwoTownAlmanac" "feastSets" "[I", Cond.methodLink RX4 9 yX2_init, Cond.instanceMethod yX2_init, Cond.code yX2_init cX2_init 2 none, Cond.methodLink RX2 3 objectInit, Cond.classLink RX2 9 RX3, Cond.instantiable RX3 5, Cond.initialized RX3, Cond.fieldLink RX2 14 "TwoTownAlmanac$State" "townA" "LTwoTownAlmanac$Town;", Cond.fieldLink RX2 20 "TwoTownAlmanac$State" "townB" "LTwoTownAlmanac$Town;", Cond.classLink RX2 23 RX1, Cond.fieldLink RX2 25 "TwoTownAlmanac$State" "feasts" "[LTwoTownAlmanac$Feast;", Cond.fieldLink RX2 29 "TwoTownAlmanac$State" "feastsAdded" "I", Cond.fieldLink RX2 33 "TwoTownAlmanac$State" "shiftDays" "I", Cond.fieldLink RX2 36 "TwoTownAlmanac$State" "copiesEachDay" "I", Cond.fieldLink RX2 39 "TwoTownAlmanac$State" "dayNow" "I", Cond.fieldLink RX2 42 "TwoTownAlmanac$State" "quarrels" "I", Cond.fieldLink RX2 45 "TwoTownAlmanac$State" "copies" "I", Cond.instantiable RX1 4, Cond.initialized RX1]
def wsL_law0_r3 : List Cond := [Cond.methodLink RX2 11 yX3_init, Cond.instanceMethod yX3_init, Cond.code yX3_init cX3_init 2 none, Cond.methodLink RX3 3 objectInit, Cond.fieldLink RX3 9 "TwoTownAlmanac$Town" "gapDays" "[I", Cond.fieldLink RX3 15 "TwoTownAlmanac$Town" "gapLengths" "[I", Cond.fieldLink RX3 18 "TwoTownAlmanac$Town" "gaps" "I", Cond.fieldLink RX3 22 "TwoTownAlmanac$Town" "keptCount" "I", Cond.fieldLink RX3 25 "TwoTownAlmanac$Town" "isA" "Z", Cond.instanceMethod yX1_init, Cond.code yX1_init cX1_init 1 none, Cond.methodLink RX1 3 objectInit, Cond.fieldLink RX1 9 "TwoTownAlmanac$Feast" "town" "I", Cond.fieldLink RX1 15 "TwoTownAlmanac$Feast" "month" "I", Cond.fieldLink RX1 18 "TwoTownAlmanac$Feast" "dayOfMonth" "I", Cond.fieldLink RX1 21 "TwoTownAlmanac$Feast" "barred" "I", Cond.instanceMethod yX0_init, Cond.code yX0_init cX0_init 1 none, Cond.methodLink RX0 3 objectInit, Cond.fieldLink RX0 9 "TwoTownAlmanac$DateText" "codes" "[I", Cond.fieldLink RX0 15 "TwoTownAlmanac$DateText" "length" "I", Cond.methodLink RL 131 yX5_init, Cond.instanceMethod yX5_init, Cond.code yX5_init cX5_init 1 none]
def wsL_law0_r4 : List Cond := [Cond.methodLink RX5 1 objectInit, Cond.fieldLink RX5 7 "TwoTownAlmanacModel" "row" "[I", Cond.fieldLink RX5 13 "TwoTownAlmanacModel" "history" "[I", Cond.fieldLink RX5 16 "TwoTownAlmanacModel" "slots" "[I", Cond.fieldLink RX5 19 "TwoTownAlmanacModel" "isSaved" "[Z", Cond.fieldLink RX5 23 "TwoTownAlmanacModel" "text" "[I", Cond.fieldLink RX5 26 "TwoTownAlmanacModel" "numbers" "[I", Cond.methodLink RL 132 yL_addGap, Cond.static yL_addGap, Cond.initialized RL, Cond.codeWith yL_addGap cL_addGap 6 (some .int) [(0, 12, 15, 13), (0, 12, 19, 15), (0, 12, 23, 17)], Cond.classLink RL 13 "java/lang/IndexOutOfBoundsException", Cond.classLink RL 15 "java/lang/IllegalArgumentException", Cond.classLink RL 17 "java/lang/IllegalStateException", Cond.methodLink RL 7 yX4_addGap, Cond.instanceMethod yX4_addGap, Cond.selects RX4 yX4_addGap yX4_addGap, Cond.code yX4_addGap cX4_addGap 5 (some .int), Cond.classLink RX4 56 "java/lang/IllegalArgumentException", Cond.initialized "java/lang/IllegalArgumentException", Cond.classLink RX4 66 "java/lang/IllegalStateException", Cond.initialized "java/lang/IllegalStateException", Cond.methodLink RX4 42 yX4_requireTown, Cond.instanceMethod yX4_requireTown]
def wsL_law0_r5 : List Cond := [Cond.selects RX4 yX4_requireTown yX4_requireTown, Cond.code yX4_requireTown cX4_requireTown 2 (some (.object "TwoTownAlmanac$Town")), Cond.methodLink RX4 78 yX4_requireIndex, Cond.static yX4_requireIndex, Cond.code yX4_requireIndex cX4_requireIndex 2 none, Cond.classLink RX4 223 "java/lang/IndexOutOfBoundsException", Cond.initialized "java/lang/IndexOutOfBoundsException", Cond.methodLink RX4 127 yX2_townWith, Cond.instanceMethod yX2_townWith, Cond.selects RX2 yX2_townWith yX2_townWith, Cond.code yX2_townWith cX2_townWith 2 (some (.object "TwoTownAlmanac$Town")), Cond.methodLink RX4 46 yX4_requireRange, Cond.static yX4_requireRange, Cond.code yX4_requireRange cX4_requireRange 3 none, Cond.methodLink RX4 50 yX3_latestGapDay, Cond.instanceMethod yX3_latestGapDay, Cond.selects RX3 yX3_latestGapDay yX3_latestGapDay, Cond.code yX3_latestGapDay cX3_latestGapDay 1 (some .int), Cond.methodLink RX4 71 yX4_recordState, Cond.instanceMethod yX4_recordState, Cond.selects RX4 yX4_recordState yX4_recordState, Cond.code yX4_recordState cX4_recordState 1 none, Cond.methodLink RX4 232 yX4_dropOldestRecorded, Cond.instanceMethod yX4_dropOldestRecorded]
def wsL_law0_r6 : List Cond := [Cond.selects RX4 yX4_dropOldestRecorded yX4_dropOldestRecorded, Cond.code yX4_dropOldestRecorded cX4_dropOldestRecorded 3 none, Cond.methodLink RX4 215 yX2_copyFrom, Cond.instanceMethod yX2_copyFrom, Cond.selects RX2 yX2_copyFrom yX2_copyFrom, Cond.code yX2_copyFrom cX2_copyFrom 3 none, Cond.methodLink RX2 49 yX3_copyFrom, Cond.instanceMethod yX3_copyFrom, Cond.selects RX3 yX3_copyFrom yX3_copyFrom, Cond.code yX3_copyFrom cX3_copyFrom 3 none, Cond.methodLink RX2 53 yX1_copyFrom, Cond.instanceMethod yX1_copyFrom, Cond.selects RX1 yX1_copyFrom yX1_copyFrom, Cond.code yX1_copyFrom cX1_copyFrom 2 none, Cond.methodLink RX4 74 yX3_leaveOut, Cond.instanceMethod yX3_leaveOut, Cond.selects RX3 yX3_leaveOut yX3_leaveOut, Cond.code yX3_leaveOut cX3_leaveOut 3 (some .int), Cond.methodLink RL 137 yX5_addGap, Cond.instanceMethod yX5_addGap, Cond.selects RX5 yX5_addGap yX5_addGap, Cond.code yX5_addGap cX5_addGap 5 (some .int), Cond.fieldLink RX5 29 "TwoTownAlmanacModel" "thrown" "I", Cond.methodLink RX5 47 yX5_isTown]
def wsL_law0_r7 : List Cond := [Cond.static yX5_isTown, Cond.code yX5_isTown cX5_isTown 1 (some .boolean), Cond.methodLink RX5 33 yX5_in, Cond.static yX5_in, Cond.code yX5_in cX5_in 3 (some .boolean), Cond.methodLink RX5 40 yX5_fails, Cond.instanceMethod yX5_fails, Cond.selects RX5 yX5_fails yX5_fails, Cond.code yX5_fails cX5_fails 2 (some .int), Cond.methodLink RX5 51 yX5_gaps, Cond.instanceMethod yX5_gaps, Cond.selects RX5 yX5_gaps yX5_gaps, Cond.code yX5_gaps cX5_gaps 2 (some .int), Cond.methodLink RX5 54 yX5_gap, Cond.instanceMethod yX5_gap, Cond.selects RX5 yX5_gap yX5_gap, Cond.code yX5_gap cX5_gap 4 (some .int), Cond.methodLink RX5 44 yX5_record, Cond.instanceMethod yX5_record, Cond.selects RX5 yX5_record yX5_record, Cond.code yX5_record cX5_record 2 none, Cond.fieldLink RX5 37 "TwoTownAlmanacModel" "states" "I", Cond.methodLink RL 138 yX5_thrown, Cond.instanceMethod yX5_thrown]
def wsL_law0_r8 : List Cond := [Cond.selects RX5 yX5_thrown yX5_thrown, Cond.code yX5_thrown cX5_thrown 1 (some .int), Cond.methodLink RL 141 yL_gapCount, Cond.static yL_gapCount, Cond.codeWith yL_gapCount cL_gapCount 4 (some .int) [(0, 9, 12, 13)], Cond.methodLink RL 19 yX4_gapCount, Cond.instanceMethod yX4_gapCount, Cond.selects RX4 yX4_gapCount yX4_gapCount, Cond.code yX4_gapCount cX4_gapCount 2 (some .int), Cond.methodLink RL 144 yX5_gapCount, Cond.instanceMethod yX5_gapCount, Cond.selects RX5 yX5_gapCount yX5_gapCount, Cond.code yX5_gapCount cX5_gapCount 2 (some .int), Cond.methodLink RL 145 yL_gapDay, Cond.static yL_gapDay, Cond.codeWith yL_gapDay cL_gapDay 5 (some .int) [(0, 10, 13, 13)], Cond.methodLink RL 23 yX4_gapDay, Cond.instanceMethod yX4_gapDay, Cond.selects RX4 yX4_gapDay yX4_gapDay, Cond.code yX4_gapDay cX4_gapDay 4 (some .int), Cond.methodLink RL 148 yX5_gapDay, Cond.instanceMethod yX5_gapDay, Cond.selects RX5 yX5_gapDay yX5_gapDay, Cond.code yX5_gapDay cX5_gapDay 3 (some .int)]
def wsL_law0_r9 : List Cond := [Cond.methodLink RL 149 yL_gapLength, Cond.static yL_gapLength, Cond.codeWith yL_gapLength cL_gapLength 5 (some .int) [(0, 10, 13, 13)], Cond.methodLink RL 27 yX4_gapLength, Cond.instanceMethod yX4_gapLength, Cond.selects RX4 yX4_gapLength yX4_gapLength, Cond.code yX4_gapLength cX4_gapLength 4 (some .int), Cond.methodLink RL 151 yX5_gapLength, Cond.instanceMethod yX5_gapLength, Cond.selects RX5 yX5_gapLength yX5_gapLength, Cond.code yX5_gapLength cX5_gapLength 3 (some .int), Cond.methodLink RL 152 yL_monthLength, Cond.static yL_monthLength, Cond.codeWith yL_monthLength cL_monthLength 5 (some .int) [(0, 10, 13, 13), (0, 10, 17, 15)], Cond.methodLink RL 30 yX4_monthLength, Cond.instanceMethod yX4_monthLength, Cond.selects RX4 yX4_monthLength yX4_monthLength, Cond.code yX4_monthLength cX4_monthLength 4 (some .int), Cond.methodLink RX4 88 yX3_daysInMonth, Cond.instanceMethod yX3_daysInMonth, Cond.selects RX3 yX3_daysInMonth yX3_daysInMonth, Cond.code yX3_daysInMonth cX3_daysInMonth 2 (some .int), Cond.methodLink RL 154 yX5_monthLength, Cond.instanceMethod yX5_monthLength]
def wsL_law0_r10 : List Cond := [Cond.selects RX5 yX5_monthLength yX5_monthLength, Cond.code yX5_monthLength cX5_monthLength 3 (some .int), Cond.methodLink RX5 58 yX5_lengthOf, Cond.static yX5_lengthOf, Cond.code yX5_lengthOf cX5_lengthOf 2 (some .int), Cond.methodLink RL 155 yL_dayOfMonth, Cond.static yL_dayOfMonth, Cond.codeWith yL_dayOfMonth cL_dayOfMonth 5 (some .int) [(0, 10, 13, 13), (0, 10, 17, 15)], Cond.methodLink RL 33 yX4_dayOfMonth, Cond.instanceMethod yX4_dayOfMonth, Cond.selects RX4 yX4_dayOfMonth yX4_dayOfMonth, Cond.code yX4_dayOfMonth cX4_dayOfMonth 4 (some .int), Cond.methodLink RX4 92 yX3_dayOfMonthOn, Cond.instanceMethod yX3_dayOfMonthOn, Cond.selects RX3 yX3_dayOfMonthOn yX3_dayOfMonthOn, Cond.code yX3_dayOfMonthOn cX3_dayOfMonthOn 2 (some .int), Cond.methodLink RX3 40 yX3_dayInYearOn, Cond.instanceMethod yX3_dayInYearOn, Cond.selects RX3 yX3_dayInYearOn yX3_dayInYearOn, Cond.code yX3_dayInYearOn cX3_dayInYearOn 3 (some .int), Cond.methodLink RX3 37 yX3_dateOn, Cond.instanceMethod yX3_dateOn, Cond.selects RX3 yX3_dateOn yX3_dateOn, Cond.code yX3_dateOn cX3_dateOn 4 (some .int)]
def wsL_law0_r11 : List Cond := [Cond.methodLink RX3 43 yX3_monthOn, Cond.instanceMethod yX3_monthOn, Cond.selects RX3 yX3_monthOn yX3_monthOn, Cond.code yX3_monthOn cX3_monthOn 4 (some .int), Cond.methodLink RX3 33 yX3_daysBeforeMonth, Cond.instanceMethod yX3_daysBeforeMonth, Cond.selects RX3 yX3_daysBeforeMonth yX3_daysBeforeMonth, Cond.code yX3_daysBeforeMonth cX3_daysBeforeMonth 3 (some .int), Cond.methodLink RL 157 yX5_dayOfMonth, Cond.instanceMethod yX5_dayOfMonth, Cond.selects RX5 yX5_dayOfMonth yX5_dayOfMonth, Cond.code yX5_dayOfMonth cX5_dayOfMonth 3 (some .int), Cond.methodLink RX5 74 yX5_dayAt, Cond.instanceMethod yX5_dayAt, Cond.selects RX5 yX5_dayAt yX5_dayAt, Cond.code yX5_dayAt cX5_dayAt 3 (some .int), Cond.methodLink RX5 65 yX5_calendar, Cond.instanceMethod yX5_calendar, Cond.selects RX5 yX5_calendar yX5_calendar, Cond.code yX5_calendar cX5_calendar 5 (some .int), Cond.methodLink RX5 68 yX5_yearLength, Cond.static yX5_yearLength, Cond.code yX5_yearLength cX5_yearLength 1 (some .int), Cond.methodLink RX5 62 yX5_daysAhead]
def wsL_law0_r12 : List Cond := [Cond.static yX5_daysAhead, Cond.code yX5_daysAhead cX5_daysAhead 4 (some .int), Cond.methodLink RX5 71 yX5_monthAt, Cond.instanceMethod yX5_monthAt, Cond.selects RX5 yX5_monthAt yX5_monthAt, Cond.code yX5_monthAt cX5_monthAt 5 (some .int), Cond.methodLink RL 158 yL_monthOf, Cond.static yL_monthOf, Cond.codeWith yL_monthOf cL_monthOf 5 (some .int) [(0, 10, 13, 13), (0, 10, 17, 15)], Cond.methodLink RL 36 yX4_monthOf, Cond.instanceMethod yX4_monthOf, Cond.selects RX4 yX4_monthOf yX4_monthOf, Cond.code yX4_monthOf cX4_monthOf 4 (some .int), Cond.methodLink RX4 95 yX3_monthOn, Cond.methodLink RL 160 yX5_monthOf, Cond.instanceMethod yX5_monthOf, Cond.selects RX5 yX5_monthOf yX5_monthOf, Cond.code yX5_monthOf cX5_monthOf 3 (some .int), Cond.methodLink RL 161 yL_yearOf, Cond.static yL_yearOf, Cond.codeWith yL_yearOf cL_yearOf 5 (some .int) [(0, 10, 13, 13), (0, 10, 17, 15)], Cond.methodLink RL 39 yX4_yearOf, Cond.instanceMethod yX4_yearOf, Cond.selects RX4 yX4_yearOf yX4_yearOf]
def wsL_law0_r13 : List Cond := [Cond.code yX4_yearOf cX4_yearOf 4 (some .int), Cond.methodLink RX4 98 yX3_yearOn, Cond.instanceMethod yX3_yearOn, Cond.selects RX3 yX3_yearOn yX3_yearOn, Cond.code yX3_yearOn cX3_yearOn 3 (some .int), Cond.methodLink RL 163 yX5_yearOf, Cond.instanceMethod yX5_yearOf, Cond.selects RX5 yX5_yearOf yX5_yearOf, Cond.code yX5_yearOf cX5_yearOf 3 (some .int), Cond.methodLink RX5 77 yX5_yearAt, Cond.instanceMethod yX5_yearAt, Cond.selects RX5 yX5_yearAt yX5_yearAt, Cond.code yX5_yearAt cX5_yearAt 3 (some .int), Cond.methodLink RL 164 yL_weekday, Cond.static yL_weekday, Cond.codeWith yL_weekday cL_weekday 4 (some .int) [(0, 9, 12, 15)], Cond.methodLink RL 42 yX4_weekday, Cond.instanceMethod yX4_weekday, Cond.selects RX4 yX4_weekday yX4_weekday, Cond.code yX4_weekday cX4_weekday 2 (some .int), Cond.methodLink RL 166 yX5_weekday, Cond.instanceMethod yX5_weekday, Cond.selects RX5 yX5_weekday yX5_weekday, Cond.code yX5_weekday cX5_weekday 2 (some .int)]
def wsL_law0_r14 : List Cond := [Cond.methodLink RL 167 yL_dayOfDate, Cond.static yL_dayOfDate, Cond.codeWith yL_dayOfDate cL_dayOfDate 7 (some .int) [(0, 14, 17, 13), (0, 14, 21, 15)], Cond.methodLink RL 45 yX4_dayOfDate, Cond.instanceMethod yX4_dayOfDate, Cond.selects RX4 yX4_dayOfDate yX4_dayOfDate, Cond.code yX4_dayOfDate cX4_dayOfDate 6 (some .int), Cond.methodLink RX4 101 yX3_dayWithDate, Cond.instanceMethod yX3_dayWithDate, Cond.selects RX3 yX3_dayWithDate yX3_dayWithDate, Cond.code yX3_dayWithDate cX3_dayWithDate 6 (some .int), Cond.methodLink RX3 46 yX3_daysInMonth, Cond.methodLink RX3 49 yX3_dateOf, Cond.instanceMethod yX3_dateOf, Cond.selects RX3 yX3_dateOf yX3_dateOf, Cond.code yX3_dateOf cX3_dateOf 4 (some .int), Cond.methodLink RX3 29 yX3_daysInYear, Cond.instanceMethod yX3_daysInYear, Cond.selects RX3 yX3_daysInYear yX3_daysInYear, Cond.code yX3_daysInYear cX3_daysInYear 1 (some .int), Cond.methodLink RX3 53 yX3_firstDayFrom, Cond.instanceMethod yX3_firstDayFrom, Cond.selects RX3 yX3_firstDayFrom yX3_firstDayFrom, Cond.code yX3_firstDayFrom cX3_firstDayFrom 6 (some .int)]
def wsL_law0_r15 : List Cond := [Cond.methodLink RL 170 yX5_dayOfDate, Cond.instanceMethod yX5_dayOfDate, Cond.selects RX5 yX5_dayOfDate yX5_dayOfDate, Cond.code yX5_dayOfDate cX5_dayOfDate 5 (some .int), Cond.methodLink RX5 83 yX5_dayWith, Cond.instanceMethod yX5_dayWith, Cond.selects RX5 yX5_dayWith yX5_dayWith, Cond.code yX5_dayWith cX5_dayWith 7 (some .int), Cond.methodLink RX5 80 yX5_firstDay, Cond.instanceMethod yX5_firstDay, Cond.selects RX5 yX5_firstDay yX5_firstDay, Cond.code yX5_firstDay cX5_firstDay 7 (some .int), Cond.methodLink RL 171 yL_addFeast, Cond.static yL_addFeast, Cond.codeWith yL_addFeast cL_addFeast 6 (some .int) [(0, 12, 15, 13), (0, 12, 19, 15), (0, 12, 23, 17)], Cond.methodLink RL 49 yX4_addFeast, Cond.instanceMethod yX4_addFeast, Cond.selects RX4 yX4_addFeast yX4_addFeast, Cond.code yX4_addFeast cX4_addFeast 4 (some .int), Cond.methodLink RX4 110 yX2_putFeast, Cond.instanceMethod yX2_putFeast, Cond.selects RX2 yX2_putFeast yX2_putFeast, Cond.code yX2_putFeast cX2_putFeast 6 (some .int), Cond.methodLink RL 173 yX5_addFeast]
def wsL_law0_r16 : List Cond := [Cond.instanceMethod yX5_addFeast, Cond.selects RX5 yX5_addFeast yX5_addFeast, Cond.code yX5_addFeast cX5_addFeast 5 (some .int), Cond.methodLink RL 174 yL_barWeekday, Cond.static yL_barWeekday, Cond.codeWith yL_barWeekday cL_barWeekday 5 (some .int) [(0, 10, 13, 13), (0, 10, 17, 15)], Cond.methodLink RL 52 yX4_barWeekday, Cond.instanceMethod yX4_barWeekday, Cond.selects RX4 yX4_barWeekday yX4_barWeekday, Cond.code yX4_barWeekday cX4_barWeekday 5 (some .int), Cond.methodLink RX4 113 yX4_requireFeast, Cond.instanceMethod yX4_requireFeast, Cond.selects RX4 yX4_requireFeast yX4_requireFeast, Cond.code yX4_requireFeast cX4_requireFeast 2 (some (.object "TwoTownAlmanac$Feast")), Cond.methodLink RL 176 yX5_barWeekday, Cond.instanceMethod yX5_barWeekday, Cond.selects RX5 yX5_barWeekday yX5_barWeekday, Cond.code yX5_barWeekday cX5_barWeekday 4 (some .int), Cond.methodLink RX5 87 yX5_isFeast, Cond.instanceMethod yX5_isFeast, Cond.selects RX5 yX5_isFeast yX5_isFeast, Cond.code yX5_isFeast cX5_isFeast 2 (some .boolean), Cond.methodLink RX5 90 yX5_feast, Cond.instanceMethod yX5_feast]
def wsL_law0_r17 : List Cond := [Cond.selects RX5 yX5_feast yX5_feast, Cond.code yX5_feast cX5_feast 3 (some .int), Cond.methodLink RL 177 yL_allowAllWeekdays, Cond.static yL_allowAllWeekdays, Cond.codeWith yL_allowAllWeekdays cL_allowAllWeekdays 4 (some .int) [(0, 9, 12, 13), (0, 9, 15, 17)], Cond.methodLink RL 55 yX4_allowAllWeekdays, Cond.instanceMethod yX4_allowAllWeekdays, Cond.selects RX4 yX4_allowAllWeekdays yX4_allowAllWeekdays, Cond.code yX4_allowAllWeekdays cX4_allowAllWeekdays 4 (some .int), Cond.methodLink RL 179 yX5_allowAllWeekdays, Cond.instanceMethod yX5_allowAllWeekdays, Cond.selects RX5 yX5_allowAllWeekdays yX5_allowAllWeekdays, Cond.code yX5_allowAllWeekdays cX5_allowAllWeekdays 3 (some .int), Cond.methodLink RL 180 yX4_feastCount, Cond.instanceMethod yX4_feastCount, Cond.selects RX4 yX4_feastCount yX4_feastCount, Cond.code yX4_feastCount cX4_feastCount 1 (some .int), Cond.methodLink RL 183 yX5_feastCount, Cond.instanceMethod yX5_feastCount, Cond.selects RX5 yX5_feastCount yX5_feastCount, Cond.code yX5_feastCount cX5_feastCount 1 (some .int), Cond.methodLink RL 184 yL_feastTown, Cond.static yL_feastTown, Cond.codeWith yL_feastTown cL_feastTown 4 (some .int) [(0, 9, 12, 13)]]
def wsL_law0_r18 : List Cond := [Cond.methodLink RL 58 yX4_feastTown, Cond.instanceMethod yX4_feastTown, Cond.selects RX4 yX4_feastTown yX4_feastTown, Cond.code yX4_feastTown cX4_feastTown 2 (some .int), Cond.methodLink RL 186 yX5_feastTown, Cond.instanceMethod yX5_feastTown, Cond.selects RX5 yX5_feastTown yX5_feastTown, Cond.code yX5_feastTown cX5_feastTown 2 (some .int), Cond.methodLink RL 187 yL_barredWeekday, Cond.static yL_barredWeekday, Cond.codeWith yL_barredWeekday cL_barredWeekday 4 (some .int) [(0, 9, 12, 13)], Cond.methodLink RL 61 yX4_barredWeekday, Cond.instanceMethod yX4_barredWeekday, Cond.selects RX4 yX4_barredWeekday yX4_barredWeekday, Cond.code yX4_barredWeekday cX4_barredWeekday 2 (some .int), Cond.methodLink RL 189 yX5_barredWeekday, Cond.instanceMethod yX5_barredWeekday, Cond.selects RX5 yX5_barredWeekday yX5_barredWeekday, Cond.code yX5_barredWeekday cX5_barredWeekday 2 (some .int), Cond.methodLink RL 190 yL_dayDue, Cond.static yL_dayDue, Cond.codeWith yL_dayDue cL_dayDue 5 (some .int) [(0, 10, 13, 13), (0, 10, 17, 15)], Cond.methodLink RL 64 yX4_dayDue, Cond.instanceMethod yX4_dayDue]
def wsL_law0_r19 : List Cond := [Cond.selects RX4 yX4_dayDue yX4_dayDue, Cond.code yX4_dayDue cX4_dayDue 4 (some .int), Cond.methodLink RX4 130 yX3_dueIn, Cond.instanceMethod yX3_dueIn, Cond.selects RX3 yX3_dueIn yX3_dueIn, Cond.code yX3_dueIn cX3_dueIn 6 (some .int), Cond.methodLink RX3 64 yX3_yearOn, Cond.methodLink RL 192 yX5_dayDue, Cond.instanceMethod yX5_dayDue, Cond.selects RX5 yX5_dayDue yX5_dayDue, Cond.code yX5_dayDue cX5_dayDue 3 (some .int), Cond.methodLink RX5 93 yX5_due, Cond.instanceMethod yX5_due, Cond.selects RX5 yX5_due yX5_due, Cond.code yX5_due cX5_due 10 (some .int), Cond.methodLink RL 193 yL_dayKept, Cond.static yL_dayKept, Cond.codeWith yL_dayKept cL_dayKept 5 (some .int) [(0, 10, 13, 13), (0, 10, 17, 15)], Cond.methodLink RL 67 yX4_dayKept, Cond.instanceMethod yX4_dayKept, Cond.selects RX4 yX4_dayKept yX4_dayKept, Cond.code yX4_dayKept cX4_dayKept 4 (some .int), Cond.methodLink RX4 134 yX2_keptIn, Cond.instanceMethod yX2_keptIn]
def wsL_law0_r20 : List Cond := [Cond.selects RX2 yX2_keptIn yX2_keptIn, Cond.code yX2_keptIn cX2_keptIn 4 (some .int), Cond.methodLink RX2 68 yX2_townWith, Cond.methodLink RX2 72 yX3_dueIn, Cond.methodLink RL 195 yX5_dayKept, Cond.instanceMethod yX5_dayKept, Cond.selects RX5 yX5_dayKept yX5_dayKept, Cond.code yX5_dayKept cX5_dayKept 3 (some .int), Cond.methodLink RX5 96 yX5_kept, Cond.instanceMethod yX5_kept, Cond.selects RX5 yX5_kept yX5_kept, Cond.code yX5_kept cX5_kept 5 (some .int), Cond.methodLink RL 196 yL_isKept, Cond.static yL_isKept, Cond.codeWith yL_isKept cL_isKept 5 (some .int) [(0, 17, 20, 13), (0, 17, 24, 15)], Cond.methodLink RL 70 yX4_isKept, Cond.instanceMethod yX4_isKept, Cond.selects RX4 yX4_isKept yX4_isKept, Cond.code yX4_isKept cX4_isKept 4 (some .boolean), Cond.methodLink RX4 137 yX2_firstKept, Cond.instanceMethod yX2_firstKept, Cond.selects RX2 yX2_firstKept yX2_firstKept, Cond.code yX2_firstKept cX2_firstKept 7 (some .int), Cond.methodLink RX2 82 yX3_yearOn]
def wsL_law0_r21 : List Cond := [Cond.methodLink RX2 86 yX2_firstYearFor, Cond.instanceMethod yX2_firstYearFor, Cond.selects RX2 yX2_firstYearFor yX2_firstYearFor, Cond.code yX2_firstYearFor cX2_firstYearFor 3 (some .int), Cond.methodLink RX2 76 Lib.Math.max.name, Cond.static Lib.Math.max.name, Cond.initialized "java/lang/Math", Cond.code Lib.Math.max.name Lib.Math.max.code 2 (some .int), Cond.methodLink RX2 89 yX2_keptIn, Cond.methodLink RL 198 yX5_isKept, Cond.instanceMethod yX5_isKept, Cond.selects RX5 yX5_isKept yX5_isKept, Cond.code yX5_isKept cX5_isKept 3 (some .boolean), Cond.methodLink RX5 99 yX5_isOn, Cond.instanceMethod yX5_isOn, Cond.selects RX5 yX5_isOn yX5_isOn, Cond.code yX5_isOn cX5_isOn 4 (some .boolean), Cond.methodLink RL 199 yL_feastsOn, Cond.static yL_feastsOn, Cond.codeWith yL_feastsOn cL_feastsOn 4 (some .int) [(0, 9, 12, 15)], Cond.methodLink RL 74 yX4_feastsOn, Cond.instanceMethod yX4_feastsOn, Cond.selects RX4 yX4_feastsOn yX4_feastsOn, Cond.code yX4_feastsOn cX4_feastsOn 2 (some .int)]
def wsL_law0_r22 : List Cond := [Cond.methodLink RX4 141 yX2_markFeasts, Cond.instanceMethod yX2_markFeasts, Cond.selects RX2 yX2_markFeasts yX2_markFeasts, Cond.code yX2_markFeasts cX2_markFeasts 8 none, Cond.methodLink RL 201 yX5_feastsOn, Cond.instanceMethod yX5_feastsOn, Cond.selects RX5 yX5_feastsOn yX5_feastsOn, Cond.code yX5_feastsOn cX5_feastsOn 2 (some .int), Cond.methodLink RX5 103 yX5_setOn, Cond.instanceMethod yX5_setOn, Cond.selects RX5 yX5_setOn yX5_setOn, Cond.code yX5_setOn cX5_setOn 4 (some .int), Cond.methodLink RL 202 yL_isQuarrel, Cond.static yL_isQuarrel, Cond.codeWith yL_isQuarrel cL_isQuarrel 4 (some .int) [(0, 16, 19, 15)], Cond.methodLink RL 77 yX4_isQuarrel, Cond.instanceMethod yX4_isQuarrel, Cond.selects RX4 yX4_isQuarrel yX4_isQuarrel, Cond.code yX4_isQuarrel cX4_isQuarrel 2 (some .boolean), Cond.methodLink RX4 145 yX4_quarrelsFrom, Cond.instanceMethod yX4_quarrelsFrom, Cond.selects RX4 yX4_quarrelsFrom yX4_quarrelsFrom, Cond.code yX4_quarrelsFrom cX4_quarrelsFrom 3 (some .int), Cond.methodLink RX4 235 yX2_countQuarrels]
def wsL_law0_r23 : List Cond := [Cond.instanceMethod yX2_countQuarrels, Cond.selects RX2 yX2_countQuarrels yX2_countQuarrels, Cond.code yX2_countQuarrels cX2_countQuarrels 7 (some .int), Cond.methodLink RX2 96 yX2_feastsOf, Cond.instanceMethod yX2_feastsOf, Cond.selects RX2 yX2_feastsOf yX2_feastsOf, Cond.code yX2_feastsOf cX2_feastsOf 4 (some .int), Cond.methodLink RL 204 yX5_isQuarrel, Cond.instanceMethod yX5_isQuarrel, Cond.selects RX5 yX5_isQuarrel yX5_isQuarrel, Cond.code yX5_isQuarrel cX5_isQuarrel 2 (some .boolean), Cond.methodLink RX5 109 yX5_quarrels, Cond.instanceMethod yX5_quarrels, Cond.selects RX5 yX5_quarrels yX5_quarrels, Cond.code yX5_quarrels cX5_quarrels 3 (some .boolean), Cond.methodLink RX5 106 yX5_ofTown, Cond.instanceMethod yX5_ofTown, Cond.selects RX5 yX5_ofTown yX5_ofTown, Cond.code yX5_ofTown cX5_ofTown 5 (some .int), Cond.methodLink RL 205 yL_setShift, Cond.static yL_setShift, Cond.codeWith yL_setShift cL_setShift 4 (some .int) [(0, 9, 12, 15)], Cond.methodLink RL 81 yX4_setShift, Cond.instanceMethod yX4_setShift]
def wsL_law0_r24 : List Cond := [Cond.selects RX4 yX4_setShift yX4_setShift, Cond.code yX4_setShift cX4_setShift 3 (some .int), Cond.methodLink RL 207 yX5_setShift, Cond.instanceMethod yX5_setShift, Cond.selects RX5 yX5_setShift yX5_setShift, Cond.code yX5_setShift cX5_setShift 3 (some .int), Cond.methodLink RL 208 yX4_shift, Cond.instanceMethod yX4_shift, Cond.selects RX4 yX4_shift yX4_shift, Cond.code yX4_shift cX4_shift 1 (some .int), Cond.methodLink RL 211 yX5_shift, Cond.instanceMethod yX5_shift, Cond.selects RX5 yX5_shift yX5_shift, Cond.code yX5_shift cX5_shift 1 (some .int), Cond.methodLink RL 212 yL_setCopiesPerDay, Cond.static yL_setCopiesPerDay, Cond.codeWith yL_setCopiesPerDay cL_setCopiesPerDay 4 (some .int) [(0, 9, 12, 15)], Cond.methodLink RL 84 yX4_setCopiesPerDay, Cond.instanceMethod yX4_setCopiesPerDay, Cond.selects RX4 yX4_setCopiesPerDay yX4_setCopiesPerDay, Cond.code yX4_setCopiesPerDay cX4_setCopiesPerDay 3 (some .int), Cond.methodLink RL 214 yX5_setCopiesPerDay, Cond.instanceMethod yX5_setCopiesPerDay, Cond.selects RX5 yX5_setCopiesPerDay yX5_setCopiesPerDay]
def wsL_law0_r25 : List Cond := [Cond.code yX5_setCopiesPerDay cX5_setCopiesPerDay 3 (some .int), Cond.methodLink RL 215 yX4_copiesPerDay, Cond.instanceMethod yX4_copiesPerDay, Cond.selects RX4 yX4_copiesPerDay yX4_copiesPerDay, Cond.code yX4_copiesPerDay cX4_copiesPerDay 1 (some .int), Cond.methodLink RL 218 yX5_copiesPerDay, Cond.instanceMethod yX5_copiesPerDay, Cond.selects RX5 yX5_copiesPerDay yX5_copiesPerDay, Cond.code yX5_copiesPerDay cX5_copiesPerDay 1 (some .int), Cond.methodLink RL 219 yL_passDays, Cond.static yL_passDays, Cond.codeWith yL_passDays cL_passDays 4 (some .int) [(0, 9, 12, 15), (0, 9, 15, 17)], Cond.methodLink RL 87 yX4_passDays, Cond.instanceMethod yX4_passDays, Cond.selects RX4 yX4_passDays yX4_passDays, Cond.code yX4_passDays cX4_passDays 3 (some .int), Cond.methodLink RX4 162 yX2_countPassed, Cond.instanceMethod yX2_countPassed, Cond.selects RX2 yX2_countPassed yX2_countPassed, Cond.code yX2_countPassed cX2_countPassed 6 none, Cond.methodLink RX2 102 yJ6_bitCount_0f7a4, Cond.static yJ6_bitCount_0f7a4, Cond.initialized RJ6, Cond.code yJ6_bitCount_0f7a4 cJ6_bitCount_0f7a4 1 (some .int)]
def wsL_law0_r26 : List Cond := [Cond.constant RJ6 265 (1431655765), Cond.constant RJ6 266 (858993459), Cond.constant RJ6 267 (252645135), Cond.methodLink RL 221 yX5_passDays, Cond.instanceMethod yX5_passDays, Cond.selects RX5 yX5_passDays yX5_passDays, Cond.code yX5_passDays cX5_passDays 7 (some .int), Cond.methodLink RL 222 yX4_today, Cond.instanceMethod yX4_today, Cond.selects RX4 yX4_today yX4_today, Cond.code yX4_today cX4_today 1 (some .int), Cond.methodLink RL 225 yX5_today, Cond.instanceMethod yX5_today, Cond.selects RX5 yX5_today yX5_today, Cond.code yX5_today cX5_today 1 (some .int), Cond.methodLink RL 226 yL_feastsKept, Cond.static yL_feastsKept, Cond.codeWith yL_feastsKept cL_feastsKept 4 (some .int) [(0, 9, 12, 13)], Cond.methodLink RL 90 yX4_feastsKept, Cond.instanceMethod yX4_feastsKept, Cond.selects RX4 yX4_feastsKept yX4_feastsKept, Cond.code yX4_feastsKept cX4_feastsKept 2 (some .int), Cond.methodLink RL 228 yX5_feastsKept, Cond.instanceMethod yX5_feastsKept]
def wsL_law0_r27 : List Cond := [Cond.selects RX5 yX5_feastsKept yX5_feastsKept, Cond.code yX5_feastsKept cX5_feastsKept 2 (some .int), Cond.methodLink RL 229 yX4_quarrelCount, Cond.instanceMethod yX4_quarrelCount, Cond.selects RX4 yX4_quarrelCount yX4_quarrelCount, Cond.code yX4_quarrelCount cX4_quarrelCount 1 (some .int), Cond.methodLink RL 232 yX5_quarrelCount, Cond.instanceMethod yX5_quarrelCount, Cond.selects RX5 yX5_quarrelCount yX5_quarrelCount, Cond.code yX5_quarrelCount cX5_quarrelCount 1 (some .int), Cond.methodLink RL 233 yX4_copiesMade, Cond.instanceMethod yX4_copiesMade, Cond.selects RX4 yX4_copiesMade yX4_copiesMade, Cond.code yX4_copiesMade cX4_copiesMade 1 (some .int), Cond.methodLink RL 236 yX5_copiesMade, Cond.instanceMethod yX5_copiesMade, Cond.selects RX5 yX5_copiesMade yX5_copiesMade, Cond.code yX5_copiesMade cX5_copiesMade 1 (some .int), Cond.methodLink RL 237 yL_nextDay, Cond.static yL_nextDay, Cond.codeWith yL_nextDay cL_nextDay 4 (some .int) [(0, 9, 12, 13)], Cond.methodLink RL 93 yX4_nextDay, Cond.instanceMethod yX4_nextDay, Cond.selects RX4 yX4_nextDay yX4_nextDay]
def wsL_law0_r28 : List Cond := [Cond.code yX4_nextDay cX4_nextDay 3 (some .int), Cond.methodLink RL 239 yX5_nextDay, Cond.instanceMethod yX5_nextDay, Cond.selects RX5 yX5_nextDay yX5_nextDay, Cond.code yX5_nextDay cX5_nextDay 3 (some .int), Cond.methodLink RL 240 yL_daysUntilMeeting, Cond.static yL_daysUntilMeeting, Cond.codeWith yL_daysUntilMeeting cL_daysUntilMeeting 5 (some .int) [(0, 10, 13, 13), (0, 10, 17, 15)], Cond.methodLink RL 96 yX4_daysUntilMeeting, Cond.instanceMethod yX4_daysUntilMeeting, Cond.selects RX4 yX4_daysUntilMeeting yX4_daysUntilMeeting, Cond.code yX4_daysUntilMeeting cX4_daysUntilMeeting 6 (some .int), Cond.methodLink RX4 174 yX2_firstMeeting, Cond.instanceMethod yX2_firstMeeting, Cond.selects RX2 yX2_firstMeeting yX2_firstMeeting, Cond.code yX2_firstMeeting cX2_firstMeeting 8 (some .int), Cond.methodLink RX2 92 yX2_firstKept, Cond.methodLink RL 242 yX5_daysUntilMeeting, Cond.instanceMethod yX5_daysUntilMeeting, Cond.selects RX5 yX5_daysUntilMeeting yX5_daysUntilMeeting, Cond.code yX5_daysUntilMeeting cX5_daysUntilMeeting 4 (some .int), Cond.methodLink RL 243 yL_quarrelsWithin, Cond.static yL_quarrelsWithin, Cond.codeWith yL_quarrelsWithin cL_quarrelsWithin 4 (some .int) [(0, 9, 12, 15)]]
def wsL_law0_r29 : List Cond := [Cond.methodLink RL 99 yX4_quarrelsWithin, Cond.instanceMethod yX4_quarrelsWithin, Cond.selects RX4 yX4_quarrelsWithin yX4_quarrelsWithin, Cond.code yX4_quarrelsWithin cX4_quarrelsWithin 2 (some .int), Cond.methodLink RL 245 yX5_quarrelsWithin, Cond.instanceMethod yX5_quarrelsWithin, Cond.selects RX5 yX5_quarrelsWithin yX5_quarrelsWithin, Cond.code yX5_quarrelsWithin cX5_quarrelsWithin 2 (some .int), Cond.methodLink RX5 112 yX5_quarrelsIn, Cond.instanceMethod yX5_quarrelsIn, Cond.selects RX5 yX5_quarrelsIn yX5_quarrelsIn, Cond.code yX5_quarrelsIn cX5_quarrelsIn 4 (some .int), Cond.methodLink RL 246 yL_bestBarredWeekday, Cond.static yL_bestBarredWeekday, Cond.codeWith yL_bestBarredWeekday cL_bestBarredWeekday 4 (some .int) [(0, 9, 12, 13)], Cond.methodLink RL 102 yX4_bestBarredWeekday, Cond.instanceMethod yX4_bestBarredWeekday, Cond.selects RX4 yX4_bestBarredWeekday yX4_bestBarredWeekday, Cond.code yX4_bestBarredWeekday cX4_bestBarredWeekday 8 (some .int), Cond.methodLink RL 248 yX5_bestBarredWeekday, Cond.instanceMethod yX5_bestBarredWeekday, Cond.selects RX5 yX5_bestBarredWeekday yX5_bestBarredWeekday, Cond.code yX5_bestBarredWeekday cX5_bestBarredWeekday 8 (some .int), Cond.methodLink RL 251 yL_appendText]
def wsL_law0_r30 : List Cond := [Cond.static yL_appendText, Cond.codeWith yL_appendText cL_appendText 5 (some .int) [(0, 9, 12, 15), (0, 9, 16, 17)], Cond.methodLink RL 105 yX4_appendText, Cond.instanceMethod yX4_appendText, Cond.selects RX4 yX4_appendText yX4_appendText, Cond.code yX4_appendText cX4_appendText 5 (some .int), Cond.methodLink RX4 178 yX4_charactersIn, Cond.static yX4_charactersIn, Cond.code yX4_charactersIn cX4_charactersIn 4 (some .int), Cond.methodLink RX4 189 yX4_codeAt, Cond.static yX4_codeAt, Cond.code yX4_codeAt cX4_codeAt 3 (some .int), Cond.constantLong RX4 239 (255), Cond.methodLink RX4 193 yX0_put, Cond.instanceMethod yX0_put, Cond.selects RX0 yX0_put yX0_put, Cond.code yX0_put cX0_put 2 none, Cond.methodLink RL 254 yX5_appendText, Cond.instanceMethod yX5_appendText, Cond.selects RX5 yX5_appendText yX5_appendText, Cond.code yX5_appendText cX5_appendText 8 (some .int), Cond.constantLong RX5 115 (255), Cond.fieldLink RX5 117 "TwoTownAlmanacModel" "length" "I", Cond.methodLink RL 255 yX4_clearText]
def wsL_law0_r31 : List Cond := [Cond.instanceMethod yX4_clearText, Cond.selects RX4 yX4_clearText yX4_clearText, Cond.code yX4_clearText cX4_clearText 2 (some .int), Cond.methodLink RL 258 yX5_clearText, Cond.instanceMethod yX5_clearText, Cond.selects RX5 yX5_clearText yX5_clearText, Cond.code yX5_clearText cX5_clearText 2 (some .int), Cond.methodLink RL 259 yX4_textLength, Cond.instanceMethod yX4_textLength, Cond.selects RX4 yX4_textLength yX4_textLength, Cond.code yX4_textLength cX4_textLength 1 (some .int), Cond.methodLink RL 262 yX5_textLength, Cond.instanceMethod yX5_textLength, Cond.selects RX5 yX5_textLength yX5_textLength, Cond.code yX5_textLength cX5_textLength 1 (some .int), Cond.methodLink RL 263 yX4_textError, Cond.instanceMethod yX4_textError, Cond.selects RX4 yX4_textError yX4_textError, Cond.code yX4_textError cX4_textError 1 (some .int), Cond.methodLink RX4 197 yX0_firstError, Cond.instanceMethod yX0_firstError, Cond.selects RX0 yX0_firstError yX0_firstError, Cond.code yX0_firstError cX0_firstError 4 (some .int), Cond.methodLink RX0 23 yX0_fits]
def wsL_law0_r32 : List Cond := [Cond.static yX0_fits, Cond.code yX0_fits cX0_fits 5 (some .boolean), Cond.methodLink RL 266 yX5_textError, Cond.instanceMethod yX5_textError, Cond.selects RX5 yX5_textError yX5_textError, Cond.code yX5_textError cX5_textError 1 (some .int), Cond.fieldLink RX5 120 "TwoTownAlmanacModel" "spot" "I", Cond.methodLink RX5 129 yX5_isDate, Cond.instanceMethod yX5_isDate, Cond.selects RX5 yX5_isDate yX5_isDate, Cond.code yX5_isDate cX5_isDate 1 (some .boolean), Cond.methodLink RX5 123 yX5_takes, Cond.instanceMethod yX5_takes, Cond.selects RX5 yX5_takes yX5_takes, Cond.code yX5_takes cX5_takes 4 (some .boolean), Cond.methodLink RX5 126 yX5_readsNumber, Cond.instanceMethod yX5_readsNumber, Cond.selects RX5 yX5_readsNumber yX5_readsNumber, Cond.code yX5_readsNumber cX5_readsNumber 4 (some .boolean), Cond.methodLink RL 267 yL_textCharacter, Cond.static yL_textCharacter, Cond.codeWith yL_textCharacter cL_textCharacter 4 (some .int) [(0, 9, 12, 13)], Cond.methodLink RL 109 yX4_textCharacter, Cond.instanceMethod yX4_textCharacter]
def wsL_law0_r33 : List Cond := [Cond.selects RX4 yX4_textCharacter yX4_textCharacter, Cond.code yX4_textCharacter cX4_textCharacter 2 (some .int), Cond.methodLink RL 269 yX5_textCharacter, Cond.instanceMethod yX5_textCharacter, Cond.selects RX5 yX5_textCharacter yX5_textCharacter, Cond.code yX5_textCharacter cX5_textCharacter 2 (some .int), Cond.methodLink RL 270 yL_dayOfText, Cond.static yL_dayOfText, Cond.codeWith yL_dayOfText cL_dayOfText 3 (some .int) [(0, 8, 11, 17)], Cond.methodLink RL 112 yX4_dayOfText, Cond.instanceMethod yX4_dayOfText, Cond.selects RX4 yX4_dayOfText yX4_dayOfText, Cond.code yX4_dayOfText cX4_dayOfText 2 (some .int), Cond.methodLink RX4 205 yX0_town, Cond.instanceMethod yX0_town, Cond.selects RX0 yX0_town yX0_town, Cond.code yX0_town cX0_town 1 (some .int), Cond.methodLink RX4 207 yX0_number, Cond.instanceMethod yX0_number, Cond.selects RX0 yX0_number yX0_number, Cond.code yX0_number cX0_number 5 (some .int), Cond.methodLink RL 273 yX5_dayOfText, Cond.instanceMethod yX5_dayOfText, Cond.selects RX5 yX5_dayOfText yX5_dayOfText]
def wsL_law0_r34 : List Cond := [Cond.code yX5_dayOfText cX5_dayOfText 1 (some .int), Cond.methodLink RL 274 yL_writeDate, Cond.static yL_writeDate, Cond.codeWith yL_writeDate cL_writeDate 5 (some .int) [(0, 10, 13, 13), (0, 10, 17, 15)], Cond.methodLink RL 116 yX4_writeDate, Cond.instanceMethod yX4_writeDate, Cond.selects RX4 yX4_writeDate yX4_writeDate, Cond.code yX4_writeDate cX4_writeDate 4 (some .int), Cond.methodLink RX4 210 yX0_putNumber, Cond.instanceMethod yX0_putNumber, Cond.selects RX0 yX0_putNumber yX0_putNumber, Cond.code yX0_putNumber cX0_putNumber 2 none, Cond.methodLink RX0 19 yX0_put, Cond.methodLink RL 276 yX5_writeDate, Cond.instanceMethod yX5_writeDate, Cond.selects RX5 yX5_writeDate yX5_writeDate, Cond.code yX5_writeDate cX5_writeDate 3 (some .int), Cond.methodLink RX5 133 yX5_write, Cond.instanceMethod yX5_write, Cond.selects RX5 yX5_write yX5_write, Cond.code yX5_write cX5_write 2 none, Cond.methodLink RX5 137 yX5_writeNumber, Cond.instanceMethod yX5_writeNumber, Cond.selects RX5 yX5_writeNumber yX5_writeNumber]
def wsL_law0_r35 : List Cond := [Cond.code yX5_writeNumber cX5_writeNumber 2 none, Cond.methodLink RL 277 yL_undo, Cond.static yL_undo, Cond.codeWith yL_undo cL_undo 3 (some .int) [(0, 8, 11, 17)], Cond.methodLink RL 119 yX4_undo, Cond.instanceMethod yX4_undo, Cond.selects RX4 yX4_undo yX4_undo, Cond.code yX4_undo cX4_undo 1 (some .int), Cond.methodLink RL 279 yX5_undo, Cond.instanceMethod yX5_undo, Cond.selects RX5 yX5_undo yX5_undo, Cond.code yX5_undo cX5_undo 2 (some .int), Cond.methodLink RL 280 yX4_undoCount, Cond.instanceMethod yX4_undoCount, Cond.selects RX4 yX4_undoCount yX4_undoCount, Cond.code yX4_undoCount cX4_undoCount 1 (some .int), Cond.methodLink RL 283 yX5_undoCount, Cond.instanceMethod yX5_undoCount, Cond.selects RX5 yX5_undoCount yX5_undoCount, Cond.code yX5_undoCount cX5_undoCount 1 (some .int), Cond.methodLink RL 284 yL_saveState, Cond.static yL_saveState, Cond.codeWith yL_saveState cL_saveState 4 (some .int) [(0, 9, 12, 13)], Cond.methodLink RL 122 yX4_saveState]
def wsL_law0_r36 : List Cond := [Cond.instanceMethod yX4_saveState, Cond.selects RX4 yX4_saveState yX4_saveState, Cond.code yX4_saveState cX4_saveState 2 (some .int), Cond.methodLink RL 286 yX5_saveState, Cond.instanceMethod yX5_saveState, Cond.selects RX5 yX5_saveState yX5_saveState, Cond.code yX5_saveState cX5_saveState 3 (some .int), Cond.methodLink RL 287 yL_loadState, Cond.static yL_loadState, Cond.codeWith yL_loadState cL_loadState 4 (some .int) [(0, 9, 12, 13), (0, 9, 15, 17)], Cond.methodLink RL 125 yX4_loadState, Cond.instanceMethod yX4_loadState, Cond.selects RX4 yX4_loadState yX4_loadState, Cond.code yX4_loadState cX4_loadState 2 (some .int), Cond.methodLink RL 289 yX5_loadState, Cond.instanceMethod yX5_loadState, Cond.selects RX5 yX5_loadState yX5_loadState, Cond.code yX5_loadState cX5_loadState 3 (some .int)]
def wsL_law0 : List Cond := (wsL_law0_r1 ++ (wsL_law0_r2 ++ (wsL_law0_r3 ++ (wsL_law0_r4 ++ (wsL_law0_r5 ++ (wsL_law0_r6 ++ (wsL_law0_r7 ++ (wsL_law0_r8 ++ (wsL_law0_r9 ++ (wsL_law0_r10 ++ (wsL_law0_r11 ++ (wsL_law0_r12 ++ (wsL_law0_r13 ++ (wsL_law0_r14 ++ (wsL_law0_r15 ++ (wsL_law0_r16 ++ (wsL_law0_r17 ++ (wsL_law0_r18 ++ (wsL_law0_r19 ++ (wsL_law0_r20 ++ (wsL_law0_r21 ++ (wsL_law0_r22 ++ (wsL_law0_r23 ++ (wsL_law0_r24 ++ (wsL_law0_r25 ++ (wsL_law0_r26 ++ (wsL_law0_r27 ++ (wsL_law0_r28 ++ (wsL_law0_r29 ++ (wsL_law0_r30 ++ (wsL_law0_r31 ++ (wsL_law0_r32 ++ (wsL_law0_r33 ++ (wsL_law0_r34 ++ (wsL_law0_r35 ++ wsL_law0_r36))))))))))))))))))))))))))))))))))) ++ wsX40 ++ wsX50 ++ wsX20 ++ wsX00 ++ wsX30 ++ wsX10 ++ ([] : List Cond)
def wsL_law : List Cond := wsL_law0 ++ (vx_atS RX4 60 "java/lang/IllegalArgumentException" ["java/lang/RuntimeException", "java/lang/Exception"]).filter goodWord ++ (vx_atS RX4 70 "java/lang/IllegalStateException" ["java/lang/RuntimeException", "java/lang/Exception"]).filter goodWord ++ (vx_atS RX4 227 "java/lang/IndexOutOfBoundsException" ["java/lang/RuntimeException", "java/lang/Exception"]).filter goodWord
end
section
theorem dX0_init_0 : decode cX0_init 0 = .ok (.aload_n 0, 1) := by decide +kernel
theorem dX0_init_1 : decode cX0_init 1 = .ok (.invokespecial 3, 3) := by decide +kernel
theorem dX0_init_4 : decode cX0_init 4 = .ok (.aload_n 0, 1) := by decide +kernel
theorem dX0_init_5 : decode cX0_init 5 = .ok (.bipush 80, 2) := by decide +kernel
theorem dX0_init_7 : decode cX0_init 7 = .ok (.newarray .int, 2) := by decide +kernel
theorem dX0_init_9 : decode cX0_init 9 = .ok (.putfield 9, 3) := by decide +kernel
theorem dX0_init_12 : decode cX0_init 12 = .ok (.aload_n 0, 1) := by decide +kernel
theorem dX0_init_13 : decode cX0_init 13 = .ok (.iconst 0, 1) := by decide +kernel
theorem dX0_init_14 : decode cX0_init 14 = .ok (.putfield 15, 3) := by decide +kernel
theorem dX0_init_17 : decode cX0_init 17 = .ok (.return_, 1) := by decide +kernel
theorem dX0_put_0 : decode cX0_put 0 = .ok (.aload_n 0, 1) := by decide +kernel
theorem dX0_put_1 : decode cX0_put 1 = .ok (.getfield 15, 3) := by decide +kernel
theorem dX0_put_4 : decode cX0_put 4 = .ok (.bipush 80, 2) := by decide +kernel
theorem dX0_put_6 : decode cX0_put 6 = .ok (.if_icmp .ge 23, 3) := by decide +kernel
theorem dX0_put_9 : decode cX0_put 9 = .ok (.aload_n 0, 1) := by decide +kernel
theorem dX0_put_10 : decode cX0_put 10 = .ok (.getfield 9, 3) := by decide +kernel
theorem dX0_put_13 : decode cX0_put 13 = .ok (.aload_n 0, 1) := by decide +kernel
theorem dX0_put_14 : decode cX0_put 14 = .ok (.getfield 15, 3) := by decide +kernel
theorem dX0_put_17 : decode cX0_put 17 = .ok (.iload_n 1, 1) := by decide +kernel
theorem dX0_put_18 : decode cX0_put 18 = .ok (.iastore, 1) := by decide +kernel
theorem dX0_put_19 : decode cX0_put 19 = .ok (.aload_n 0, 1) := by decide +kernel
theorem dX0_put_20 : decode cX0_put 20 = .ok (.dup, 1) := by decide +kernel
theorem dX0_put_21 : decode cX0_put 21 = .ok (.getfield 15, 3) := by decide +kernel
theorem dX0_put_24 : decode cX0_put 24 = .ok (.iconst 1, 1) := by decide +kernel
theorem dX0_put_25 : decode cX0_put 25 = .ok (.iadd, 1) := by decide +kernel
theorem dX0_put_26 : decode cX0_put 26 = .ok (.putfield 15, 3) := by decide +kernel
theorem dX0_put_29 : decode cX0_put 29 = .ok (.return_, 1) := by decide +kernel
set_option maxRecDepth 20000 in
theorem ggX0_putNumber_X0_put : GoodIn wsX0_putNumber wsX0_put := goodIn_r _ [5, 6, 7, 8, 9] (by decide +kernel) (by decide +kernel)
set_option maxRecDepth 20000 in
theorem gX0_putNumber_X0_put : GoodIn wsX0_putNumber (wsV RX0 19 RX0 yX0_put wsX0_put) := goodIn_app (goodIn_of _ (by decide +kernel)) ggX0_putNumber_X0_put
theorem dX0_putNumber_0 : decode cX0_putNumber 0 = .ok (.iload_n 1, 1) := by decide +kernel
theorem dX0_putNumber_1 : decode cX0_putNumber 1 = .ok (.bipush 10, 2) := by decide +kernel
theorem dX0_putNumber_3 : decode cX0_putNumber 3 = .ok (.if_icmp .lt 14, 3) := by decide +kernel
theorem dX0_putNumber_6 : decode cX0_putNumber 6 = .ok (.aload_n 0, 1) := by decide +kernel
theorem dX0_putNumber_7 : decode cX0_putNumber 7 = .ok (.bipush 48, 2) := by decide +kernel
theorem dX0_putNumber_9 : decode cX0_putNumber 9 = .ok (.iload_n 1, 1) := by decide +kernel
theorem dX0_putNumber_10 : decode cX0_putNumber 10 = .ok (.bipush 10, 2) := by decide +kernel
theorem dX0_putNumber_12 : decode cX0_putNumber 12 = .ok (.idiv, 1) := by decide +kernel
theorem dX0_putNumber_13 : decode cX0_putNumber 13 = .ok (.iadd, 1) := by decide +kernel
theorem dX0_putNumber_14 : decode cX0_putNumber 14 = .ok (.invokevirtual 19, 3) := by decide +kernel
theorem dX0_putNumber_17 : decode cX0_putNumber 17 = .ok (.aload_n 0, 1) := by decide +kernel
theorem dX0_putNumber_18 : decode cX0_putNumber 18 = .ok (.bipush 48, 2) := by decide +kernel
theorem dX0_putNumber_20 : decode cX0_putNumber 20 = .ok (.iload_n 1, 1) := by decide +kernel
theorem dX0_putNumber_21 : decode cX0_putNumber 21 = .ok (.bipush 10, 2) := by decide +kernel
theorem dX0_putNumber_23 : decode cX0_putNumber 23 = .ok (.irem, 1) := by decide +kernel
theorem dX0_putNumber_24 : decode cX0_putNumber 24 = .ok (.iadd, 1) := by decide +kernel
theorem dX0_putNumber_25 : decode cX0_putNumber 25 = .ok (.invokevirtual 19, 3) := by decide +kernel
theorem dX0_putNumber_28 : decode cX0_putNumber 28 = .ok (.return_, 1) := by decide +kernel
set_option maxRecDepth 20000 in
theorem ggX0_firstError_X0_fits : GoodIn wsX0_firstError wsX0_fits := goodIn_r _ [6] (by decide +kernel) (by decide +kernel)
set_option maxRecDepth 20000 in
theorem gX0_firstError_X0_fits : GoodIn wsX0_firstError (va_wsS RX0 23 yX0_fits wsX0_fits) := goodIn_app (goodIn_of _ (by decide +kernel)) ggX0_firstError_X0_fits
theorem dX0_firstError_0 : decode cX0_firstError 0 = .ok (.iconst 0, 1) := by decide +kernel
theorem dX0_firstError_1 : decode cX0_firstError 1 = .ok (.istore_n 1, 1) := by decide +kernel
theorem dX0_firstError_2 : decode cX0_firstError 2 = .ok (.iconst 0, 1) := by decide +kernel
theorem dX0_firstError_3 : decode cX0_firstError 3 = .ok (.istore_n 2, 1) := by decide +kernel
theorem dX0_firstError_4 : decode cX0_firstError 4 = .ok (.iconst 0, 1) := by decide +kernel
theorem dX0_firstError_5 : decode cX0_firstError 5 = .ok (.istore_n 3, 1) := by decide +kernel
theorem dX0_firstError_6 : decode cX0_firstError 6 = .ok (.iload_n 3, 1) := by decide +kernel
theorem dX0_firstError_7 : decode cX0_firstError 7 = .ok (.aload_n 0, 1) := by decide +kernel
theorem dX0_firstError_8 : decode cX0_firstError 8 = .ok (.getfield 15, 3) := by decide +kernel
theorem dX0_firstError_11 : decode cX0_firstError 11 = .ok (.if_icmp .ge 51, 3) := by decide +kernel
theorem dX0_firstError_14 : decode cX0_firstError 14 = .ok (.aload_n 0, 1) := by decide +kernel
theorem dX0_firstError_15 : decode cX0_firstError 15 = .ok (.getfield 9, 3) := by decide +kernel
theorem dX0_firstError_18 : decode cX0_firstError 18 = .ok (.iload_n 3, 1) := by decide +kernel
theorem dX0_firstError_19 : decode cX0_firstError 19 = .ok (.iaload, 1) := by decide +kernel
theorem dX0_firstError_20 : decode cX0_firstError 20 = .ok (.iload_n 1, 1) := by decide +kernel
theorem dX0_firstError_21 : decode cX0_firstError 21 = .ok (.iload_n 2, 1) := by decide +kernel
theorem dX0_firstError_22 : decode cX0_firstError 22 = .ok (.invokestatic 23, 3) := by decide +kernel
theorem dX0_firstError_25 : decode cX0_firstError 25 = .ok (.ifCond .ne 5, 3) := by decide +kernel
theorem dX0_firstError_28 : decode cX0_firstError 28 = .ok (.iload_n 3, 1) := by decide +kernel
theorem dX0_firstError_29 : decode cX0_firstError 29 = .ok (.ireturn, 1) := by decide +kernel
theorem dX0_firstError_30 : decode cX0_firstError 30 = .ok (.iload_n 1, 1) := by decide +kernel
theorem dX0_firstError_31 : decode cX0_firstError 31 = .ok (.ifCond .eq 14, 3) := by decide +kernel
theorem dX0_firstError_34 : decode cX0_firstError 34 = .ok (.aload_n 0, 1) := by decide +kernel
theorem dX0_firstError_35 : decode cX0_firstError 35 = .ok (.getfield 9, 3) := by decide +kernel
theorem dX0_firstError_38 : decode cX0_firstError 38 = .ok (.iload_n 3, 1) := by decide +kernel
theorem dX0_firstError_39 : decode cX0_firstError 39 = .ok (.iaload, 1) := by decide +kernel
theorem dX0_firstError_40 : decode cX0_firstError 40 = .ok (.bipush 46, 2) := by decide +kernel
theorem dX0_firstError_42 : decode cX0_firstError 42 = .ok (.if_icmp .ne 11, 3) := by decide +kernel
theorem dX0_firstError_45 : decode cX0_firstError 45 = .ok (.iinc 1 1, 3) := by decide +kernel
theorem dX0_firstError_48 : decode cX0_firstError 48 = .ok (.iconst 0, 1) := by decide +kernel
theorem dX0_firstError_49 : decode cX0_firstError 49 = .ok (.istore_n 2, 1) := by decide +kernel
theorem dX0_firstError_50 : decode cX0_firstError 50 = .ok (.goto 6, 3) := by decide +kernel
theorem dX0_firstError_53 : decode cX0_firstError 53 = .ok (.iinc 2 1, 3) := by decide +kernel
theorem dX0_firstError_56 : decode cX0_firstError 56 = .ok (.iinc 3 1, 3) := by decide +kernel
theorem dX0_firstError_59 : decode cX0_firstError 59 = .ok (.goto (-53), 3) := by decide +kernel
theorem dX0_firstError_62 : decode cX0_firstError 62 = .ok (.iload_n 1, 1) := by decide +kernel
theorem dX0_firstError_63 : decode cX0_firstError 63 = .ok (.iconst 3, 1) := by decide +kernel
theorem dX0_firstError_64 : decode cX0_firstError 64 = .ok (.if_icmp .ne 11, 3) := by decide +kernel
theorem dX0_firstError_67 : decode cX0_firstError 67 = .ok (.iload_n 2, 1) := by decide +kernel
theorem dX0_firstError_68 : decode cX0_firstError 68 = .ok (.ifCond .le 7, 3) := by decide +kernel
theorem dX0_firstError_71 : decode cX0_firstError 71 = .ok (.iconst (-1), 1) := by decide +kernel
theorem dX0_firstError_72 : decode cX0_firstError 72 = .ok (.goto 7, 3) := by decide +kernel
theorem dX0_firstError_75 : decode cX0_firstError 75 = .ok (.aload_n 0, 1) := by decide +kernel
theorem dX0_firstError_76 : decode cX0_firstError 76 = .ok (.getfield 15, 3) := by decide +kernel
theorem dX0_firstError_79 : decode cX0_firstError 79 = .ok (.ireturn, 1) := by decide +kernel
theorem dX0_fits_0 : decode cX0_fits 0 = .ok (.iload_n 1, 1) := by decide +kernel
theorem dX0_fits_1 : decode cX0_fits 1 = .ok (.ifCond .ne 21, 3) := by decide +kernel
theorem dX0_fits_4 : decode cX0_fits 4 = .ok (.iload_n 0, 1) := by decide +kernel
theorem dX0_fits_5 : decode cX0_fits 5 = .ok (.bipush 65, 2) := by decide +kernel
theorem dX0_fits_7 : decode cX0_fits 7 = .ok (.if_icmp .eq 9, 3) := by decide +kernel
theorem dX0_fits_10 : decode cX0_fits 10 = .ok (.iload_n 0, 1) := by decide +kernel
theorem dX0_fits_11 : decode cX0_fits 11 = .ok (.bipush 66, 2) := by decide +kernel
theorem dX0_fits_13 : decode cX0_fits 13 = .ok (.if_icmp .ne 7, 3) := by decide +kernel
theorem dX0_fits_16 : decode cX0_fits 16 = .ok (.iconst 1, 1) := by decide +kernel
theorem dX0_fits_17 : decode cX0_fits 17 = .ok (.goto 4, 3) := by decide +kernel
theorem dX0_fits_20 : decode cX0_fits 20 = .ok (.iconst 0, 1) := by decide +kernel
theorem dX0_fits_21 : decode cX0_fits 21 = .ok (.ireturn, 1) := by decide +kernel
theorem dX0_fits_22 : decode cX0_fits 22 = .ok (.iload_n 0, 1) := by decide +kernel
theorem dX0_fits_23 : decode cX0_fits 23 = .ok (.bipush 46, 2) := by decide +kernel
theorem dX0_fits_25 : decode cX0_fits 25 = .ok (.if_icmp .ne 18, 3) := by decide +kernel
theorem dX0_fits_28 : decode cX0_fits 28 = .ok (.iload_n 1, 1) := by decide +kernel
theorem dX0_fits_29 : decode cX0_fits 29 = .ok (.iconst 3, 1) := by decide +kernel
theorem dX0_fits_30 : decode cX0_fits 30 = .ok (.if_icmp .eq 11, 3) := by decide +kernel
theorem dX0_fits_33 : decode cX0_fits 33 = .ok (.iload_n 2, 1) := by decide +kernel
theorem dX0_fits_34 : decode cX0_fits 34 = .ok (.ifCond .le 7, 3) := by decide +kernel
theorem dX0_fits_37 : decode cX0_fits 37 = .ok (.iconst 1, 1) := by decide +kernel
theorem dX0_fits_38 : decode cX0_fits 38 = .ok (.goto 4, 3) := by decide +kernel
theorem dX0_fits_41 : decode cX0_fits 41 = .ok (.iconst 0, 1) := by decide +kernel
theorem dX0_fits_42 : decode cX0_fits 42 = .ok (.ireturn, 1) := by decide +kernel
theorem dX0_fits_43 : decode cX0_fits 43 = .ok (.iload_n 2, 1) := by decide +kernel
theorem dX0_fits_44 : decode cX0_fits 44 = .ok (.ifCond .ne 8, 3) := by decide +kernel
theorem dX0_fits_47 : decode cX0_fits 47 = .ok (.bipush 49, 2) := by decide +kernel
theorem dX0_fits_49 : decode cX0_fits 49 = .ok (.goto 5, 3) := by decide +kernel
theorem dX0_fits_52 : decode cX0_fits 52 = .ok (.bipush 48, 2) := by decide +kernel
theorem dX0_fits_54 : decode cX0_fits 54 = .ok (.istore_n 3, 1) := by decide +kernel
theorem dX0_fits_55 : decode cX0_fits 55 = .ok (.iload_n 1, 1) := by decide +kernel
theorem dX0_fits_56 : decode cX0_fits 56 = .ok (.iconst 3, 1) := by decide +kernel
theorem dX0_fits_57 : decode cX0_fits 57 = .ok (.if_icmp .ne 7, 3) := by decide +kernel
theorem dX0_fits_60 : decode cX0_fits 60 = .ok (.iconst 3, 1) := by decide +kernel
theorem dX0_fits_61 : decode cX0_fits 61 = .ok (.goto 4, 3) := by decide +kernel
theorem dX0_fits_64 : decode cX0_fits 64 = .ok (.iconst 2, 1) := by decide +kernel
theorem dX0_fits_65 : decode cX0_fits 65 = .ok (.istore 4, 2) := by decide +kernel
theorem dX0_fits_67 : decode cX0_fits 67 = .ok (.iload_n 0, 1) := by decide +kernel
theorem dX0_fits_68 : decode cX0_fits 68 = .ok (.iload_n 3, 1) := by decide +kernel
theorem dX0_fits_69 : decode cX0_fits 69 = .ok (.if_icmp .lt 19, 3) := by decide +kernel
theorem dX0_fits_72 : decode cX0_fits 72 = .ok (.iload_n 0, 1) := by decide +kernel
theorem dX0_fits_73 : decode cX0_fits 73 = .ok (.bipush 57, 2) := by decide +kernel
theorem dX0_fits_75 : decode cX0_fits 75 = .ok (.if_icmp .gt 13, 3) := by decide +kernel
theorem dX0_fits_78 : decode cX0_fits 78 = .ok (.iload_n 2, 1) := by decide +kernel
theorem dX0_fits_79 : decode cX0_fits 79 = .ok (.iload 4, 2) := by decide +kernel
theorem dX0_fits_81 : decode cX0_fits 81 = .ok (.if_icmp .ge 7, 3) := by decide +kernel
theorem dX0_fits_84 : decode cX0_fits 84 = .ok (.iconst 1, 1) := by decide +kernel
theorem dX0_fits_85 : decode cX0_fits 85 = .ok (.goto 4, 3) := by decide +kernel
theorem dX0_fits_88 : decode cX0_fits 88 = .ok (.iconst 0, 1) := by decide +kernel
theorem dX0_fits_89 : decode cX0_fits 89 = .ok (.ireturn, 1) := by decide +kernel
theorem dX0_town_0 : decode cX0_town 0 = .ok (.aload_n 0, 1) := by decide +kernel
theorem dX0_town_1 : decode cX0_town 1 = .ok (.getfield 15, 3) := by decide +kernel
theorem dX0_town_4 : decode cX0_town 4 = .ok (.ifCond .le 18, 3) := by decide +kernel
theorem dX0_town_7 : decode cX0_town 7 = .ok (.aload_n 0, 1) := by decide +kernel
theorem dX0_town_8 : decode cX0_town 8 = .ok (.getfield 9, 3) := by decide +kernel
theorem dX0_town_11 : decode cX0_town 11 = .ok (.iconst 0, 1) := by decide +kernel
theorem dX0_town_12 : decode cX0_town 12 = .ok (.iaload, 1) := by decide +kernel
theorem dX0_town_13 : decode cX0_town 13 = .ok (.bipush 65, 2) := by decide +kernel
theorem dX0_town_15 : decode cX0_town 15 = .ok (.if_icmp .ne 7, 3) := by decide +kernel
theorem dX0_town_18 : decode cX0_town 18 = .ok (.iconst 0, 1) := by decide +kernel
theorem dX0_town_19 : decode cX0_town 19 = .ok (.goto 4, 3) := by decide +kernel
theorem dX0_town_22 : decode cX0_town 22 = .ok (.iconst 1, 1) := by decide +kernel
theorem dX0_town_23 : decode cX0_town 23 = .ok (.ireturn, 1) := by decide +kernel
theorem dX0_number_0 : decode cX0_number 0 = .ok (.iconst 1, 1) := by decide +kernel
theorem dX0_number_1 : decode cX0_number 1 = .ok (.istore_n 2, 1) := by decide +kernel
theorem dX0_number_2 : decode cX0_number 2 = .ok (.iconst 0, 1) := by decide +kernel
theorem dX0_number_3 : decode cX0_number 3 = .ok (.istore_n 3, 1) := by decide +kernel
theorem dX0_number_4 : decode cX0_number 4 = .ok (.iconst 1, 1) := by decide +kernel
theorem dX0_number_5 : decode cX0_number 5 = .ok (.istore 4, 2) := by decide +kernel
theorem dX0_number_7 : decode cX0_number 7 = .ok (.iload 4, 2) := by decide +kernel
theorem dX0_number_9 : decode cX0_number 9 = .ok (.aload_n 0, 1) := by decide +kernel
theorem dX0_number_10 : decode cX0_number 10 = .ok (.getfield 15, 3) := by decide +kernel
theorem dX0_number_13 : decode cX0_number 13 = .ok (.if_icmp .ge 48, 3) := by decide +kernel
theorem dX0_number_16 : decode cX0_number 16 = .ok (.aload_n 0, 1) := by decide +kernel
theorem dX0_number_17 : decode cX0_number 17 = .ok (.getfield 9, 3) := by decide +kernel
theorem dX0_number_20 : decode cX0_number 20 = .ok (.iload 4, 2) := by decide +kernel
theorem dX0_number_22 : decode cX0_number 22 = .ok (.iaload, 1) := by decide +kernel
theorem dX0_number_23 : decode cX0_number 23 = .ok (.bipush 46, 2) := by decide +kernel
theorem dX0_number_25 : decode cX0_number 25 = .ok (.if_icmp .ne 9, 3) := by decide +kernel
theorem dX0_number_28 : decode cX0_number 28 = .ok (.iinc 2 1, 3) := by decide +kernel
theorem dX0_number_31 : decode cX0_number 31 = .ok (.goto 24, 3) := by decide +kernel
theorem dX0_number_34 : decode cX0_number 34 = .ok (.iload_n 2, 1) := by decide +kernel
theorem dX0_number_35 : decode cX0_number 35 = .ok (.iload_n 1, 1) := by decide +kernel
theorem dX0_number_36 : decode cX0_number 36 = .ok (.if_icmp .ne 19, 3) := by decide +kernel
theorem dX0_number_39 : decode cX0_number 39 = .ok (.iload_n 3, 1) := by decide +kernel
theorem dX0_number_40 : decode cX0_number 40 = .ok (.bipush 10, 2) := by decide +kernel
theorem dX0_number_42 : decode cX0_number 42 = .ok (.imul, 1) := by decide +kernel
theorem dX0_number_43 : decode cX0_number 43 = .ok (.aload_n 0, 1) := by decide +kernel
theorem dX0_number_44 : decode cX0_number 44 = .ok (.getfield 9, 3) := by decide +kernel
theorem dX0_number_47 : decode cX0_number 47 = .ok (.iload 4, 2) := by decide +kernel
theorem dX0_number_49 : decode cX0_number 49 = .ok (.iaload, 1) := by decide +kernel
theorem dX0_number_50 : decode cX0_number 50 = .ok (.iadd, 1) := by decide +kernel
theorem dX0_number_51 : decode cX0_number 51 = .ok (.bipush 48, 2) := by decide +kernel
theorem dX0_number_53 : decode cX0_number 53 = .ok (.isub, 1) := by decide +kernel
theorem dX0_number_54 : decode cX0_number 54 = .ok (.istore_n 3, 1) := by decide +kernel
theorem dX0_number_55 : decode cX0_number 55 = .ok (.iinc 4 1, 3) := by decide +kernel
theorem dX0_number_58 : decode cX0_number 58 = .ok (.goto (-51), 3) := by decide +kernel
theorem dX0_number_61 : decode cX0_number 61 = .ok (.iload_n 3, 1) := by decide +kernel
theorem dX0_number_62 : decode cX0_number 62 = .ok (.ireturn, 1) := by decide +kernel
theorem dX1_init_0 : decode cX1_init 0 = .ok (.aload_n 0, 1) := by decide +kernel
theorem dX1_init_1 : decode cX1_init 1 = .ok (.invokespecial 3, 3) := by decide +kernel
theorem dX1_init_4 : decode cX1_init 4 = .ok (.aload_n 0, 1) := by decide +kernel
theorem dX1_init_5 : decode cX1_init 5 = .ok (.iconst 0, 1) := by decide +kernel
theorem dX1_init_6 : decode cX1_init 6 = .ok (.putfield 9, 3) := by decide +kernel
theorem dX1_init_9 : decode cX1_init 9 = .ok (.aload_n 0, 1) := by decide +kernel
theorem dX1_init_10 : decode cX1_init 10 = .ok (.iconst 1, 1) := by decide +kernel
theorem dX1_init_11 : decode cX1_init 11 = .ok (.putfield 15, 3) := by decide +kernel
theorem dX1_init_14 : decode cX1_init 14 = .ok (.aload_n 0, 1) := by decide +kernel
theorem dX1_init_15 : decode cX1_init 15 = .ok (.iconst 1, 1) := by decide +kernel
theorem dX1_init_16 : decode cX1_init 16 = .ok (.putfield 18, 3) := by decide +kernel
theorem dX1_init_19 : decode cX1_init 19 = .ok (.aload_n 0, 1) := by decide +kernel
theorem dX1_init_20 : decode cX1_init 20 = .ok (.iconst (-1), 1) := by decide +kernel
theorem dX1_init_21 : decode cX1_init 21 = .ok (.putfield 21, 3) := by decide +kernel
theorem dX1_init_24 : decode cX1_init 24 = .ok (.return_, 1) := by decide +kernel
theorem dX1_copyFrom_0 : decode cX1_copyFrom 0 = .ok (.aload_n 0, 1) := by decide +kernel
theorem dX1_copyFrom_1 : decode cX1_copyFrom 1 = .ok (.aload_n 1, 1) := by decide +kernel
theorem dX1_copyFrom_2 : decode cX1_copyFrom 2 = .ok (.getfield 9, 3) := by decide +kernel
theorem dX1_copyFrom_5 : decode cX1_copyFrom 5 = .ok (.putfield 9, 3) := by decide +kernel
theorem dX1_copyFrom_8 : decode cX1_copyFrom 8 = .ok (.aload_n 0, 1) := by decide +kernel
theorem dX1_copyFrom_9 : decode cX1_copyFrom 9 = .ok (.aload_n 1, 1) := by decide +kernel
theorem dX1_copyFrom_10 : decode cX1_copyFrom 10 = .ok (.getfield 15, 3) := by decide +kernel
theorem dX1_copyFrom_13 : decode cX1_copyFrom 13 = .ok (.putfield 15, 3) := by decide +kernel
theorem dX1_copyFrom_16 : decode cX1_copyFrom 16 = .ok (.aload_n 0, 1) := by decide +kernel
theorem dX1_copyFrom_17 : decode cX1_copyFrom 17 = .ok (.aload_n 1, 1) := by decide +kernel
theorem dX1_copyFrom_18 : decode cX1_copyFrom 18 = .ok (.getfield 18, 3) := by decide +kernel
theorem dX1_copyFrom_21 : decode cX1_copyFrom 21 = .ok (.putfield 18, 3) := by decide +kernel
theorem dX1_copyFrom_24 : decode cX1_copyFrom 24 = .ok (.aload_n 0, 1) := by decide +kernel
theorem dX1_copyFrom_25 : decode cX1_copyFrom 25 = .ok (.aload_n 1, 1) := by decide +kernel
theorem dX1_copyFrom_26 : decode cX1_copyFrom 26 = .ok (.getfield 21, 3) := by decide +kernel
theorem dX1_copyFrom_29 : decode cX1_copyFrom 29 = .ok (.putfield 21, 3) := by decide +kernel
theorem dX1_copyFrom_32 : decode cX1_copyFrom 32 = .ok (.return_, 1) := by decide +kernel
set_option maxRecDepth 20000 in
theorem ggX2_init_X3_init : GoodIn wsX2_init wsX3_init := goodIn_r _ [21, 22, 2, 3, 23, 24, 25, 26, 27, 28, 36, 37, 38, 39, 40] (by decide +kernel) (by decide +kernel)
set_option maxRecDepth 20000 in
theorem gX2_init_X3_init : GoodIn wsX2_init (wsX3_init) := ggX2_init_X3_init
set_option maxRecDepth 20000 in
theorem ggX2_init_X1_init : GoodIn wsX2_init wsX1_init := goodIn_r _ [30, 31, 2, 3, 32, 33, 34, 35, 50, 51, 52, 53] (by decide +kernel) (by decide +kernel)
set_option maxRecDepth 20000 in
theorem gX2_init_X1_init_n48 : GoodIn wsX2_init (wsX1_init) := ggX2_init_X1_init
theorem dX2_init_0 : decode cX2_init 0 = .ok (.aload_n 0, 1) := by decide +kernel
theorem dX2_init_1 : decode cX2_init 1 = .ok (.invokespecial 3, 3) := by decide +kernel
theorem dX2_init_4 : decode cX2_init 4 = .ok (.aload_n 0, 1) := by decide +kernel
theorem dX2_init_5 : decode cX2_init 5 = .ok (.new 9, 3) := by decide +kernel
theorem dX2_init_8 : decode cX2_init 8 = .ok (.dup, 1) := by decide +kernel
theorem dX2_init_9 : decode cX2_init 9 = .ok (.iconst 0, 1) := by decide +kernel
theorem dX2_init_10 : decode cX2_init 10 = .ok (.invokespecial 11, 3) := by decide +kernel
theorem dX2_init_13 : decode cX2_init 13 = .ok (.putfield 14, 3) := by decide +kernel
theorem dX2_init_16 : decode cX2_init 16 = .ok (.aload_n 0, 1) := by decide +kernel
theorem dX2_init_17 : decode cX2_init 17 = .ok (.new 9, 3) := by decide +kernel
theorem dX2_init_20 : decode cX2_init 20 = .ok (.dup, 1) := by decide +kernel
theorem dX2_init_21 : decode cX2_init 21 = .ok (.iconst 1, 1) := by decide +kernel
theorem dX2_init_22 : decode cX2_init 22 = .ok (.invokespecial 11, 3) := by decide +kernel
theorem dX2_init_25 : decode cX2_init 25 = .ok (.putfield 20, 3) := by decide +kernel
theorem dX2_init_28 : decode cX2_init 28 = .ok (.aload_n 0, 1) := by decide +kernel
theorem dX2_init_29 : decode cX2_init 29 = .ok (.bipush 10, 2) := by decide +kernel
theorem dX2_init_31 : decode cX2_init 31 = .ok (.anewarray 23, 3) := by decide +kernel
theorem dX2_init_34 : decode cX2_init 34 = .ok (.putfield 25, 3) := by decide +kernel
theorem dX2_init_37 : decode cX2_init 37 = .ok (.aload_n 0, 1) := by decide +kernel
theorem dX2_init_38 : decode cX2_init 38 = .ok (.iconst 0, 1) := by decide +kernel
theorem dX2_init_39 : decode cX2_init 39 = .ok (.putfield 29, 3) := by decide +kernel
theorem dX2_init_42 : decode cX2_init 42 = .ok (.aload_n 0, 1) := by decide +kernel
theorem dX2_init_43 : decode cX2_init 43 = .ok (.iconst 1, 1) := by decide +kernel
theorem dX2_init_44 : decode cX2_init 44 = .ok (.putfield 33, 3) := by decide +kernel
theorem dX2_init_47 : decode cX2_init 47 = .ok (.aload_n 0, 1) := by decide +kernel
theorem dX2_init_48 : decode cX2_init 48 = .ok (.iconst 2, 1) := by decide +kernel
theorem dX2_init_49 : decode cX2_init 49 = .ok (.putfield 36, 3) := by decide +kernel
theorem dX2_init_52 : decode cX2_init 52 = .ok (.aload_n 0, 1) := by decide +kernel
theorem dX2_init_53 : decode cX2_init 53 = .ok (.iconst 0, 1) := by decide +kernel
theorem dX2_init_54 : decode cX2_init 54 = .ok (.putfield 39, 3) := by decide +kernel
theorem dX2_init_57 : decode cX2_init 57 = .ok (.aload_n 0, 1) := by decide +kernel
theorem dX2_init_58 : decode cX2_init 58 = .ok (.iconst 0, 1) := by decide +kernel
theorem dX2_init_59 : decode cX2_init 59 = .ok (.putfield 42, 3) := by decide +kernel
theorem dX2_init_62 : decode cX2_init 62 = .ok (.aload_n 0, 1) := by decide +kernel
theorem dX2_init_63 : decode cX2_init 63 = .ok (.iconst 0, 1) := by decide +kernel
theorem dX2_init_64 : decode cX2_init 64 = .ok (.putfield 45, 3) := by decide +kernel
theorem dX2_init_67 : decode cX2_init 67 = .ok (.iconst 0, 1) := by decide +kernel
theorem dX2_init_68 : decode cX2_init 68 = .ok (.istore_n 1, 1) := by decide +kernel
theorem dX2_init_69 : decode cX2_init 69 = .ok (.iload_n 1, 1) := by decide +kernel
theorem dX2_init_70 : decode cX2_init 70 = .ok (.bipush 10, 2) := by decide +kernel
theorem dX2_init_72 : decode cX2_init 72 = .ok (.if_icmp .ge 22, 3) := by decide +kernel
theorem dX2_init_75 : decode cX2_init 75 = .ok (.aload_n 0, 1) := by decide +kernel
theorem dX2_init_76 : decode cX2_init 76 = .ok (.getfield 25, 3) := by decide +kernel
theorem dX2_init_79 : decode cX2_init 79 = .ok (.iload_n 1, 1) := by decide +kernel
theorem dX2_init_80 : decode cX2_init 80 = .ok (.new 23, 3) := by decide +kernel
theorem dX2_init_83 : decode cX2_init 83 = .ok (.dup, 1) := by decide +kernel
theorem dX2_init_84 : decode cX2_init 84 = .ok (.invokespecial 48, 3) := by decide +kernel
theorem dX2_init_87 : decode cX2_init 87 = .ok (.aastore, 1) := by decide +kernel
theorem dX2_init_88 : decode cX2_init 88 = .ok (.iinc 1 1, 3) := by decide +kernel
theorem dX2_init_91 : decode cX2_init 91 = .ok (.goto (-22), 3) := by decide +kernel
theorem dX2_init_94 : decode cX2_init 94 = .ok (.return_, 1) := by decide +kernel
set_option maxRecDepth 20000 in
theorem ggX2_copyFrom_X3_copyFrom : GoodIn wsX2_copyFrom wsX3_copyFrom := goodIn_r _ [14, 15, 16, 17, 18, 37, 38, 39, 40, 41] (by decide +kernel) (by decide +kernel)
set_option maxRecDepth 20000 in
theorem gX2_copyFrom_X3_copyFrom : GoodIn wsX2_copyFrom (wsV RX2 49 RX3 yX3_copyFrom wsX3_copyFrom) := goodIn_app (goodIn_of _ (by decide +kernel)) ggX2_copyFrom_X3_copyFrom
set_option maxRecDepth 20000 in
theorem ggX2_copyFrom_X1_copyFrom : GoodIn wsX2_copyFrom wsX1_copyFrom := goodIn_r _ [23, 24, 25, 26, 27, 42, 43, 44, 45] (by decide +kernel) (by decide +kernel)
set_option maxRecDepth 20000 in
theorem gX2_copyFrom_X1_copyFrom : GoodIn wsX2_copyFrom (wsV RX2 53 RX1 yX1_copyFrom wsX1_copyFrom) := goodIn_app (goodIn_of _ (by decide +kernel)) ggX2_copyFrom_X1_copyFrom
theorem dX2_copyFrom_0 : decode cX2_copyFrom 0 = .ok (.aload_n 0, 1) := by decide +kernel
theorem dX2_copyFrom_1 : decode cX2_copyFrom 1 = .ok (.getfield 14, 3) := by decide +kernel
theorem dX2_copyFrom_4 : decode cX2_copyFrom 4 = .ok (.aload_n 1, 1) := by decide +kernel
theorem dX2_copyFrom_5 : decode cX2_copyFrom 5 = .ok (.getfield 14, 3) := by decide +kernel
theorem dX2_copyFrom_8 : decode cX2_copyFrom 8 = .ok (.invokevirtual 49, 3) := by decide +kernel
theorem dX2_copyFrom_11 : decode cX2_copyFrom 11 = .ok (.aload_n 0, 1) := by decide +kernel
theorem dX2_copyFrom_12 : decode cX2_copyFrom 12 = .ok (.getfield 20, 3) := by decide +kernel
theorem dX2_copyFrom_15 : decode cX2_copyFrom 15 = .ok (.aload_n 1, 1) := by decide +kernel
theorem dX2_copyFrom_16 : decode cX2_copyFrom 16 = .ok (.getfield 20, 3) := by decide +kernel
theorem dX2_copyFrom_19 : decode cX2_copyFrom 19 = .ok (.invokevirtual 49, 3) := by decide +kernel
theorem dX2_copyFrom_22 : decode cX2_copyFrom 22 = .ok (.iconst 0, 1) := by decide +kernel
theorem dX2_copyFrom_23 : decode cX2_copyFrom 23 = .ok (.istore_n 2, 1) := by decide +kernel
theorem dX2_copyFrom_24 : decode cX2_copyFrom 24 = .ok (.iload_n 2, 1) := by decide +kernel
theorem dX2_copyFrom_25 : decode cX2_copyFrom 25 = .ok (.bipush 10, 2) := by decide +kernel
theorem dX2_copyFrom_27 : decode cX2_copyFrom 27 = .ok (.if_icmp .ge 24, 3) := by decide +kernel
theorem dX2_copyFrom_30 : decode cX2_copyFrom 30 = .ok (.aload_n 0, 1) := by decide +kernel
theorem dX2_copyFrom_31 : decode cX2_copyFrom 31 = .ok (.getfield 25, 3) := by decide +kernel
theorem dX2_copyFrom_34 : decode cX2_copyFrom 34 = .ok (.iload_n 2, 1) := by decide +kernel
theorem dX2_copyFrom_35 : decode cX2_copyFrom 35 = .ok (.aaload, 1) := by decide +kernel
theorem dX2_copyFrom_36 : decode cX2_copyFrom 36 = .ok (.aload_n 1, 1) := by decide +kernel
theorem dX2_copyFrom_37 : decode cX2_copyFrom 37 = .ok (.getfield 25, 3) := by decide +kernel
theorem dX2_copyFrom_40 : decode cX2_copyFrom 40 = .ok (.iload_n 2, 1) := by decide +kernel
theorem dX2_copyFrom_41 : decode cX2_copyFrom 41 = .ok (.aaload, 1) := by decide +kernel
theorem dX2_copyFrom_42 : decode cX2_copyFrom 42 = .ok (.invokevirtual 53, 3) := by decide +kernel
theorem dX2_copyFrom_45 : decode cX2_copyFrom 45 = .ok (.iinc 2 1, 3) := by decide +kernel
theorem dX2_copyFrom_48 : decode cX2_copyFrom 48 = .ok (.goto (-24), 3) := by decide +kernel
theorem dX2_copyFrom_51 : decode cX2_copyFrom 51 = .ok (.aload_n 0, 1) := by decide +kernel
theorem dX2_copyFrom_52 : decode cX2_copyFrom 52 = .ok (.aload_n 1, 1) := by decide +kernel
theorem dX2_copyFrom_53 : decode cX2_copyFrom 53 = .ok (.getfield 29, 3) := by decide +kernel
theorem dX2_copyFrom_56 : decode cX2_copyFrom 56 = .ok (.putfield 29, 3) := by decide +kernel
theorem dX2_copyFrom_59 : decode cX2_copyFrom 59 = .ok (.aload_n 0, 1) := by decide +kernel
theorem dX2_copyFrom_60 : decode cX2_copyFrom 60 = .ok (.aload_n 1, 1) := by decide +kernel
theorem dX2_copyFrom_61 : decode cX2_copyFrom 61 = .ok (.getfield 33, 3) := by decide +kernel
theorem dX2_copyFrom_64 : decode cX2_copyFrom 64 = .ok (.putfield 33, 3) := by decide +kernel
theorem dX2_copyFrom_67 : decode cX2_copyFrom 67 = .ok (.aload_n 0, 1) := by decide +kernel
theorem dX2_copyFrom_68 : decode cX2_copyFrom 68 = .ok (.aload_n 1, 1) := by decide +kernel
theorem dX2_copyFrom_69 : decode cX2_copyFrom 69 = .ok (.getfield 36, 3) := by decide +kernel
theorem dX2_copyFrom_72 : decode cX2_copyFrom 72 = .ok (.putfield 36, 3) := by decide +kernel
theorem dX2_copyFrom_75 : decode cX2_copyFrom 75 = .ok (.aload_n 0, 1) := by decide +kernel
theorem dX2_copyFrom_76 : decode cX2_copyFrom 76 = .ok (.aload_n 1, 1) := by decide +kernel
theorem dX2_copyFrom_77 : decode cX2_copyFrom 77 = .ok (.getfield 39, 3) := by decide +kernel
theorem dX2_copyFrom_80 : decode cX2_copyFrom 80 = .ok (.putfield 39, 3) := by decide +kernel
theorem dX2_copyFrom_83 : decode cX2_copyFrom 83 = .ok (.aload_n 0, 1) := by decide +kernel
theorem dX2_copyFrom_84 : decode cX2_copyFrom 84 = .ok (.aload_n 1, 1) := by decide +kernel
theorem dX2_copyFrom_85 : decode cX2_copyFrom 85 = .ok (.getfield 42, 3) := by decide +kernel
theorem dX2_copyFrom_88 : decode cX2_copyFrom 88 = .ok (.putfield 42, 3) := by decide +kernel
theorem dX2_copyFrom_91 : decode cX2_copyFrom 91 = .ok (.aload_n 0, 1) := by decide +kernel
theorem dX2_copyFrom_92 : decode cX2_copyFrom 92 = .ok (.aload_n 1, 1) := by decide +kernel
theorem dX2_copyFrom_93 : decode cX2_copyFrom 93 = .ok (.getfield 45, 3) := by decide +kernel
theorem dX2_copyFrom_96 : decode cX2_copyFrom 96 = .ok (.putfield 45, 3) := by decide +kernel
theorem dX2_copyFrom_99 : decode cX2_copyFrom 99 = .ok (.return_, 1) := by decide +kernel
theorem dX2_townWith_0 : decode cX2_townWith 0 = .ok (.iload_n 1, 1) := by decide +kernel
theorem dX2_townWith_1 : decode cX2_townWith 1 = .ok (.ifCond .ne 10, 3) := by decide +kernel
theorem dX2_townWith_4 : decode cX2_townWith 4 = .ok (.aload_n 0, 1) := by decide +kernel
theorem dX2_townWith_5 : decode cX2_townWith 5 = .ok (.getfield 14, 3) := by decide +kernel
theorem dX2_townWith_8 : decode cX2_townWith 8 = .ok (.goto 7, 3) := by decide +kernel
theorem dX2_townWith_11 : decode cX2_townWith 11 = .ok (.aload_n 0, 1) := by decide +kernel
theorem dX2_townWith_12 : decode cX2_townWith 12 = .ok (.getfield 20, 3) := by decide +kernel
theorem dX2_townWith_15 : decode cX2_townWith 15 = .ok (.areturn, 1) := by decide +kernel
theorem dX2_putFeast_0 : decode cX2_putFeast 0 = .ok (.aload_n 0, 1) := by decide +kernel
theorem dX2_putFeast_1 : decode cX2_putFeast 1 = .ok (.getfield 29, 3) := by decide +kernel
theorem dX2_putFeast_4 : decode cX2_putFeast 4 = .ok (.istore 4, 2) := by decide +kernel
theorem dX2_putFeast_6 : decode cX2_putFeast 6 = .ok (.iload 4, 2) := by decide +kernel
theorem dX2_putFeast_8 : decode cX2_putFeast 8 = .ok (.bipush 10, 2) := by decide +kernel
theorem dX2_putFeast_10 : decode cX2_putFeast 10 = .ok (.if_icmp .ge 46, 3) := by decide +kernel
theorem dX2_putFeast_13 : decode cX2_putFeast 13 = .ok (.aload_n 0, 1) := by decide +kernel
theorem dX2_putFeast_14 : decode cX2_putFeast 14 = .ok (.getfield 25, 3) := by decide +kernel
theorem dX2_putFeast_17 : decode cX2_putFeast 17 = .ok (.iload 4, 2) := by decide +kernel
theorem dX2_putFeast_19 : decode cX2_putFeast 19 = .ok (.aaload, 1) := by decide +kernel
theorem dX2_putFeast_20 : decode cX2_putFeast 20 = .ok (.astore 5, 2) := by decide +kernel
theorem dX2_putFeast_22 : decode cX2_putFeast 22 = .ok (.aload 5, 2) := by decide +kernel
theorem dX2_putFeast_24 : decode cX2_putFeast 24 = .ok (.iload_n 1, 1) := by decide +kernel
theorem dX2_putFeast_25 : decode cX2_putFeast 25 = .ok (.putfield 56, 3) := by decide +kernel
theorem dX2_putFeast_28 : decode cX2_putFeast 28 = .ok (.aload 5, 2) := by decide +kernel
theorem dX2_putFeast_30 : decode cX2_putFeast 30 = .ok (.iload_n 2, 1) := by decide +kernel
theorem dX2_putFeast_31 : decode cX2_putFeast 31 = .ok (.putfield 59, 3) := by decide +kernel
theorem dX2_putFeast_34 : decode cX2_putFeast 34 = .ok (.aload 5, 2) := by decide +kernel
theorem dX2_putFeast_36 : decode cX2_putFeast 36 = .ok (.iload_n 3, 1) := by decide +kernel
theorem dX2_putFeast_37 : decode cX2_putFeast 37 = .ok (.putfield 62, 3) := by decide +kernel
theorem dX2_putFeast_40 : decode cX2_putFeast 40 = .ok (.aload 5, 2) := by decide +kernel
theorem dX2_putFeast_42 : decode cX2_putFeast 42 = .ok (.iconst (-1), 1) := by decide +kernel
theorem dX2_putFeast_43 : decode cX2_putFeast 43 = .ok (.putfield 65, 3) := by decide +kernel
theorem dX2_putFeast_46 : decode cX2_putFeast 46 = .ok (.aload_n 0, 1) := by decide +kernel
theorem dX2_putFeast_47 : decode cX2_putFeast 47 = .ok (.dup, 1) := by decide +kernel
theorem dX2_putFeast_48 : decode cX2_putFeast 48 = .ok (.getfield 29, 3) := by decide +kernel
theorem dX2_putFeast_51 : decode cX2_putFeast 51 = .ok (.iconst 1, 1) := by decide +kernel
theorem dX2_putFeast_52 : decode cX2_putFeast 52 = .ok (.iadd, 1) := by decide +kernel
theorem dX2_putFeast_53 : decode cX2_putFeast 53 = .ok (.putfield 29, 3) := by decide +kernel
theorem dX2_putFeast_56 : decode cX2_putFeast 56 = .ok (.iload 4, 2) := by decide +kernel
theorem dX2_putFeast_58 : decode cX2_putFeast 58 = .ok (.ireturn, 1) := by decide +kernel
set_option maxRecDepth 20000 in
theorem ggX2_keptIn_X2_townWith : GoodIn wsX2_keptIn wsX2_townWith := goodIn_r _ [6, 7, 8, 50, 51, 52, 53, 54, 55, 56, 57, 58] (by decide +kernel) (by decide +kernel)
set_option maxRecDepth 20000 in
theorem gX2_keptIn_X2_townWith : GoodIn wsX2_keptIn (wsV RX2 68 RX2 yX2_townWith wsX2_townWith) := goodIn_app (goodIn_of _ (by decide +kernel)) ggX2_keptIn_X2_townWith
set_option maxRecDepth 20000 in
theorem ggX2_keptIn_X3_dueIn : GoodIn wsX2_keptIn wsX3_dueIn := goodIn_r _ [13, 14, 15, 16, 12, 17, 18, 19, 20, 21, 22, 23, 24, 25, 26, 27, 28, 29, 30, 31, 32, 33, 34, 35, 36, 37, 38, 39, 40, 41, 42, 43, 44, 45, 46, 47, 48, 49, 59, 60, 61, 62, 63] (by decide +kernel) (by decide +kernel)
set_option maxRecDepth 20000 in
theorem gX2_keptIn_X3_dueIn : GoodIn wsX2_keptIn (wsV RX2 72 RX3 yX3_dueIn wsX3_dueIn) := goodIn_app (goodIn_of _ (by decide +kernel)) ggX2_keptIn_X3_dueIn
theorem dX2_keptIn_0 : decode cX2_keptIn 0 = .ok (.aload_n 0, 1) := by decide +kernel
theorem dX2_keptIn_1 : decode cX2_keptIn 1 = .ok (.aload_n 1, 1) := by decide +kernel
theorem dX2_keptIn_2 : decode cX2_keptIn 2 = .ok (.getfield 56, 3) := by decide +kernel
theorem dX2_keptIn_5 : decode cX2_keptIn 5 = .ok (.invokevirtual 68, 3) := by decide +kernel
theorem dX2_keptIn_8 : decode cX2_keptIn 8 = .ok (.aload_n 1, 1) := by decide +kernel
theorem dX2_keptIn_9 : decode cX2_keptIn 9 = .ok (.iload_n 2, 1) := by decide +kernel
theorem dX2_keptIn_10 : decode cX2_keptIn 10 = .ok (.invokevirtual 72, 3) := by decide +kernel
theorem dX2_keptIn_13 : decode cX2_keptIn 13 = .ok (.istore_n 3, 1) := by decide +kernel
theorem dX2_keptIn_14 : decode cX2_keptIn 14 = .ok (.iload_n 3, 1) := by decide +kernel
theorem dX2_keptIn_15 : decode cX2_keptIn 15 = .ok (.iconst (-1), 1) := by decide +kernel
theorem dX2_keptIn_16 : decode cX2_keptIn 16 = .ok (.if_icmp .eq 14, 3) := by decide +kernel
theorem dX2_keptIn_19 : decode cX2_keptIn 19 = .ok (.iload_n 3, 1) := by decide +kernel
theorem dX2_keptIn_20 : decode cX2_keptIn 20 = .ok (.bipush 7, 2) := by decide +kernel
theorem dX2_keptIn_22 : decode cX2_keptIn 22 = .ok (.irem, 1) := by decide +kernel
theorem dX2_keptIn_23 : decode cX2_keptIn 23 = .ok (.aload_n 1, 1) := by decide +kernel
theorem dX2_keptIn_24 : decode cX2_keptIn 24 = .ok (.getfield 65, 3) := by decide +kernel
theorem dX2_keptIn_27 : decode cX2_keptIn 27 = .ok (.if_icmp .eq 5, 3) := by decide +kernel
theorem dX2_keptIn_30 : decode cX2_keptIn 30 = .ok (.iload_n 3, 1) := by decide +kernel
theorem dX2_keptIn_31 : decode cX2_keptIn 31 = .ok (.ireturn, 1) := by decide +kernel
theorem dX2_keptIn_32 : decode cX2_keptIn 32 = .ok (.iload_n 3, 1) := by decide +kernel
theorem dX2_keptIn_33 : decode cX2_keptIn 33 = .ok (.aload_n 0, 1) := by decide +kernel
theorem dX2_keptIn_34 : decode cX2_keptIn 34 = .ok (.getfield 33, 3) := by decide +kernel
theorem dX2_keptIn_37 : decode cX2_keptIn 37 = .ok (.bipush 7, 2) := by decide +kernel
theorem dX2_keptIn_39 : decode cX2_keptIn 39 = .ok (.if_icmp .ne 7, 3) := by decide +kernel
theorem dX2_keptIn_42 : decode cX2_keptIn 42 = .ok (.iconst 1, 1) := by decide +kernel
theorem dX2_keptIn_43 : decode cX2_keptIn 43 = .ok (.goto 7, 3) := by decide +kernel
theorem dX2_keptIn_46 : decode cX2_keptIn 46 = .ok (.aload_n 0, 1) := by decide +kernel
theorem dX2_keptIn_47 : decode cX2_keptIn 47 = .ok (.getfield 33, 3) := by decide +kernel
theorem dX2_keptIn_50 : decode cX2_keptIn 50 = .ok (.iadd, 1) := by decide +kernel
theorem dX2_keptIn_51 : decode cX2_keptIn 51 = .ok (.ireturn, 1) := by decide +kernel
set_option maxRecDepth 20000 in
theorem ggX2_firstYearFor_X2_townWith : GoodIn wsX2_firstYearFor wsX2_townWith := goodIn_r _ [9, 10, 11, 29, 30, 31, 32, 33, 34, 35, 36, 37] (by decide +kernel) (by decide +kernel)
set_option maxRecDepth 20000 in
theorem gX2_firstYearFor_X2_townWith : GoodIn wsX2_firstYearFor (wsV RX2 68 RX2 yX2_townWith wsX2_townWith) := goodIn_app (goodIn_of _ (by decide +kernel)) ggX2_firstYearFor_X2_townWith
set_option maxRecDepth 20000 in
theorem ggX2_firstYearFor_X3_yearOn : GoodIn wsX2_firstYearFor wsX3_yearOn := goodIn_r _ [16, 17, 18, 19, 20, 15, 21, 22, 23, 24, 38, 39, 40, 41, 42] (by decide +kernel) (by decide +kernel)
set_option maxRecDepth 20000 in
theorem gX2_firstYearFor_X3_yearOn : GoodIn wsX2_firstYearFor (wsV RX2 82 RX3 yX3_yearOn wsX3_yearOn) := goodIn_app (goodIn_of _ (by decide +kernel)) ggX2_firstYearFor_X3_yearOn
theorem dX2_firstYearFor_0 : decode cX2_firstYearFor 0 = .ok (.aload_n 0, 1) := by decide +kernel
theorem dX2_firstYearFor_1 : decode cX2_firstYearFor 1 = .ok (.aload_n 1, 1) := by decide +kernel
theorem dX2_firstYearFor_2 : decode cX2_firstYearFor 2 = .ok (.getfield 56, 3) := by decide +kernel
theorem dX2_firstYearFor_5 : decode cX2_firstYearFor 5 = .ok (.invokevirtual 68, 3) := by decide +kernel
theorem dX2_firstYearFor_8 : decode cX2_firstYearFor 8 = .ok (.iconst 0, 1) := by decide +kernel
theorem dX2_firstYearFor_9 : decode cX2_firstYearFor 9 = .ok (.iload_n 2, 1) := by decide +kernel
theorem dX2_firstYearFor_10 : decode cX2_firstYearFor 10 = .ok (.bipush 9, 2) := by decide +kernel
theorem dX2_firstYearFor_12 : decode cX2_firstYearFor 12 = .ok (.isub, 1) := by decide +kernel
theorem dX2_firstYearFor_13 : decode cX2_firstYearFor 13 = .ok (.invokestatic 76, 3) := by decide +kernel
theorem dX2_firstYearFor_16 : decode cX2_firstYearFor 16 = .ok (.invokevirtual 82, 3) := by decide +kernel
theorem dX2_firstYearFor_19 : decode cX2_firstYearFor 19 = .ok (.ireturn, 1) := by decide +kernel
set_option maxRecDepth 20000 in
theorem ggX2_firstKept_X2_townWith : GoodIn wsX2_firstKept wsX2_townWith := goodIn_r _ [5, 6, 7, 63, 64, 65, 66, 67, 68, 69, 70, 71] (by decide +kernel) (by decide +kernel)
set_option maxRecDepth 20000 in
theorem gX2_firstKept_X2_townWith : GoodIn wsX2_firstKept (wsV RX2 68 RX2 yX2_townWith wsX2_townWith) := goodIn_app (goodIn_of _ (by decide +kernel)) ggX2_firstKept_X2_townWith
set_option maxRecDepth 20000 in
theorem ggX2_firstKept_X3_yearOn : GoodIn wsX2_firstKept wsX3_yearOn := goodIn_r _ [12, 13, 14, 15, 16, 11, 17, 18, 19, 20, 72, 73, 74, 75, 76] (by decide +kernel) (by decide +kernel)
set_option maxRecDepth 20000 in
theorem gX2_firstKept_X3_yearOn : GoodIn wsX2_firstKept (wsV RX2 82 RX3 yX3_yearOn wsX3_yearOn) := goodIn_app (goodIn_of _ (by decide +kernel)) ggX2_firstKept_X3_yearOn
set_option maxRecDepth 20000 in
theorem ggX2_firstKept_X2_firstYearFor : GoodIn wsX2_firstKept wsX2_firstYearFor := goodIn_r _ [24, 25, 26, 27, 28, 1, 2, 3, 4, 5, 6, 7, 8, 9, 10, 11, 12, 13, 14, 15, 16, 17, 18, 19, 20, 59, 60, 61, 62, 63, 64, 65, 66, 67, 68, 69, 70, 71, 72, 73, 74, 75, 76] (by decide +kernel) (by decide +kernel)
set_option maxRecDepth 20000 in
theorem gX2_firstKept_X2_firstYearFor : GoodIn wsX2_firstKept (wsV RX2 86 RX2 yX2_firstYearFor wsX2_firstYearFor) := goodIn_app (goodIn_of _ (by decide +kernel)) ggX2_firstKept_X2_firstYearFor
set_option maxRecDepth 20000 in
theorem ggX2_firstKept_X2_keptIn : GoodIn wsX2_firstKept wsX2_keptIn := goodIn_r _ [32, 33, 1, 2, 3, 4, 5, 6, 7, 34, 35, 36, 11, 37, 38, 39, 40, 41, 13, 42, 43, 44, 45, 46, 47, 48, 49, 50, 51, 52, 53, 54, 55, 56, 57, 18, 19, 20, 58, 9, 10, 12, 14, 15, 16, 17, 59, 60, 61, 62, 63, 64, 65, 66, 67, 68, 69, 70, 71, 72, 73, 74, 75, 76] (by decide +kernel) (by decide +kernel)
set_option maxRecDepth 20000 in
theorem gX2_firstKept_X2_keptIn : GoodIn wsX2_firstKept (wsV RX2 89 RX2 yX2_keptIn wsX2_keptIn) := goodIn_app (goodIn_of _ (by decide +kernel)) ggX2_firstKept_X2_keptIn
theorem dX2_firstKept_0 : decode cX2_firstKept 0 = .ok (.aload_n 0, 1) := by decide +kernel
theorem dX2_firstKept_1 : decode cX2_firstKept 1 = .ok (.aload_n 1, 1) := by decide +kernel
theorem dX2_firstKept_2 : decode cX2_firstKept 2 = .ok (.getfield 56, 3) := by decide +kernel
theorem dX2_firstKept_5 : decode cX2_firstKept 5 = .ok (.invokevirtual 68, 3) := by decide +kernel
theorem dX2_firstKept_8 : decode cX2_firstKept 8 = .ok (.iload_n 3, 1) := by decide +kernel
theorem dX2_firstKept_9 : decode cX2_firstKept 9 = .ok (.invokevirtual 82, 3) := by decide +kernel
theorem dX2_firstKept_12 : decode cX2_firstKept 12 = .ok (.istore 4, 2) := by decide +kernel
theorem dX2_firstKept_14 : decode cX2_firstKept 14 = .ok (.aload_n 0, 1) := by decide +kernel
theorem dX2_firstKept_15 : decode cX2_firstKept 15 = .ok (.aload_n 1, 1) := by decide +kernel
theorem dX2_firstKept_16 : decode cX2_firstKept 16 = .ok (.iload_n 2, 1) := by decide +kernel
theorem dX2_firstKept_17 : decode cX2_firstKept 17 = .ok (.invokevirtual 86, 3) := by decide +kernel
theorem dX2_firstKept_20 : decode cX2_firstKept 20 = .ok (.istore 5, 2) := by decide +kernel
theorem dX2_firstKept_22 : decode cX2_firstKept 22 = .ok (.iload 5, 2) := by decide +kernel
theorem dX2_firstKept_24 : decode cX2_firstKept 24 = .ok (.iload 4, 2) := by decide +kernel
theorem dX2_firstKept_26 : decode cX2_firstKept 26 = .ok (.if_icmp .gt 33, 3) := by decide +kernel
theorem dX2_firstKept_29 : decode cX2_firstKept 29 = .ok (.aload_n 0, 1) := by decide +kernel
theorem dX2_firstKept_30 : decode cX2_firstKept 30 = .ok (.aload_n 1, 1) := by decide +kernel
theorem dX2_firstKept_31 : decode cX2_firstKept 31 = .ok (.iload 5, 2) := by decide +kernel
theorem dX2_firstKept_33 : decode cX2_firstKept 33 = .ok (.invokevirtual 89, 3) := by decide +kernel
theorem dX2_firstKept_36 : decode cX2_firstKept 36 = .ok (.istore 6, 2) := by decide +kernel
theorem dX2_firstKept_38 : decode cX2_firstKept 38 = .ok (.iload 6, 2) := by decide +kernel
theorem dX2_firstKept_40 : decode cX2_firstKept 40 = .ok (.iload_n 2, 1) := by decide +kernel
theorem dX2_firstKept_41 : decode cX2_firstKept 41 = .ok (.if_icmp .lt 12, 3) := by decide +kernel
theorem dX2_firstKept_44 : decode cX2_firstKept 44 = .ok (.iload 6, 2) := by decide +kernel
theorem dX2_firstKept_46 : decode cX2_firstKept 46 = .ok (.iload_n 3, 1) := by decide +kernel
theorem dX2_firstKept_47 : decode cX2_firstKept 47 = .ok (.if_icmp .gt 6, 3) := by decide +kernel
theorem dX2_firstKept_50 : decode cX2_firstKept 50 = .ok (.iload 6, 2) := by decide +kernel
theorem dX2_firstKept_52 : decode cX2_firstKept 52 = .ok (.ireturn, 1) := by decide +kernel
theorem dX2_firstKept_53 : decode cX2_firstKept 53 = .ok (.iinc 5 1, 3) := by decide +kernel
theorem dX2_firstKept_56 : decode cX2_firstKept 56 = .ok (.goto (-34), 3) := by decide +kernel
theorem dX2_firstKept_59 : decode cX2_firstKept 59 = .ok (.iconst (-1), 1) := by decide +kernel
theorem dX2_firstKept_60 : decode cX2_firstKept 60 = .ok (.ireturn, 1) := by decide +kernel
set_option maxRecDepth 20000 in
theorem ggX2_firstMeeting_X2_townWith : GoodIn wsX2_firstMeeting wsX2_townWith := goodIn_r _ [5, 6, 7, 67, 68, 69, 70, 71, 72, 73, 74, 75] (by decide +kernel) (by decide +kernel)
set_option maxRecDepth 20000 in
theorem gX2_firstMeeting_X2_townWith : GoodIn wsX2_firstMeeting (wsV RX2 68 RX2 yX2_townWith wsX2_townWith) := goodIn_app (goodIn_of _ (by decide +kernel)) ggX2_firstMeeting_X2_townWith
set_option maxRecDepth 20000 in
theorem ggX2_firstMeeting_X3_yearOn : GoodIn wsX2_firstMeeting wsX3_yearOn := goodIn_r _ [12, 13, 14, 15, 16, 11, 17, 18, 19, 20, 76, 77, 78, 79, 80] (by decide +kernel) (by decide +kernel)
set_option maxRecDepth 20000 in
theorem gX2_firstMeeting_X3_yearOn : GoodIn wsX2_firstMeeting (wsV RX2 82 RX3 yX3_yearOn wsX3_yearOn) := goodIn_app (goodIn_of _ (by decide +kernel)) ggX2_firstMeeting_X3_yearOn
set_option maxRecDepth 20000 in
theorem ggX2_firstMeeting_X2_firstYearFor : GoodIn wsX2_firstMeeting wsX2_firstYearFor := goodIn_r _ [24, 25, 26, 27, 28, 1, 2, 3, 4, 5, 6, 7, 8, 9, 10, 11, 12, 13, 14, 15, 16, 17, 18, 19, 20, 63, 64, 65, 66, 67, 68, 69, 70, 71, 72, 73, 74, 75, 76, 77, 78, 79, 80] (by decide +kernel) (by decide +kernel)
set_option maxRecDepth 20000 in
theorem gX2_firstMeeting_X2_firstYearFor : GoodIn wsX2_firstMeeting (wsV RX2 86 RX2 yX2_firstYearFor wsX2_firstYearFor) := goodIn_app (goodIn_of _ (by decide +kernel)) ggX2_firstMeeting_X2_firstYearFor
set_option maxRecDepth 20000 in
theorem ggX2_firstMeeting_X2_keptIn : GoodIn wsX2_firstMeeting wsX2_keptIn := goodIn_r _ [32, 33, 1, 2, 3, 4, 5, 6, 7, 34, 35, 36, 11, 37, 38, 39, 40, 41, 13, 42, 43, 44, 45, 46, 47, 48, 49, 50, 51, 52, 53, 54, 55, 56, 57, 18, 19, 20, 58, 9, 10, 12, 14, 15, 16, 17, 63, 64, 65, 66, 67, 68, 69, 70, 71, 72, 73, 74, 75, 76, 77, 78, 79, 80] (by decide +kernel) (by decide +kernel)
set_option maxRecDepth 20000 in
theorem gX2_firstMeeting_X2_keptIn : GoodIn wsX2_firstMeeting (wsV RX2 89 RX2 yX2_keptIn wsX2_keptIn) := goodIn_app (goodIn_of _ (by decide +kernel)) ggX2_firstMeeting_X2_keptIn
set_option maxRecDepth 20000 in
theorem ggX2_firstMeeting_X2_firstKept : GoodIn wsX2_firstMeeting wsX2_firstKept := goodIn_r _ [62, 1, 2, 3, 4, 5, 6, 7, 8, 9, 10, 11, 12, 13, 14, 15, 16, 17, 18, 19, 20, 21, 22, 23, 24, 25, 26, 27, 28, 29, 30, 31, 32, 33, 34, 35, 36, 37, 38, 39, 40, 41, 42, 43, 44, 45, 46, 47, 48, 49, 50, 51, 52, 53, 54, 55, 56, 57, 58, 63, 64, 65, 66, 67, 68, 69, 70, 71, 72, 73, 74, 75, 76, 77, 78, 79, 80] (by decide +kernel) (by decide +kernel)
set_option maxRecDepth 20000 in
theorem gX2_firstMeeting_X2_firstKept : GoodIn wsX2_firstMeeting (wsV RX2 92 RX2 yX2_firstKept wsX2_firstKept) := goodIn_app (goodIn_of _ (by decide +kernel)) ggX2_firstMeeting_X2_firstKept
theorem dX2_firstMeeting_0 : decode cX2_firstMeeting 0 = .ok (.aload_n 0, 1) := by decide +kernel
theorem dX2_firstMeeting_1 : decode cX2_firstMeeting 1 = .ok (.aload_n 1, 1) := by decide +kernel
theorem dX2_firstMeeting_2 : decode cX2_firstMeeting 2 = .ok (.getfield 56, 3) := by decide +kernel
theorem dX2_firstMeeting_5 : decode cX2_firstMeeting 5 = .ok (.invokevirtual 68, 3) := by decide +kernel
theorem dX2_firstMeeting_8 : decode cX2_firstMeeting 8 = .ok (.iload 4, 2) := by decide +kernel
theorem dX2_firstMeeting_10 : decode cX2_firstMeeting 10 = .ok (.invokevirtual 82, 3) := by decide +kernel
theorem dX2_firstMeeting_13 : decode cX2_firstMeeting 13 = .ok (.istore 5, 2) := by decide +kernel
theorem dX2_firstMeeting_15 : decode cX2_firstMeeting 15 = .ok (.aload_n 0, 1) := by decide +kernel
theorem dX2_firstMeeting_16 : decode cX2_firstMeeting 16 = .ok (.aload_n 1, 1) := by decide +kernel
theorem dX2_firstMeeting_17 : decode cX2_firstMeeting 17 = .ok (.iload_n 3, 1) := by decide +kernel
theorem dX2_firstMeeting_18 : decode cX2_firstMeeting 18 = .ok (.invokevirtual 86, 3) := by decide +kernel
theorem dX2_firstMeeting_21 : decode cX2_firstMeeting 21 = .ok (.istore 6, 2) := by decide +kernel
theorem dX2_firstMeeting_23 : decode cX2_firstMeeting 23 = .ok (.iload 6, 2) := by decide +kernel
theorem dX2_firstMeeting_25 : decode cX2_firstMeeting 25 = .ok (.iload 5, 2) := by decide +kernel
theorem dX2_firstMeeting_27 : decode cX2_firstMeeting 27 = .ok (.if_icmp .gt 47, 3) := by decide +kernel
theorem dX2_firstMeeting_30 : decode cX2_firstMeeting 30 = .ok (.aload_n 0, 1) := by decide +kernel
theorem dX2_firstMeeting_31 : decode cX2_firstMeeting 31 = .ok (.aload_n 1, 1) := by decide +kernel
theorem dX2_firstMeeting_32 : decode cX2_firstMeeting 32 = .ok (.iload 6, 2) := by decide +kernel
theorem dX2_firstMeeting_34 : decode cX2_firstMeeting 34 = .ok (.invokevirtual 89, 3) := by decide +kernel
theorem dX2_firstMeeting_37 : decode cX2_firstMeeting 37 = .ok (.istore 7, 2) := by decide +kernel
theorem dX2_firstMeeting_39 : decode cX2_firstMeeting 39 = .ok (.iload 7, 2) := by decide +kernel
theorem dX2_firstMeeting_41 : decode cX2_firstMeeting 41 = .ok (.iload_n 3, 1) := by decide +kernel
theorem dX2_firstMeeting_42 : decode cX2_firstMeeting 42 = .ok (.if_icmp .lt 26, 3) := by decide +kernel
theorem dX2_firstMeeting_45 : decode cX2_firstMeeting 45 = .ok (.iload 7, 2) := by decide +kernel
theorem dX2_firstMeeting_47 : decode cX2_firstMeeting 47 = .ok (.iload 4, 2) := by decide +kernel
theorem dX2_firstMeeting_49 : decode cX2_firstMeeting 49 = .ok (.if_icmp .gt 19, 3) := by decide +kernel
theorem dX2_firstMeeting_52 : decode cX2_firstMeeting 52 = .ok (.aload_n 0, 1) := by decide +kernel
theorem dX2_firstMeeting_53 : decode cX2_firstMeeting 53 = .ok (.aload_n 2, 1) := by decide +kernel
theorem dX2_firstMeeting_54 : decode cX2_firstMeeting 54 = .ok (.iload 7, 2) := by decide +kernel
theorem dX2_firstMeeting_56 : decode cX2_firstMeeting 56 = .ok (.iload 7, 2) := by decide +kernel
theorem dX2_firstMeeting_58 : decode cX2_firstMeeting 58 = .ok (.invokevirtual 92, 3) := by decide +kernel
theorem dX2_firstMeeting_61 : decode cX2_firstMeeting 61 = .ok (.iconst (-1), 1) := by decide +kernel
theorem dX2_firstMeeting_62 : decode cX2_firstMeeting 62 = .ok (.if_icmp .eq 6, 3) := by decide +kernel
theorem dX2_firstMeeting_65 : decode cX2_firstMeeting 65 = .ok (.iload 7, 2) := by decide +kernel
theorem dX2_firstMeeting_67 : decode cX2_firstMeeting 67 = .ok (.ireturn, 1) := by decide +kernel
theorem dX2_firstMeeting_68 : decode cX2_firstMeeting 68 = .ok (.iinc 6 1, 3) := by decide +kernel
theorem dX2_firstMeeting_71 : decode cX2_firstMeeting 71 = .ok (.goto (-48), 3) := by decide +kernel
theorem dX2_firstMeeting_74 : decode cX2_firstMeeting 74 = .ok (.iconst (-1), 1) := by decide +kernel
theorem dX2_firstMeeting_75 : decode cX2_firstMeeting 75 = .ok (.ireturn, 1) := by decide +kernel
set_option maxRecDepth 20000 in
theorem ggX2_markFeasts_X2_townWith : GoodIn wsX2_markFeasts wsX2_townWith := goodIn_r _ [7, 8, 9, 61, 62, 63, 64, 65, 66, 67, 68, 69] (by decide +kernel) (by decide +kernel)
set_option maxRecDepth 20000 in
theorem gX2_markFeasts_X2_townWith : GoodIn wsX2_markFeasts (wsV RX2 68 RX2 yX2_townWith wsX2_townWith) := goodIn_app (goodIn_of _ (by decide +kernel)) ggX2_markFeasts_X2_townWith
set_option maxRecDepth 20000 in
theorem ggX2_markFeasts_X3_yearOn : GoodIn wsX2_markFeasts wsX3_yearOn := goodIn_r _ [14, 15, 16, 17, 18, 13, 19, 20, 21, 22, 74, 75, 76, 77, 78] (by decide +kernel) (by decide +kernel)
set_option maxRecDepth 20000 in
theorem gX2_markFeasts_X3_yearOn : GoodIn wsX2_markFeasts (wsV RX2 82 RX3 yX3_yearOn wsX3_yearOn) := goodIn_app (goodIn_of _ (by decide +kernel)) ggX2_markFeasts_X3_yearOn
set_option maxRecDepth 20000 in
theorem ggX2_markFeasts_X2_firstYearFor : GoodIn wsX2_markFeasts wsX2_firstYearFor := goodIn_r _ [26, 27, 28, 29, 30, 3, 4, 5, 6, 7, 8, 9, 10, 11, 12, 13, 14, 15, 16, 17, 18, 19, 20, 21, 22, 70, 71, 72, 73, 61, 62, 63, 64, 65, 66, 67, 68, 69, 74, 75, 76, 77, 78] (by decide +kernel) (by decide +kernel)
set_option maxRecDepth 20000 in
theorem gX2_markFeasts_X2_firstYearFor : GoodIn wsX2_markFeasts (wsV RX2 86 RX2 yX2_firstYearFor wsX2_firstYearFor) := goodIn_app (goodIn_of _ (by decide +kernel)) ggX2_markFeasts_X2_firstYearFor
set_option maxRecDepth 20000 in
theorem ggX2_markFeasts_X2_keptIn : GoodIn wsX2_markFeasts wsX2_keptIn := goodIn_r _ [34, 35, 3, 4, 5, 6, 7, 8, 9, 36, 37, 38, 13, 39, 40, 41, 42, 43, 15, 44, 45, 46, 47, 48, 49, 50, 51, 52, 53, 54, 55, 56, 57, 58, 59, 20, 21, 22, 60, 11, 12, 14, 16, 17, 18, 19, 70, 71, 72, 73, 61, 62, 63, 64, 65, 66, 67, 68, 69, 74, 75, 76, 77, 78] (by decide +kernel) (by decide +kernel)
set_option maxRecDepth 20000 in
theorem gX2_markFeasts_X2_keptIn : GoodIn wsX2_markFeasts (wsV RX2 89 RX2 yX2_keptIn wsX2_keptIn) := goodIn_app (goodIn_of _ (by decide +kernel)) ggX2_markFeasts_X2_keptIn
theorem dX2_markFeasts_0 : decode cX2_markFeasts 0 = .ok (.iconst 0, 1) := by decide +kernel
theorem dX2_markFeasts_1 : decode cX2_markFeasts 1 = .ok (.istore 4, 2) := by decide +kernel
theorem dX2_markFeasts_3 : decode cX2_markFeasts 3 = .ok (.iload 4, 2) := by decide +kernel
theorem dX2_markFeasts_5 : decode cX2_markFeasts 5 = .ok (.iload_n 3, 1) := by decide +kernel
theorem dX2_markFeasts_6 : decode cX2_markFeasts 6 = .ok (.if_icmp .ge 21, 3) := by decide +kernel
theorem dX2_markFeasts_9 : decode cX2_markFeasts 9 = .ok (.iload 4, 2) := by decide +kernel
theorem dX2_markFeasts_11 : decode cX2_markFeasts 11 = .ok (.aload_n 1, 1) := by decide +kernel
theorem dX2_markFeasts_12 : decode cX2_markFeasts 12 = .ok (.arraylength, 1) := by decide +kernel
theorem dX2_markFeasts_13 : decode cX2_markFeasts 13 = .ok (.if_icmp .ge 14, 3) := by decide +kernel
theorem dX2_markFeasts_16 : decode cX2_markFeasts 16 = .ok (.aload_n 1, 1) := by decide +kernel
theorem dX2_markFeasts_17 : decode cX2_markFeasts 17 = .ok (.iload 4, 2) := by decide +kernel
theorem dX2_markFeasts_19 : decode cX2_markFeasts 19 = .ok (.iconst 0, 1) := by decide +kernel
theorem dX2_markFeasts_20 : decode cX2_markFeasts 20 = .ok (.iastore, 1) := by decide +kernel
theorem dX2_markFeasts_21 : decode cX2_markFeasts 21 = .ok (.iinc 4 1, 3) := by decide +kernel
theorem dX2_markFeasts_24 : decode cX2_markFeasts 24 = .ok (.goto (-21), 3) := by decide +kernel
theorem dX2_markFeasts_27 : decode cX2_markFeasts 27 = .ok (.iconst 0, 1) := by decide +kernel
theorem dX2_markFeasts_28 : decode cX2_markFeasts 28 = .ok (.istore 4, 2) := by decide +kernel
theorem dX2_markFeasts_30 : decode cX2_markFeasts 30 = .ok (.iload 4, 2) := by decide +kernel
theorem dX2_markFeasts_32 : decode cX2_markFeasts 32 = .ok (.aload_n 0, 1) := by decide +kernel
theorem dX2_markFeasts_33 : decode cX2_markFeasts 33 = .ok (.getfield 29, 3) := by decide +kernel
theorem dX2_markFeasts_36 : decode cX2_markFeasts 36 = .ok (.if_icmp .ge 106, 3) := by decide +kernel
theorem dX2_markFeasts_39 : decode cX2_markFeasts 39 = .ok (.aload_n 0, 1) := by decide +kernel
theorem dX2_markFeasts_40 : decode cX2_markFeasts 40 = .ok (.aload_n 0, 1) := by decide +kernel
theorem dX2_markFeasts_41 : decode cX2_markFeasts 41 = .ok (.getfield 25, 3) := by decide +kernel
theorem dX2_markFeasts_44 : decode cX2_markFeasts 44 = .ok (.iload 4, 2) := by decide +kernel
theorem dX2_markFeasts_46 : decode cX2_markFeasts 46 = .ok (.aaload, 1) := by decide +kernel
theorem dX2_markFeasts_47 : decode cX2_markFeasts 47 = .ok (.getfield 56, 3) := by decide +kernel
theorem dX2_markFeasts_50 : decode cX2_markFeasts 50 = .ok (.invokevirtual 68, 3) := by decide +kernel
theorem dX2_markFeasts_53 : decode cX2_markFeasts 53 = .ok (.iload_n 2, 1) := by decide +kernel
theorem dX2_markFeasts_54 : decode cX2_markFeasts 54 = .ok (.iload_n 3, 1) := by decide +kernel
theorem dX2_markFeasts_55 : decode cX2_markFeasts 55 = .ok (.iadd, 1) := by decide +kernel
theorem dX2_markFeasts_56 : decode cX2_markFeasts 56 = .ok (.iconst 1, 1) := by decide +kernel
theorem dX2_markFeasts_57 : decode cX2_markFeasts 57 = .ok (.isub, 1) := by decide +kernel
theorem dX2_markFeasts_58 : decode cX2_markFeasts 58 = .ok (.invokevirtual 82, 3) := by decide +kernel
theorem dX2_markFeasts_61 : decode cX2_markFeasts 61 = .ok (.istore 5, 2) := by decide +kernel
theorem dX2_markFeasts_63 : decode cX2_markFeasts 63 = .ok (.aload_n 0, 1) := by decide +kernel
theorem dX2_markFeasts_64 : decode cX2_markFeasts 64 = .ok (.aload_n 0, 1) := by decide +kernel
theorem dX2_markFeasts_65 : decode cX2_markFeasts 65 = .ok (.getfield 25, 3) := by decide +kernel
theorem dX2_markFeasts_68 : decode cX2_markFeasts 68 = .ok (.iload 4, 2) := by decide +kernel
theorem dX2_markFeasts_70 : decode cX2_markFeasts 70 = .ok (.aaload, 1) := by decide +kernel
theorem dX2_markFeasts_71 : decode cX2_markFeasts 71 = .ok (.iload_n 2, 1) := by decide +kernel
theorem dX2_markFeasts_72 : decode cX2_markFeasts 72 = .ok (.invokevirtual 86, 3) := by decide +kernel
theorem dX2_markFeasts_75 : decode cX2_markFeasts 75 = .ok (.istore 6, 2) := by decide +kernel
theorem dX2_markFeasts_77 : decode cX2_markFeasts 77 = .ok (.iload 6, 2) := by decide +kernel
theorem dX2_markFeasts_79 : decode cX2_markFeasts 79 = .ok (.iload 5, 2) := by decide +kernel
theorem dX2_markFeasts_81 : decode cX2_markFeasts 81 = .ok (.if_icmp .gt 55, 3) := by decide +kernel
theorem dX2_markFeasts_84 : decode cX2_markFeasts 84 = .ok (.aload_n 0, 1) := by decide +kernel
theorem dX2_markFeasts_85 : decode cX2_markFeasts 85 = .ok (.aload_n 0, 1) := by decide +kernel
theorem dX2_markFeasts_86 : decode cX2_markFeasts 86 = .ok (.getfield 25, 3) := by decide +kernel
theorem dX2_markFeasts_89 : decode cX2_markFeasts 89 = .ok (.iload 4, 2) := by decide +kernel
theorem dX2_markFeasts_91 : decode cX2_markFeasts 91 = .ok (.aaload, 1) := by decide +kernel
theorem dX2_markFeasts_92 : decode cX2_markFeasts 92 = .ok (.iload 6, 2) := by decide +kernel
theorem dX2_markFeasts_94 : decode cX2_markFeasts 94 = .ok (.invokevirtual 89, 3) := by decide +kernel
theorem dX2_markFeasts_97 : decode cX2_markFeasts 97 = .ok (.iload_n 2, 1) := by decide +kernel
theorem dX2_markFeasts_98 : decode cX2_markFeasts 98 = .ok (.isub, 1) := by decide +kernel
theorem dX2_markFeasts_99 : decode cX2_markFeasts 99 = .ok (.istore 7, 2) := by decide +kernel
theorem dX2_markFeasts_101 : decode cX2_markFeasts 101 = .ok (.iload 7, 2) := by decide +kernel
theorem dX2_markFeasts_103 : decode cX2_markFeasts 103 = .ok (.ifCond .lt 27, 3) := by decide +kernel
theorem dX2_markFeasts_106 : decode cX2_markFeasts 106 = .ok (.iload 7, 2) := by decide +kernel
theorem dX2_markFeasts_108 : decode cX2_markFeasts 108 = .ok (.iload_n 3, 1) := by decide +kernel
theorem dX2_markFeasts_109 : decode cX2_markFeasts 109 = .ok (.if_icmp .ge 21, 3) := by decide +kernel
theorem dX2_markFeasts_112 : decode cX2_markFeasts 112 = .ok (.iload 7, 2) := by decide +kernel
theorem dX2_markFeasts_114 : decode cX2_markFeasts 114 = .ok (.aload_n 1, 1) := by decide +kernel
theorem dX2_markFeasts_115 : decode cX2_markFeasts 115 = .ok (.arraylength, 1) := by decide +kernel
theorem dX2_markFeasts_116 : decode cX2_markFeasts 116 = .ok (.if_icmp .ge 14, 3) := by decide +kernel
theorem dX2_markFeasts_119 : decode cX2_markFeasts 119 = .ok (.aload_n 1, 1) := by decide +kernel
theorem dX2_markFeasts_120 : decode cX2_markFeasts 120 = .ok (.iload 7, 2) := by decide +kernel
theorem dX2_markFeasts_122 : decode cX2_markFeasts 122 = .ok (.dup2, 1) := by decide +kernel
theorem dX2_markFeasts_123 : decode cX2_markFeasts 123 = .ok (.iaload, 1) := by decide +kernel
theorem dX2_markFeasts_124 : decode cX2_markFeasts 124 = .ok (.iconst 1, 1) := by decide +kernel
theorem dX2_markFeasts_125 : decode cX2_markFeasts 125 = .ok (.iload 4, 2) := by decide +kernel
theorem dX2_markFeasts_127 : decode cX2_markFeasts 127 = .ok (.ishl, 1) := by decide +kernel
theorem dX2_markFeasts_128 : decode cX2_markFeasts 128 = .ok (.ior, 1) := by decide +kernel
theorem dX2_markFeasts_129 : decode cX2_markFeasts 129 = .ok (.iastore, 1) := by decide +kernel
theorem dX2_markFeasts_130 : decode cX2_markFeasts 130 = .ok (.iinc 6 1, 3) := by decide +kernel
theorem dX2_markFeasts_133 : decode cX2_markFeasts 133 = .ok (.goto (-56), 3) := by decide +kernel
theorem dX2_markFeasts_136 : decode cX2_markFeasts 136 = .ok (.iinc 4 1, 3) := by decide +kernel
theorem dX2_markFeasts_139 : decode cX2_markFeasts 139 = .ok (.goto (-109), 3) := by decide +kernel
theorem dX2_markFeasts_142 : decode cX2_markFeasts 142 = .ok (.return_, 1) := by decide +kernel
theorem dX2_feastsOf_0 : decode cX2_feastsOf 0 = .ok (.iconst 0, 1) := by decide +kernel
theorem dX2_feastsOf_1 : decode cX2_feastsOf 1 = .ok (.istore_n 2, 1) := by decide +kernel
theorem dX2_feastsOf_2 : decode cX2_feastsOf 2 = .ok (.iconst 0, 1) := by decide +kernel
theorem dX2_feastsOf_3 : decode cX2_feastsOf 3 = .ok (.istore_n 3, 1) := by decide +kernel
theorem dX2_feastsOf_4 : decode cX2_feastsOf 4 = .ok (.iload_n 3, 1) := by decide +kernel
theorem dX2_feastsOf_5 : decode cX2_feastsOf 5 = .ok (.aload_n 0, 1) := by decide +kernel
theorem dX2_feastsOf_6 : decode cX2_feastsOf 6 = .ok (.getfield 29, 3) := by decide +kernel
theorem dX2_feastsOf_9 : decode cX2_feastsOf 9 = .ok (.if_icmp .ge 28, 3) := by decide +kernel
theorem dX2_feastsOf_12 : decode cX2_feastsOf 12 = .ok (.aload_n 0, 1) := by decide +kernel
theorem dX2_feastsOf_13 : decode cX2_feastsOf 13 = .ok (.getfield 25, 3) := by decide +kernel
theorem dX2_feastsOf_16 : decode cX2_feastsOf 16 = .ok (.iload_n 3, 1) := by decide +kernel
theorem dX2_feastsOf_17 : decode cX2_feastsOf 17 = .ok (.aaload, 1) := by decide +kernel
theorem dX2_feastsOf_18 : decode cX2_feastsOf 18 = .ok (.getfield 56, 3) := by decide +kernel
theorem dX2_feastsOf_21 : decode cX2_feastsOf 21 = .ok (.iload_n 1, 1) := by decide +kernel
theorem dX2_feastsOf_22 : decode cX2_feastsOf 22 = .ok (.if_icmp .ne 9, 3) := by decide +kernel
theorem dX2_feastsOf_25 : decode cX2_feastsOf 25 = .ok (.iload_n 2, 1) := by decide +kernel
theorem dX2_feastsOf_26 : decode cX2_feastsOf 26 = .ok (.iconst 1, 1) := by decide +kernel
theorem dX2_feastsOf_27 : decode cX2_feastsOf 27 = .ok (.iload_n 3, 1) := by decide +kernel
theorem dX2_feastsOf_28 : decode cX2_feastsOf 28 = .ok (.ishl, 1) := by decide +kernel
theorem dX2_feastsOf_29 : decode cX2_feastsOf 29 = .ok (.ior, 1) := by decide +kernel
theorem dX2_feastsOf_30 : decode cX2_feastsOf 30 = .ok (.istore_n 2, 1) := by decide +kernel
theorem dX2_feastsOf_31 : decode cX2_feastsOf 31 = .ok (.iinc 3 1, 3) := by decide +kernel
theorem dX2_feastsOf_34 : decode cX2_feastsOf 34 = .ok (.goto (-30), 3) := by decide +kernel
theorem dX2_feastsOf_37 : decode cX2_feastsOf 37 = .ok (.iload_n 2, 1) := by decide +kernel
theorem dX2_feastsOf_38 : decode cX2_feastsOf 38 = .ok (.ireturn, 1) := by decide +kernel
set_option maxRecDepth 20000 in
theorem ggX2_countQuarrels_X2_feastsOf : GoodIn wsX2_countQuarrels wsX2_feastsOf := goodIn_r _ [5, 6, 7, 8, 9, 10, 11, 12, 13, 14, 15, 16, 17, 18, 19, 20] (by decide +kernel) (by decide +kernel)
set_option maxRecDepth 20000 in
theorem gX2_countQuarrels_X2_feastsOf : GoodIn wsX2_countQuarrels (wsV RX2 96 RX2 yX2_feastsOf wsX2_feastsOf) := goodIn_app (goodIn_of _ (by decide +kernel)) ggX2_countQuarrels_X2_feastsOf
theorem dX2_countQuarrels_0 : decode cX2_countQuarrels 0 = .ok (.aload_n 0, 1) := by decide +kernel
theorem dX2_countQuarrels_1 : decode cX2_countQuarrels 1 = .ok (.iconst 0, 1) := by decide +kernel
theorem dX2_countQuarrels_2 : decode cX2_countQuarrels 2 = .ok (.invokevirtual 96, 3) := by decide +kernel
theorem dX2_countQuarrels_5 : decode cX2_countQuarrels 5 = .ok (.istore_n 3, 1) := by decide +kernel
theorem dX2_countQuarrels_6 : decode cX2_countQuarrels 6 = .ok (.aload_n 0, 1) := by decide +kernel
theorem dX2_countQuarrels_7 : decode cX2_countQuarrels 7 = .ok (.iconst 1, 1) := by decide +kernel
theorem dX2_countQuarrels_8 : decode cX2_countQuarrels 8 = .ok (.invokevirtual 96, 3) := by decide +kernel
theorem dX2_countQuarrels_11 : decode cX2_countQuarrels 11 = .ok (.istore 4, 2) := by decide +kernel
theorem dX2_countQuarrels_13 : decode cX2_countQuarrels 13 = .ok (.iconst 0, 1) := by decide +kernel
theorem dX2_countQuarrels_14 : decode cX2_countQuarrels 14 = .ok (.istore 5, 2) := by decide +kernel
theorem dX2_countQuarrels_16 : decode cX2_countQuarrels 16 = .ok (.iconst 0, 1) := by decide +kernel
theorem dX2_countQuarrels_17 : decode cX2_countQuarrels 17 = .ok (.istore 6, 2) := by decide +kernel
theorem dX2_countQuarrels_19 : decode cX2_countQuarrels 19 = .ok (.iload 6, 2) := by decide +kernel
theorem dX2_countQuarrels_21 : decode cX2_countQuarrels 21 = .ok (.iload_n 2, 1) := by decide +kernel
theorem dX2_countQuarrels_22 : decode cX2_countQuarrels 22 = .ok (.if_icmp .ge 38, 3) := by decide +kernel
theorem dX2_countQuarrels_25 : decode cX2_countQuarrels 25 = .ok (.iload 6, 2) := by decide +kernel
theorem dX2_countQuarrels_27 : decode cX2_countQuarrels 27 = .ok (.aload_n 1, 1) := by decide +kernel
theorem dX2_countQuarrels_28 : decode cX2_countQuarrels 28 = .ok (.arraylength, 1) := by decide +kernel
theorem dX2_countQuarrels_29 : decode cX2_countQuarrels 29 = .ok (.if_icmp .ge 31, 3) := by decide +kernel
theorem dX2_countQuarrels_32 : decode cX2_countQuarrels 32 = .ok (.aload_n 1, 1) := by decide +kernel
theorem dX2_countQuarrels_33 : decode cX2_countQuarrels 33 = .ok (.iload 6, 2) := by decide +kernel
theorem dX2_countQuarrels_35 : decode cX2_countQuarrels 35 = .ok (.iaload, 1) := by decide +kernel
theorem dX2_countQuarrels_36 : decode cX2_countQuarrels 36 = .ok (.iload_n 3, 1) := by decide +kernel
theorem dX2_countQuarrels_37 : decode cX2_countQuarrels 37 = .ok (.iand, 1) := by decide +kernel
theorem dX2_countQuarrels_38 : decode cX2_countQuarrels 38 = .ok (.ifCond .eq 16, 3) := by decide +kernel
theorem dX2_countQuarrels_41 : decode cX2_countQuarrels 41 = .ok (.aload_n 1, 1) := by decide +kernel
theorem dX2_countQuarrels_42 : decode cX2_countQuarrels 42 = .ok (.iload 6, 2) := by decide +kernel
theorem dX2_countQuarrels_44 : decode cX2_countQuarrels 44 = .ok (.iaload, 1) := by decide +kernel
theorem dX2_countQuarrels_45 : decode cX2_countQuarrels 45 = .ok (.iload 4, 2) := by decide +kernel
theorem dX2_countQuarrels_47 : decode cX2_countQuarrels 47 = .ok (.iand, 1) := by decide +kernel
theorem dX2_countQuarrels_48 : decode cX2_countQuarrels 48 = .ok (.ifCond .eq 6, 3) := by decide +kernel
theorem dX2_countQuarrels_51 : decode cX2_countQuarrels 51 = .ok (.iinc 5 1, 3) := by decide +kernel
theorem dX2_countQuarrels_54 : decode cX2_countQuarrels 54 = .ok (.iinc 6 1, 3) := by decide +kernel
theorem dX2_countQuarrels_57 : decode cX2_countQuarrels 57 = .ok (.goto (-38), 3) := by decide +kernel
theorem dX2_countQuarrels_60 : decode cX2_countQuarrels 60 = .ok (.iload 5, 2) := by decide +kernel
theorem dX2_countQuarrels_62 : decode cX2_countQuarrels 62 = .ok (.ireturn, 1) := by decide +kernel
set_option maxRecDepth 20000 in
theorem ggX2_countPassed_X2_feastsOf : GoodIn wsX2_countPassed wsX2_feastsOf := goodIn_r _ [9, 10, 11, 19, 20, 21, 22, 23, 24, 25, 26, 27, 33, 34, 35, 36] (by decide +kernel) (by decide +kernel)
set_option maxRecDepth 20000 in
theorem gX2_countPassed_X2_feastsOf : GoodIn wsX2_countPassed (wsV RX2 96 RX2 yX2_feastsOf wsX2_feastsOf) := goodIn_app (goodIn_of _ (by decide +kernel)) ggX2_countPassed_X2_feastsOf
set_option maxRecDepth 20000 in
theorem ggX2_countPassed_J6_bitCount_0f7a4 : GoodIn wsX2_countPassed wsJ6_bitCount_0f7a4 := goodIn_r _ [15, 16, 17, 18] (by decide +kernel) (by decide +kernel)
set_option maxRecDepth 20000 in
theorem gX2_countPassed_J6_bitCount_0f7a4 : GoodIn wsX2_countPassed (va_wsS RX2 102 yJ6_bitCount_0f7a4 wsJ6_bitCount_0f7a4) := goodIn_app (goodIn_of _ (by decide +kernel)) ggX2_countPassed_J6_bitCount_0f7a4
theorem dX2_countPassed_0 : decode cX2_countPassed 0 = .ok (.aload_n 0, 1) := by decide +kernel
theorem dX2_countPassed_1 : decode cX2_countPassed 1 = .ok (.iconst 0, 1) := by decide +kernel
theorem dX2_countPassed_2 : decode cX2_countPassed 2 = .ok (.invokevirtual 96, 3) := by decide +kernel
theorem dX2_countPassed_5 : decode cX2_countPassed 5 = .ok (.istore_n 3, 1) := by decide +kernel
theorem dX2_countPassed_6 : decode cX2_countPassed 6 = .ok (.aload_n 0, 1) := by decide +kernel
theorem dX2_countPassed_7 : decode cX2_countPassed 7 = .ok (.iconst 1, 1) := by decide +kernel
theorem dX2_countPassed_8 : decode cX2_countPassed 8 = .ok (.invokevirtual 96, 3) := by decide +kernel
theorem dX2_countPassed_11 : decode cX2_countPassed 11 = .ok (.istore 4, 2) := by decide +kernel
theorem dX2_countPassed_13 : decode cX2_countPassed 13 = .ok (.iconst 0, 1) := by decide +kernel
theorem dX2_countPassed_14 : decode cX2_countPassed 14 = .ok (.istore 5, 2) := by decide +kernel
theorem dX2_countPassed_16 : decode cX2_countPassed 16 = .ok (.iload 5, 2) := by decide +kernel
theorem dX2_countPassed_18 : decode cX2_countPassed 18 = .ok (.iload_n 2, 1) := by decide +kernel
theorem dX2_countPassed_19 : decode cX2_countPassed 19 = .ok (.if_icmp .ge 79, 3) := by decide +kernel
theorem dX2_countPassed_22 : decode cX2_countPassed 22 = .ok (.iload 5, 2) := by decide +kernel
theorem dX2_countPassed_24 : decode cX2_countPassed 24 = .ok (.aload_n 1, 1) := by decide +kernel
theorem dX2_countPassed_25 : decode cX2_countPassed 25 = .ok (.arraylength, 1) := by decide +kernel
theorem dX2_countPassed_26 : decode cX2_countPassed 26 = .ok (.if_icmp .ge 72, 3) := by decide +kernel
theorem dX2_countPassed_29 : decode cX2_countPassed 29 = .ok (.aload_n 0, 1) := by decide +kernel
theorem dX2_countPassed_30 : decode cX2_countPassed 30 = .ok (.getfield 14, 3) := by decide +kernel
theorem dX2_countPassed_33 : decode cX2_countPassed 33 = .ok (.dup, 1) := by decide +kernel
theorem dX2_countPassed_34 : decode cX2_countPassed 34 = .ok (.getfield 99, 3) := by decide +kernel
theorem dX2_countPassed_37 : decode cX2_countPassed 37 = .ok (.aload_n 1, 1) := by decide +kernel
theorem dX2_countPassed_38 : decode cX2_countPassed 38 = .ok (.iload 5, 2) := by decide +kernel
theorem dX2_countPassed_40 : decode cX2_countPassed 40 = .ok (.iaload, 1) := by decide +kernel
theorem dX2_countPassed_41 : decode cX2_countPassed 41 = .ok (.iload_n 3, 1) := by decide +kernel
theorem dX2_countPassed_42 : decode cX2_countPassed 42 = .ok (.iand, 1) := by decide +kernel
theorem dX2_countPassed_43 : decode cX2_countPassed 43 = .ok (.invokestatic 102, 3) := by decide +kernel
theorem dX2_countPassed_46 : decode cX2_countPassed 46 = .ok (.iadd, 1) := by decide +kernel
theorem dX2_countPassed_47 : decode cX2_countPassed 47 = .ok (.putfield 99, 3) := by decide +kernel
theorem dX2_countPassed_50 : decode cX2_countPassed 50 = .ok (.aload_n 0, 1) := by decide +kernel
theorem dX2_countPassed_51 : decode cX2_countPassed 51 = .ok (.getfield 20, 3) := by decide +kernel
theorem dX2_countPassed_54 : decode cX2_countPassed 54 = .ok (.dup, 1) := by decide +kernel
theorem dX2_countPassed_55 : decode cX2_countPassed 55 = .ok (.getfield 99, 3) := by decide +kernel
theorem dX2_countPassed_58 : decode cX2_countPassed 58 = .ok (.aload_n 1, 1) := by decide +kernel
theorem dX2_countPassed_59 : decode cX2_countPassed 59 = .ok (.iload 5, 2) := by decide +kernel
theorem dX2_countPassed_61 : decode cX2_countPassed 61 = .ok (.iaload, 1) := by decide +kernel
theorem dX2_countPassed_62 : decode cX2_countPassed 62 = .ok (.iload 4, 2) := by decide +kernel
theorem dX2_countPassed_64 : decode cX2_countPassed 64 = .ok (.iand, 1) := by decide +kernel
theorem dX2_countPassed_65 : decode cX2_countPassed 65 = .ok (.invokestatic 102, 3) := by decide +kernel
theorem dX2_countPassed_68 : decode cX2_countPassed 68 = .ok (.iadd, 1) := by decide +kernel
theorem dX2_countPassed_69 : decode cX2_countPassed 69 = .ok (.putfield 99, 3) := by decide +kernel
theorem dX2_countPassed_72 : decode cX2_countPassed 72 = .ok (.aload_n 1, 1) := by decide +kernel
theorem dX2_countPassed_73 : decode cX2_countPassed 73 = .ok (.iload 5, 2) := by decide +kernel
theorem dX2_countPassed_75 : decode cX2_countPassed 75 = .ok (.iaload, 1) := by decide +kernel
theorem dX2_countPassed_76 : decode cX2_countPassed 76 = .ok (.ifCond .ne 16, 3) := by decide +kernel
theorem dX2_countPassed_79 : decode cX2_countPassed 79 = .ok (.aload_n 0, 1) := by decide +kernel
theorem dX2_countPassed_80 : decode cX2_countPassed 80 = .ok (.dup, 1) := by decide +kernel
theorem dX2_countPassed_81 : decode cX2_countPassed 81 = .ok (.getfield 45, 3) := by decide +kernel
theorem dX2_countPassed_84 : decode cX2_countPassed 84 = .ok (.aload_n 0, 1) := by decide +kernel
theorem dX2_countPassed_85 : decode cX2_countPassed 85 = .ok (.getfield 36, 3) := by decide +kernel
theorem dX2_countPassed_88 : decode cX2_countPassed 88 = .ok (.iadd, 1) := by decide +kernel
theorem dX2_countPassed_89 : decode cX2_countPassed 89 = .ok (.putfield 45, 3) := by decide +kernel
theorem dX2_countPassed_92 : decode cX2_countPassed 92 = .ok (.iinc 5 1, 3) := by decide +kernel
theorem dX2_countPassed_95 : decode cX2_countPassed 95 = .ok (.goto (-79), 3) := by decide +kernel
theorem dX2_countPassed_98 : decode cX2_countPassed 98 = .ok (.return_, 1) := by decide +kernel
theorem dX3_init_0 : decode cX3_init 0 = .ok (.aload_n 0, 1) := by decide +kernel
theorem dX3_init_1 : decode cX3_init 1 = .ok (.invokespecial 3, 3) := by decide +kernel
theorem dX3_init_4 : decode cX3_init 4 = .ok (.aload_n 0, 1) := by decide +kernel
theorem dX3_init_5 : decode cX3_init 5 = .ok (.iconst 3, 1) := by decide +kernel
theorem dX3_init_6 : decode cX3_init 6 = .ok (.newarray .int, 2) := by decide +kernel
theorem dX3_init_8 : decode cX3_init 8 = .ok (.putfield 9, 3) := by decide +kernel
theorem dX3_init_11 : decode cX3_init 11 = .ok (.aload_n 0, 1) := by decide +kernel
theorem dX3_init_12 : decode cX3_init 12 = .ok (.iconst 3, 1) := by decide +kernel
theorem dX3_init_13 : decode cX3_init 13 = .ok (.newarray .int, 2) := by decide +kernel
theorem dX3_init_15 : decode cX3_init 15 = .ok (.putfield 15, 3) := by decide +kernel
theorem dX3_init_18 : decode cX3_init 18 = .ok (.aload_n 0, 1) := by decide +kernel
theorem dX3_init_19 : decode cX3_init 19 = .ok (.iconst 0, 1) := by decide +kernel
theorem dX3_init_20 : decode cX3_init 20 = .ok (.putfield 18, 3) := by decide +kernel
theorem dX3_init_23 : decode cX3_init 23 = .ok (.aload_n 0, 1) := by decide +kernel
theorem dX3_init_24 : decode cX3_init 24 = .ok (.iconst 0, 1) := by decide +kernel
theorem dX3_init_25 : decode cX3_init 25 = .ok (.putfield 22, 3) := by decide +kernel
theorem dX3_init_28 : decode cX3_init 28 = .ok (.aload_n 0, 1) := by decide +kernel
theorem dX3_init_29 : decode cX3_init 29 = .ok (.iload_n 1, 1) := by decide +kernel
theorem dX3_init_30 : decode cX3_init 30 = .ok (.ifCond .ne 7, 3) := by decide +kernel
theorem dX3_init_33 : decode cX3_init 33 = .ok (.iconst 1, 1) := by decide +kernel
theorem dX3_init_34 : decode cX3_init 34 = .ok (.goto 4, 3) := by decide +kernel
theorem dX3_init_37 : decode cX3_init 37 = .ok (.iconst 0, 1) := by decide +kernel
theorem dX3_init_38 : decode cX3_init 38 = .ok (.putfield 25, 3) := by decide +kernel
theorem dX3_init_41 : decode cX3_init 41 = .ok (.return_, 1) := by decide +kernel
theorem dX3_copyFrom_0 : decode cX3_copyFrom 0 = .ok (.iconst 0, 1) := by decide +kernel
theorem dX3_copyFrom_1 : decode cX3_copyFrom 1 = .ok (.istore_n 2, 1) := by decide +kernel
theorem dX3_copyFrom_2 : decode cX3_copyFrom 2 = .ok (.iload_n 2, 1) := by decide +kernel
theorem dX3_copyFrom_3 : decode cX3_copyFrom 3 = .ok (.iconst 3, 1) := by decide +kernel
theorem dX3_copyFrom_4 : decode cX3_copyFrom 4 = .ok (.if_icmp .ge 33, 3) := by decide +kernel
theorem dX3_copyFrom_7 : decode cX3_copyFrom 7 = .ok (.aload_n 0, 1) := by decide +kernel
theorem dX3_copyFrom_8 : decode cX3_copyFrom 8 = .ok (.getfield 9, 3) := by decide +kernel
theorem dX3_copyFrom_11 : decode cX3_copyFrom 11 = .ok (.iload_n 2, 1) := by decide +kernel
theorem dX3_copyFrom_12 : decode cX3_copyFrom 12 = .ok (.aload_n 1, 1) := by decide +kernel
theorem dX3_copyFrom_13 : decode cX3_copyFrom 13 = .ok (.getfield 9, 3) := by decide +kernel
theorem dX3_copyFrom_16 : decode cX3_copyFrom 16 = .ok (.iload_n 2, 1) := by decide +kernel
theorem dX3_copyFrom_17 : decode cX3_copyFrom 17 = .ok (.iaload, 1) := by decide +kernel
theorem dX3_copyFrom_18 : decode cX3_copyFrom 18 = .ok (.iastore, 1) := by decide +kernel
theorem dX3_copyFrom_19 : decode cX3_copyFrom 19 = .ok (.aload_n 0, 1) := by decide +kernel
theorem dX3_copyFrom_20 : decode cX3_copyFrom 20 = .ok (.getfield 15, 3) := by decide +kernel
theorem dX3_copyFrom_23 : decode cX3_copyFrom 23 = .ok (.iload_n 2, 1) := by decide +kernel
theorem dX3_copyFrom_24 : decode cX3_copyFrom 24 = .ok (.aload_n 1, 1) := by decide +kernel
theorem dX3_copyFrom_25 : decode cX3_copyFrom 25 = .ok (.getfield 15, 3) := by decide +kernel
theorem dX3_copyFrom_28 : decode cX3_copyFrom 28 = .ok (.iload_n 2, 1) := by decide +kernel
theorem dX3_copyFrom_29 : decode cX3_copyFrom 29 = .ok (.iaload, 1) := by decide +kernel
theorem dX3_copyFrom_30 : decode cX3_copyFrom 30 = .ok (.iastore, 1) := by decide +kernel
theorem dX3_copyFrom_31 : decode cX3_copyFrom 31 = .ok (.iinc 2 1, 3) := by decide +kernel
theorem dX3_copyFrom_34 : decode cX3_copyFrom 34 = .ok (.goto (-32), 3) := by decide +kernel
theorem dX3_copyFrom_37 : decode cX3_copyFrom 37 = .ok (.aload_n 0, 1) := by decide +kernel
theorem dX3_copyFrom_38 : decode cX3_copyFrom 38 = .ok (.aload_n 1, 1) := by decide +kernel
theorem dX3_copyFrom_39 : decode cX3_copyFrom 39 = .ok (.getfield 18, 3) := by decide +kernel
theorem dX3_copyFrom_42 : decode cX3_copyFrom 42 = .ok (.putfield 18, 3) := by decide +kernel
theorem dX3_copyFrom_45 : decode cX3_copyFrom 45 = .ok (.aload_n 0, 1) := by decide +kernel
theorem dX3_copyFrom_46 : decode cX3_copyFrom 46 = .ok (.aload_n 1, 1) := by decide +kernel
theorem dX3_copyFrom_47 : decode cX3_copyFrom 47 = .ok (.getfield 22, 3) := by decide +kernel
theorem dX3_copyFrom_50 : decode cX3_copyFrom 50 = .ok (.putfield 22, 3) := by decide +kernel
theorem dX3_copyFrom_53 : decode cX3_copyFrom 53 = .ok (.return_, 1) := by decide +kernel
theorem dX3_latestGapDay_0 : decode cX3_latestGapDay 0 = .ok (.aload_n 0, 1) := by decide +kernel
theorem dX3_latestGapDay_1 : decode cX3_latestGapDay 1 = .ok (.getfield 18, 3) := by decide +kernel
theorem dX3_latestGapDay_4 : decode cX3_latestGapDay 4 = .ok (.ifCond .le 17, 3) := by decide +kernel
theorem dX3_latestGapDay_7 : decode cX3_latestGapDay 7 = .ok (.aload_n 0, 1) := by decide +kernel
theorem dX3_latestGapDay_8 : decode cX3_latestGapDay 8 = .ok (.getfield 9, 3) := by decide +kernel
theorem dX3_latestGapDay_11 : decode cX3_latestGapDay 11 = .ok (.aload_n 0, 1) := by decide +kernel
theorem dX3_latestGapDay_12 : decode cX3_latestGapDay 12 = .ok (.getfield 18, 3) := by decide +kernel
theorem dX3_latestGapDay_15 : decode cX3_latestGapDay 15 = .ok (.iconst 1, 1) := by decide +kernel
theorem dX3_latestGapDay_16 : decode cX3_latestGapDay 16 = .ok (.isub, 1) := by decide +kernel
theorem dX3_latestGapDay_17 : decode cX3_latestGapDay 17 = .ok (.iaload, 1) := by decide +kernel
theorem dX3_latestGapDay_18 : decode cX3_latestGapDay 18 = .ok (.goto 4, 3) := by decide +kernel
theorem dX3_latestGapDay_21 : decode cX3_latestGapDay 21 = .ok (.iconst (-1), 1) := by decide +kernel
theorem dX3_latestGapDay_22 : decode cX3_latestGapDay 22 = .ok (.ireturn, 1) := by decide +kernel
theorem dX3_leaveOut_0 : decode cX3_leaveOut 0 = .ok (.aload_n 0, 1) := by decide +kernel
theorem dX3_leaveOut_1 : decode cX3_leaveOut 1 = .ok (.getfield 18, 3) := by decide +kernel
theorem dX3_leaveOut_4 : decode cX3_leaveOut 4 = .ok (.iconst 3, 1) := by decide +kernel
theorem dX3_leaveOut_5 : decode cX3_leaveOut 5 = .ok (.if_icmp .ge 33, 3) := by decide +kernel
theorem dX3_leaveOut_8 : decode cX3_leaveOut 8 = .ok (.aload_n 0, 1) := by decide +kernel
theorem dX3_leaveOut_9 : decode cX3_leaveOut 9 = .ok (.getfield 9, 3) := by decide +kernel
theorem dX3_leaveOut_12 : decode cX3_leaveOut 12 = .ok (.aload_n 0, 1) := by decide +kernel
theorem dX3_leaveOut_13 : decode cX3_leaveOut 13 = .ok (.getfield 18, 3) := by decide +kernel
theorem dX3_leaveOut_16 : decode cX3_leaveOut 16 = .ok (.iload_n 1, 1) := by decide +kernel
theorem dX3_leaveOut_17 : decode cX3_leaveOut 17 = .ok (.iastore, 1) := by decide +kernel
theorem dX3_leaveOut_18 : decode cX3_leaveOut 18 = .ok (.aload_n 0, 1) := by decide +kernel
theorem dX3_leaveOut_19 : decode cX3_leaveOut 19 = .ok (.getfield 15, 3) := by decide +kernel
theorem dX3_leaveOut_22 : decode cX3_leaveOut 22 = .ok (.aload_n 0, 1) := by decide +kernel
theorem dX3_leaveOut_23 : decode cX3_leaveOut 23 = .ok (.getfield 18, 3) := by decide +kernel
theorem dX3_leaveOut_26 : decode cX3_leaveOut 26 = .ok (.iload_n 2, 1) := by decide +kernel
theorem dX3_leaveOut_27 : decode cX3_leaveOut 27 = .ok (.iastore, 1) := by decide +kernel
theorem dX3_leaveOut_28 : decode cX3_leaveOut 28 = .ok (.aload_n 0, 1) := by decide +kernel
theorem dX3_leaveOut_29 : decode cX3_leaveOut 29 = .ok (.dup, 1) := by decide +kernel
theorem dX3_leaveOut_30 : decode cX3_leaveOut 30 = .ok (.getfield 18, 3) := by decide +kernel
theorem dX3_leaveOut_33 : decode cX3_leaveOut 33 = .ok (.iconst 1, 1) := by decide +kernel
theorem dX3_leaveOut_34 : decode cX3_leaveOut 34 = .ok (.iadd, 1) := by decide +kernel
theorem dX3_leaveOut_35 : decode cX3_leaveOut 35 = .ok (.putfield 18, 3) := by decide +kernel
theorem dX3_leaveOut_38 : decode cX3_leaveOut 38 = .ok (.aload_n 0, 1) := by decide +kernel
theorem dX3_leaveOut_39 : decode cX3_leaveOut 39 = .ok (.getfield 18, 3) := by decide +kernel
theorem dX3_leaveOut_42 : decode cX3_leaveOut 42 = .ok (.ireturn, 1) := by decide +kernel
theorem dX3_daysInMonth_0 : decode cX3_daysInMonth 0 = .ok (.aload_n 0, 1) := by decide +kernel
theorem dX3_daysInMonth_1 : decode cX3_daysInMonth 1 = .ok (.getfield 25, 3) := by decide +kernel
theorem dX3_daysInMonth_4 : decode cX3_daysInMonth 4 = .ok (.ifCond .eq 18, 3) := by decide +kernel
theorem dX3_daysInMonth_7 : decode cX3_daysInMonth 7 = .ok (.iload_n 1, 1) := by decide +kernel
theorem dX3_daysInMonth_8 : decode cX3_daysInMonth 8 = .ok (.iconst 2, 1) := by decide +kernel
theorem dX3_daysInMonth_9 : decode cX3_daysInMonth 9 = .ok (.irem, 1) := by decide +kernel
theorem dX3_daysInMonth_10 : decode cX3_daysInMonth 10 = .ok (.iconst 1, 1) := by decide +kernel
theorem dX3_daysInMonth_11 : decode cX3_daysInMonth 11 = .ok (.if_icmp .ne 8, 3) := by decide +kernel
theorem dX3_daysInMonth_14 : decode cX3_daysInMonth 14 = .ok (.bipush 30, 2) := by decide +kernel
theorem dX3_daysInMonth_16 : decode cX3_daysInMonth 16 = .ok (.goto 5, 3) := by decide +kernel
theorem dX3_daysInMonth_19 : decode cX3_daysInMonth 19 = .ok (.bipush 31, 2) := by decide +kernel
theorem dX3_daysInMonth_21 : decode cX3_daysInMonth 21 = .ok (.ireturn, 1) := by decide +kernel
theorem dX3_daysInMonth_22 : decode cX3_daysInMonth 22 = .ok (.bipush 28, 2) := by decide +kernel
theorem dX3_daysInMonth_24 : decode cX3_daysInMonth 24 = .ok (.ireturn, 1) := by decide +kernel
theorem dX3_daysBeforeMonth_0 : decode cX3_daysBeforeMonth 0 = .ok (.iload_n 1, 1) := by decide +kernel
theorem dX3_daysBeforeMonth_1 : decode cX3_daysBeforeMonth 1 = .ok (.iconst 1, 1) := by decide +kernel
theorem dX3_daysBeforeMonth_2 : decode cX3_daysBeforeMonth 2 = .ok (.isub, 1) := by decide +kernel
theorem dX3_daysBeforeMonth_3 : decode cX3_daysBeforeMonth 3 = .ok (.istore_n 2, 1) := by decide +kernel
theorem dX3_daysBeforeMonth_4 : decode cX3_daysBeforeMonth 4 = .ok (.aload_n 0, 1) := by decide +kernel
theorem dX3_daysBeforeMonth_5 : decode cX3_daysBeforeMonth 5 = .ok (.getfield 25, 3) := by decide +kernel
theorem dX3_daysBeforeMonth_8 : decode cX3_daysBeforeMonth 8 = .ok (.ifCond .eq 14, 3) := by decide +kernel
theorem dX3_daysBeforeMonth_11 : decode cX3_daysBeforeMonth 11 = .ok (.iload_n 2, 1) := by decide +kernel
theorem dX3_daysBeforeMonth_12 : decode cX3_daysBeforeMonth 12 = .ok (.bipush 30, 2) := by decide +kernel
theorem dX3_daysBeforeMonth_14 : decode cX3_daysBeforeMonth 14 = .ok (.imul, 1) := by decide +kernel
theorem dX3_daysBeforeMonth_15 : decode cX3_daysBeforeMonth 15 = .ok (.iload_n 2, 1) := by decide +kernel
theorem dX3_daysBeforeMonth_16 : decode cX3_daysBeforeMonth 16 = .ok (.iconst 2, 1) := by decide +kernel
theorem dX3_daysBeforeMonth_17 : decode cX3_daysBeforeMonth 17 = .ok (.idiv, 1) := by decide +kernel
theorem dX3_daysBeforeMonth_18 : decode cX3_daysBeforeMonth 18 = .ok (.iadd, 1) := by decide +kernel
theorem dX3_daysBeforeMonth_19 : decode cX3_daysBeforeMonth 19 = .ok (.goto 7, 3) := by decide +kernel
theorem dX3_daysBeforeMonth_22 : decode cX3_daysBeforeMonth 22 = .ok (.iload_n 2, 1) := by decide +kernel
theorem dX3_daysBeforeMonth_23 : decode cX3_daysBeforeMonth 23 = .ok (.bipush 28, 2) := by decide +kernel
theorem dX3_daysBeforeMonth_25 : decode cX3_daysBeforeMonth 25 = .ok (.imul, 1) := by decide +kernel
theorem dX3_daysBeforeMonth_26 : decode cX3_daysBeforeMonth 26 = .ok (.ireturn, 1) := by decide +kernel
theorem dX3_daysInYear_0 : decode cX3_daysInYear 0 = .ok (.aload_n 0, 1) := by decide +kernel
theorem dX3_daysInYear_1 : decode cX3_daysInYear 1 = .ok (.getfield 25, 3) := by decide +kernel
theorem dX3_daysInYear_4 : decode cX3_daysInYear 4 = .ok (.ifCond .eq 9, 3) := by decide +kernel
theorem dX3_daysInYear_7 : decode cX3_daysInYear 7 = .ok (.sipush 366, 3) := by decide +kernel
theorem dX3_daysInYear_10 : decode cX3_daysInYear 10 = .ok (.goto 6, 3) := by decide +kernel
theorem dX3_daysInYear_13 : decode cX3_daysInYear 13 = .ok (.sipush 336, 3) := by decide +kernel
theorem dX3_daysInYear_16 : decode cX3_daysInYear 16 = .ok (.ireturn, 1) := by decide +kernel
set_option maxRecDepth 20000 in
theorem ggX3_dateOf_X3_daysInYear : GoodIn wsX3_dateOf wsX3_daysInYear := goodIn_r _ [5, 6, 11, 12, 13, 14, 15] (by decide +kernel) (by decide +kernel)
set_option maxRecDepth 20000 in
theorem gX3_dateOf_X3_daysInYear : GoodIn wsX3_dateOf (wsV RX3 29 RX3 yX3_daysInYear wsX3_daysInYear) := goodIn_app (goodIn_of _ (by decide +kernel)) ggX3_dateOf_X3_daysInYear
set_option maxRecDepth 20000 in
theorem ggX3_dateOf_X3_daysBeforeMonth : GoodIn wsX3_dateOf wsX3_daysBeforeMonth := goodIn_r _ [10, 6, 11, 12, 13, 14, 15] (by decide +kernel) (by decide +kernel)
set_option maxRecDepth 20000 in
theorem gX3_dateOf_X3_daysBeforeMonth : GoodIn wsX3_dateOf (wsV RX3 33 RX3 yX3_daysBeforeMonth wsX3_daysBeforeMonth) := goodIn_app (goodIn_of _ (by decide +kernel)) ggX3_dateOf_X3_daysBeforeMonth
theorem dX3_dateOf_0 : decode cX3_dateOf 0 = .ok (.iload_n 1, 1) := by decide +kernel
theorem dX3_dateOf_1 : decode cX3_dateOf 1 = .ok (.iconst 1, 1) := by decide +kernel
theorem dX3_dateOf_2 : decode cX3_dateOf 2 = .ok (.isub, 1) := by decide +kernel
theorem dX3_dateOf_3 : decode cX3_dateOf 3 = .ok (.aload_n 0, 1) := by decide +kernel
theorem dX3_dateOf_4 : decode cX3_dateOf 4 = .ok (.invokevirtual 29, 3) := by decide +kernel
theorem dX3_dateOf_7 : decode cX3_dateOf 7 = .ok (.imul, 1) := by decide +kernel
theorem dX3_dateOf_8 : decode cX3_dateOf 8 = .ok (.aload_n 0, 1) := by decide +kernel
theorem dX3_dateOf_9 : decode cX3_dateOf 9 = .ok (.iload_n 2, 1) := by decide +kernel
theorem dX3_dateOf_10 : decode cX3_dateOf 10 = .ok (.invokevirtual 33, 3) := by decide +kernel
theorem dX3_dateOf_13 : decode cX3_dateOf 13 = .ok (.iadd, 1) := by decide +kernel
theorem dX3_dateOf_14 : decode cX3_dateOf 14 = .ok (.iload_n 3, 1) := by decide +kernel
theorem dX3_dateOf_15 : decode cX3_dateOf 15 = .ok (.iadd, 1) := by decide +kernel
theorem dX3_dateOf_16 : decode cX3_dateOf 16 = .ok (.iconst 1, 1) := by decide +kernel
theorem dX3_dateOf_17 : decode cX3_dateOf 17 = .ok (.isub, 1) := by decide +kernel
theorem dX3_dateOf_18 : decode cX3_dateOf 18 = .ok (.ireturn, 1) := by decide +kernel
theorem dX3_dateOn_0 : decode cX3_dateOn 0 = .ok (.iload_n 1, 1) := by decide +kernel
theorem dX3_dateOn_1 : decode cX3_dateOn 1 = .ok (.istore_n 2, 1) := by decide +kernel
theorem dX3_dateOn_2 : decode cX3_dateOn 2 = .ok (.iconst 0, 1) := by decide +kernel
theorem dX3_dateOn_3 : decode cX3_dateOn 3 = .ok (.istore_n 3, 1) := by decide +kernel
theorem dX3_dateOn_4 : decode cX3_dateOn 4 = .ok (.iload_n 3, 1) := by decide +kernel
theorem dX3_dateOn_5 : decode cX3_dateOn 5 = .ok (.aload_n 0, 1) := by decide +kernel
theorem dX3_dateOn_6 : decode cX3_dateOn 6 = .ok (.getfield 18, 3) := by decide +kernel
theorem dX3_dateOn_9 : decode cX3_dateOn 9 = .ok (.if_icmp .ge 28, 3) := by decide +kernel
theorem dX3_dateOn_12 : decode cX3_dateOn 12 = .ok (.iload_n 1, 1) := by decide +kernel
theorem dX3_dateOn_13 : decode cX3_dateOn 13 = .ok (.aload_n 0, 1) := by decide +kernel
theorem dX3_dateOn_14 : decode cX3_dateOn 14 = .ok (.getfield 9, 3) := by decide +kernel
theorem dX3_dateOn_17 : decode cX3_dateOn 17 = .ok (.iload_n 3, 1) := by decide +kernel
theorem dX3_dateOn_18 : decode cX3_dateOn 18 = .ok (.iaload, 1) := by decide +kernel
theorem dX3_dateOn_19 : decode cX3_dateOn 19 = .ok (.if_icmp .le 12, 3) := by decide +kernel
theorem dX3_dateOn_22 : decode cX3_dateOn 22 = .ok (.iload_n 2, 1) := by decide +kernel
theorem dX3_dateOn_23 : decode cX3_dateOn 23 = .ok (.aload_n 0, 1) := by decide +kernel
theorem dX3_dateOn_24 : decode cX3_dateOn 24 = .ok (.getfield 15, 3) := by decide +kernel
theorem dX3_dateOn_27 : decode cX3_dateOn 27 = .ok (.iload_n 3, 1) := by decide +kernel
theorem dX3_dateOn_28 : decode cX3_dateOn 28 = .ok (.iaload, 1) := by decide +kernel
theorem dX3_dateOn_29 : decode cX3_dateOn 29 = .ok (.iadd, 1) := by decide +kernel
theorem dX3_dateOn_30 : decode cX3_dateOn 30 = .ok (.istore_n 2, 1) := by decide +kernel
theorem dX3_dateOn_31 : decode cX3_dateOn 31 = .ok (.iinc 3 1, 3) := by decide +kernel
theorem dX3_dateOn_34 : decode cX3_dateOn 34 = .ok (.goto (-30), 3) := by decide +kernel
theorem dX3_dateOn_37 : decode cX3_dateOn 37 = .ok (.iload_n 2, 1) := by decide +kernel
theorem dX3_dateOn_38 : decode cX3_dateOn 38 = .ok (.ireturn, 1) := by decide +kernel
set_option maxRecDepth 20000 in
theorem ggX3_dayInYearOn_X3_dateOn : GoodIn wsX3_dayInYearOn wsX3_dateOn := goodIn_r _ [6, 7, 8, 9, 10, 11, 12, 13, 14] (by decide +kernel) (by decide +kernel)
set_option maxRecDepth 20000 in
theorem gX3_dayInYearOn_X3_dateOn : GoodIn wsX3_dayInYearOn (wsV RX3 37 RX3 yX3_dateOn wsX3_dateOn) := goodIn_app (goodIn_of _ (by decide +kernel)) ggX3_dayInYearOn_X3_dateOn
theorem dX3_dayInYearOn_0 : decode cX3_dayInYearOn 0 = .ok (.aload_n 0, 1) := by decide +kernel
theorem dX3_dayInYearOn_1 : decode cX3_dayInYearOn 1 = .ok (.iload_n 1, 1) := by decide +kernel
theorem dX3_dayInYearOn_2 : decode cX3_dayInYearOn 2 = .ok (.invokevirtual 37, 3) := by decide +kernel
theorem dX3_dayInYearOn_5 : decode cX3_dayInYearOn 5 = .ok (.istore_n 2, 1) := by decide +kernel
theorem dX3_dayInYearOn_6 : decode cX3_dayInYearOn 6 = .ok (.aload_n 0, 1) := by decide +kernel
theorem dX3_dayInYearOn_7 : decode cX3_dayInYearOn 7 = .ok (.getfield 25, 3) := by decide +kernel
theorem dX3_dayInYearOn_10 : decode cX3_dayInYearOn 10 = .ok (.ifCond .eq 11, 3) := by decide +kernel
theorem dX3_dayInYearOn_13 : decode cX3_dayInYearOn 13 = .ok (.iload_n 2, 1) := by decide +kernel
theorem dX3_dayInYearOn_14 : decode cX3_dayInYearOn 14 = .ok (.sipush 366, 3) := by decide +kernel
theorem dX3_dayInYearOn_17 : decode cX3_dayInYearOn 17 = .ok (.irem, 1) := by decide +kernel
theorem dX3_dayInYearOn_18 : decode cX3_dayInYearOn 18 = .ok (.goto 8, 3) := by decide +kernel
theorem dX3_dayInYearOn_21 : decode cX3_dayInYearOn 21 = .ok (.iload_n 2, 1) := by decide +kernel
theorem dX3_dayInYearOn_22 : decode cX3_dayInYearOn 22 = .ok (.sipush 336, 3) := by decide +kernel
theorem dX3_dayInYearOn_25 : decode cX3_dayInYearOn 25 = .ok (.irem, 1) := by decide +kernel
theorem dX3_dayInYearOn_26 : decode cX3_dayInYearOn 26 = .ok (.ireturn, 1) := by decide +kernel
set_option maxRecDepth 20000 in
theorem ggX3_yearOn_X3_dateOn : GoodIn wsX3_yearOn wsX3_dateOn := goodIn_r _ [6, 7, 8, 9, 10, 11, 12, 13, 14] (by decide +kernel) (by decide +kernel)
set_option maxRecDepth 20000 in
theorem gX3_yearOn_X3_dateOn : GoodIn wsX3_yearOn (wsV RX3 37 RX3 yX3_dateOn wsX3_dateOn) := goodIn_app (goodIn_of _ (by decide +kernel)) ggX3_yearOn_X3_dateOn
theorem dX3_yearOn_0 : decode cX3_yearOn 0 = .ok (.aload_n 0, 1) := by decide +kernel
theorem dX3_yearOn_1 : decode cX3_yearOn 1 = .ok (.iload_n 1, 1) := by decide +kernel
theorem dX3_yearOn_2 : decode cX3_yearOn 2 = .ok (.invokevirtual 37, 3) := by decide +kernel
theorem dX3_yearOn_5 : decode cX3_yearOn 5 = .ok (.istore_n 2, 1) := by decide +kernel
theorem dX3_yearOn_6 : decode cX3_yearOn 6 = .ok (.iconst 1, 1) := by decide +kernel
theorem dX3_yearOn_7 : decode cX3_yearOn 7 = .ok (.aload_n 0, 1) := by decide +kernel
theorem dX3_yearOn_8 : decode cX3_yearOn 8 = .ok (.getfield 25, 3) := by decide +kernel
theorem dX3_yearOn_11 : decode cX3_yearOn 11 = .ok (.ifCond .eq 11, 3) := by decide +kernel
theorem dX3_yearOn_14 : decode cX3_yearOn 14 = .ok (.iload_n 2, 1) := by decide +kernel
theorem dX3_yearOn_15 : decode cX3_yearOn 15 = .ok (.sipush 366, 3) := by decide +kernel
theorem dX3_yearOn_18 : decode cX3_yearOn 18 = .ok (.idiv, 1) := by decide +kernel
theorem dX3_yearOn_19 : decode cX3_yearOn 19 = .ok (.goto 8, 3) := by decide +kernel
theorem dX3_yearOn_22 : decode cX3_yearOn 22 = .ok (.iload_n 2, 1) := by decide +kernel
theorem dX3_yearOn_23 : decode cX3_yearOn 23 = .ok (.sipush 336, 3) := by decide +kernel
theorem dX3_yearOn_26 : decode cX3_yearOn 26 = .ok (.idiv, 1) := by decide +kernel
theorem dX3_yearOn_27 : decode cX3_yearOn 27 = .ok (.iadd, 1) := by decide +kernel
theorem dX3_yearOn_28 : decode cX3_yearOn 28 = .ok (.ireturn, 1) := by decide +kernel
set_option maxRecDepth 20000 in
theorem ggX3_monthOn_X3_dayInYearOn : GoodIn wsX3_monthOn wsX3_dayInYearOn := goodIn_r _ [5, 6, 7, 8, 9, 4, 10, 11, 12, 13, 18, 19, 20, 21, 22] (by decide +kernel) (by decide +kernel)
set_option maxRecDepth 20000 in
theorem gX3_monthOn_X3_dayInYearOn : GoodIn wsX3_monthOn (wsV RX3 40 RX3 yX3_dayInYearOn wsX3_dayInYearOn) := goodIn_app (goodIn_of _ (by decide +kernel)) ggX3_monthOn_X3_dayInYearOn
set_option maxRecDepth 20000 in
theorem ggX3_monthOn_X3_daysBeforeMonth : GoodIn wsX3_monthOn wsX3_daysBeforeMonth := goodIn_r _ [17, 6, 18, 19, 20, 21, 22] (by decide +kernel) (by decide +kernel)
set_option maxRecDepth 20000 in
theorem gX3_monthOn_X3_daysBeforeMonth : GoodIn wsX3_monthOn (wsV RX3 33 RX3 yX3_daysBeforeMonth wsX3_daysBeforeMonth) := goodIn_app (goodIn_of _ (by decide +kernel)) ggX3_monthOn_X3_daysBeforeMonth
theorem dX3_monthOn_0 : decode cX3_monthOn 0 = .ok (.aload_n 0, 1) := by decide +kernel
theorem dX3_monthOn_1 : decode cX3_monthOn 1 = .ok (.iload_n 1, 1) := by decide +kernel
theorem dX3_monthOn_2 : decode cX3_monthOn 2 = .ok (.invokevirtual 40, 3) := by decide +kernel
theorem dX3_monthOn_5 : decode cX3_monthOn 5 = .ok (.istore_n 2, 1) := by decide +kernel
theorem dX3_monthOn_6 : decode cX3_monthOn 6 = .ok (.bipush 12, 2) := by decide +kernel
theorem dX3_monthOn_8 : decode cX3_monthOn 8 = .ok (.istore_n 3, 1) := by decide +kernel
theorem dX3_monthOn_9 : decode cX3_monthOn 9 = .ok (.iload_n 3, 1) := by decide +kernel
theorem dX3_monthOn_10 : decode cX3_monthOn 10 = .ok (.iconst 1, 1) := by decide +kernel
theorem dX3_monthOn_11 : decode cX3_monthOn 11 = .ok (.if_icmp .le 18, 3) := by decide +kernel
theorem dX3_monthOn_14 : decode cX3_monthOn 14 = .ok (.aload_n 0, 1) := by decide +kernel
theorem dX3_monthOn_15 : decode cX3_monthOn 15 = .ok (.iload_n 3, 1) := by decide +kernel
theorem dX3_monthOn_16 : decode cX3_monthOn 16 = .ok (.invokevirtual 33, 3) := by decide +kernel
theorem dX3_monthOn_19 : decode cX3_monthOn 19 = .ok (.iload_n 2, 1) := by decide +kernel
theorem dX3_monthOn_20 : decode cX3_monthOn 20 = .ok (.if_icmp .le 9, 3) := by decide +kernel
theorem dX3_monthOn_23 : decode cX3_monthOn 23 = .ok (.iinc 3 (-1), 3) := by decide +kernel
theorem dX3_monthOn_26 : decode cX3_monthOn 26 = .ok (.goto (-17), 3) := by decide +kernel
theorem dX3_monthOn_29 : decode cX3_monthOn 29 = .ok (.iload_n 3, 1) := by decide +kernel
theorem dX3_monthOn_30 : decode cX3_monthOn 30 = .ok (.ireturn, 1) := by decide +kernel
set_option maxRecDepth 20000 in
theorem ggX3_dayOfMonthOn_X3_dayInYearOn : GoodIn wsX3_dayOfMonthOn wsX3_dayInYearOn := goodIn_r _ [5, 6, 7, 8, 9, 4, 10, 11, 12, 13, 22, 23, 24, 25, 26] (by decide +kernel) (by decide +kernel)
set_option maxRecDepth 20000 in
theorem gX3_dayOfMonthOn_X3_dayInYearOn : GoodIn wsX3_dayOfMonthOn (wsV RX3 40 RX3 yX3_dayInYearOn wsX3_dayInYearOn) := goodIn_app (goodIn_of _ (by decide +kernel)) ggX3_dayOfMonthOn_X3_dayInYearOn
set_option maxRecDepth 20000 in
theorem ggX3_dayOfMonthOn_X3_monthOn : GoodIn wsX3_dayOfMonthOn wsX3_monthOn := goodIn_r _ [17, 1, 2, 3, 4, 5, 6, 7, 8, 9, 10, 11, 12, 13, 18, 19, 20, 21, 22, 23, 24, 25, 26] (by decide +kernel) (by decide +kernel)
set_option maxRecDepth 20000 in
theorem gX3_dayOfMonthOn_X3_monthOn : GoodIn wsX3_dayOfMonthOn (wsV RX3 43 RX3 yX3_monthOn wsX3_monthOn) := goodIn_app (goodIn_of _ (by decide +kernel)) ggX3_dayOfMonthOn_X3_monthOn
set_option maxRecDepth 20000 in
theorem ggX3_dayOfMonthOn_X3_daysBeforeMonth : GoodIn wsX3_dayOfMonthOn wsX3_daysBeforeMonth := goodIn_r _ [21, 6, 22, 23, 24, 25, 26] (by decide +kernel) (by decide +kernel)
set_option maxRecDepth 20000 in
theorem gX3_dayOfMonthOn_X3_daysBeforeMonth : GoodIn wsX3_dayOfMonthOn (wsV RX3 33 RX3 yX3_daysBeforeMonth wsX3_daysBeforeMonth) := goodIn_app (goodIn_of _ (by decide +kernel)) ggX3_dayOfMonthOn_X3_daysBeforeMonth
theorem dX3_dayOfMonthOn_0 : decode cX3_dayOfMonthOn 0 = .ok (.aload_n 0, 1) := by decide +kernel
theorem dX3_dayOfMonthOn_1 : decode cX3_dayOfMonthOn 1 = .ok (.iload_n 1, 1) := by decide +kernel
theorem dX3_dayOfMonthOn_2 : decode cX3_dayOfMonthOn 2 = .ok (.invokevirtual 40, 3) := by decide +kernel
theorem dX3_dayOfMonthOn_5 : decode cX3_dayOfMonthOn 5 = .ok (.aload_n 0, 1) := by decide +kernel
theorem dX3_dayOfMonthOn_6 : decode cX3_dayOfMonthOn 6 = .ok (.aload_n 0, 1) := by decide +kernel
theorem dX3_dayOfMonthOn_7 : decode cX3_dayOfMonthOn 7 = .ok (.iload_n 1, 1) := by decide +kernel
theorem dX3_dayOfMonthOn_8 : decode cX3_dayOfMonthOn 8 = .ok (.invokevirtual 43, 3) := by decide +kernel
theorem dX3_dayOfMonthOn_11 : decode cX3_dayOfMonthOn 11 = .ok (.invokevirtual 33, 3) := by decide +kernel
theorem dX3_dayOfMonthOn_14 : decode cX3_dayOfMonthOn 14 = .ok (.isub, 1) := by decide +kernel
theorem dX3_dayOfMonthOn_15 : decode cX3_dayOfMonthOn 15 = .ok (.iconst 1, 1) := by decide +kernel
theorem dX3_dayOfMonthOn_16 : decode cX3_dayOfMonthOn 16 = .ok (.iadd, 1) := by decide +kernel
theorem dX3_dayOfMonthOn_17 : decode cX3_dayOfMonthOn 17 = .ok (.ireturn, 1) := by decide +kernel
theorem dX3_firstDayFrom_0 : decode cX3_firstDayFrom 0 = .ok (.iload_n 1, 1) := by decide +kernel
theorem dX3_firstDayFrom_1 : decode cX3_firstDayFrom 1 = .ok (.istore_n 2, 1) := by decide +kernel
theorem dX3_firstDayFrom_2 : decode cX3_firstDayFrom 2 = .ok (.iconst 0, 1) := by decide +kernel
theorem dX3_firstDayFrom_3 : decode cX3_firstDayFrom 3 = .ok (.istore_n 3, 1) := by decide +kernel
theorem dX3_firstDayFrom_4 : decode cX3_firstDayFrom 4 = .ok (.iload_n 3, 1) := by decide +kernel
theorem dX3_firstDayFrom_5 : decode cX3_firstDayFrom 5 = .ok (.aload_n 0, 1) := by decide +kernel
theorem dX3_firstDayFrom_6 : decode cX3_firstDayFrom 6 = .ok (.getfield 18, 3) := by decide +kernel
theorem dX3_firstDayFrom_9 : decode cX3_firstDayFrom 9 = .ok (.if_icmp .ge 54, 3) := by decide +kernel
theorem dX3_firstDayFrom_12 : decode cX3_firstDayFrom 12 = .ok (.iload_n 2, 1) := by decide +kernel
theorem dX3_firstDayFrom_13 : decode cX3_firstDayFrom 13 = .ok (.aload_n 0, 1) := by decide +kernel
theorem dX3_firstDayFrom_14 : decode cX3_firstDayFrom 14 = .ok (.getfield 9, 3) := by decide +kernel
theorem dX3_firstDayFrom_17 : decode cX3_firstDayFrom 17 = .ok (.iload_n 3, 1) := by decide +kernel
theorem dX3_firstDayFrom_18 : decode cX3_firstDayFrom 18 = .ok (.iaload, 1) := by decide +kernel
theorem dX3_firstDayFrom_19 : decode cX3_firstDayFrom 19 = .ok (.if_icmp .le 44, 3) := by decide +kernel
theorem dX3_firstDayFrom_22 : decode cX3_firstDayFrom 22 = .ok (.aload_n 0, 1) := by decide +kernel
theorem dX3_firstDayFrom_23 : decode cX3_firstDayFrom 23 = .ok (.getfield 9, 3) := by decide +kernel
theorem dX3_firstDayFrom_26 : decode cX3_firstDayFrom 26 = .ok (.iload_n 3, 1) := by decide +kernel
theorem dX3_firstDayFrom_27 : decode cX3_firstDayFrom 27 = .ok (.iaload, 1) := by decide +kernel
theorem dX3_firstDayFrom_28 : decode cX3_firstDayFrom 28 = .ok (.iconst 1, 1) := by decide +kernel
theorem dX3_firstDayFrom_29 : decode cX3_firstDayFrom 29 = .ok (.iadd, 1) := by decide +kernel
theorem dX3_firstDayFrom_30 : decode cX3_firstDayFrom 30 = .ok (.istore 4, 2) := by decide +kernel
theorem dX3_firstDayFrom_32 : decode cX3_firstDayFrom 32 = .ok (.iload_n 2, 1) := by decide +kernel
theorem dX3_firstDayFrom_33 : decode cX3_firstDayFrom 33 = .ok (.aload_n 0, 1) := by decide +kernel
theorem dX3_firstDayFrom_34 : decode cX3_firstDayFrom 34 = .ok (.getfield 15, 3) := by decide +kernel
theorem dX3_firstDayFrom_37 : decode cX3_firstDayFrom 37 = .ok (.iload_n 3, 1) := by decide +kernel
theorem dX3_firstDayFrom_38 : decode cX3_firstDayFrom 38 = .ok (.iaload, 1) := by decide +kernel
theorem dX3_firstDayFrom_39 : decode cX3_firstDayFrom 39 = .ok (.isub, 1) := by decide +kernel
theorem dX3_firstDayFrom_40 : decode cX3_firstDayFrom 40 = .ok (.istore 5, 2) := by decide +kernel
theorem dX3_firstDayFrom_42 : decode cX3_firstDayFrom 42 = .ok (.iload 5, 2) := by decide +kernel
theorem dX3_firstDayFrom_44 : decode cX3_firstDayFrom 44 = .ok (.iload 4, 2) := by decide +kernel
theorem dX3_firstDayFrom_46 : decode cX3_firstDayFrom 46 = .ok (.if_icmp .le 8, 3) := by decide +kernel
theorem dX3_firstDayFrom_49 : decode cX3_firstDayFrom 49 = .ok (.iload 5, 2) := by decide +kernel
theorem dX3_firstDayFrom_51 : decode cX3_firstDayFrom 51 = .ok (.goto 5, 3) := by decide +kernel
theorem dX3_firstDayFrom_54 : decode cX3_firstDayFrom 54 = .ok (.iload 4, 2) := by decide +kernel
theorem dX3_firstDayFrom_56 : decode cX3_firstDayFrom 56 = .ok (.istore_n 2, 1) := by decide +kernel
theorem dX3_firstDayFrom_57 : decode cX3_firstDayFrom 57 = .ok (.iinc 3 1, 3) := by decide +kernel
theorem dX3_firstDayFrom_60 : decode cX3_firstDayFrom 60 = .ok (.goto (-56), 3) := by decide +kernel
theorem dX3_firstDayFrom_63 : decode cX3_firstDayFrom 63 = .ok (.iload_n 2, 1) := by decide +kernel
theorem dX3_firstDayFrom_64 : decode cX3_firstDayFrom 64 = .ok (.ireturn, 1) := by decide +kernel
set_option maxRecDepth 20000 in
theorem ggX3_dayWithDate_X3_daysInMonth : GoodIn wsX3_dayWithDate wsX3_daysInMonth := goodIn_r _ [5, 6, 30, 31, 32, 33, 34] (by decide +kernel) (by decide +kernel)
set_option maxRecDepth 20000 in
theorem gX3_dayWithDate_X3_daysInMonth : GoodIn wsX3_dayWithDate (wsV RX3 46 RX3 yX3_daysInMonth wsX3_daysInMonth) := goodIn_app (goodIn_of _ (by decide +kernel)) ggX3_dayWithDate_X3_daysInMonth
set_option maxRecDepth 20000 in
theorem ggX3_dayWithDate_X3_dateOf : GoodIn wsX3_dayWithDate wsX3_dateOf := goodIn_r _ [10, 11, 12, 13, 4, 14, 6, 15, 16, 17, 18, 30, 31, 32, 33, 34] (by decide +kernel) (by decide +kernel)
set_option maxRecDepth 20000 in
theorem gX3_dayWithDate_X3_dateOf : GoodIn wsX3_dayWithDate (wsV RX3 49 RX3 yX3_dateOf wsX3_dateOf) := goodIn_app (goodIn_of _ (by decide +kernel)) ggX3_dayWithDate_X3_dateOf
set_option maxRecDepth 20000 in
theorem ggX3_dayWithDate_X3_firstDayFrom : GoodIn wsX3_dayWithDate wsX3_firstDayFrom := goodIn_r _ [22, 23, 24, 25, 30, 31, 32, 33, 34] (by decide +kernel) (by decide +kernel)
set_option maxRecDepth 20000 in
theorem gX3_dayWithDate_X3_firstDayFrom : GoodIn wsX3_dayWithDate (wsV RX3 53 RX3 yX3_firstDayFrom wsX3_firstDayFrom) := goodIn_app (goodIn_of _ (by decide +kernel)) ggX3_dayWithDate_X3_firstDayFrom
set_option maxRecDepth 20000 in
theorem ggX3_dayWithDate_X3_dateOn : GoodIn wsX3_dayWithDate wsX3_dateOn := goodIn_r _ [29, 23, 24, 25, 30, 31, 32, 33, 34] (by decide +kernel) (by decide +kernel)
set_option maxRecDepth 20000 in
theorem gX3_dayWithDate_X3_dateOn : GoodIn wsX3_dayWithDate (wsV RX3 37 RX3 yX3_dateOn wsX3_dateOn) := goodIn_app (goodIn_of _ (by decide +kernel)) ggX3_dayWithDate_X3_dateOn
theorem dX3_dayWithDate_0 : decode cX3_dayWithDate 0 = .ok (.iload_n 2, 1) := by decide +kernel
theorem dX3_dayWithDate_1 : decode cX3_dayWithDate 1 = .ok (.bipush 12, 2) := by decide +kernel
theorem dX3_dayWithDate_3 : decode cX3_dayWithDate 3 = .ok (.if_icmp .gt 12, 3) := by decide +kernel
theorem dX3_dayWithDate_6 : decode cX3_dayWithDate 6 = .ok (.iload_n 3, 1) := by decide +kernel
theorem dX3_dayWithDate_7 : decode cX3_dayWithDate 7 = .ok (.aload_n 0, 1) := by decide +kernel
theorem dX3_dayWithDate_8 : decode cX3_dayWithDate 8 = .ok (.iload_n 2, 1) := by decide +kernel
theorem dX3_dayWithDate_9 : decode cX3_dayWithDate 9 = .ok (.invokevirtual 46, 3) := by decide +kernel
theorem dX3_dayWithDate_12 : decode cX3_dayWithDate 12 = .ok (.if_icmp .le 5, 3) := by decide +kernel
theorem dX3_dayWithDate_15 : decode cX3_dayWithDate 15 = .ok (.iconst (-1), 1) := by decide +kernel
theorem dX3_dayWithDate_16 : decode cX3_dayWithDate 16 = .ok (.ireturn, 1) := by decide +kernel
theorem dX3_dayWithDate_17 : decode cX3_dayWithDate 17 = .ok (.aload_n 0, 1) := by decide +kernel
theorem dX3_dayWithDate_18 : decode cX3_dayWithDate 18 = .ok (.iload_n 1, 1) := by decide +kernel
theorem dX3_dayWithDate_19 : decode cX3_dayWithDate 19 = .ok (.iload_n 2, 1) := by decide +kernel
theorem dX3_dayWithDate_20 : decode cX3_dayWithDate 20 = .ok (.iload_n 3, 1) := by decide +kernel
theorem dX3_dayWithDate_21 : decode cX3_dayWithDate 21 = .ok (.invokevirtual 49, 3) := by decide +kernel
theorem dX3_dayWithDate_24 : decode cX3_dayWithDate 24 = .ok (.istore 4, 2) := by decide +kernel
theorem dX3_dayWithDate_26 : decode cX3_dayWithDate 26 = .ok (.aload_n 0, 1) := by decide +kernel
theorem dX3_dayWithDate_27 : decode cX3_dayWithDate 27 = .ok (.iload 4, 2) := by decide +kernel
theorem dX3_dayWithDate_29 : decode cX3_dayWithDate 29 = .ok (.invokevirtual 53, 3) := by decide +kernel
theorem dX3_dayWithDate_32 : decode cX3_dayWithDate 32 = .ok (.istore 5, 2) := by decide +kernel
theorem dX3_dayWithDate_34 : decode cX3_dayWithDate 34 = .ok (.aload_n 0, 1) := by decide +kernel
theorem dX3_dayWithDate_35 : decode cX3_dayWithDate 35 = .ok (.iload 5, 2) := by decide +kernel
theorem dX3_dayWithDate_37 : decode cX3_dayWithDate 37 = .ok (.invokevirtual 37, 3) := by decide +kernel
theorem dX3_dayWithDate_40 : decode cX3_dayWithDate 40 = .ok (.iload 4, 2) := by decide +kernel
theorem dX3_dayWithDate_42 : decode cX3_dayWithDate 42 = .ok (.if_icmp .ne 8, 3) := by decide +kernel
theorem dX3_dayWithDate_45 : decode cX3_dayWithDate 45 = .ok (.iload 5, 2) := by decide +kernel
theorem dX3_dayWithDate_47 : decode cX3_dayWithDate 47 = .ok (.goto 4, 3) := by decide +kernel
theorem dX3_dayWithDate_50 : decode cX3_dayWithDate 50 = .ok (.iconst (-1), 1) := by decide +kernel
theorem dX3_dayWithDate_51 : decode cX3_dayWithDate 51 = .ok (.ireturn, 1) := by decide +kernel
set_option maxRecDepth 20000 in
theorem ggX3_dueIn_X3_daysInMonth : GoodIn wsX3_dueIn wsX3_daysInMonth := goodIn_r _ [5, 6, 38, 39, 40, 41, 42] (by decide +kernel) (by decide +kernel)
set_option maxRecDepth 20000 in
theorem gX3_dueIn_X3_daysInMonth : GoodIn wsX3_dueIn (wsV RX3 46 RX3 yX3_daysInMonth wsX3_daysInMonth) := goodIn_app (goodIn_of _ (by decide +kernel)) ggX3_dueIn_X3_daysInMonth
set_option maxRecDepth 20000 in
theorem ggX3_dueIn_X3_dateOf : GoodIn wsX3_dueIn wsX3_dateOf := goodIn_r _ [10, 11, 12, 13, 4, 14, 6, 15, 16, 17, 18, 38, 39, 40, 41, 42] (by decide +kernel) (by decide +kernel)
set_option maxRecDepth 20000 in
theorem gX3_dueIn_X3_dateOf : GoodIn wsX3_dueIn (wsV RX3 49 RX3 yX3_dateOf wsX3_dateOf) := goodIn_app (goodIn_of _ (by decide +kernel)) ggX3_dueIn_X3_dateOf
set_option maxRecDepth 20000 in
theorem ggX3_dueIn_X3_firstDayFrom : GoodIn wsX3_dueIn wsX3_firstDayFrom := goodIn_r _ [22, 23, 24, 25, 38, 39, 40, 41, 42] (by decide +kernel) (by decide +kernel)
set_option maxRecDepth 20000 in
theorem gX3_dueIn_X3_firstDayFrom : GoodIn wsX3_dueIn (wsV RX3 53 RX3 yX3_firstDayFrom wsX3_firstDayFrom) := goodIn_app (goodIn_of _ (by decide +kernel)) ggX3_dueIn_X3_firstDayFrom
set_option maxRecDepth 20000 in
theorem ggX3_dueIn_X3_yearOn : GoodIn wsX3_dueIn wsX3_yearOn := goodIn_r _ [29, 6, 30, 31, 32, 4, 33, 23, 24, 25, 38, 39, 40, 41, 42] (by decide +kernel) (by decide +kernel)
set_option maxRecDepth 20000 in
theorem gX3_dueIn_X3_yearOn : GoodIn wsX3_dueIn (wsV RX3 64 RX3 yX3_yearOn wsX3_yearOn) := goodIn_app (goodIn_of _ (by decide +kernel)) ggX3_dueIn_X3_yearOn
theorem dX3_dueIn_0 : decode cX3_dueIn 0 = .ok (.aload_n 0, 1) := by decide +kernel
theorem dX3_dueIn_1 : decode cX3_dueIn 1 = .ok (.aload_n 1, 1) := by decide +kernel
theorem dX3_dueIn_2 : decode cX3_dueIn 2 = .ok (.getfield 56, 3) := by decide +kernel
theorem dX3_dueIn_5 : decode cX3_dueIn 5 = .ok (.invokevirtual 46, 3) := by decide +kernel
theorem dX3_dueIn_8 : decode cX3_dueIn 8 = .ok (.iconst 1, 1) := by decide +kernel
theorem dX3_dueIn_9 : decode cX3_dueIn 9 = .ok (.iadd, 1) := by decide +kernel
theorem dX3_dueIn_10 : decode cX3_dueIn 10 = .ok (.istore_n 3, 1) := by decide +kernel
theorem dX3_dueIn_11 : decode cX3_dueIn 11 = .ok (.aload_n 1, 1) := by decide +kernel
theorem dX3_dueIn_12 : decode cX3_dueIn 12 = .ok (.getfield 61, 3) := by decide +kernel
theorem dX3_dueIn_15 : decode cX3_dueIn 15 = .ok (.iload_n 3, 1) := by decide +kernel
theorem dX3_dueIn_16 : decode cX3_dueIn 16 = .ok (.if_icmp .ge 10, 3) := by decide +kernel
theorem dX3_dueIn_19 : decode cX3_dueIn 19 = .ok (.aload_n 1, 1) := by decide +kernel
theorem dX3_dueIn_20 : decode cX3_dueIn 20 = .ok (.getfield 61, 3) := by decide +kernel
theorem dX3_dueIn_23 : decode cX3_dueIn 23 = .ok (.goto 4, 3) := by decide +kernel
theorem dX3_dueIn_26 : decode cX3_dueIn 26 = .ok (.iload_n 3, 1) := by decide +kernel
theorem dX3_dueIn_27 : decode cX3_dueIn 27 = .ok (.istore 4, 2) := by decide +kernel
theorem dX3_dueIn_29 : decode cX3_dueIn 29 = .ok (.aload_n 0, 1) := by decide +kernel
theorem dX3_dueIn_30 : decode cX3_dueIn 30 = .ok (.aload_n 0, 1) := by decide +kernel
theorem dX3_dueIn_31 : decode cX3_dueIn 31 = .ok (.iload_n 2, 1) := by decide +kernel
theorem dX3_dueIn_32 : decode cX3_dueIn 32 = .ok (.aload_n 1, 1) := by decide +kernel
theorem dX3_dueIn_33 : decode cX3_dueIn 33 = .ok (.getfield 56, 3) := by decide +kernel
theorem dX3_dueIn_36 : decode cX3_dueIn 36 = .ok (.iload 4, 2) := by decide +kernel
theorem dX3_dueIn_38 : decode cX3_dueIn 38 = .ok (.invokevirtual 49, 3) := by decide +kernel
theorem dX3_dueIn_41 : decode cX3_dueIn 41 = .ok (.invokevirtual 53, 3) := by decide +kernel
theorem dX3_dueIn_44 : decode cX3_dueIn 44 = .ok (.istore 5, 2) := by decide +kernel
theorem dX3_dueIn_46 : decode cX3_dueIn 46 = .ok (.aload_n 0, 1) := by decide +kernel
theorem dX3_dueIn_47 : decode cX3_dueIn 47 = .ok (.iload 5, 2) := by decide +kernel
theorem dX3_dueIn_49 : decode cX3_dueIn 49 = .ok (.invokevirtual 64, 3) := by decide +kernel
theorem dX3_dueIn_52 : decode cX3_dueIn 52 = .ok (.iload_n 2, 1) := by decide +kernel
theorem dX3_dueIn_53 : decode cX3_dueIn 53 = .ok (.if_icmp .ne 8, 3) := by decide +kernel
theorem dX3_dueIn_56 : decode cX3_dueIn 56 = .ok (.iload 5, 2) := by decide +kernel
theorem dX3_dueIn_58 : decode cX3_dueIn 58 = .ok (.goto 4, 3) := by decide +kernel
theorem dX3_dueIn_61 : decode cX3_dueIn 61 = .ok (.iconst (-1), 1) := by decide +kernel
theorem dX3_dueIn_62 : decode cX3_dueIn 62 = .ok (.ireturn, 1) := by decide +kernel
set_option maxRecDepth 20000 in
theorem ggX4_init_X2_init : GoodIn wsX4_init wsX2_init := goodIn_r _ [21, 22, 2, 3, 23, 24, 25, 26, 27, 28, 29, 30, 31, 32, 33, 34, 35, 36, 37, 38, 39, 40, 41, 17, 42, 43, 44, 45, 46, 47, 48, 49, 50, 51, 52, 53, 77, 78, 79, 80, 81, 59, 60, 61, 62, 63, 64, 65, 66, 67, 82, 83, 84, 85] (by decide +kernel) (by decide +kernel)
set_option maxRecDepth 20000 in
theorem gX4_init_X2_init : GoodIn wsX4_init (wsX2_init) := ggX4_init_X2_init
set_option maxRecDepth 20000 in
theorem ggX4_init_X0_init : GoodIn wsX4_init wsX0_init := goodIn_r _ [55, 56, 2, 3, 17, 57, 58, 75, 76] (by decide +kernel) (by decide +kernel)
set_option maxRecDepth 20000 in
theorem gX4_init_X0_init_n33 : GoodIn wsX4_init (wsX0_init) := ggX4_init_X0_init
end
section
theorem dJ6_bitCount_0f7a4_0 : decode cJ6_bitCount_0f7a4 0 = .ok (.iload_n 0, 1) := by decide +kernel
theorem dJ6_bitCount_0f7a4_1 : decode cJ6_bitCount_0f7a4 1 = .ok (.iload_n 0, 1) := by decide +kernel
theorem dJ6_bitCount_0f7a4_2 : decode cJ6_bitCount_0f7a4 2 = .ok (.iconst 1, 1) := by decide +kernel
theorem dJ6_bitCount_0f7a4_3 : decode cJ6_bitCount_0f7a4 3 = .ok (.iushr, 1) := by decide +kernel
theorem dJ6_bitCount_0f7a4_4 : decode cJ6_bitCount_0f7a4 4 = .ok (.ldc_w 265, 3) := by decide +kernel
theorem dJ6_bitCount_0f7a4_7 : decode cJ6_bitCount_0f7a4 7 = .ok (.iand, 1) := by decide +kernel
theorem dJ6_bitCount_0f7a4_8 : decode cJ6_bitCount_0f7a4 8 = .ok (.isub, 1) := by decide +kernel
theorem dJ6_bitCount_0f7a4_9 : decode cJ6_bitCount_0f7a4 9 = .ok (.istore_n 0, 1) := by decide +kernel
theorem dJ6_bitCount_0f7a4_10 : decode cJ6_bitCount_0f7a4 10 = .ok (.iload_n 0, 1) := by decide +kernel
theorem dJ6_bitCount_0f7a4_11 : decode cJ6_bitCount_0f7a4 11 = .ok (.ldc_w 266, 3) := by decide +kernel
theorem dJ6_bitCount_0f7a4_14 : decode cJ6_bitCount_0f7a4 14 = .ok (.iand, 1) := by decide +kernel
theorem dJ6_bitCount_0f7a4_15 : decode cJ6_bitCount_0f7a4 15 = .ok (.iload_n 0, 1) := by decide +kernel
theorem dJ6_bitCount_0f7a4_16 : decode cJ6_bitCount_0f7a4 16 = .ok (.iconst 2, 1) := by decide +kernel
theorem dJ6_bitCount_0f7a4_17 : decode cJ6_bitCount_0f7a4 17 = .ok (.iushr, 1) := by decide +kernel
theorem dJ6_bitCount_0f7a4_18 : decode cJ6_bitCount_0f7a4 18 = .ok (.ldc_w 266, 3) := by decide +kernel
theorem dJ6_bitCount_0f7a4_21 : decode cJ6_bitCount_0f7a4 21 = .ok (.iand, 1) := by decide +kernel
theorem dJ6_bitCount_0f7a4_22 : decode cJ6_bitCount_0f7a4 22 = .ok (.iadd, 1) := by decide +kernel
theorem dJ6_bitCount_0f7a4_23 : decode cJ6_bitCount_0f7a4 23 = .ok (.istore_n 0, 1) := by decide +kernel
theorem dJ6_bitCount_0f7a4_24 : decode cJ6_bitCount_0f7a4 24 = .ok (.iload_n 0, 1) := by decide +kernel
theorem dJ6_bitCount_0f7a4_25 : decode cJ6_bitCount_0f7a4 25 = .ok (.iload_n 0, 1) := by decide +kernel
theorem dJ6_bitCount_0f7a4_26 : decode cJ6_bitCount_0f7a4 26 = .ok (.iconst 4, 1) := by decide +kernel
theorem dJ6_bitCount_0f7a4_27 : decode cJ6_bitCount_0f7a4 27 = .ok (.iushr, 1) := by decide +kernel
theorem dJ6_bitCount_0f7a4_28 : decode cJ6_bitCount_0f7a4 28 = .ok (.iadd, 1) := by decide +kernel
theorem dJ6_bitCount_0f7a4_29 : decode cJ6_bitCount_0f7a4 29 = .ok (.ldc_w 267, 3) := by decide +kernel
theorem dJ6_bitCount_0f7a4_32 : decode cJ6_bitCount_0f7a4 32 = .ok (.iand, 1) := by decide +kernel
theorem dJ6_bitCount_0f7a4_33 : decode cJ6_bitCount_0f7a4 33 = .ok (.istore_n 0, 1) := by decide +kernel
theorem dJ6_bitCount_0f7a4_34 : decode cJ6_bitCount_0f7a4 34 = .ok (.iload_n 0, 1) := by decide +kernel
theorem dJ6_bitCount_0f7a4_35 : decode cJ6_bitCount_0f7a4 35 = .ok (.iload_n 0, 1) := by decide +kernel
theorem dJ6_bitCount_0f7a4_36 : decode cJ6_bitCount_0f7a4 36 = .ok (.bipush 8, 2) := by decide +kernel
theorem dJ6_bitCount_0f7a4_38 : decode cJ6_bitCount_0f7a4 38 = .ok (.iushr, 1) := by decide +kernel
theorem dJ6_bitCount_0f7a4_39 : decode cJ6_bitCount_0f7a4 39 = .ok (.iadd, 1) := by decide +kernel
theorem dJ6_bitCount_0f7a4_40 : decode cJ6_bitCount_0f7a4 40 = .ok (.istore_n 0, 1) := by decide +kernel
theorem dJ6_bitCount_0f7a4_41 : decode cJ6_bitCount_0f7a4 41 = .ok (.iload_n 0, 1) := by decide +kernel
theorem dJ6_bitCount_0f7a4_42 : decode cJ6_bitCount_0f7a4 42 = .ok (.iload_n 0, 1) := by decide +kernel
theorem dJ6_bitCount_0f7a4_43 : decode cJ6_bitCount_0f7a4 43 = .ok (.bipush 16, 2) := by decide +kernel
theorem dJ6_bitCount_0f7a4_45 : decode cJ6_bitCount_0f7a4 45 = .ok (.iushr, 1) := by decide +kernel
theorem dJ6_bitCount_0f7a4_46 : decode cJ6_bitCount_0f7a4 46 = .ok (.iadd, 1) := by decide +kernel
theorem dJ6_bitCount_0f7a4_47 : decode cJ6_bitCount_0f7a4 47 = .ok (.istore_n 0, 1) := by decide +kernel
theorem dJ6_bitCount_0f7a4_48 : decode cJ6_bitCount_0f7a4 48 = .ok (.iload_n 0, 1) := by decide +kernel
theorem dJ6_bitCount_0f7a4_49 : decode cJ6_bitCount_0f7a4 49 = .ok (.bipush 63, 2) := by decide +kernel
theorem dJ6_bitCount_0f7a4_51 : decode cJ6_bitCount_0f7a4 51 = .ok (.iand, 1) := by decide +kernel
theorem dJ6_bitCount_0f7a4_52 : decode cJ6_bitCount_0f7a4 52 = .ok (.ireturn, 1) := by decide +kernel
theorem dJ9_max_7cf53_0 : decode cJ9_max_7cf53 0 = .ok (.iload_n 0, 1) := by decide +kernel
theorem dJ9_max_7cf53_1 : decode cJ9_max_7cf53 1 = .ok (.iload_n 1, 1) := by decide +kernel
theorem dJ9_max_7cf53_2 : decode cJ9_max_7cf53 2 = .ok (.if_icmp .lt 7, 3) := by decide +kernel
theorem dJ9_max_7cf53_5 : decode cJ9_max_7cf53 5 = .ok (.iload_n 0, 1) := by decide +kernel
theorem dJ9_max_7cf53_6 : decode cJ9_max_7cf53 6 = .ok (.goto 4, 3) := by decide +kernel
theorem dJ9_max_7cf53_9 : decode cJ9_max_7cf53 9 = .ok (.iload_n 1, 1) := by decide +kernel
theorem dJ9_max_7cf53_10 : decode cJ9_max_7cf53 10 = .ok (.ireturn, 1) := by decide +kernel
end
section
/-! numbers: an Int as an Int32 -/
def iN (x : Int) : Int32 := Int32.ofInt x
theorem iN_add (a b : Int) : iN a + iN b = iN (a + b) := (Int32.ofInt_add a b).symm
theorem iN_sub (a b : Int) : iN a - iN b = iN (a - b) := (Int32.ofInt_sub a b).symm
theorem iN_mul (a b : Int) : iN a * iN b = iN (a * b) := (Int32.ofInt_mul a b).symm
theorem iN_int {a : Int} (h : -2147483648 ≤ a ∧ a < 2147483648) : (iN a).toInt = a := Int32.toInt_ofInt_of_le (by omega) (by omega)
theorem iN_of (x : Int32) : iN x.toInt = x := Int32.ofInt_toInt x
theorem iN_lt {a b : Int} (ha : -2147483648 ≤ a ∧ a < 2147483648) (hb : -2147483648 ≤ b ∧ b < 2147483648) : iN a < iN b ↔ a < b := by
  rw [Int32.lt_iff_toInt_lt, iN_int ha, iN_int hb]
theorem iN_le {a b : Int} (ha : -2147483648 ≤ a ∧ a < 2147483648) (hb : -2147483648 ≤ b ∧ b < 2147483648) : iN a ≤ iN b ↔ a ≤ b := by
  rw [Int32.le_iff_toInt_le, iN_int ha, iN_int hb]
theorem iN_eq {a b : Int} (ha : -2147483648 ≤ a ∧ a < 2147483648) (hb : -2147483648 ≤ b ∧ b < 2147483648) : iN a = iN b ↔ a = b := by
  rw [← Int32.toInt_inj, iN_int ha, iN_int hb]
theorem iN_nI (n : Nat) : iN (n : Int) = nI n := Int32.ofInt_eq_ofNat
theorem iN_div {a b : Int} (ha : 0 ≤ a ∧ a < 2147483648) (hb : 0 < b ∧ b < 2147483648) : iN a / iN b = iN (a / b) := by
  obtain ⟨n, rfl⟩ := Int.eq_ofNat_of_zero_le ha.1
  obtain ⟨d, rfl⟩ := Int.eq_ofNat_of_zero_le (show 0 ≤ b by omega)
  rw [iN_nI, iN_nI, pk_div (by omega) (by omega) (by omega), ← iN_nI]
  exact congrArg iN (Int.natCast_ediv n d)
theorem iN_mod {a b : Int} (ha : 0 ≤ a ∧ a < 2147483648) (hb : 0 < b ∧ b < 2147483648) : iN a - iN a / iN b * iN b = iN (a % b) := by
  rw [iN_div ha hb, iN_mul, iN_sub]
  exact congrArg iN (by rw [Int.emod_def, Int.mul_comm])
theorem iN_in {i : Int} {n : Nat} (h : 0 ≤ i ∧ i < (n : Int)) (hn : n < 2147483648) : vp_in (iN i) n := by
  rw [vp_in_iff, iN_int (by omega)]
  exact h
theorem iN_cl {i : Int} (h : 0 ≤ i ∧ i < 2147483648) : (iN i).toNatClampNeg = i.toNat := Int32.toNatClampNeg_ofInt_of_le (by omega) (by omega)
/-! the world: 177 cells, each of a kind; what they hold is Z: cell, place, number -/
abbrev Zt : Type := Nat → Nat → Int
def NN : Nat := 177
def kb (k : Nat) : Nat := if k = 0 then 2 else if k = 1 then 3 else if k = 4 then 3 else if k = 7 then 40 else if k < 7 then 103 else 4
def kd (i : Nat) : Nat := if i = 0 then 1 else if i < 19 then kb (i - 1) else if i < 25 then (if i = 19 then 36 else if i = 20 then 32 else if i = 21 then 20 else if i = 22 then 5 else if i = 23 then 180 else 500) else if i < 169 then kb ((i - 25) % 18) else if i < 177 then (if i = 169 then 6 else if i = 170 then 162 else if i = 171 then 472 else if i = 172 then 224 else if i = 173 then 20 else if i = 174 then 180 else if i = 175 then 104 else 50) else 0
theorem kd_big {i : Nat} (h : 177 ≤ i) : kd i = 0 := by
  unfold kd
  rw [if_neg (by omega), if_neg (by omega), if_neg (by omega), if_neg (by omega), if_neg (by omega)]
theorem kd_lt {i K : Nat} (h : kd i = K) (hK : K ≠ 0) : i < NN := by
  rcases Nat.lt_or_ge i 177 with q | q
  · exact q
  · exact absurd ((kd_big q).symm.trans h) (Ne.symm hK)
def cl (k : Nat) (r : Nat → Nat) (cA : Nat → ClassId) (i : Nat) (f : Nat → Int) : va_E :=
  if k = 1 then .inr (4, [.ref (r 1), .ref (r 19), .int (iN (f 2)), .ref (r 20), .ref (r 21), .ref (r 22), .ref (r 24)])
  else if k = 2 then .inr (2, [.ref (r (i + 1)), .ref (r (i + 4)), .ref (r (i + 7)), .int (iN (f 3)), .int (iN (f 4)), .int (iN (f 5)), .int (iN (f 6)), .int (iN (f 7)), .int (iN (f 8))])
  else if k = 3 then .inr (3, [.int (iN (f 0)), .ref (r (i + 1)), .ref (r (i + 2)), .int (iN (f 3)), .int (iN (f 4))])
  else if k = 4 then .inr (1, [.int (iN (f 0)), .int (iN (f 1)), .int (iN (f 2)), .int (iN (f 3))])
  else if k = 5 then .inr (0, [.ref (r 23), .int (iN (f 1))])
  else if k = 6 then .inr (5, [.ref (r 170), .ref (r 171), .int (iN (f 2)), .ref (r 172), .ref (r 173), .int (iN (f 5)), .ref (r 174), .int (iN (f 7)), .int (iN (f 8)), .ref (r 175)])
  else if k = 20 then .inl (cA 1, 2, .inl (fun j => iN (f j)))
  else if k = 32 then .inl (cA 4, 2, .inr (.inr (.inr (.inr (fun j => some (r (f j).toNat))))))
  else if k = 36 then .inl (cA 4, 6, .inr (.inr (.inr (.inr (fun j => some (r (f j).toNat))))))
  else if k = 40 then .inl (cA 3, 10, .inr (.inr (.inr (.inr (fun j => some (r (i + 1 + j)))))))
  else if k = 50 then .inl (cA 2, 1, .inr (.inl (fun j => Int64.ofInt (f j))))
  else .inl (cA 0, k - 100, .inl (fun j => iN (f j)))
def Ez (r : Nat → Nat) (cA : Nat → ClassId) (z : Zt) (i : Nat) : va_E := cl (kd i) r cA i (z i)
def wl (N : Nat) (r : Nat → Nat) (E : Nat → va_E) : va_W := (List.range N).map fun i => (r i, E i)
theorem wl_at {N : Nat} {r : Nat → Nat} {E : Nat → va_E} {i : Nat} (h : i < N) : (wl N r E)[i]? = some (r i, E i) := by
  simp [wl, h]
theorem wl_len {N : Nat} {r : Nat → Nat} {E : Nat → va_E} : (wl N r E).length = N := by simp [wl]
theorem wl_key {N : Nat} {r : Nat → Nat} {E : Nat → va_E} {k : Nat} {q : Nat × va_E} (h : (wl N r E)[k]? = some q) : k < N ∧ q = (r k, E k) := by
  have hl := (List.getElem?_eq_some_iff.mp h).1
  rw [wl_len] at hl
  rw [wl_at hl] at h
  exact ⟨hl, (Option.some.inj h).symm⟩
theorem wl_set {N : Nat} {r : Nat → Nat} {E : Nat → va_E} {i : Nat} {e : va_E} (h : i < N) : (wl N r E).set i (r i, e) = wl N r (va_up E i e) := by
  apply List.ext_getElem?
  intro j
  by_cases hj : j < N
  · by_cases q : i = j
    · subst q
      rw [List.getElem?_set_self (by rw [wl_len]; exact h), wl_at h]
      simp [va_up]
    · rw [List.getElem?_set_ne q, wl_at hj, wl_at hj]
      simp [va_up, Ne.symm q]
  · rw [List.getElem?_eq_none (by rw [List.length_set, wl_len]; omega), List.getElem?_eq_none (by rw [wl_len]; omega)]
def zup (z : Zt) (i k : Nat) (x : Int) : Zt := fun a => if a = i then (fun j => if j = k then x else z i j) else z a
theorem zup_s (z : Zt) (i k : Nat) (x : Int) : zup z i k x i k = x := by simp [zup]
theorem zup_n (z : Zt) {i k a j : Nat} (x : Int) (h : ¬ (a = i ∧ j = k)) : zup z i k x a j = z a j := by
  unfold zup
  by_cases q : a = i
  · subst q
    rw [if_pos rfl, if_neg (fun e => h ⟨rfl, e⟩)]
  · rw [if_neg q]
theorem Ez_up {r : Nat → Nat} {cA : Nat → ClassId} {z : Zt} {i k K : Nat} {x : Int} {e : va_E} (hk : kd i = K) (he : cl K r cA i (fun j => if j = k then x else z i j) = e) : va_up (Ez r cA z) i e = Ez r cA (zup z i k x) := by
  funext j
  by_cases hj : j = i
  · subst hj
    simp [va_up, Ez, zup, hk, he]
  · simp [va_up, Ez, zup, hj]
def Inj (r : Nat → Nat) : Prop := ∀ i j : Nat, i < NN → j < NN → r i = r j → i = j
def rng (r : Nat → Nat) : Nat → Prop := fun q => ∃ i, i < NN ∧ q = r i
theorem wl_D {r : Nat → Nat} {E : Nat → va_E} {A : Nat → Prop} (hr : Inj r) (hA : ∀ i, i < NN → A (r i)) : va_D A (wl NN r E) := by
  refine ⟨fun i j p q hi hj hpq => ?_, fun k q hk => ?_⟩
  · obtain ⟨h1, rfl⟩ := wl_key hi
    obtain ⟨h2, rfl⟩ := wl_key hj
    exact hr i j h1 h2 hpq
  · obtain ⟨h1, rfl⟩ := wl_key hk
    exact hA k h1
def tysOf (cA : Nat → ClassId) : List (ClassId × FieldType) := [(cA 0, .int), (cA 1, .boolean), (cA 2, .long), (cA 3, .object RX1), (cA 4, .object RX2)]
def wz (r : Nat → Nat) (cA : Nat → ClassId) (z : Zt) : va_W := wl NN r (Ez r cA z)
/-! the fields of nest mates -/
def nwF : List Cond := [
  .fieldLinkNest RX4 82 "TwoTownAlmanac$Town" "gapDays" "[I" "TwoTownAlmanac",
  .fieldLinkNest RX4 85 "TwoTownAlmanac$Town" "gapLengths" "[I" "TwoTownAlmanac",
  .fieldLinkNest RX4 63 "TwoTownAlmanac$Town" "gaps" "I" "TwoTownAlmanac",
  .fieldLinkNest RX2 99 "TwoTownAlmanac$Town" "keptCount" "I" "TwoTownAlmanac",
  .fieldLinkNest RX4 166 "TwoTownAlmanac$Town" "keptCount" "I" "TwoTownAlmanac",
  .fieldLinkNest RX2 56 "TwoTownAlmanac$Feast" "town" "I" "TwoTownAlmanac",
  .fieldLinkNest RX4 124 "TwoTownAlmanac$Feast" "town" "I" "TwoTownAlmanac",
  .fieldLinkNest RX2 59 "TwoTownAlmanac$Feast" "month" "I" "TwoTownAlmanac",
  .fieldLinkNest RX3 56 "TwoTownAlmanac$Feast" "month" "I" "TwoTownAlmanac",
  .fieldLinkNest RX2 62 "TwoTownAlmanac$Feast" "dayOfMonth" "I" "TwoTownAlmanac",
  .fieldLinkNest RX3 61 "TwoTownAlmanac$Feast" "dayOfMonth" "I" "TwoTownAlmanac",
  .fieldLinkNest RX2 65 "TwoTownAlmanac$Feast" "barred" "I" "TwoTownAlmanac",
  .fieldLinkNest RX4 117 "TwoTownAlmanac$Feast" "barred" "I" "TwoTownAlmanac",
  .fieldLinkNest RX4 228 "TwoTownAlmanac$State" "feasts" "[LTwoTownAlmanac$Feast;" "TwoTownAlmanac",
  .fieldLinkNest RX4 105 "TwoTownAlmanac$State" "feastsAdded" "I" "TwoTownAlmanac",
  .fieldLinkNest RX4 148 "TwoTownAlmanac$State" "shiftDays" "I" "TwoTownAlmanac",
  .fieldLinkNest RX4 151 "TwoTownAlmanac$State" "copiesEachDay" "I" "TwoTownAlmanac",
  .fieldLinkNest RX4 154 "TwoTownAlmanac$State" "dayNow" "I" "TwoTownAlmanac",
  .fieldLinkNest RX4 159 "TwoTownAlmanac$State" "quarrels" "I" "TwoTownAlmanac",
  .fieldLinkNest RX4 169 "TwoTownAlmanac$State" "copies" "I" "TwoTownAlmanac",
  .fieldLinkNest RX4 200 "TwoTownAlmanac$DateText" "codes" "[I" "TwoTownAlmanac",
  .fieldLinkNest RX4 184 "TwoTownAlmanac$DateText" "length" "I" "TwoTownAlmanac"]
theorem nwF_is : ∀ w ∈ nwF, ∃ (a : String) (i : Nat) (b n d h : String), w = .fieldLinkNest a i b n d h := by
  intro w hw
  unfold nwF at hw
  repeat (rcases List.mem_cons.mp hw with rfl | hw; exact ⟨_, _, _, _, _, _, rfl⟩)
  cases hw
def NwK (U : State) : Prop := ∀ w ∈ nwF, va_Nw w U
theorem NwK.warm {s U : State} (hW : s.WarmedH U.vm) (h : NwK s) : NwK U := fun w hw => by
  obtain ⟨a, i, b, n, d, k, rfl⟩ := nwF_is w hw
  exact va_Nw.warmF hW (h _ hw)
theorem NwK.same {u U : State} (hv : u.vm = U.vm) (h : NwK u) : NwK U := fun w hw => by
  obtain ⟨a, i, b, n, d, k, rfl⟩ := nwF_is w hw
  exact va_Nw.same rfl hv (h _ hw)
/-! the judgement -/
abbrev Cx : Type := Program × Launch × Env × Room × State × MethodId × Array Value × List Frame × Method × Code × (State → Prop) × (Nat → Prop) × va_G × (Nat → ClassId) × Nat × (Nat → Nat)
def V (Γ : Cx) (z : Zt) (kc ks : Nat) (lv : List (Nat × Value)) (pc : Nat) (st : List Value) : Prop :=
  match Γ with
  | (p, l, e, R, s, m, args, below, meth, c, Q, A, D, cA, nL, r) =>
    ∀ (H : Heap) (locs : List Loc) (ls : Array Slot), va_P D vwCl (wz r cA z) H → va_S A s.heap H locs → lv_has ls nL lv →
      W p l e R s m args below meth c H locs kc ks Q (F0 m pc ls st)
def Cok (l : Launch) (D : va_G) (cA : Nat → ClassId) (r : Nat → Nat) (Rm : Room) (Γ : Cx) (cc : ByteArray) (own : String) (Ts : List Cond) (mL : Nat) : Prop :=
  match Γ with
  | (p, l', _, R, s, m, args, _, _, c, _, A, D', cA', nL, r') =>
    (l' = l ∧ D' = D ∧ cA' = cA ∧ r' = r ∧ R = Rm ∧ nL = mL) ∧ (p.tables.exec = Jvm.exec ∧ c.code = cc ∧ c.maxLocals = nL ∧ s.vm.findClass own = some m.cls ∧ ∀ w ∈ Ts, w.before args s = true) ∧ va_K D' vwCl (tysOf cA') s ∧ NwK s ∧ Inj r' ∧ ∀ i, i < NN → A (r' i)
/-- locals in their order: a store keeps the place -/
def lput (l : List (Nat × Value)) (i : Nat) (v : Value) : List (Nat × Value) :=
  if l.any (fun q => q.1 == i) then (l.filter (fun q => !(q.1 + 1 == i && q.2.category == 2))).map (fun q => if q.1 == i then (i, v) else q)
  else (l.filter (fun q => !(q.1 + 1 == i && q.2.category == 2))) ++ [(i, v)]
theorem lput_has {ls : Array Slot} {nL i : Nat} {v : Value} {l : List (Nat × Value)} (h : lv_has ls nL ((i, v) :: l.filter (fun q => !(q.1 == i) && !(q.1 + 1 == i && q.2.category == 2)))) : lv_has ls nL (lput l i v) := by
  refine ⟨h.1, h.2.1, fun q hq => ?_⟩
  unfold lput at hq
  split at hq
  · obtain ⟨a, ha, rfl⟩ := List.mem_map.mp hq
    by_cases e : (a.1 == i) = true
    · rw [if_pos e]
      exact h.2.2 _ List.mem_cons_self
    · rw [if_neg e]
      refine h.2.2 _ (List.mem_cons_of_mem _ (List.mem_filter.mpr ⟨(List.mem_filter.mp ha).1, ?_⟩))
      have h2 := (List.mem_filter.mp ha).2
      rw [h2, Bool.and_true]
      simpa using e
  · rename_i hn
    rcases List.mem_append.mp hq with h1 | h1
    · refine h.2.2 _ (List.mem_cons_of_mem _ (List.mem_filter.mpr ⟨(List.mem_filter.mp h1).1, ?_⟩))
      have h2 := (List.mem_filter.mp h1).2
      rw [h2, Bool.and_true]
      have h3 : ¬ (q.1 == i) = true := fun e => hn (List.any_eq_true.mpr ⟨q, (List.mem_filter.mp h1).1, e⟩)
      simpa using h3
    · rw [List.mem_singleton.mp h1]
      exact h.2.2 _ List.mem_cons_self
section VR
variable {l : Launch} {D : va_G} {cA : Nat → ClassId} {r : Nat → Nat} {Rm : Room} {Γ : Cx} {cc : ByteArray} {own : String} {Ts : List Cond} {mL : Nat} {z : Zt} {kc ks : Nat} {lv : List (Nat × Value)} {pc : Nat} {st : List Value}

theorem v_iconst (G : Cok l D cA r Rm Γ cc own Ts mL) {n : Int} (d : decode cc pc = .ok (.iconst n, 1)) (kk : V Γ z kc ks lv (pc + 1) (.int (iN n) :: st)) : V Γ z kc ks lv pc st := by
  obtain ⟨p, l', e, R, s, m, args, below, meth, c, Q, A, D', cA', nL, r'⟩ := Γ
  obtain ⟨⟨rfl, rfl, rfl, rfl, rfl, rfl⟩, ⟨hx, hb, hml, hown, hts⟩, hK, hN, hr, hA⟩ := G
  intro H locs ls hP hS hL
  exact lv_iconst hx hb d rfl (kk H locs ls hP hS hL)

theorem v_bipush (G : Cok l D cA r Rm Γ cc own Ts mL) {n : Int} (d : decode cc pc = .ok (.bipush n, 2)) (h : (Int8.ofInt n).toInt32 = Int32.ofInt n) (kk : V Γ z kc ks lv (pc + 2) (.int (iN n) :: st)) : V Γ z kc ks lv pc st := by
  obtain ⟨p, l', e, R, s, m, args, below, meth, c, Q, A, D', cA', nL, r'⟩ := Γ
  obtain ⟨⟨rfl, rfl, rfl, rfl, rfl, rfl⟩, ⟨hx, hb, hml, hown, hts⟩, hK, hN, hr, hA⟩ := G
  intro H locs ls hP hS hL
  exact lv_bipush hx hb d h (kk H locs ls hP hS hL)

theorem v_sipush (G : Cok l D cA r Rm Γ cc own Ts mL) {n : Int} (d : decode cc pc = .ok (.sipush n, 3)) (h : (Int16.ofInt n).toInt32 = Int32.ofInt n) (kk : V Γ z kc ks lv (pc + 3) (.int (iN n) :: st)) : V Γ z kc ks lv pc st := by
  obtain ⟨p, l', e, R, s, m, args, below, meth, c, Q, A, D', cA', nL, r'⟩ := Γ
  obtain ⟨⟨rfl, rfl, rfl, rfl, rfl, rfl⟩, ⟨hx, hb, hml, hown, hts⟩, hK, hN, hr, hA⟩ := G
  intro H locs ls hP hS hL
  exact lv_sipush hx hb d h (kk H locs ls hP hS hL)

theorem v_iload_n (G : Cok l D cA r Rm Γ cc own Ts mL) {q : Fin 4} {x : Int32} (d : decode cc pc = .ok (.iload_n q, 1)) (j : Nat) (hl : lv[j]? = some ((q : Nat), .int x)) (kk : V Γ z kc ks lv (pc + 1) (.int x :: st)) : V Γ z kc ks lv pc st := by
  obtain ⟨p, l', e, R, s, m, args, below, meth, c, Q, A, D', cA', nL, r'⟩ := Γ
  obtain ⟨⟨rfl, rfl, rfl, rfl, rfl, rfl⟩, ⟨hx, hb, hml, hown, hts⟩, hK, hN, hr, hA⟩ := G
  intro H locs ls hP hS hL
  exact lv_iload_n hx hb d rfl (lv_at hL j hl) (kk H locs ls hP hS hL)

theorem v_iload (G : Cok l D cA r Rm Γ cc own Ts mL) {i : Nat} {x : Int32} (d : decode cc pc = .ok (.iload i, 2)) (j : Nat) (hl : lv[j]? = some (i, .int x)) (kk : V Γ z kc ks lv (pc + 2) (.int x :: st)) : V Γ z kc ks lv pc st := by
  obtain ⟨p, l', e, R, s, m, args, below, meth, c, Q, A, D', cA', nL, r'⟩ := Γ
  obtain ⟨⟨rfl, rfl, rfl, rfl, rfl, rfl⟩, ⟨hx, hb, hml, hown, hts⟩, hK, hN, hr, hA⟩ := G
  intro H locs ls hP hS hL
  exact lv_iload hx hb d (lv_at hL j hl) (kk H locs ls hP hS hL)

theorem v_aload_n (G : Cok l D cA r Rm Γ cc own Ts mL) {q : Fin 4} {x : Nat} (d : decode cc pc = .ok (.aload_n q, 1)) (j : Nat) (hl : lv[j]? = some ((q : Nat), .ref x)) (kk : V Γ z kc ks lv (pc + 1) (.ref x :: st)) : V Γ z kc ks lv pc st := by
  obtain ⟨p, l', e, R, s, m, args, below, meth, c, Q, A, D', cA', nL, r'⟩ := Γ
  obtain ⟨⟨rfl, rfl, rfl, rfl, rfl, rfl⟩, ⟨hx, hb, hml, hown, hts⟩, hK, hN, hr, hA⟩ := G
  intro H locs ls hP hS hL
  exact lv_aload_n hx hb d rfl (lv_at hL j hl) (kk H locs ls hP hS hL)

theorem v_aload (G : Cok l D cA r Rm Γ cc own Ts mL) {i : Nat} {x : Nat} (d : decode cc pc = .ok (.aload i, 2)) (j : Nat) (hl : lv[j]? = some (i, .ref x)) (kk : V Γ z kc ks lv (pc + 2) (.ref x :: st)) : V Γ z kc ks lv pc st := by
  obtain ⟨p, l', e, R, s, m, args, below, meth, c, Q, A, D', cA', nL, r'⟩ := Γ
  obtain ⟨⟨rfl, rfl, rfl, rfl, rfl, rfl⟩, ⟨hx, hb, hml, hown, hts⟩, hK, hN, hr, hA⟩ := G
  intro H locs ls hP hS hL
  exact lv_aload hx hb d (lv_at hL j hl) (kk H locs ls hP hS hL)

theorem v_lload_n (G : Cok l D cA r Rm Γ cc own Ts mL) {q : Fin 4} {x : Int64} (d : decode cc pc = .ok (.lload_n q, 1)) (j : Nat) (hl : lv[j]? = some ((q : Nat), .long x)) (kk : V Γ z kc ks lv (pc + 1) (.long x :: st)) : V Γ z kc ks lv pc st := by
  obtain ⟨p, l', e, R, s, m, args, below, meth, c, Q, A, D', cA', nL, r'⟩ := Γ
  obtain ⟨⟨rfl, rfl, rfl, rfl, rfl, rfl⟩, ⟨hx, hb, hml, hown, hts⟩, hK, hN, hr, hA⟩ := G
  intro H locs ls hP hS hL
  exact lv_lload_n hx hb d rfl (lv_at hL j hl) (kk H locs ls hP hS hL)

theorem v_lload (G : Cok l D cA r Rm Γ cc own Ts mL) {i : Nat} {x : Int64} (d : decode cc pc = .ok (.lload i, 2)) (j : Nat) (hl : lv[j]? = some (i, .long x)) (kk : V Γ z kc ks lv (pc + 2) (.long x :: st)) : V Γ z kc ks lv pc st := by
  obtain ⟨p, l', e, R, s, m, args, below, meth, c, Q, A, D', cA', nL, r'⟩ := Γ
  obtain ⟨⟨rfl, rfl, rfl, rfl, rfl, rfl⟩, ⟨hx, hb, hml, hown, hts⟩, hK, hN, hr, hA⟩ := G
  intro H locs ls hP hS hL
  exact lv_lload hx hb d (lv_at hL j hl) (kk H locs ls hP hS hL)

theorem v_istore_n (G : Cok l D cA r Rm Γ cc own Ts mL) {q : Fin 4} {x : Int32} (lv' : List (Nat × Value)) (d : decode cc pc = .ok (.istore_n q, 1)) (hq : (q : Nat) < mL) (hl : lput lv q (.int x) = lv') (kk : V Γ z kc ks lv' (pc + 1) st) : V Γ z kc ks lv pc (.int x :: st) := by
  obtain ⟨p, l', e, R, s, m, args, below, meth, c, Q, A, D', cA', nL, r'⟩ := Γ
  obtain ⟨⟨rfl, rfl, rfl, rfl, rfl, rfl⟩, ⟨hx, hb, hml, hown, hts⟩, hK, hN, hr, hA⟩ := G
  intro H locs ls hP hS hL
  exact lv_istore_n hx hb d rfl hL hq rfl (fun ls' h' => kk H locs ls' hP hS (hl ▸ lput_has h'))

theorem v_istore (G : Cok l D cA r Rm Γ cc own Ts mL) {i : Nat} {x : Int32} (lv' : List (Nat × Value)) (d : decode cc pc = .ok (.istore i, 2)) (hq : i < mL) (hl : lput lv i (.int x) = lv') (kk : V Γ z kc ks lv' (pc + 2) st) : V Γ z kc ks lv pc (.int x :: st) := by
  obtain ⟨p, l', e, R, s, m, args, below, meth, c, Q, A, D', cA', nL, r'⟩ := Γ
  obtain ⟨⟨rfl, rfl, rfl, rfl, rfl, rfl⟩, ⟨hx, hb, hml, hown, hts⟩, hK, hN, hr, hA⟩ := G
  intro H locs ls hP hS hL
  exact lv_istore hx hb d hL hq rfl (fun ls' h' => kk H locs ls' hP hS (hl ▸ lput_has h'))

theorem v_astore_n (G : Cok l D cA r Rm Γ cc own Ts mL) {q : Fin 4} {x : Nat} (lv' : List (Nat × Value)) (d : decode cc pc = .ok (.astore_n q, 1)) (hq : (q : Nat) < mL) (hl : lput lv q (.ref x) = lv') (kk : V Γ z kc ks lv' (pc + 1) st) : V Γ z kc ks lv pc (.ref x :: st) := by
  obtain ⟨p, l', e, R, s, m, args, below, meth, c, Q, A, D', cA', nL, r'⟩ := Γ
  obtain ⟨⟨rfl, rfl, rfl, rfl, rfl, rfl⟩, ⟨hx, hb, hml, hown, hts⟩, hK, hN, hr, hA⟩ := G
  intro H locs ls hP hS hL
  exact lv_astore_n hx hb d rfl hL hq rfl (fun ls' h' => kk H locs ls' hP hS (hl ▸ lput_has h'))

theorem v_astore (G : Cok l D cA r Rm Γ cc own Ts mL) {i : Nat} {x : Nat} (lv' : List (Nat × Value)) (d : decode cc pc = .ok (.astore i, 2)) (hq : i < mL) (hl : lput lv i (.ref x) = lv') (kk : V Γ z kc ks lv' (pc + 2) st) : V Γ z kc ks lv pc (.ref x :: st) := by
  obtain ⟨p, l', e, R, s, m, args, below, meth, c, Q, A, D', cA', nL, r'⟩ := Γ
  obtain ⟨⟨rfl, rfl, rfl, rfl, rfl, rfl⟩, ⟨hx, hb, hml, hown, hts⟩, hK, hN, hr, hA⟩ := G
  intro H locs ls hP hS hL
  exact lv_astore hx hb d hL hq rfl (fun ls' h' => kk H locs ls' hP hS (hl ▸ lput_has h'))

theorem v_iinc (G : Cok l D cA r Rm Γ cc own Ts mL) {i : Nat} {n x : Int} (lv' : List (Nat × Value)) (d : decode cc pc = .ok (.iinc i n, 3)) (j : Nat) (hj : lv[j]? = some (i, .int (iN x))) (hq : i < mL) (hl : lput lv i (.int (iN (x + n))) = lv') (kk : V Γ z kc ks lv' (pc + 3) st) : V Γ z kc ks lv pc st := by
  obtain ⟨p, l', e, R, s, m, args, below, meth, c, Q, A, D', cA', nL, r'⟩ := Γ
  obtain ⟨⟨rfl, rfl, rfl, rfl, rfl, rfl⟩, ⟨hx, hb, hml, hown, hts⟩, hK, hN, hr, hA⟩ := G
  intro H locs ls hP hS hL
  exact lv_iinc hx hb d hL hj (iN_add x n) hq rfl (fun ls' h' => kk H locs ls' hP hS (hl ▸ lput_has h'))

theorem v_iadd (G : Cok l D cA r Rm Γ cc own Ts mL) {x y : Int} (d : decode cc pc = .ok (.iadd, 1)) (kk : V Γ z kc ks lv (pc + 1) (.int (iN (x + y)) :: st)) : V Γ z kc ks lv pc (.int (iN y) :: .int (iN x) :: st) := by
  obtain ⟨p, l', e, R, s, m, args, below, meth, c, Q, A, D', cA', nL, r'⟩ := Γ
  obtain ⟨⟨rfl, rfl, rfl, rfl, rfl, rfl⟩, ⟨hx, hb, hml, hown, hts⟩, hK, hN, hr, hA⟩ := G
  intro H locs ls hP hS hL
  refine lv_iadd hx hb d ?_
  rw [iN_add]
  exact kk H locs ls hP hS hL

theorem v_isub (G : Cok l D cA r Rm Γ cc own Ts mL) {x y : Int} (d : decode cc pc = .ok (.isub, 1)) (kk : V Γ z kc ks lv (pc + 1) (.int (iN (x - y)) :: st)) : V Γ z kc ks lv pc (.int (iN y) :: .int (iN x) :: st) := by
  obtain ⟨p, l', e, R, s, m, args, below, meth, c, Q, A, D', cA', nL, r'⟩ := Γ
  obtain ⟨⟨rfl, rfl, rfl, rfl, rfl, rfl⟩, ⟨hx, hb, hml, hown, hts⟩, hK, hN, hr, hA⟩ := G
  intro H locs ls hP hS hL
  refine lv_isub hx hb d ?_
  rw [iN_sub]
  exact kk H locs ls hP hS hL

theorem v_imul (G : Cok l D cA r Rm Γ cc own Ts mL) {x y : Int} (d : decode cc pc = .ok (.imul, 1)) (kk : V Γ z kc ks lv (pc + 1) (.int (iN (x * y)) :: st)) : V Γ z kc ks lv pc (.int (iN y) :: .int (iN x) :: st) := by
  obtain ⟨p, l', e, R, s, m, args, below, meth, c, Q, A, D', cA', nL, r'⟩ := Γ
  obtain ⟨⟨rfl, rfl, rfl, rfl, rfl, rfl⟩, ⟨hx, hb, hml, hown, hts⟩, hK, hN, hr, hA⟩ := G
  intro H locs ls hP hS hL
  refine lv_imul hx hb d ?_
  rw [iN_mul]
  exact kk H locs ls hP hS hL

theorem v_idiv (G : Cok l D cA r Rm Γ cc own Ts mL) {x y : Int} (h1 : 0 ≤ x ∧ x < 2147483648) (h2 : 0 < y ∧ y < 2147483648) (d : decode cc pc = .ok (.idiv, 1)) (kk : V Γ z kc ks lv (pc + 1) (.int (iN (x / y)) :: st)) : V Γ z kc ks lv pc (.int (iN y) :: .int (iN x) :: st) := by
  obtain ⟨p, l', e, R, s, m, args, below, meth, c, Q, A, D', cA', nL, r'⟩ := Γ
  obtain ⟨⟨rfl, rfl, rfl, rfl, rfl, rfl⟩, ⟨hx, hb, hml, hown, hts⟩, hK, hN, hr, hA⟩ := G
  intro H locs ls hP hS hL
  refine lv_idiv hx hb d (fun q => by have h9 := congrArg Int32.toInt q; rw [iN_int (by omega), show (0 : Int32).toInt = 0 from rfl] at h9; omega) ?_
  rw [iN_div h1 h2]
  exact kk H locs ls hP hS hL

theorem v_irem (G : Cok l D cA r Rm Γ cc own Ts mL) {x y : Int} (h1 : 0 ≤ x ∧ x < 2147483648) (h2 : 0 < y ∧ y < 2147483648) (d : decode cc pc = .ok (.irem, 1)) (kk : V Γ z kc ks lv (pc + 1) (.int (iN (x % y)) :: st)) : V Γ z kc ks lv pc (.int (iN y) :: .int (iN x) :: st) := by
  obtain ⟨p, l', e, R, s, m, args, below, meth, c, Q, A, D', cA', nL, r'⟩ := Γ
  obtain ⟨⟨rfl, rfl, rfl, rfl, rfl, rfl⟩, ⟨hx, hb, hml, hown, hts⟩, hK, hN, hr, hA⟩ := G
  intro H locs ls hP hS hL
  refine lv_irem hx hb d (fun q => by have h9 := congrArg Int32.toInt q; rw [iN_int (by omega), show (0 : Int32).toInt = 0 from rfl] at h9; omega) ?_
  rw [iN_mod h1 h2]
  exact kk H locs ls hP hS hL

theorem v_iand0 (G : Cok l D cA r Rm Γ cc own Ts mL) {x y : Int32} (d : decode cc pc = .ok (.iand, 1)) (kk : V Γ z kc ks lv (pc + 1) (.int (x &&& y) :: st)) : V Γ z kc ks lv pc (.int y :: .int x :: st) := by
  obtain ⟨p, l', e, R, s, m, args, below, meth, c, Q, A, D', cA', nL, r'⟩ := Γ
  obtain ⟨⟨rfl, rfl, rfl, rfl, rfl, rfl⟩, ⟨hx, hb, hml, hown, hts⟩, hK, hN, hr, hA⟩ := G
  intro H locs ls hP hS hL
  exact lv_iand hx hb d (kk H locs ls hP hS hL)

theorem v_ior0 (G : Cok l D cA r Rm Γ cc own Ts mL) {x y : Int32} (d : decode cc pc = .ok (.ior, 1)) (kk : V Γ z kc ks lv (pc + 1) (.int (x ||| y) :: st)) : V Γ z kc ks lv pc (.int y :: .int x :: st) := by
  obtain ⟨p, l', e, R, s, m, args, below, meth, c, Q, A, D', cA', nL, r'⟩ := Γ
  obtain ⟨⟨rfl, rfl, rfl, rfl, rfl, rfl⟩, ⟨hx, hb, hml, hown, hts⟩, hK, hN, hr, hA⟩ := G
  intro H locs ls hP hS hL
  exact lv_ior hx hb d (kk H locs ls hP hS hL)

theorem v_ishl0 (G : Cok l D cA r Rm Γ cc own Ts mL) {x y : Int32} (d : decode cc pc = .ok (.ishl, 1)) (kk : V Γ z kc ks lv (pc + 1) (.int (x <<< (y &&& 31)) :: st)) : V Γ z kc ks lv pc (.int y :: .int x :: st) := by
  obtain ⟨p, l', e, R, s, m, args, below, meth, c, Q, A, D', cA', nL, r'⟩ := Γ
  obtain ⟨⟨rfl, rfl, rfl, rfl, rfl, rfl⟩, ⟨hx, hb, hml, hown, hts⟩, hK, hN, hr, hA⟩ := G
  intro H locs ls hP hS hL
  exact lv_ishl hx hb d (kk H locs ls hP hS hL)

theorem v_ishr0 (G : Cok l D cA r Rm Γ cc own Ts mL) {x y : Int32} (d : decode cc pc = .ok (.ishr, 1)) (kk : V Γ z kc ks lv (pc + 1) (.int (x >>> (y &&& 31)) :: st)) : V Γ z kc ks lv pc (.int y :: .int x :: st) := by
  obtain ⟨p, l', e, R, s, m, args, below, meth, c, Q, A, D', cA', nL, r'⟩ := Γ
  obtain ⟨⟨rfl, rfl, rfl, rfl, rfl, rfl⟩, ⟨hx, hb, hml, hown, hts⟩, hK, hN, hr, hA⟩ := G
  intro H locs ls hP hS hL
  exact lv_ishr hx hb d (kk H locs ls hP hS hL)

theorem v_eqi (G : Cok l D cA r Rm Γ cc own Ts mL) {x y : Int32} (h : x = y) (kk : V Γ z kc ks lv pc (.int y :: st)) : V Γ z kc ks lv pc (.int x :: st) := by
  obtain ⟨p, l', e, R, s, m, args, below, meth, c, Q, A, D', cA', nL, r'⟩ := Γ
  obtain ⟨⟨rfl, rfl, rfl, rfl, rfl, rfl⟩, ⟨hx, hb, hml, hown, hts⟩, hK, hN, hr, hA⟩ := G
  intro H locs ls hP hS hL
  rw [h]
  exact kk H locs ls hP hS hL

theorem v_dup (G : Cok l D cA r Rm Γ cc own Ts mL) {v : Value} (d : decode cc pc = .ok (.dup, 1)) (hv : v.category = 1) (kk : V Γ z kc ks lv (pc + 1) (v :: v :: st)) : V Γ z kc ks lv pc (v :: st) := by
  obtain ⟨p, l', e, R, s, m, args, below, meth, c, Q, A, D', cA', nL, r'⟩ := Γ
  obtain ⟨⟨rfl, rfl, rfl, rfl, rfl, rfl⟩, ⟨hx, hb, hml, hown, hts⟩, hK, hN, hr, hA⟩ := G
  intro H locs ls hP hS hL
  exact lv_dup hx hb d hv (kk H locs ls hP hS hL)

theorem v_pop (G : Cok l D cA r Rm Γ cc own Ts mL) {v : Value} (d : decode cc pc = .ok (.pop, 1)) (hv : v.category = 1) (kk : V Γ z kc ks lv (pc + 1) st) : V Γ z kc ks lv pc (v :: st) := by
  obtain ⟨p, l', e, R, s, m, args, below, meth, c, Q, A, D', cA', nL, r'⟩ := Γ
  obtain ⟨⟨rfl, rfl, rfl, rfl, rfl, rfl⟩, ⟨hx, hb, hml, hown, hts⟩, hK, hN, hr, hA⟩ := G
  intro H locs ls hP hS hL
  exact lv_pop hx hb d hv (kk H locs ls hP hS hL)

theorem v_dup2 (G : Cok l D cA r Rm Γ cc own Ts mL) {v w : Value} (d : decode cc pc = .ok (.dup2, 1)) (hv : v.category = 1) (hw : w.category = 1) (kk : V Γ z kc ks lv (pc + 1) (v :: w :: v :: w :: st)) : V Γ z kc ks lv pc (v :: w :: st) := by
  obtain ⟨p, l', e, R, s, m, args, below, meth, c, Q, A, D', cA', nL, r'⟩ := Γ
  obtain ⟨⟨rfl, rfl, rfl, rfl, rfl, rfl⟩, ⟨hx, hb, hml, hown, hts⟩, hK, hN, hr, hA⟩ := G
  intro H locs ls hP hS hL
  exact lv_dup2_11 hx hb d hv hw (kk H locs ls hP hS hL)

theorem v_goto (G : Cok l D cA r Rm Γ cc own Ts mL) {off : Int} (tgt : Nat) (d : decode cc pc = .ok (.goto off, 3)) (ht : (pc : Int) + off = (tgt : Int)) (kk : V Γ z kc ks lv tgt st) : V Γ z kc ks lv pc st := by
  obtain ⟨p, l', e, R, s, m, args, below, meth, c, Q, A, D', cA', nL, r'⟩ := Γ
  obtain ⟨⟨rfl, rfl, rfl, rfl, rfl, rfl⟩, ⟨hx, hb, hml, hown, hts⟩, hK, hN, hr, hA⟩ := G
  intro H locs ls hP hS hL
  exact lv_goto hx hb d ht (kk H locs ls hP hS hL)

theorem v_icmp_eq (G : Cok l D cA r Rm Γ cc own Ts mL) {x y : Int} {off : Int} (tgt : Nat) (hxx : -2147483648 ≤ x ∧ x < 2147483648) (hyy : -2147483648 ≤ y ∧ y < 2147483648) (d : decode cc pc = .ok (.if_icmp .eq off, 3)) (ht : (pc : Int) + off = (tgt : Int)) (kt : x = y → V Γ z kc ks lv tgt st) (kf : ¬ x = y → V Γ z kc ks lv (pc + 3) st) : V Γ z kc ks lv pc (.int (iN y) :: .int (iN x) :: st) := by
  obtain ⟨p, l', e, R, s, m, args, below, meth, c, Q, A, D', cA', nL, r'⟩ := Γ
  obtain ⟨⟨rfl, rfl, rfl, rfl, rfl, rfl⟩, ⟨hx, hb, hml, hown, hts⟩, hK, hN, hr, hA⟩ := G
  intro H locs ls hP hS hL
  exact lv_icmp_eq hx hb d ht (fun q => kt ((iN_eq hxx hyy).mp q) H locs ls hP hS hL) (fun q => kf (fun q2 => q ((iN_eq hxx hyy).mpr q2)) H locs ls hP hS hL)

theorem v_if_eq (G : Cok l D cA r Rm Γ cc own Ts mL) {x : Int} {off : Int} (tgt : Nat) (hxx : -2147483648 ≤ x ∧ x < 2147483648) (d : decode cc pc = .ok (.ifCond .eq off, 3)) (ht : (pc : Int) + off = (tgt : Int)) (kt : x = 0 → V Γ z kc ks lv tgt st) (kf : ¬ x = 0 → V Γ z kc ks lv (pc + 3) st) : V Γ z kc ks lv pc (.int (iN x) :: st) := by
  obtain ⟨p, l', e, R, s, m, args, below, meth, c, Q, A, D', cA', nL, r'⟩ := Γ
  obtain ⟨⟨rfl, rfl, rfl, rfl, rfl, rfl⟩, ⟨hx, hb, hml, hown, hts⟩, hK, hN, hr, hA⟩ := G
  intro H locs ls hP hS hL
  have b0 : -2147483648 ≤ (0 : Int) ∧ (0 : Int) < 2147483648 := by omega
  exact lv_if_eq hx hb d ht (fun q => kt ((iN_eq hxx b0).mp q) H locs ls hP hS hL) (fun q => kf (fun q2 => q ((iN_eq hxx b0).mpr q2)) H locs ls hP hS hL)

theorem v_icmp_ne (G : Cok l D cA r Rm Γ cc own Ts mL) {x y : Int} {off : Int} (tgt : Nat) (hxx : -2147483648 ≤ x ∧ x < 2147483648) (hyy : -2147483648 ≤ y ∧ y < 2147483648) (d : decode cc pc = .ok (.if_icmp .ne off, 3)) (ht : (pc : Int) + off = (tgt : Int)) (kt : ¬ x = y → V Γ z kc ks lv tgt st) (kf : x = y → V Γ z kc ks lv (pc + 3) st) : V Γ z kc ks lv pc (.int (iN y) :: .int (iN x) :: st) := by
  obtain ⟨p, l', e, R, s, m, args, below, meth, c, Q, A, D', cA', nL, r'⟩ := Γ
  obtain ⟨⟨rfl, rfl, rfl, rfl, rfl, rfl⟩, ⟨hx, hb, hml, hown, hts⟩, hK, hN, hr, hA⟩ := G
  intro H locs ls hP hS hL
  exact lv_icmp_ne hx hb d ht (fun q => kt (fun q2 => q ((iN_eq hxx hyy).mpr q2)) H locs ls hP hS hL) (fun q => kf ((iN_eq hxx hyy).mp q) H locs ls hP hS hL)

theorem v_if_ne (G : Cok l D cA r Rm Γ cc own Ts mL) {x : Int} {off : Int} (tgt : Nat) (hxx : -2147483648 ≤ x ∧ x < 2147483648) (d : decode cc pc = .ok (.ifCond .ne off, 3)) (ht : (pc : Int) + off = (tgt : Int)) (kt : ¬ x = 0 → V Γ z kc ks lv tgt st) (kf : x = 0 → V Γ z kc ks lv (pc + 3) st) : V Γ z kc ks lv pc (.int (iN x) :: st) := by
  obtain ⟨p, l', e, R, s, m, args, below, meth, c, Q, A, D', cA', nL, r'⟩ := Γ
  obtain ⟨⟨rfl, rfl, rfl, rfl, rfl, rfl⟩, ⟨hx, hb, hml, hown, hts⟩, hK, hN, hr, hA⟩ := G
  intro H locs ls hP hS hL
  have b0 : -2147483648 ≤ (0 : Int) ∧ (0 : Int) < 2147483648 := by omega
  exact lv_if_ne hx hb d ht (fun q => kt (fun q2 => q ((iN_eq hxx b0).mpr q2)) H locs ls hP hS hL) (fun q => kf ((iN_eq hxx b0).mp q) H locs ls hP hS hL)

theorem v_icmp_lt (G : Cok l D cA r Rm Γ cc own Ts mL) {x y : Int} {off : Int} (tgt : Nat) (hxx : -2147483648 ≤ x ∧ x < 2147483648) (hyy : -2147483648 ≤ y ∧ y < 2147483648) (d : decode cc pc = .ok (.if_icmp .lt off, 3)) (ht : (pc : Int) + off = (tgt : Int)) (kt : x < y → V Γ z kc ks lv tgt st) (kf : y ≤ x → V Γ z kc ks lv (pc + 3) st) : V Γ z kc ks lv pc (.int (iN y) :: .int (iN x) :: st) := by
  obtain ⟨p, l', e, R, s, m, args, below, meth, c, Q, A, D', cA', nL, r'⟩ := Γ
  obtain ⟨⟨rfl, rfl, rfl, rfl, rfl, rfl⟩, ⟨hx, hb, hml, hown, hts⟩, hK, hN, hr, hA⟩ := G
  intro H locs ls hP hS hL
  exact lv_icmp_lt hx hb d ht (fun q => kt ((iN_lt hxx hyy).mp q) H locs ls hP hS hL) (fun q => kf (Int.not_lt.mp (fun q2 => q ((iN_lt hxx hyy).mpr q2))) H locs ls hP hS hL)

theorem v_if_lt (G : Cok l D cA r Rm Γ cc own Ts mL) {x : Int} {off : Int} (tgt : Nat) (hxx : -2147483648 ≤ x ∧ x < 2147483648) (d : decode cc pc = .ok (.ifCond .lt off, 3)) (ht : (pc : Int) + off = (tgt : Int)) (kt : x < 0 → V Γ z kc ks lv tgt st) (kf : 0 ≤ x → V Γ z kc ks lv (pc + 3) st) : V Γ z kc ks lv pc (.int (iN x) :: st) := by
  obtain ⟨p, l', e, R, s, m, args, below, meth, c, Q, A, D', cA', nL, r'⟩ := Γ
  obtain ⟨⟨rfl, rfl, rfl, rfl, rfl, rfl⟩, ⟨hx, hb, hml, hown, hts⟩, hK, hN, hr, hA⟩ := G
  intro H locs ls hP hS hL
  have b0 : -2147483648 ≤ (0 : Int) ∧ (0 : Int) < 2147483648 := by omega
  exact lv_if_lt hx hb d ht (fun q => kt ((iN_lt hxx b0).mp q) H locs ls hP hS hL) (fun q => kf (Int.not_lt.mp (fun q2 => q ((iN_lt hxx b0).mpr q2))) H locs ls hP hS hL)

theorem v_icmp_ge (G : Cok l D cA r Rm Γ cc own Ts mL) {x y : Int} {off : Int} (tgt : Nat) (hxx : -2147483648 ≤ x ∧ x < 2147483648) (hyy : -2147483648 ≤ y ∧ y < 2147483648) (d : decode cc pc = .ok (.if_icmp .ge off, 3)) (ht : (pc : Int) + off = (tgt : Int)) (kt : y ≤ x → V Γ z kc ks lv tgt st) (kf : x < y → V Γ z kc ks lv (pc + 3) st) : V Γ z kc ks lv pc (.int (iN y) :: .int (iN x) :: st) := by
  obtain ⟨p, l', e, R, s, m, args, below, meth, c, Q, A, D', cA', nL, r'⟩ := Γ
  obtain ⟨⟨rfl, rfl, rfl, rfl, rfl, rfl⟩, ⟨hx, hb, hml, hown, hts⟩, hK, hN, hr, hA⟩ := G
  intro H locs ls hP hS hL
  exact lv_icmp_ge hx hb d ht (fun q => kt ((iN_le hyy hxx).mp q) H locs ls hP hS hL) (fun q => kf (Int.not_le.mp (fun q2 => q ((iN_le hyy hxx).mpr q2))) H locs ls hP hS hL)

theorem v_if_ge (G : Cok l D cA r Rm Γ cc own Ts mL) {x : Int} {off : Int} (tgt : Nat) (hxx : -2147483648 ≤ x ∧ x < 2147483648) (d : decode cc pc = .ok (.ifCond .ge off, 3)) (ht : (pc : Int) + off = (tgt : Int)) (kt : 0 ≤ x → V Γ z kc ks lv tgt st) (kf : x < 0 → V Γ z kc ks lv (pc + 3) st) : V Γ z kc ks lv pc (.int (iN x) :: st) := by
  obtain ⟨p, l', e, R, s, m, args, below, meth, c, Q, A, D', cA', nL, r'⟩ := Γ
  obtain ⟨⟨rfl, rfl, rfl, rfl, rfl, rfl⟩, ⟨hx, hb, hml, hown, hts⟩, hK, hN, hr, hA⟩ := G
  intro H locs ls hP hS hL
  have b0 : -2147483648 ≤ (0 : Int) ∧ (0 : Int) < 2147483648 := by omega
  exact lv_if_ge hx hb d ht (fun q => kt ((iN_le b0 hxx).mp q) H locs ls hP hS hL) (fun q => kf (Int.not_le.mp (fun q2 => q ((iN_le b0 hxx).mpr q2))) H locs ls hP hS hL)

theorem v_icmp_gt (G : Cok l D cA r Rm Γ cc own Ts mL) {x y : Int} {off : Int} (tgt : Nat) (hxx : -2147483648 ≤ x ∧ x < 2147483648) (hyy : -2147483648 ≤ y ∧ y < 2147483648) (d : decode cc pc = .ok (.if_icmp .gt off, 3)) (ht : (pc : Int) + off = (tgt : Int)) (kt : y < x → V Γ z kc ks lv tgt st) (kf : x ≤ y → V Γ z kc ks lv (pc + 3) st) : V Γ z kc ks lv pc (.int (iN y) :: .int (iN x) :: st) := by
  obtain ⟨p, l', e, R, s, m, args, below, meth, c, Q, A, D', cA', nL, r'⟩ := Γ
  obtain ⟨⟨rfl, rfl, rfl, rfl, rfl, rfl⟩, ⟨hx, hb, hml, hown, hts⟩, hK, hN, hr, hA⟩ := G
  intro H locs ls hP hS hL
  exact lv_icmp_gt hx hb d ht (fun q => kt ((iN_lt hyy hxx).mp q) H locs ls hP hS hL) (fun q => kf (Int.not_lt.mp (fun q2 => q ((iN_lt hyy hxx).mpr q2))) H locs ls hP hS hL)

theorem v_if_gt (G : Cok l D cA r Rm Γ cc own Ts mL) {x : Int} {off : Int} (tgt : Nat) (hxx : -2147483648 ≤ x ∧ x < 2147483648) (d : decode cc pc = .ok (.ifCond .gt off, 3)) (ht : (pc : Int) + off = (tgt : Int)) (kt : 0 < x → V Γ z kc ks lv tgt st) (kf : x ≤ 0 → V Γ z kc ks lv (pc + 3) st) : V Γ z kc ks lv pc (.int (iN x) :: st) := by
  obtain ⟨p, l', e, R, s, m, args, below, meth, c, Q, A, D', cA', nL, r'⟩ := Γ
  obtain ⟨⟨rfl, rfl, rfl, rfl, rfl, rfl⟩, ⟨hx, hb, hml, hown, hts⟩, hK, hN, hr, hA⟩ := G
  intro H locs ls hP hS hL
  have b0 : -2147483648 ≤ (0 : Int) ∧ (0 : Int) < 2147483648 := by omega
  exact lv_if_gt hx hb d ht (fun q => kt ((iN_lt b0 hxx).mp q) H locs ls hP hS hL) (fun q => kf (Int.not_lt.mp (fun q2 => q ((iN_lt b0 hxx).mpr q2))) H locs ls hP hS hL)

theorem v_icmp_le (G : Cok l D cA r Rm Γ cc own Ts mL) {x y : Int} {off : Int} (tgt : Nat) (hxx : -2147483648 ≤ x ∧ x < 2147483648) (hyy : -2147483648 ≤ y ∧ y < 2147483648) (d : decode cc pc = .ok (.if_icmp .le off, 3)) (ht : (pc : Int) + off = (tgt : Int)) (kt : x ≤ y → V Γ z kc ks lv tgt st) (kf : y < x → V Γ z kc ks lv (pc + 3) st) : V Γ z kc ks lv pc (.int (iN y) :: .int (iN x) :: st) := by
  obtain ⟨p, l', e, R, s, m, args, below, meth, c, Q, A, D', cA', nL, r'⟩ := Γ
  obtain ⟨⟨rfl, rfl, rfl, rfl, rfl, rfl⟩, ⟨hx, hb, hml, hown, hts⟩, hK, hN, hr, hA⟩ := G
  intro H locs ls hP hS hL
  exact lv_icmp_le hx hb d ht (fun q => kt ((iN_le hxx hyy).mp q) H locs ls hP hS hL) (fun q => kf (Int.not_le.mp (fun q2 => q ((iN_le hxx hyy).mpr q2))) H locs ls hP hS hL)

theorem v_if_le (G : Cok l D cA r Rm Γ cc own Ts mL) {x : Int} {off : Int} (tgt : Nat) (hxx : -2147483648 ≤ x ∧ x < 2147483648) (d : decode cc pc = .ok (.ifCond .le off, 3)) (ht : (pc : Int) + off = (tgt : Int)) (kt : x ≤ 0 → V Γ z kc ks lv tgt st) (kf : 0 < x → V Γ z kc ks lv (pc + 3) st) : V Γ z kc ks lv pc (.int (iN x) :: st) := by
  obtain ⟨p, l', e, R, s, m, args, below, meth, c, Q, A, D', cA', nL, r'⟩ := Γ
  obtain ⟨⟨rfl, rfl, rfl, rfl, rfl, rfl⟩, ⟨hx, hb, hml, hown, hts⟩, hK, hN, hr, hA⟩ := G
  intro H locs ls hP hS hL
  have b0 : -2147483648 ≤ (0 : Int) ∧ (0 : Int) < 2147483648 := by omega
  exact lv_if_le hx hb d ht (fun q => kt ((iN_le hxx b0).mp q) H locs ls hP hS hL) (fun q => kf (Int.not_le.mp (fun q2 => q ((iN_le hxx b0).mpr q2))) H locs ls hP hS hL)

theorem v_getf (G : Cok l D cA r Rm Γ cc own Ts mL) {C : String} {T : u_T} {N ci K t k idx : Nat} {fs : List Value} {v : Value} (hin : ∀ w ∈ u_ws C T N, w ∈ Ts) (hlk : Cond.fieldLink own idx (T k).1 (T k).2.1 (T k).2.2.1 ∈ Ts) (hc : vwCl[ci]? = some (C, T, N)) (hk : k < N) (ht : kd t = K) (hK0 : K ≠ 0) (hcl : cl K r cA t (z t) = .inr (ci, fs)) (hv : fs[k]? = some v) (d : decode cc pc = .ok (.getfield idx, 3)) (kk : V Γ z kc ks lv (pc + 3) (v :: st)) : V Γ z kc ks lv pc (.ref (r t) :: st) := by
  obtain ⟨p, l', e, R, s, m, args, below, meth, c, Q, A, D', cA', nL, r'⟩ := Γ
  obtain ⟨⟨rfl, rfl, rfl, rfl, rfl, rfl⟩, ⟨hx, hb, hml, hown, hts⟩, hK, hN, hr, hA⟩ := G
  intro H locs ls hP hS hL
  exact va_get hx hb hts hin hown hK hP t ((wl_at (kd_lt ht hK0)).trans (by rw [Ez, ht, hcl])) hc k hk (hts _ hlk) (fun _ h => h) hv d (kk H locs ls hP hS hL)

theorem v_putf (G : Cok l D cA r Rm Γ cc own Ts mL) {C : String} {T : u_T} {N ci K t k idx : Nat} {x : Int} {fs : List Value} {ty0 : Nat → FieldType} (hin : ∀ w ∈ u_ws C T N, w ∈ Ts) (hty : ∀ k, k < N → parseFieldDescriptor (T k).2.2.1 = some (ty0 k)) (hnm : ∀ a, a < N → ∀ b, b < N → a ≠ b → (T a).2.1 ≠ (T b).2.1) (hlk : Cond.fieldLink own idx (T k).1 (T k).2.1 (T k).2.2.1 ∈ Ts) (hc : vwCl[ci]? = some (C, T, N)) (hk : k < N) (hfin : (T k).2.2.2 = false) (hdd : parseFieldDescriptor (T k).2.2.1 = some .int) (ht : kd t = K) (hK0 : K ≠ 0) (hcl : cl K r cA t (z t) = .inr (ci, fs)) (hlen : k < fs.length) (hcl2 : cl K r cA t (fun j => if j = k then x else z t j) = .inr (ci, fs.set k (.int (iN x)))) (d : decode cc pc = .ok (.putfield idx, 3)) (kk : V Γ (zup z t k x) kc ks lv (pc + 3) st) : V Γ z kc ks lv pc (.int (iN x) :: .ref (r t) :: st) := by
  obtain ⟨p, l', e, R, s, m, args, below, meth, c, Q, A, D', cA', nL, r'⟩ := Γ
  obtain ⟨⟨rfl, rfl, rfl, rfl, rfl, rfl⟩, ⟨hx, hb, hml, hown, hts⟩, hK, hN, hr, hA⟩ := G
  intro H locs ls hP hS hL
  refine va_put (v := .int (iN x)) hx hb hts hin ty0 hty hnm hown hK hP (wl_D hr hA) hS t ((wl_at (kd_lt ht hK0)).trans (by rw [Ez, ht, hcl])) hc k hk (hts _ hlk) (fun _ h => h) hfin hdd rfl rfl hlen d (fun H1 locs1 hP1 _ hS1 => kk H1 locs1 ls ?_ hS1 hL)
  rw [wz, ← Ez_up ht hcl2, ← wl_set (kd_lt ht hK0)]
  exact hP1

theorem v_getfN (G : Cok l D cA r Rm Γ cc own Ts mL) {C host : String} {T : u_T} {N ci K t k idx : Nat} {fs : List Value} {v : Value} (hin : ∀ w ∈ u_ws C T N, w ∈ Ts) (hlk : Cond.fieldLinkNest own idx (T k).1 (T k).2.1 (T k).2.2.1 host ∈ nwF) (hc : vwCl[ci]? = some (C, T, N)) (hk : k < N) (ht : kd t = K) (hK0 : K ≠ 0) (hcl : cl K r cA t (z t) = .inr (ci, fs)) (hv : fs[k]? = some v) (d : decode cc pc = .ok (.getfield idx, 3)) (kk : V Γ z kc ks lv (pc + 3) (v :: st)) : V Γ z kc ks lv pc (.ref (r t) :: st) := by
  obtain ⟨p, l', e, R, s, m, args, below, meth, c, Q, A, D', cA', nL, r'⟩ := Γ
  obtain ⟨⟨rfl, rfl, rfl, rfl, rfl, rfl⟩, ⟨hx, hb, hml, hown, hts⟩, hK, hN, hr, hA⟩ := G
  intro H locs ls hP hS hL
  exact va_getN hx hb hts hin hown hK hP t ((wl_at (kd_lt ht hK0)).trans (by rw [Ez, ht, hcl])) hc k hk (va_Nw.use rfl (hN _ hlk)) (fun _ h => h) hv d (kk H locs ls hP hS hL)

theorem v_putfN (G : Cok l D cA r Rm Γ cc own Ts mL) {C host : String} {T : u_T} {N ci K t k idx : Nat} {x : Int} {fs : List Value} {ty0 : Nat → FieldType} (hin : ∀ w ∈ u_ws C T N, w ∈ Ts) (hty : ∀ k, k < N → parseFieldDescriptor (T k).2.2.1 = some (ty0 k)) (hnm : ∀ a, a < N → ∀ b, b < N → a ≠ b → (T a).2.1 ≠ (T b).2.1) (hlk : Cond.fieldLinkNest own idx (T k).1 (T k).2.1 (T k).2.2.1 host ∈ nwF) (hc : vwCl[ci]? = some (C, T, N)) (hk : k < N) (hfin : (T k).2.2.2 = false) (hdd : parseFieldDescriptor (T k).2.2.1 = some .int) (ht : kd t = K) (hK0 : K ≠ 0) (hcl : cl K r cA t (z t) = .inr (ci, fs)) (hlen : k < fs.length) (hcl2 : cl K r cA t (fun j => if j = k then x else z t j) = .inr (ci, fs.set k (.int (iN x)))) (d : decode cc pc = .ok (.putfield idx, 3)) (kk : V Γ (zup z t k x) kc ks lv (pc + 3) st) : V Γ z kc ks lv pc (.int (iN x) :: .ref (r t) :: st) := by
  obtain ⟨p, l', e, R, s, m, args, below, meth, c, Q, A, D', cA', nL, r'⟩ := Γ
  obtain ⟨⟨rfl, rfl, rfl, rfl, rfl, rfl⟩, ⟨hx, hb, hml, hown, hts⟩, hK, hN, hr, hA⟩ := G
  intro H locs ls hP hS hL
  refine va_putN (v := .int (iN x)) hx hb hts hin ty0 hty hnm hown hK hP (wl_D hr hA) hS t ((wl_at (kd_lt ht hK0)).trans (by rw [Ez, ht, hcl])) hc k hk (va_Nw.use rfl (hN _ hlk)) (fun _ h => h) hfin hdd rfl rfl hlen d (fun H1 locs1 hP1 _ hS1 => kk H1 locs1 ls ?_ hS1 hL)
  rw [wz, ← Ez_up ht hcl2, ← wl_set (kd_lt ht hK0)]
  exact hP1

theorem v_iald (G : Cok l D cA r Rm Γ cc own Ts mL) {K a n : Nat} {i : Int} (ht : kd a = K) (hK0 : K ≠ 0) (hcl : cl K r cA a (z a) = .inl (cA 0, n, .inl (fun j => iN (z a j)))) (hn : n < 2147483648) (hi : 0 ≤ i ∧ i < (n : Int)) (d : decode cc pc = .ok (.iaload, 1)) (kk : V Γ z kc ks lv (pc + 1) (.int (iN (z a i.toNat)) :: st)) : V Γ z kc ks lv pc (.int (iN i) :: .ref (r a) :: st) := by
  obtain ⟨p, l', e, R, s, m, args, below, meth, c, Q, A, D', cA', nL, r'⟩ := Γ
  obtain ⟨⟨rfl, rfl, rfl, rfl, rfl, rfl⟩, ⟨hx, hb, hml, hown, hts⟩, hK, hN, hr, hA⟩ := G
  intro H locs ls hP hS hL
  refine va_iald hx hb hK hP a 0 (f := fun j => iN (z a j)) ((wl_at (kd_lt ht hK0)).trans (by rw [Ez, ht, hcl])) rfl (iN_in hi hn) d ?_
  rw [iN_cl ⟨hi.1, by omega⟩]
  exact kk H locs ls hP hS hL

theorem v_zald (G : Cok l D cA r Rm Γ cc own Ts mL) {a : Nat} {i : Int} (ht : kd a = 20) (hi : 0 ≤ i ∧ i < 2) (d : decode cc pc = .ok (.baload, 1)) (kk : V Γ z kc ks lv (pc + 1) (.int (iN (z a i.toNat)) :: st)) : V Γ z kc ks lv pc (.int (iN i) :: .ref (r a) :: st) := by
  obtain ⟨p, l', e, R, s, m, args, below, meth, c, Q, A, D', cA', nL, r'⟩ := Γ
  obtain ⟨⟨rfl, rfl, rfl, rfl, rfl, rfl⟩, ⟨hx, hb, hml, hown, hts⟩, hK, hN, hr, hA⟩ := G
  intro H locs ls hP hS hL
  refine va_zald hx hb hK hP a 1 (f := fun j => iN (z a j)) (n := 2) ((wl_at (kd_lt ht (by decide))).trans (by rw [Ez, ht]; rfl)) rfl (iN_in (n := 2) hi (by decide)) d ?_
  rw [iN_cl ⟨hi.1, by omega⟩]
  exact kk H locs ls hP hS hL

theorem v_aaldF (G : Cok l D cA r Rm Γ cc own Ts mL) {a : Nat} {i : Int} (ht : kd a = 40) (hi : 0 ≤ i ∧ i < 10) (d : decode cc pc = .ok (.aaload, 1)) (kk : V Γ z kc ks lv (pc + 1) (.ref (r (a + 1 + i.toNat)) :: st)) : V Γ z kc ks lv pc (.int (iN i) :: .ref (r a) :: st) := by
  obtain ⟨p, l', e, R, s, m, args, below, meth, c, Q, A, D', cA', nL, r'⟩ := Γ
  obtain ⟨⟨rfl, rfl, rfl, rfl, rfl, rfl⟩, ⟨hx, hb, hml, hown, hts⟩, hK, hN, hr, hA⟩ := G
  intro H locs ls hP hS hL
  refine va_aldq hx hb hK hP a 3 (f := fun j => some (r' (a + 1 + j))) (n := 10) (C := RX1) ((wl_at (kd_lt ht (by decide))).trans (by rw [Ez, ht]; rfl)) rfl (iN_in (n := 10) hi (by decide)) d ?_
  rw [iN_cl ⟨hi.1, by omega⟩]
  exact kk H locs ls hP hS hL

theorem v_aaldS (G : Cok l D cA r Rm Γ cc own Ts mL) {a K n : Nat} {i : Int} (ht : kd a = K) (hK0 : K ≠ 0) (hcl : cl K r cA a (z a) = .inl (cA 4, n, .inr (.inr (.inr (.inr (fun j => some (r (z a j).toNat))))))) (hn : n < 2147483648) (hi : 0 ≤ i ∧ i < (n : Int)) (d : decode cc pc = .ok (.aaload, 1)) (kk : V Γ z kc ks lv (pc + 1) (.ref (r (z a i.toNat).toNat) :: st)) : V Γ z kc ks lv pc (.int (iN i) :: .ref (r a) :: st) := by
  obtain ⟨p, l', e, R, s, m, args, below, meth, c, Q, A, D', cA', nL, r'⟩ := Γ
  obtain ⟨⟨rfl, rfl, rfl, rfl, rfl, rfl⟩, ⟨hx, hb, hml, hown, hts⟩, hK, hN, hr, hA⟩ := G
  intro H locs ls hP hS hL
  refine va_aldq hx hb hK hP a 4 (f := fun j => some (r' (z a j).toNat)) (C := RX2) ((wl_at (kd_lt ht hK0)).trans (by rw [Ez, ht, hcl])) rfl (iN_in hi hn) d ?_
  rw [iN_cl ⟨hi.1, by omega⟩]
  exact kk H locs ls hP hS hL

theorem v_iast (G : Cok l D cA r Rm Γ cc own Ts mL) {K a n : Nat} {i x : Int} (ht : kd a = K) (hK0 : K ≠ 0) (hcl : ∀ f : Nat → Int, cl K r cA a f = .inl (cA 0, n, .inl (fun j => iN (f j)))) (hn : n < 2147483648) (hi : 0 ≤ i ∧ i < (n : Int)) (d : decode cc pc = .ok (.iastore, 1)) (kk : V Γ (zup z a i.toNat x) kc ks lv (pc + 1) st) : V Γ z kc ks lv pc (.int (iN x) :: .int (iN i) :: .ref (r a) :: st) := by
  obtain ⟨p, l', e, R, s, m, args, below, meth, c, Q, A, D', cA', nL, r'⟩ := Γ
  obtain ⟨⟨rfl, rfl, rfl, rfl, rfl, rfl⟩, ⟨hx, hb, hml, hown, hts⟩, hK, hN, hr, hA⟩ := G
  intro H locs ls hP hS hL
  refine va_iast hx hb hK hP (wl_D hr hA) hS a 0 (f := fun j => iN (z a j)) ((wl_at (kd_lt ht hK0)).trans (by rw [Ez, ht, hcl])) rfl (iN_in hi hn) d (fun H1 locs1 hP1 _ hS1 => kk H1 locs1 ls ?_ hS1 hL)
  rw [wz, ← Ez_up ht (hcl _), ← wl_set (kd_lt ht hK0)]
  rw [iN_cl ⟨hi.1, by omega⟩] at hP1
  refine Eq.mp (congrArg (fun f => va_P _ vwCl ((wl NN _ _).set a (_, .inl (_, n, .inl f))) H1) ?_) hP1
  funext j
  by_cases hj : j = i.toNat
  · simp [upd, hj]
  · simp [upd, hj]

theorem v_zast (G : Cok l D cA r Rm Γ cc own Ts mL) {a : Nat} {i : Int} (ht : kd a = 20) (hi : 0 ≤ i ∧ i < 2) (d : decode cc pc = .ok (.bastore, 1)) (kk : V Γ (zup z a i.toNat 1) kc ks lv (pc + 1) st) : V Γ z kc ks lv pc (.int (iN 1) :: .int (iN i) :: .ref (r a) :: st) := by
  obtain ⟨p, l', e, R, s, m, args, below, meth, c, Q, A, D', cA', nL, r'⟩ := Γ
  obtain ⟨⟨rfl, rfl, rfl, rfl, rfl, rfl⟩, ⟨hx, hb, hml, hown, hts⟩, hK, hN, hr, hA⟩ := G
  intro H locs ls hP hS hL
  refine va_zast hx hb hK hP (wl_D hr hA) hS a 1 (f := fun j => iN (z a j)) (n := 2) ((wl_at (kd_lt ht (by decide))).trans (by rw [Ez, ht]; rfl)) rfl (iN_in (n := 2) hi (by decide)) d (fun H1 locs1 hP1 _ hS1 => kk H1 locs1 ls ?_ hS1 hL)
  rw [wz, ← Ez_up ht rfl, ← wl_set (kd_lt ht (by decide))]
  rw [iN_cl ⟨hi.1, by omega⟩, show vp_nar .boolean (iN 1) = iN 1 from by decide] at hP1
  refine Eq.mp (congrArg (fun f => va_P _ vwCl ((wl NN _ _).set a (_, .inl (_, 2, .inl f))) H1) ?_) hP1
  funext j
  by_cases hj : j = i.toNat
  · simp [upd, hj]
  · simp [upd, hj]

theorem v_aastS (G : Cok l D cA r Rm Γ cc own Ts mL) {a b K n : Nat} {i : Int} (ht : kd a = K) (hK0 : K ≠ 0) (hcl : ∀ f : Nat → Int, cl K r cA a f = .inl (cA 4, n, .inr (.inr (.inr (.inr (fun j => some (r (f j).toNat))))))) (hn : n < 2147483648) (hb2 : kd b = 2) (hi : 0 ≤ i ∧ i < (n : Int)) (d : decode cc pc = .ok (.aastore, 1)) (kk : V Γ (zup z a i.toNat (b : Int)) kc ks lv (pc + 1) st) : V Γ z kc ks lv pc (.ref (r b) :: .int (iN i) :: .ref (r a) :: st) := by
  obtain ⟨p, l', e, R, s, m, args, below, meth, c, Q, A, D', cA', nL, r'⟩ := Γ
  obtain ⟨⟨rfl, rfl, rfl, rfl, rfl, rfl⟩, ⟨hx, hb, hml, hown, hts⟩, hK, hN, hr, hA⟩ := G
  intro H locs ls hP hS hL
  refine va_astq hx hb hK hP (wl_D hr hA) hS a 4 b 2 (f := fun j => some (r' (z a j).toNat)) (r := (RX2, TX2, 9)) ((wl_at (kd_lt ht hK0)).trans (by rw [Ez, ht, hcl])) rfl ((wl_at (kd_lt hb2 (by decide))).trans (by rw [Ez, hb2]; rfl)) rfl (iN_in hi hn) d (fun H1 locs1 hP1 _ hS1 => kk H1 locs1 ls ?_ hS1 hL)
  rw [wz, ← Ez_up ht (hcl _), ← wl_set (kd_lt ht hK0)]
  rw [iN_cl ⟨hi.1, by omega⟩] at hP1
  refine Eq.mp (congrArg (fun f => va_P _ vwCl ((wl NN _ _).set a (_, .inl (_, n, .inr (.inr (.inr (.inr f)))))) H1) ?_) hP1
  funext j
  by_cases hj : j = i.toNat
  · simp [va_up, hj]
  · simp [va_up, hj]

theorem v_alen (G : Cok l D cA r Rm Γ cc own Ts mL) {K a n : Nat} {x : vp_A} (ht : kd a = K) (hK0 : K ≠ 0) (hcl : cl K r cA a (z a) = .inl (cA 0, x)) (hx2 : x.1 = n) (d : decode cc pc = .ok (.arraylength, 1)) (kk : V Γ z kc ks lv (pc + 1) (.int (iN (n : Int)) :: st)) : V Γ z kc ks lv pc (.ref (r a) :: st) := by
  obtain ⟨p, l', e, R, s, m, args, below, meth, c, Q, A, D', cA', nL, r'⟩ := Γ
  obtain ⟨⟨rfl, rfl, rfl, rfl, rfl, rfl⟩, ⟨hx, hb, hml, hown, hts⟩, hK, hN, hr, hA⟩ := G
  intro H locs ls hP hS hL
  exact va_alen hx hb hK hP a 0 (x := x) ((wl_at (kd_lt ht hK0)).trans (by rw [Ez, ht, hcl])) rfl (by rw [hx2]; exact (iN_nI n).symm) d (kk H locs ls hP hS hL)

theorem v_sub (G : Cok l D cA r Rm Γ cc own Ts mL) (lv' : List (Nat × Value)) (js : List Nat) (hl : lv_pick lv js = lv') (kk : V Γ z kc ks lv' pc st) : V Γ z kc ks lv pc st := by
  obtain ⟨p, l', e, R, s, m, args, below, meth, c, Q, A, D', cA', nL, r'⟩ := Γ
  obtain ⟨⟨rfl, rfl, rfl, rfl, rfl, rfl⟩, ⟨hx, hb, hml, hown, hts⟩, hK, hN, hr, hA⟩ := G
  intro H locs ls hP hS hL
  exact kk H locs ls hP hS (lv_sub hL js hl)

end VR
end
section
/-! contracts of methods that neither throw nor make anything -/
def rmz (fr lo : Nat) : Room := { frames := fr, cells := 0, slots := 0, locals := lo }
def Bz (D : va_G) (cA : Nat → ClassId) (r : Nat → Nat) (z : Zt) (t : State) : Prop := va_P D vwCl (wz r cA z) t.heap ∧ va_K D vwCl (tysOf cA) t
def Pz (D : va_G) (cA : Nat → ClassId) (r : Nat → Nat) (z : Zt) (As : List Value) : Array Value → State → Prop := va_Pc As (fun U => Bz D cA r z U ∧ NwK U)
def Qi (D : va_G) (cA : Nat → ClassId) (r : Nat → Nat) (post : Int → Zt → Prop) : Array Value → State → Outcome → State → Prop := va_Qi (S := Zt) (fun x z' => ∃ i : Int, x = iN i ∧ post i z') (fun z' t => Bz D cA r z' t) (rng r)
def Qv (D : va_G) (cA : Nat → ClassId) (r : Nat → Nat) (post : Zt → Prop) : Array Value → State → Outcome → State → Prop := va_Qv (S := Zt) post (fun z' t => Bz D cA r z' t) (rng r)
def Qr (D : va_G) (cA : Nat → ClassId) (r : Nat → Nat) (post : Nat → Zt → Prop) : Array Value → State → Outcome → State → Prop := va_Qr (S := Zt × Nat) (fun u => post u.2 u.1) (fun u a t => a = r u.2 ∧ Bz D cA r u.1 t) (rng r)
def Ki (l : Launch) (D : va_G) (cA : Nat → ClassId) (r : Nat → Nat) (y : MethodName) (ws : List Cond) (fr lo : Nat) (z : Zt) (As : List Value) (post : Int → Zt → Prop) : Prop := Met l y ws (rmz fr lo) (Pz D cA r z As) (Qi D cA r post) 0 0 (rng r)
def Kv (l : Launch) (D : va_G) (cA : Nat → ClassId) (r : Nat → Nat) (y : MethodName) (ws : List Cond) (fr lo : Nat) (z : Zt) (As : List Value) (post : Zt → Prop) : Prop := Met l y ws (rmz fr lo) (Pz D cA r z As) (Qv D cA r post) 0 0 (rng r)
def Kr (l : Launch) (D : va_G) (cA : Nat → ClassId) (r : Nat → Nat) (y : MethodName) (ws : List Cond) (fr lo : Nat) (z : Zt) (As : List Value) (post : Nat → Zt → Prop) : Prop := Met l y ws (rmz fr lo) (Pz D cA r z As) (Qr D cA r post) 0 0 (rng r)
/-- what a body owes at its end: Qc is one of Qi, Qv, Qr -/
def Rt (r : Nat → Nat) (Qc : Array Value → State → Outcome → State → Prop) (ret : Option FieldType) (Γ : Cx) : Prop :=
  match Γ with
  | (_, _, _, _, s, _, args, below, meth, _, Q, A, _, _, _, _) => Q = MQ below Qc args s 0 0 (rng r) ∧ A = rng r ∧ meth.sig.returnType = ret ∧ meth.locks = false
theorem Pz_blind {D : va_G} {cA : Nat → ClassId} {r : Nat → Nat} {z : Zt} {As : List Value} : FrameBlind (Pz D cA r z As) := fun a U g mk q => ⟨q.1, ⟨q.2.1.1, va_K.moved (u := U) (U := U.calling g mk a) (Vm.Alike.refl U.vm) q.2.1.2⟩, NwK.same (u := U) (U := U.calling g mk a) rfl q.2.2⟩
section VC
variable {l : Launch} {D : va_G} {cA : Nat → ClassId} {r : Nat → Nat} {Rm : Room} {Γ : Cx} {cc : ByteArray} {own : String} {Ts : List Cond} {mL : Nat} {z : Zt} {kc ks : Nat} {lv : List (Nat × Value)} {pc : Nat} {st : List Value}

theorem v_iret (G : Cok l D cA r Rm Γ cc own Ts mL) {post : Int → Zt → Prop} (hR : Rt r (Qi D cA r post) (some .int) Γ) {x : Int} (d : decode cc pc = .ok (.ireturn, 1)) (hp : post x z) : V Γ z 0 0 lv pc [.int (iN x)] := by
  obtain ⟨p, l', e, R, s, m, args, below, meth, c, Q, A, D', cA', nL, r'⟩ := Γ
  obtain ⟨⟨rfl, rfl, rfl, rfl, rfl, rfl⟩, ⟨hx, hb, hml, hown, hts⟩, hK, hN, hr, hA⟩ := G
  obtain ⟨rfl, rfl, hret, hlk⟩ := hR
  intro H locs ls hP hS hL
  exact W.iret (v := iN x) hx hb hret (fun t ht hW => ⟨⟨iN x, z, rfl, ⟨x, rfl, hp⟩, by rw [ht]; exact hP, va_K.moved hW.alike hK⟩, hS.F ht⟩) hS.2.2 d hlk
theorem nar01 {x : Int} (h : x = 0 ∨ x = 1) : narrow .boolean (.int (iN x)) = .int (iN x) := by
  rcases h with rfl | rfl <;> decide
theorem v_zret (G : Cok l D cA r Rm Γ cc own Ts mL) {post : Int → Zt → Prop} (hR : Rt r (Qi D cA r post) (some .boolean) Γ) {x : Int} (h01 : x = 0 ∨ x = 1) (d : decode cc pc = .ok (.ireturn, 1)) (hp : post x z) : V Γ z 0 0 lv pc [.int (iN x)] := by
  obtain ⟨p, l', e, R, s, m, args, below, meth, c, Q, A, D', cA', nL, r'⟩ := Γ
  obtain ⟨⟨rfl, rfl, rfl, rfl, rfl, rfl⟩, ⟨hx, hb, hml, hown, hts⟩, hK, hN, hr, hA⟩ := G
  obtain ⟨rfl, rfl, hret, hlk⟩ := hR
  intro H locs ls hP hS hL
  exact W.zret (v := iN x) hx hb hret (nar01 h01) (fun t ht hW => ⟨⟨iN x, z, rfl, ⟨x, rfl, hp⟩, by rw [ht]; exact hP, va_K.moved hW.alike hK⟩, hS.F ht⟩) hS.2.2 d hlk
theorem v_vret (G : Cok l D cA r Rm Γ cc own Ts mL) {post : Zt → Prop} (hR : Rt r (Qv D cA r post) none Γ) (d : decode cc pc = .ok (.return_, 1)) (hp : post z) : V Γ z 0 0 lv pc [] := by
  obtain ⟨p, l', e, R, s, m, args, below, meth, c, Q, A, D', cA', nL, r'⟩ := Γ
  obtain ⟨⟨rfl, rfl, rfl, rfl, rfl, rfl⟩, ⟨hx, hb, hml, hown, hts⟩, hK, hN, hr, hA⟩ := G
  obtain ⟨rfl, rfl, hret, hlk⟩ := hR
  intro H locs ls hP hS hL
  exact W.vret hx hb hret (fun t ht hW => ⟨⟨z, rfl, hp, by rw [ht]; exact hP, va_K.moved hW.alike hK⟩, hS.F ht⟩) hS.2.2 d hlk
theorem v_aret (G : Cok l D cA r Rm Γ cc own Ts mL) {post : Nat → Zt → Prop} {C : String} (hR : Rt r (Qr D cA r post) (some (.object C)) Γ) {t : Nat} (d : decode cc pc = .ok (.areturn, 1)) (hp : post t z) : V Γ z 0 0 lv pc [.ref (r t)] := by
  obtain ⟨p, l', e, R, s, m, args, below, meth, c, Q, A, D', cA', nL, r'⟩ := Γ
  obtain ⟨⟨rfl, rfl, rfl, rfl, rfl, rfl⟩, ⟨hx, hb, hml, hown, hts⟩, hK, hN, hr, hA⟩ := G
  obtain ⟨rfl, rfl, hret, hlk⟩ := hR
  intro H locs ls hP hS hL
  exact W.aret (v := .ref (r' t)) hx hb hret (Or.inl ⟨C, rfl⟩) (Or.inr ⟨_, rfl⟩) (fun u hu hW => ⟨⟨(z, t), r' t, rfl, hp, rfl, by rw [hu]; exact hP, va_K.moved hW.alike hK⟩, hS.F hu⟩) hS.2.2 d hlk

theorem Ki_of {y : MethodName} {ws ws' : List Cond} {fr lo maxL : Nat} {As : List Value} {post : Int → Zt → Prop} {ty : FieldType} (lv : List (Nat × Value)) (hr : Inj r) (hy : plainName y.cls = true) (hw : ws = Cond.code y cc maxL (some ty) :: ws') (hown : y.cls = own) (hlv : (lg_sl As).length ≤ maxL) (hlq : lv_args 0 As = lv)
    (body : ∀ Γ : Cx, Cok l D cA r (rmz fr lo) Γ cc own ws maxL → Rt r (Qi D cA r post) (some ty) Γ → V Γ z 0 0 lv 0 []) : Ki l D cA r y ws fr lo z As post := by
  refine Met.ofW (cc := cc) (maxL := maxL) (ret := (some ty)) hy hw ?_
  intro p e s m args below meth c s₁ B hml hv
  obtain ⟨rfl, ⟨hP, hK⟩, hN⟩ := hv
  have hts := atoms_spec (ws := ws) B.pre
  have hown2 : s.vm.findClass own = some m.cls := hown ▸ findClass_of_methodNamed B.named
  have h := body (p, l, e, rmz fr lo, s, m, As.toArray, below, meth, c, MQ below (Qi D cA r post) As.toArray s 0 0 (rng r), rng r, D, cA, maxL, r) ⟨⟨rfl, rfl, rfl, rfl, rfl, rfl⟩, ⟨B.exec, B.bytes, hml, hown2, hts⟩, hK, hN, hr, fun i hi => ⟨i, hi, rfl⟩⟩ ⟨rfl, rfl, B.returns, B.notSynchronized⟩
  have hl := lv_entry As (n := maxL) hlv
  rw [lg_entry_eq]
  rw [hlq] at hl
  exact h s.heap [] _ hP va_S.rf hl

theorem Kv_of {y : MethodName} {ws ws' : List Cond} {fr lo maxL : Nat} {As : List Value} {post : Zt → Prop} (lv : List (Nat × Value)) (hr : Inj r) (hy : plainName y.cls = true) (hw : ws = Cond.code y cc maxL none :: ws') (hown : y.cls = own) (hlv : (lg_sl As).length ≤ maxL) (hlq : lv_args 0 As = lv)
    (body : ∀ Γ : Cx, Cok l D cA r (rmz fr lo) Γ cc own ws maxL → Rt r (Qv D cA r post) none Γ → V Γ z 0 0 lv 0 []) : Kv l D cA r y ws fr lo z As post := by
  refine Met.ofW (cc := cc) (maxL := maxL) (ret := none) hy hw ?_
  intro p e s m args below meth c s₁ B hml hv
  obtain ⟨rfl, ⟨hP, hK⟩, hN⟩ := hv
  have hts := atoms_spec (ws := ws) B.pre
  have hown2 : s.vm.findClass own = some m.cls := hown ▸ findClass_of_methodNamed B.named
  have h := body (p, l, e, rmz fr lo, s, m, As.toArray, below, meth, c, MQ below (Qv D cA r post) As.toArray s 0 0 (rng r), rng r, D, cA, maxL, r) ⟨⟨rfl, rfl, rfl, rfl, rfl, rfl⟩, ⟨B.exec, B.bytes, hml, hown2, hts⟩, hK, hN, hr, fun i hi => ⟨i, hi, rfl⟩⟩ ⟨rfl, rfl, B.returns, B.notSynchronized⟩
  have hl := lv_entry As (n := maxL) hlv
  rw [lg_entry_eq]
  rw [hlq] at hl
  exact h s.heap [] _ hP va_S.rf hl

theorem Kr_of {y : MethodName} {ws ws' : List Cond} {fr lo maxL : Nat} {As : List Value} {post : Nat → Zt → Prop} {ty : FieldType} (lv : List (Nat × Value)) (hr : Inj r) (hy : plainName y.cls = true) (hw : ws = Cond.code y cc maxL (some ty) :: ws') (hown : y.cls = own) (hlv : (lg_sl As).length ≤ maxL) (hlq : lv_args 0 As = lv)
    (body : ∀ Γ : Cx, Cok l D cA r (rmz fr lo) Γ cc own ws maxL → Rt r (Qr D cA r post) (some ty) Γ → V Γ z 0 0 lv 0 []) : Kr l D cA r y ws fr lo z As post := by
  refine Met.ofW (cc := cc) (maxL := maxL) (ret := (some ty)) hy hw ?_
  intro p e s m args below meth c s₁ B hml hv
  obtain ⟨rfl, ⟨hP, hK⟩, hN⟩ := hv
  have hts := atoms_spec (ws := ws) B.pre
  have hown2 : s.vm.findClass own = some m.cls := hown ▸ findClass_of_methodNamed B.named
  have h := body (p, l, e, rmz fr lo, s, m, As.toArray, below, meth, c, MQ below (Qr D cA r post) As.toArray s 0 0 (rng r), rng r, D, cA, maxL, r) ⟨⟨rfl, rfl, rfl, rfl, rfl, rfl⟩, ⟨B.exec, B.bytes, hml, hown2, hts⟩, hK, hN, hr, fun i hi => ⟨i, hi, rfl⟩⟩ ⟨rfl, rfl, B.returns, B.notSynchronized⟩
  have hl := lv_entry As (n := maxL) hlv
  rw [lg_entry_eq]
  rw [hlq] at hl
  exact h s.heap [] _ hP va_S.rf hl

theorem v_callVi (G : Cok l D cA r Rm Γ cc own Ts mL) {C : String} {T0 : u_T} {N0 ci K t index maxL fr lo n : Nat} {y : MethodName} {ws ws' : List Cond} {bytes : ByteArray} {ty : FieldType} {fs As stk : List Value} {post : Int → Zt → Prop} (hM : Ki l D cA r y ws fr lo z (.ref (r t) :: As) post) (hcw : GoodIn Ts (wsV own index C y ws)) (hw : ws = Cond.code y bytes maxL (some ty) :: ws')
    (hy : y.cls = C ∧ y.cls ≠ "java/lang/invoke/MethodHandle" ∧ y.cls ≠ "java/lang/invoke/VarHandle" ∧ (parseMethodDescriptor y.desc).map (fun d => d.parameters.length) = some n) (hn : As.length = n) (hRR : fr + 1 ≤ Rm.frames ∧ 8 + (maxL + 11) + lo ≤ Rm.locals) (ht : kd t = K) (hK0 : K ≠ 0) (hcl : cl K r cA t (z t) = .inr (ci, fs)) (hc : vwCl[ci]? = some (C, T0, N0)) (d : decode cc pc = .ok (.invokevirtual index, 3)) (hstk : stk = As.reverse ++ .ref (r t) :: st) (hst : (st.map fun v => v.category).sum ≤ 8) (hkc : kc ≤ Rm.cells ∧ ks ≤ Rm.slots)
    (kk : ∀ (x : Int) (z1 : Zt), post x z1 → V Γ z1 kc ks lv (pc + 3) (.int (iN x) :: st)) : V Γ z kc ks lv pc stk := by
  subst hstk
  obtain ⟨p, l', e, R, s, m, args, below, meth, c, Q, A, D', cA', nL, r'⟩ := Γ
  obtain ⟨⟨rfl, rfl, rfl, rfl, rfl, rfl⟩, ⟨hx, hb, hml, hown, hts⟩, hK, hN, hr, hA⟩ := G
  intro H locs ls hP hS hL
  refine va_calli (va_runV (As := As) (rest := st) ⟨hx, hb, hml, hown, hts⟩ hM (cwV n hts hcw hw rfl rfl hy hRR) ⟨Pz_blind, va_recv hK hP (ci := ci) (q0 := t) hc ((wl_at (kd_lt ht hK0)).trans (by rw [Ez, ht, hcl])), fun U hU hW => ⟨rfl, ⟨by rw [hU]; exact hP, va_K.moved hW.alike hK⟩, NwK.warm hW hN⟩⟩ rfl hn hL.1 rfl (lv_room hst) d hkc) hS ?_ ?_ ?_
  · intro q _ h
    obtain ⟨i, hi, rfl⟩ := h
    exact hA i hi
  · intro q h
    obtain ⟨i, hi, rfl⟩ := h
    exact hA i hi
  · intro x u t1 H1 locs1 e1 hvm hw1 hB _ _ hS1
    obtain ⟨i, rfl, hp⟩ := hw1
    exact kk i u hp H1 locs1 ls (e1 ▸ hB.1) hS1 hL

theorem v_callSi (G : Cok l D cA r Rm Γ cc own Ts mL) {index maxL fr lo n : Nat} {y : MethodName} {ws ws' : List Cond} {bytes : ByteArray} {ty : FieldType} {As stk : List Value} {post : Int → Zt → Prop} (hM : Ki l D cA r y ws fr lo z As post) (hcw : GoodIn Ts (va_wsS own index y ws)) (hw : ws = Cond.code y bytes maxL (some ty) :: ws')
    (hy : y.cls ≠ "java/lang/invoke/MethodHandle" ∧ y.cls ≠ "java/lang/invoke/VarHandle" ∧ (parseMethodDescriptor y.desc).map (fun d => d.parameters.length) = some n) (hn : As.length = n) (hRR : fr + 1 ≤ Rm.frames ∧ 8 + (maxL + 11) + lo ≤ Rm.locals) (d : decode cc pc = .ok (.invokestatic index, 3)) (hstk : stk = As.reverse ++ st) (hst : (st.map fun v => v.category).sum ≤ 8) (hkc : kc ≤ Rm.cells ∧ ks ≤ Rm.slots)
    (kk : ∀ (x : Int) (z1 : Zt), post x z1 → V Γ z1 kc ks lv (pc + 3) (.int (iN x) :: st)) : V Γ z kc ks lv pc stk := by
  subst hstk
  obtain ⟨p, l', e, R, s, m, args, below, meth, c, Q, A, D', cA', nL, r'⟩ := Γ
  obtain ⟨⟨rfl, rfl, rfl, rfl, rfl, rfl⟩, ⟨hx, hb, hml, hown, hts⟩, hK, hN, hr, hA⟩ := G
  intro H locs ls hP hS hL
  refine va_calli (va_runS (As := As) (rest := st) ⟨hx, hb, hml, hown, hts⟩ hM (va_cwS n hts hcw hw rfl rfl hy hRR) ⟨Pz_blind, fun U hU hW => ⟨rfl, ⟨by rw [hU]; exact hP, va_K.moved hW.alike hK⟩, NwK.warm hW hN⟩⟩ rfl hn hL.1 rfl (lv_room hst) d hkc) hS ?_ ?_ ?_
  · intro q _ h
    obtain ⟨i, hi, rfl⟩ := h
    exact hA i hi
  · intro q h
    obtain ⟨i, hi, rfl⟩ := h
    exact hA i hi
  · intro x u t1 H1 locs1 e1 hvm hw1 hB _ _ hS1
    obtain ⟨i, rfl, hp⟩ := hw1
    exact kk i u hp H1 locs1 ls (e1 ▸ hB.1) hS1 hL

theorem v_callVv (G : Cok l D cA r Rm Γ cc own Ts mL) {C : String} {T0 : u_T} {N0 ci K t index maxL fr lo n : Nat} {y : MethodName} {ws ws' : List Cond} {bytes : ByteArray} {fs As stk : List Value} {post : Zt → Prop} (hM : Kv l D cA r y ws fr lo z (.ref (r t) :: As) post) (hcw : GoodIn Ts (wsV own index C y ws)) (hw : ws = Cond.code y bytes maxL none :: ws')
    (hy : y.cls = C ∧ y.cls ≠ "java/lang/invoke/MethodHandle" ∧ y.cls ≠ "java/lang/invoke/VarHandle" ∧ (parseMethodDescriptor y.desc).map (fun d => d.parameters.length) = some n) (hn : As.length = n) (hRR : fr + 1 ≤ Rm.frames ∧ 8 + (maxL + 11) + lo ≤ Rm.locals) (ht : kd t = K) (hK0 : K ≠ 0) (hcl : cl K r cA t (z t) = .inr (ci, fs)) (hc : vwCl[ci]? = some (C, T0, N0)) (d : decode cc pc = .ok (.invokevirtual index, 3)) (hstk : stk = As.reverse ++ .ref (r t) :: st) (hst : (st.map fun v => v.category).sum ≤ 8) (hkc : kc ≤ Rm.cells ∧ ks ≤ Rm.slots)
    (kk : ∀ (z1 : Zt), post z1 → V Γ z1 kc ks lv (pc + 3) st) : V Γ z kc ks lv pc stk := by
  subst hstk
  obtain ⟨p, l', e, R, s, m, args, below, meth, c, Q, A, D', cA', nL, r'⟩ := Γ
  obtain ⟨⟨rfl, rfl, rfl, rfl, rfl, rfl⟩, ⟨hx, hb, hml, hown, hts⟩, hK, hN, hr, hA⟩ := G
  intro H locs ls hP hS hL
  refine va_callv (va_runV (As := As) (rest := st) ⟨hx, hb, hml, hown, hts⟩ hM (cwV n hts hcw hw rfl rfl hy hRR) ⟨Pz_blind, va_recv hK hP (ci := ci) (q0 := t) hc ((wl_at (kd_lt ht hK0)).trans (by rw [Ez, ht, hcl])), fun U hU hW => ⟨rfl, ⟨by rw [hU]; exact hP, va_K.moved hW.alike hK⟩, NwK.warm hW hN⟩⟩ rfl hn hL.1 rfl (lv_room hst) d hkc) hS ?_ ?_ ?_
  · intro q _ h
    obtain ⟨i, hi, rfl⟩ := h
    exact hA i hi
  · intro q h
    obtain ⟨i, hi, rfl⟩ := h
    exact hA i hi
  · intro u t1 H1 locs1 e1 hvm hw1 hB _ _ hS1
    exact kk u hw1 H1 locs1 ls (e1 ▸ hB.1) hS1 hL

theorem v_callSv (G : Cok l D cA r Rm Γ cc own Ts mL) {index maxL fr lo n : Nat} {y : MethodName} {ws ws' : List Cond} {bytes : ByteArray} {As stk : List Value} {post : Zt → Prop} (hM : Kv l D cA r y ws fr lo z As post) (hcw : GoodIn Ts (va_wsS own index y ws)) (hw : ws = Cond.code y bytes maxL none :: ws')
    (hy : y.cls ≠ "java/lang/invoke/MethodHandle" ∧ y.cls ≠ "java/lang/invoke/VarHandle" ∧ (parseMethodDescriptor y.desc).map (fun d => d.parameters.length) = some n) (hn : As.length = n) (hRR : fr + 1 ≤ Rm.frames ∧ 8 + (maxL + 11) + lo ≤ Rm.locals) (d : decode cc pc = .ok (.invokestatic index, 3)) (hstk : stk = As.reverse ++ st) (hst : (st.map fun v => v.category).sum ≤ 8) (hkc : kc ≤ Rm.cells ∧ ks ≤ Rm.slots)
    (kk : ∀ (z1 : Zt), post z1 → V Γ z1 kc ks lv (pc + 3) st) : V Γ z kc ks lv pc stk := by
  subst hstk
  obtain ⟨p, l', e, R, s, m, args, below, meth, c, Q, A, D', cA', nL, r'⟩ := Γ
  obtain ⟨⟨rfl, rfl, rfl, rfl, rfl, rfl⟩, ⟨hx, hb, hml, hown, hts⟩, hK, hN, hr, hA⟩ := G
  intro H locs ls hP hS hL
  refine va_callv (va_runS (As := As) (rest := st) ⟨hx, hb, hml, hown, hts⟩ hM (va_cwS n hts hcw hw rfl rfl hy hRR) ⟨Pz_blind, fun U hU hW => ⟨rfl, ⟨by rw [hU]; exact hP, va_K.moved hW.alike hK⟩, NwK.warm hW hN⟩⟩ rfl hn hL.1 rfl (lv_room hst) d hkc) hS ?_ ?_ ?_
  · intro q _ h
    obtain ⟨i, hi, rfl⟩ := h
    exact hA i hi
  · intro q h
    obtain ⟨i, hi, rfl⟩ := h
    exact hA i hi
  · intro u t1 H1 locs1 e1 hvm hw1 hB _ _ hS1
    exact kk u hw1 H1 locs1 ls (e1 ▸ hB.1) hS1 hL

theorem v_callVr (G : Cok l D cA r Rm Γ cc own Ts mL) {C : String} {T0 : u_T} {N0 ci K t index maxL fr lo n : Nat} {y : MethodName} {ws ws' : List Cond} {bytes : ByteArray} {ty : FieldType} {fs As stk : List Value} {post : Nat → Zt → Prop} (hM : Kr l D cA r y ws fr lo z (.ref (r t) :: As) post) (hcw : GoodIn Ts (wsV own index C y ws)) (hw : ws = Cond.code y bytes maxL (some ty) :: ws')
    (hy : y.cls = C ∧ y.cls ≠ "java/lang/invoke/MethodHandle" ∧ y.cls ≠ "java/lang/invoke/VarHandle" ∧ (parseMethodDescriptor y.desc).map (fun d => d.parameters.length) = some n) (hn : As.length = n) (hRR : fr + 1 ≤ Rm.frames ∧ 8 + (maxL + 11) + lo ≤ Rm.locals) (ht : kd t = K) (hK0 : K ≠ 0) (hcl : cl K r cA t (z t) = .inr (ci, fs)) (hc : vwCl[ci]? = some (C, T0, N0)) (d : decode cc pc = .ok (.invokevirtual index, 3)) (hstk : stk = As.reverse ++ .ref (r t) :: st) (hst : (st.map fun v => v.category).sum ≤ 8) (hkc : kc ≤ Rm.cells ∧ ks ≤ Rm.slots)
    (kk : ∀ (t1 : Nat) (z1 : Zt), post t1 z1 → V Γ z1 kc ks lv (pc + 3) (.ref (r t1) :: st)) : V Γ z kc ks lv pc stk := by
  subst hstk
  obtain ⟨p, l', e, R, s, m, args, below, meth, c, Q, A, D', cA', nL, r'⟩ := Γ
  obtain ⟨⟨rfl, rfl, rfl, rfl, rfl, rfl⟩, ⟨hx, hb, hml, hown, hts⟩, hK, hN, hr, hA⟩ := G
  intro H locs ls hP hS hL
  refine va_callr (va_runV (As := As) (rest := st) ⟨hx, hb, hml, hown, hts⟩ hM (cwV n hts hcw hw rfl rfl hy hRR) ⟨Pz_blind, va_recv hK hP (ci := ci) (q0 := t) hc ((wl_at (kd_lt ht hK0)).trans (by rw [Ez, ht, hcl])), fun U hU hW => ⟨rfl, ⟨by rw [hU]; exact hP, va_K.moved hW.alike hK⟩, NwK.warm hW hN⟩⟩ rfl hn hL.1 rfl (lv_room hst) d hkc) hS ?_ ?_ ?_
  · intro q _ h
    obtain ⟨i, hi, rfl⟩ := h
    exact hA i hi
  · intro q h
    obtain ⟨i, hi, rfl⟩ := h
    exact hA i hi
  · intro u ra t1 H1 locs1 e1 hvm hw1 hB _ _ hS1
    obtain ⟨rfl, hB⟩ := hB
    exact kk u.2 u.1 hw1 H1 locs1 ls (e1 ▸ hB.1) hS1 hL

theorem v_callSr (G : Cok l D cA r Rm Γ cc own Ts mL) {index maxL fr lo n : Nat} {y : MethodName} {ws ws' : List Cond} {bytes : ByteArray} {ty : FieldType} {As stk : List Value} {post : Nat → Zt → Prop} (hM : Kr l D cA r y ws fr lo z As post) (hcw : GoodIn Ts (va_wsS own index y ws)) (hw : ws = Cond.code y bytes maxL (some ty) :: ws')
    (hy : y.cls ≠ "java/lang/invoke/MethodHandle" ∧ y.cls ≠ "java/lang/invoke/VarHandle" ∧ (parseMethodDescriptor y.desc).map (fun d => d.parameters.length) = some n) (hn : As.length = n) (hRR : fr + 1 ≤ Rm.frames ∧ 8 + (maxL + 11) + lo ≤ Rm.locals) (d : decode cc pc = .ok (.invokestatic index, 3)) (hstk : stk = As.reverse ++ st) (hst : (st.map fun v => v.category).sum ≤ 8) (hkc : kc ≤ Rm.cells ∧ ks ≤ Rm.slots)
    (kk : ∀ (t1 : Nat) (z1 : Zt), post t1 z1 → V Γ z1 kc ks lv (pc + 3) (.ref (r t1) :: st)) : V Γ z kc ks lv pc stk := by
  subst hstk
  obtain ⟨p, l', e, R, s, m, args, below, meth, c, Q, A, D', cA', nL, r'⟩ := Γ
  obtain ⟨⟨rfl, rfl, rfl, rfl, rfl, rfl⟩, ⟨hx, hb, hml, hown, hts⟩, hK, hN, hr, hA⟩ := G
  intro H locs ls hP hS hL
  refine va_callr (va_runS (As := As) (rest := st) ⟨hx, hb, hml, hown, hts⟩ hM (va_cwS n hts hcw hw rfl rfl hy hRR) ⟨Pz_blind, fun U hU hW => ⟨rfl, ⟨by rw [hU]; exact hP, va_K.moved hW.alike hK⟩, NwK.warm hW hN⟩⟩ rfl hn hL.1 rfl (lv_room hst) d hkc) hS ?_ ?_ ?_
  · intro q _ h
    obtain ⟨i, hi, rfl⟩ := h
    exact hA i hi
  · intro q h
    obtain ⟨i, hi, rfl⟩ := h
    exact hA i hi
  · intro u ra t1 H1 locs1 e1 hvm hw1 hB _ _ hS1
    obtain ⟨rfl, hB⟩ := hB
    exact kk u.2 u.1 hw1 H1 locs1 ls (e1 ▸ hB.1) hS1 hL

theorem v_mmax (G : Cok l D cA r Rm Γ cc own Ts mL) {index : Nat} {x y : Int} (h1 : Cond.methodLink own index Lib.Math.max.name ∈ Ts) (h2 : Cond.static Lib.Math.max.name ∈ Ts) (h3 : Cond.initialized "java/lang/Math" ∈ Ts) (h4 : Cond.code Lib.Math.max.name Lib.Math.max.code 2 (some .int) ∈ Ts) (hxx : -2147483648 ≤ x ∧ x < 2147483648) (hyy : -2147483648 ≤ y ∧ y < 2147483648) (hf : 1 ≤ Rm.frames) (hlo : (st.map fun v => v.category).sum + 13 ≤ Rm.locals) (hkc : kc ≤ Rm.cells ∧ ks ≤ Rm.slots) (d : decode cc pc = .ok (.invokestatic index, 3)) (kk : V Γ z kc ks lv (pc + 3) (.int (iN (if x < y then y else x)) :: st)) : V Γ z kc ks lv pc (.int (iN y) :: .int (iN x) :: st) := by
  obtain ⟨p, l', e, R, s, m, args, below, meth, c, Q, A, D', cA', nL, r'⟩ := Γ
  obtain ⟨⟨rfl, rfl, rfl, rfl, rfl, rfl⟩, ⟨hx, hb, hml, hown, hts⟩, hK, hN, hr, hA⟩ := G
  intro H locs ls hP hS hL
  refine va_mmax hx hb (hml.trans hL.1.symm) hown (hts _ h1) (hts _ h2) (hts _ h3) (hts _ h4) hf hlo hkc.1 hkc.2 d ?_
  have e : (if iN x < iN y then iN y else iN x) = iN (if x < y then y else x) := by
    by_cases q : x < y
    · rw [if_pos q, if_pos ((iN_lt hxx hyy).mpr q)]
    · rw [if_neg q, if_neg (fun q2 => q ((iN_lt hxx hyy).mp q2))]
  rw [e]
  exact kk H locs ls hP hS hL

end VC
/-! which kind lies where -/
theorem kd_all {P : Nat → Nat → Bool} (h : (List.range 177).all (fun i => P i (kd i)) = true) {i K : Nat} (hi : kd i = K) (hK : K ≠ 0) : P i K = true := by
  have h1 := List.all_eq_true.mp h i (List.mem_range.mpr (kd_lt hi hK))
  rw [hi] at h1
  exact h1
theorem kS_A {t : Nat} (h : kd t = 2) : kd (t + 1) = 3 := by
  have := kd_all (P := fun i k => k != 2 || kd (i + 1) == 3) (by decide +kernel) h (by decide)
  simpa using this
theorem kS_B {t : Nat} (h : kd t = 2) : kd (t + 4) = 3 := by
  have := kd_all (P := fun i k => k != 2 || kd (i + 4) == 3) (by decide +kernel) h (by decide)
  simpa using this
theorem kS_F {t : Nat} (h : kd t = 2) : kd (t + 7) = 40 := by
  have := kd_all (P := fun i k => k != 2 || kd (i + 7) == 40) (by decide +kernel) h (by decide)
  simpa using this
theorem kF_f {t k : Nat} (h : kd t = 40) (hk : k < 10) : kd (t + 1 + k) = 4 := by
  have := kd_all (P := fun i k => k != 40 || (List.range 10).all (fun j => kd (i + 1 + j) == 4)) (by decide +kernel) h (by decide)
  have h2 : (List.range 10).all (fun j => kd (t + 1 + j) == 4) = true := by simpa using this
  have h3 := List.all_eq_true.mp h2 k (List.mem_range.mpr hk)
  simpa using h3
theorem kS_f {t k : Nat} (h : kd t = 2) (hk : k < 10) : kd (t + 8 + k) = 4 := by
  have := kF_f (kS_F h) hk
  rw [show t + 8 + k = t + 7 + 1 + k by omega]
  exact this
theorem kT_D {t : Nat} (h : kd t = 3) : kd (t + 1) = 103 := by
  have := kd_all (P := fun i k => k != 3 || kd (i + 1) == 103) (by decide +kernel) h (by decide)
  simpa using this
theorem kT_L {t : Nat} (h : kd t = 3) : kd (t + 2) = 103 := by
  have := kd_all (P := fun i k => k != 3 || kd (i + 2) == 103) (by decide +kernel) h (by decide)
  simpa using this
theorem cl_1 (r : Nat → Nat) (cA : Nat → ClassId) (i : Nat) (f : Nat → Int) : cl 1 r cA i f = .inr (4, [.ref (r 1), .ref (r 19), .int (iN (f 2)), .ref (r 20), .ref (r 21), .ref (r 22), .ref (r 24)]) := rfl
theorem cl_2 (r : Nat → Nat) (cA : Nat → ClassId) (i : Nat) (f : Nat → Int) : cl 2 r cA i f = .inr (2, [.ref (r (i + 1)), .ref (r (i + 4)), .ref (r (i + 7)), .int (iN (f 3)), .int (iN (f 4)), .int (iN (f 5)), .int (iN (f 6)), .int (iN (f 7)), .int (iN (f 8))]) := rfl
theorem cl_3 (r : Nat → Nat) (cA : Nat → ClassId) (i : Nat) (f : Nat → Int) : cl 3 r cA i f = .inr (3, [.int (iN (f 0)), .ref (r (i + 1)), .ref (r (i + 2)), .int (iN (f 3)), .int (iN (f 4))]) := rfl
theorem cl_4 (r : Nat → Nat) (cA : Nat → ClassId) (i : Nat) (f : Nat → Int) : cl 4 r cA i f = .inr (1, [.int (iN (f 0)), .int (iN (f 1)), .int (iN (f 2)), .int (iN (f 3))]) := rfl
theorem cl_5 (r : Nat → Nat) (cA : Nat → ClassId) (i : Nat) (f : Nat → Int) : cl 5 r cA i f = .inr (0, [.ref (r 23), .int (iN (f 1))]) := rfl
theorem cl_6 (r : Nat → Nat) (cA : Nat → ClassId) (i : Nat) (f : Nat → Int) : cl 6 r cA i f = .inr (5, [.ref (r 170), .ref (r 171), .int (iN (f 2)), .ref (r 172), .ref (r 173), .int (iN (f 5)), .ref (r 174), .int (iN (f 7)), .int (iN (f 8)), .ref (r 175)]) := rfl
theorem cl_103 (r : Nat → Nat) (cA : Nat → ClassId) (i : Nat) (f : Nat → Int) : cl 103 r cA i f = .inl (cA 0, 3, .inl (fun j => iN (f j))) := rfl
theorem cl_104 (r : Nat → Nat) (cA : Nat → ClassId) (i : Nat) (f : Nat → Int) : cl 104 r cA i f = .inl (cA 0, 4, .inl (fun j => iN (f j))) := rfl
theorem cl_162 (r : Nat → Nat) (cA : Nat → ClassId) (i : Nat) (f : Nat → Int) : cl 162 r cA i f = .inl (cA 0, 62, .inl (fun j => iN (f j))) := rfl
theorem cl_180 (r : Nat → Nat) (cA : Nat → ClassId) (i : Nat) (f : Nat → Int) : cl 180 r cA i f = .inl (cA 0, 80, .inl (fun j => iN (f j))) := rfl
theorem cl_224 (r : Nat → Nat) (cA : Nat → ClassId) (i : Nat) (f : Nat → Int) : cl 224 r cA i f = .inl (cA 0, 124, .inl (fun j => iN (f j))) := rfl
theorem cl_472 (r : Nat → Nat) (cA : Nat → ClassId) (i : Nat) (f : Nat → Int) : cl 472 r cA i f = .inl (cA 0, 372, .inl (fun j => iN (f j))) := rfl
theorem cl_500 (r : Nat → Nat) (cA : Nat → ClassId) (i : Nat) (f : Nat → Int) : cl 500 r cA i f = .inl (cA 0, 400, .inl (fun j => iN (f j))) := rfl
theorem cl_32 (r : Nat → Nat) (cA : Nat → ClassId) (i : Nat) (f : Nat → Int) : cl 32 r cA i f = .inl (cA 4, 2, .inr (.inr (.inr (.inr (fun j => some (r (f j).toNat)))))) := rfl
theorem cl_36 (r : Nat → Nat) (cA : Nat → ClassId) (i : Nat) (f : Nat → Int) : cl 36 r cA i f = .inl (cA 4, 6, .inr (.inr (.inr (.inr (fun j => some (r (f j).toNat)))))) := rfl
end
section
/-! the calendar of a town, as numbers: a town has n gaps, after the days f 0, f 1 .., of the lengths g 0, g 1 .. -/
theorem k_1 : kd 1 = 2 := by decide
theorem k_19 : kd 19 = 36 := by decide
theorem k_20 : kd 20 = 32 := by decide
theorem k_21 : kd 21 = 20 := by decide
theorem k_22 : kd 22 = 5 := by decide
theorem k_23 : kd 23 = 180 := by decide
theorem k_24 : kd 24 = 500 := by decide
theorem k_0 : kd 0 = 1 := by decide
theorem k_169 : kd 169 = 6 := by decide
theorem k_170 : kd 170 = 162 := by decide
theorem k_171 : kd 171 = 472 := by decide
theorem k_172 : kd 172 = 224 := by decide
theorem k_173 : kd 173 = 20 := by decide
theorem k_174 : kd 174 = 180 := by decide
theorem k_175 : kd 175 = 104 := by decide
theorem k_176 : kd 176 = 50 := by decide
def GI (n : Int) (f g : Nat → Int) : Prop := 0 ≤ n ∧ n ≤ 3 ∧ (∀ k : Nat, (k : Int) < n → 0 ≤ f k ∧ f k ≤ 9999 ∧ 1 ≤ g k ∧ g k ≤ 40) ∧ ∀ k : Nat, (k : Int) + 1 < n → f k < f (k + 1)
def TI (z : Zt) (t : Nat) : Prop := (z t 0 = 0 ∨ z t 0 = 1) ∧ GI (z t 3) (z (t + 1)) (z (t + 2))
/-- the date of day d, the first k gaps counted -/
def calN (f g : Nat → Int) (d : Int) : Nat → Int
  | 0 => d
  | k + 1 => calN f g d k + (if f k < d then g k else 0)
theorem calN_bd {n : Int} {f g : Nat → Int} (h : GI n f g) (d : Int) : ∀ k : Nat, (k : Int) ≤ n → d ≤ calN f g d k ∧ calN f g d k ≤ d + 40 * k
  | 0, _ => by simp [calN]
  | k + 1, hk => by
    have ih := calN_bd h d k (by omega)
    have hb := h.2.2.1 k (by omega)
    simp only [calN]
    split <;> omega
/-- the first day that isn't ahead of a date, the first k gaps looked at -/
def fdN (f g : Nat → Int) (d : Int) : Nat → Int
  | 0 => d
  | k + 1 => if f k < fdN f g d k then (if f k + 1 < fdN f g d k - g k then fdN f g d k - g k else f k + 1) else fdN f g d k
theorem fdN_bd {n : Int} {f g : Nat → Int} (h : GI n f g) {d : Int} (hd : 0 ≤ d) : ∀ k : Nat, (k : Int) ≤ n → 0 ≤ fdN f g d k ∧ fdN f g d k ≤ d
  | 0, _ => by simp [fdN]; exact hd
  | k + 1, hk => by
    have ih := fdN_bd h hd k (by omega)
    have hb := h.2.2.1 k (by omega)
    simp only [fdN]
    split
    · split <;> omega
    · exact ih
/-- where the look stops, it has found the day -/
theorem fdN_stop {n : Int} {f g : Nat → Int} (h : GI n f g) {d : Int} {k : Nat} (hs : fdN f g d k ≤ f k) : ∀ m : Nat, (k : Int) + m ≤ n → fdN f g d (k + m) = fdN f g d k ∧ ((k : Int) + m < n → fdN f g d k ≤ f (k + m))
  | 0, _ => ⟨rfl, fun _ => hs⟩
  | m + 1, hm => by
    have ih := fdN_stop h hs m (by omega)
    have h1 := ih.2 (by omega)
    have e : fdN f g d (k + (m + 1)) = fdN f g d k := by
      rw [show k + (m + 1) = (k + m) + 1 by omega]
      simp only [fdN]
      rw [ih.1, if_neg (by omega)]
    refine ⟨e, fun h2 => ?_⟩
    have hb := h.2.2.2 (k + m) (by omega)
    rw [show k + (m + 1) = (k + m) + 1 by omega]
    omega
def yl (a : Int) : Int := if a = 0 then 336 else 366
def mlen (a m : Int) : Int := if a = 0 then 28 else if m % 2 = 1 then 30 else 31
def mbef (a m : Int) : Int := if a = 0 then (m - 1) * 28 else (m - 1) * 30 + (m - 1) / 2
theorem yl_bd (a : Int) : 336 ≤ yl a ∧ yl a ≤ 366 := by
  unfold yl
  split <;> omega
theorem mlen_bd (a m : Int) : 28 ≤ mlen a m ∧ mlen a m ≤ 31 := by
  unfold mlen
  split
  · omega
  · split <;> omega
theorem mbef_bd {a m : Int} (h : 1 ≤ m) : (m - 1) * 28 ≤ mbef a m ∧ mbef a m ≤ (m - 1) * 31 := by
  unfold mbef
  split <;> omega
theorem mbef_1 (a : Int) : mbef a 1 = 0 := by
  unfold mbef
  split <;> omega
theorem mbef_s {a m : Int} (h : 1 ≤ m) : mbef a (m + 1) = mbef a m + mlen a m := by
  unfold mbef mlen
  split
  · omega
  · split <;> omega
theorem mbef_13 (a : Int) : mbef a 13 = yl a := by
  unfold mbef yl
  split <;> omega
def calT (z : Zt) (t : Nat) (d : Int) : Int := calN (z (t + 1)) (z (t + 2)) d (z t 3).toNat
def fdT (z : Zt) (t : Nat) (d : Int) : Int := fdN (z (t + 1)) (z (t + 2)) d (z t 3).toNat
theorem calT_bd {z : Zt} {t : Nat} (h : TI z t) (d : Int) : d ≤ calT z t d ∧ calT z t d ≤ d + 120 := by
  obtain ⟨-, h⟩ := h
  have h1 := calN_bd h d (z t 3).toNat (by have := h.1; omega)
  have h2 := h.2.1
  unfold calT
  omega
theorem fdT_bd {z : Zt} {t : Nat} (h : TI z t) {d : Int} (hd : 0 ≤ d) : 0 ≤ fdT z t d ∧ fdT z t d ≤ d := by
  obtain ⟨-, h⟩ := h
  exact fdN_bd h hd (z t 3).toNat (by have := h.1; omega)
/-- the month of a day of the year -/
def isMon (a y x : Int) : Prop := 1 ≤ x ∧ x ≤ 12 ∧ mbef a x ≤ y ∧ y < mbef a (x + 1)
theorem isMon_one {a y x x2 : Int} (h : isMon a y x) (h2 : isMon a y x2) : x = x2 := by
  obtain ⟨a1, a2, a3, a4⟩ := h
  obtain ⟨b1, b2, b3, b4⟩ := h2
  unfold mbef at a3 a4 b3 b4
  split at a3 <;> split at a4 <;> split at b3 <;> split at b4 <;> omega
/-- the date of a day of a year -/
def dof (a y m d : Int) : Int := (y - 1) * yl a + mbef a m + d - 1
theorem dof_bd {a y m d : Int} (hy : 1 ≤ y ∧ y ≤ 1000) (hm : 1 ≤ m ∧ m ≤ 12) (hd : 1 ≤ d ∧ d ≤ 99) : 0 ≤ dof a y m d ∧ dof a y m d ≤ 400000 := by
  have h1 := mbef_bd (a := a) hm.1
  unfold dof yl
  split <;> omega
end
section
/-! feasts: the day on which one is due, and kept; on which days of all years it is kept -/
theorem calN_mono {n : Int} {f g : Nat → Int} (h : GI n f g) {x y : Int} (hxy : x ≤ y) : ∀ k : Nat, (k : Int) ≤ n → calN f g x k + (y - x) ≤ calN f g y k
  | 0, _ => by simp only [calN]; omega
  | k + 1, hk => by
    have ih := calN_mono h hxy k (by omega)
    have hb := h.2.2.1 k (by omega)
    simp only [calN]
    split <;> split <;> omega
def gsum (g : Nat → Int) : Nat → Int
  | 0 => 0
  | k + 1 => gsum g k + g k
theorem GI_lt {n : Int} {f g : Nat → Int} (h : GI n f g) : ∀ (m j : Nat), (j : Int) + m + 1 < n → f j < f (j + m + 1)
  | 0, j, hm => h.2.2.2 j (by omega)
  | m + 1, j, hm => by
    have h1 := GI_lt h m j (by omega)
    have h2 := h.2.2.2 (j + m + 1) (by omega)
    rw [show j + (m + 1) + 1 = (j + m + 1) + 1 by omega]
    omega
theorem calN_all {n : Int} {f g : Nat → Int} (h : GI n f g) {x : Int} : ∀ k : Nat, (k : Int) ≤ n → (∀ j : Nat, j < k → f j < x) → calN f g x k = x + gsum g k
  | 0, _, _ => by simp [calN, gsum]
  | k + 1, hk, hx => by
    have ih := calN_all h k (by omega) (fun j hj => hx j (by omega))
    simp only [calN, gsum]
    rw [ih, if_pos (hx k (by omega))]
    omega
theorem calN_beyond {n : Int} {f g : Nat → Int} (h : GI n f g) {x : Int} {k : Nat} (hk : (k : Int) < n) (hx : f k < x) : calN f g x k = x + gsum g k := by
  refine calN_all h k (by omega) (fun j hj => ?_)
  have h1 := GI_lt h (k - j - 1) j (by omega)
  rw [show j + (k - j - 1) + 1 = k by omega] at h1
  omega
theorem fdN_is {n : Int} {f g : Nat → Int} (h : GI n f g) (d : Int) : ∀ k : Nat, (k : Int) ≤ n → d ≤ calN f g (fdN f g d k) k ∧ ∀ x, x < fdN f g d k → calN f g x k < d
  | 0, _ => by simp [calN, fdN]
  | k + 1, hk => by
    obtain ⟨i1, i2⟩ := fdN_is h d k (by omega)
    have hb := h.2.2.1 k (by omega)
    by_cases q : f k < fdN f g d k
    · have e1 := calN_beyond h (k := k) (by omega) q
      have e2 : fdN f g d (k + 1) = (if f k + 1 < fdN f g d k - g k then fdN f g d k - g k else f k + 1) := by
        simp only [fdN]
        rw [if_pos q]
      have q2 : f k < fdN f g d (k + 1) := by rw [e2]; split <;> omega
      have e3 := calN_beyond h (k := k) (by omega) q2
      have q4 : fdN f g d k - g k ≤ fdN f g d (k + 1) := by rw [e2]; split <;> omega
      refine ⟨?_, fun x hx => ?_⟩
      · simp only [calN]
        rw [if_pos q2]
        omega
      · simp only [calN]
        by_cases q3 : f k < x
        · rw [if_pos q3]
          have hx2 : x < fdN f g d k - g k := by
            rw [e2] at hx
            split at hx <;> omega
          have e4 := i2 (x + g k) (by omega)
          rw [calN_beyond h (k := k) (by omega) (show f k < x + g k by omega)] at e4
          rw [calN_beyond h (k := k) (by omega) q3]
          omega
        · rw [if_neg q3]
          have := i2 x (by omega)
          omega
    · have e2 : fdN f g d (k + 1) = fdN f g d k := by
        simp only [fdN]
        rw [if_neg q]
      rw [e2]
      refine ⟨?_, fun x hx => ?_⟩
      · simp only [calN]
        rw [if_neg q]
        omega
      · simp only [calN]
        rw [if_neg (by omega)]
        have := i2 x hx
        omega
def yG (a n : Int) (f g : Nat → Int) (d : Int) : Int := 1 + calN f g d n.toNat / yl a
def nd (a m dd : Int) : Int := if dd < mlen a m + 1 then dd else mlen a m + 1
def dueG (a n : Int) (f g : Nat → Int) (m dd y : Int) : Int := if yG a n f g (fdN f g (dof a y m (nd a m dd)) n.toNat) = y then fdN f g (dof a y m (nd a m dd)) n.toNat else -1
def keG (sh b u : Int) : Int := if u = -1 then u else if u % 7 = b then u + (if sh = 7 then 1 else sh) else u
def kG (a n : Int) (f g : Nat → Int) (sh m dd b y : Int) : Int := keG sh b (dueG a n f g m dd y)
/-- K: the day of a year; Y: the year of a day -/
def Kok (K Y : Int → Int) : Prop := (∀ x x', 0 ≤ x → x ≤ x' → Y x ≤ Y x') ∧ (∀ x, 0 ≤ x → 1 ≤ Y x) ∧ (∀ y, 1 ≤ y → K y = -1 ∨ 0 ≤ K y) ∧ (∀ y y', 1 ≤ y → y < y' → K y ≠ -1 → K y' ≠ -1 → K y < K y') ∧
  (∀ y d x, 1 ≤ y → 0 ≤ d → K y = d → 0 ≤ x → (x = 0 ∨ x + 9 ≤ d) → Y x ≤ y) ∧ ∀ y d, 1 ≤ y → 0 ≤ d → K y = d → y ≤ Y d ∧ Y d ≤ y + 1
theorem yG_mono {a n : Int} {f g : Nat → Int} (h : GI n f g) {x x' : Int} (hx : x ≤ x') : yG a n f g x ≤ yG a n f g x' := by
  have h1 := calN_mono h hx n.toNat (by have := h.1; omega)
  unfold yG
  have h2 : calN f g x n.toNat / yl a ≤ calN f g x' n.toNat / yl a := Int.ediv_le_ediv (by have := yl_bd a; omega) (by omega)
  omega
theorem yG_pos {a n : Int} {f g : Nat → Int} (h : GI n f g) {x : Int} (hx : 0 ≤ x) : 1 ≤ yG a n f g x := by
  have h1 := calN_bd h x n.toNat (by have := h.1; omega)
  have h2 : 0 ≤ calN f g x n.toNat / yl a := Int.ediv_nonneg (by omega) (by have := yl_bd a; omega)
  unfold yG
  omega
theorem yG_bd {a n : Int} {f g : Nat → Int} (h : GI n f g) {x : Int} (hx : 0 ≤ x ∧ x ≤ 100000) : 1 ≤ yG a n f g x ∧ yG a n f g x ≤ 300 := by
  refine ⟨yG_pos h hx.1, ?_⟩
  have h1 := calN_bd h x n.toNat (by have := h.1; omega)
  have h2 := h.2.1
  unfold yG yl
  split <;> omega
theorem nd_bd {a m dd : Int} (h : 1 ≤ dd) : 1 ≤ nd a m dd ∧ nd a m dd ≤ mlen a m + 1 := by
  have := mlen_bd a m
  unfold nd
  split <;> omega
theorem dofN_bd {a y m dd : Int} (hm : 1 ≤ m ∧ m ≤ 12) (hd : 1 ≤ dd) : (y - 1) * yl a ≤ dof a y m (nd a m dd) ∧ dof a y m (nd a m dd) ≤ y * yl a := by
  have h1 := nd_bd (a := a) (m := m) hd
  have h2 := mbef_bd (a := a) hm.1
  have h3 := mbef_s (a := a) hm.1
  have h4 : mbef a (m + 1) ≤ yl a := by
    rw [← mbef_13]
    unfold mbef
    split <;> omega
  unfold dof
  rw [show y * yl a = (y - 1) * yl a + yl a by rw [Int.sub_mul]; omega]
  omega
theorem dofN_step (a y m d : Int) (k : Int) : dof a (y + k) m d = dof a y m d + k * yl a := by
  unfold dof
  rw [show y + k - 1 = (y - 1) + k by omega, Int.add_mul]
  omega
theorem due_is {a n : Int} {f g : Nat → Int} {m dd y : Int} (h : GI n f g) (hm : 1 ≤ m ∧ m ≤ 12) (hd : 1 ≤ dd ∧ dd ≤ 31) (hy : 1 ≤ y) :
    dueG a n f g m dd y = -1 ∨ ∃ u, dueG a n f g m dd y = u ∧ 0 ≤ u ∧ yG a n f g u = y ∧ dof a y m (nd a m dd) ≤ calN f g u n.toNat ∧ (∀ x, x < u → calN f g x n.toNat < dof a y m (nd a m dd)) ∧ u ≤ dof a y m (nd a m dd) := by
  have h0 := h.1
  have h1 := fdN_is h (dof a y m (nd a m dd)) n.toNat (by omega)
  have hyl := yl_bd a
  have h2 := dofN_bd (a := a) (y := y) hm hd.1
  have h3 : 0 ≤ (y - 1) * yl a := Int.mul_nonneg (by omega) (by omega)
  have h4 := fdN_bd h (d := dof a y m (nd a m dd)) (by omega) n.toNat (by omega)
  unfold dueG
  split
  · rename_i q
    exact Or.inr ⟨_, rfl, h4.1, q, h1.1, h1.2, h4.2⟩
  · exact Or.inl rfl
theorem keG_bd {sh b u : Int} (hs : 1 ≤ sh ∧ sh ≤ 9) (hu : 0 ≤ u) : u ≤ keG sh b u ∧ keG sh b u ≤ u + 9 := by
  unfold keG
  rw [if_neg (by omega)]
  split
  · split <;> omega
  · omega
theorem kG_ok {a n : Int} {f g : Nat → Int} {sh m dd : Int} (b : Int) (h : GI n f g) (hs : 1 ≤ sh ∧ sh ≤ 9) (hm : 1 ≤ m ∧ m ≤ 12) (hd : 1 ≤ dd ∧ dd ≤ 31) : Kok (kG a n f g sh m dd b) (yG a n f g) := by
  have hyl := yl_bd a
  have hn := h.1
  have hn3 := h.2.1
  have hcal : ∀ x, x ≤ calN f g x n.toNat ∧ calN f g x n.toNat ≤ x + 120 := fun x => by
    have := calN_bd h x n.toNat (by omega)
    omega
  have key : ∀ y, 1 ≤ y → kG a n f g sh m dd b y = -1 ∨ ∃ u, u ≤ kG a n f g sh m dd b y ∧ kG a n f g sh m dd b y ≤ u + 9 ∧ 0 ≤ u ∧ yG a n f g u = y ∧ dof a y m (nd a m dd) ≤ calN f g u n.toNat ∧ (∀ x, x < u → calN f g x n.toNat < dof a y m (nd a m dd)) := by
    intro y hy
    rcases due_is (a := a) h hm hd hy with q | ⟨u, q1, q2, q3, q4, q5, -⟩
    · left
      unfold kG keG
      rw [q, if_pos rfl]
    · right
      have := keG_bd (b := b) hs q2
      unfold kG
      rw [q1]
      exact ⟨u, this.1, this.2, q2, q3, q4, q5⟩
  refine ⟨fun x x' _ hx => yG_mono h hx, fun x hx => yG_pos h hx, fun y hy => ?_, fun y y' hy hyy k1 k2 => ?_, fun y d x hy hd0 e hx hxd => ?_, fun y d hy hd0 e => ?_⟩
  · rcases key y hy with q | ⟨u, q1, q2, q3, -⟩
    · exact Or.inl q
    · exact Or.inr (by omega)
  · rcases key y hy with q | ⟨u, q1, q2, q3, q4, q5, q6⟩
    · exact absurd q k1
    · rcases key y' (by omega) with p | ⟨v, p1, p2, p3, p4, p5, p6⟩
      · exact absurd p k2
      · have e1 := dofN_step a y m (nd a m dd) (y' - y)
        rw [show y + (y' - y) = y' by omega] at e1
        have e2 : yl a ≤ (y' - y) * yl a := by
          have : 1 * yl a ≤ (y' - y) * yl a := Int.mul_le_mul_of_nonneg_right (by omega) (by omega)
          omega
        have e3 := q6 (u - 1) (by omega)
        have e4 := hcal (u - 1)
        have e5 := hcal v
        omega
  · rcases key y hy with q | ⟨u, q1, q2, q3, q4, q5, q6⟩
    · omega
    · rw [← q4]
      exact yG_mono h (by omega)
  · rcases key y hy with q | ⟨u, q1, q2, q3, q4, q5, q6⟩
    · omega
    · constructor
      · rw [← q4]
        exact yG_mono h (by omega)
      · have e1 := hcal d
        have e2 := hcal u
        have e3 : calN f g d n.toNat ≤ calN f g u n.toNat + yl a := by omega
        have e4 : calN f g d n.toNat / yl a ≤ (calN f g u n.toNat + yl a) / yl a := Int.ediv_le_ediv (by omega) e3
        rw [Int.add_ediv_of_dvd_right (Int.dvd_refl _), Int.ediv_self (by omega)] at e4
        unfold yG at q4 ⊢
        omega
def onK (K Y : Int → Int) (d : Int) : Prop := K (Y d) = d ∨ (1 < Y d ∧ K (Y d - 1) = d)
theorem on_ex {K Y : Int → Int} (h : Kok K Y) {d : Int} (hd : 0 ≤ d) : onK K Y d ↔ ∃ y, 1 ≤ y ∧ K y = d := by
  obtain ⟨h1, h2, h3, h4, h5, h6⟩ := h
  constructor
  · rintro (q | ⟨q1, q2⟩)
    · exact ⟨_, h2 d hd, q⟩
    · exact ⟨_, by omega, q2⟩
  · rintro ⟨y, hy, e⟩
    have := h6 y d hy hd e
    by_cases q : y = Y d
    · exact Or.inl (q ▸ e)
    · exact Or.inr ⟨by omega, by rw [show Y d - 1 = y by omega]; exact e⟩
/-- x is the first day of a span on which the feast is kept and P holds; -1 where there is none -/
def FKP (K Y : Int → Int) (P : Int → Prop) (fr to x : Int) : Prop := (x = -1 ∧ ∀ d, fr ≤ d → d ≤ to → ¬ (onK K Y d ∧ P d)) ∨ (fr ≤ x ∧ x ≤ to ∧ (onK K Y x ∧ P x) ∧ ∀ d, fr ≤ d → d < x → ¬ (onK K Y d ∧ P d))
def y0of (Y : Int → Int) (fr : Int) : Int := Y (if 0 < fr - 9 then fr - 9 else 0)
theorem fk_none {K Y : Int → Int} {P : Int → Prop} (h : Kok K Y) {fr to yy : Int} (hf : 0 ≤ fr) (hi : ∀ y', y0of Y fr ≤ y' → y' < yy → ¬ (fr ≤ K y' ∧ K y' ≤ to ∧ P (K y'))) (hy : Y to < yy) : FKP K Y P fr to (-1) := by
  refine Or.inl ⟨rfl, fun d d1 d2 ⟨q, hp⟩ => ?_⟩
  obtain ⟨y, k1, k2⟩ := (on_ex h (by omega)).mp q
  obtain ⟨h1, h2, h3, h4, h5, h6⟩ := h
  have a1 := h5 y d (if 0 < fr - 9 then fr - 9 else 0) k1 (by omega) k2 (by split <;> omega) (by split <;> omega)
  have a2 := h6 y d k1 (by omega) k2
  have a3 := h1 d to (by omega) d2
  exact hi y a1 (by omega) (by rw [k2]; exact ⟨d1, d2, hp⟩)
theorem fk_found {K Y : Int → Int} {P : Int → Prop} (h : Kok K Y) {fr to yy : Int} (hf : 0 ≤ fr) (hy1 : 1 ≤ yy) (hi : ∀ y', y0of Y fr ≤ y' → y' < yy → ¬ (fr ≤ K y' ∧ K y' ≤ to ∧ P (K y'))) (h1 : fr ≤ K yy) (h2 : K yy ≤ to) (hp : P (K yy)) : FKP K Y P fr to (K yy) := by
  refine Or.inr ⟨h1, h2, ⟨(on_ex h (by omega)).mpr ⟨yy, hy1, rfl⟩, hp⟩, fun d d1 d2 ⟨q, hpd⟩ => ?_⟩
  obtain ⟨y, k1, k2⟩ := (on_ex h (by omega)).mp q
  obtain ⟨g1, g2, g3, g4, g5, g6⟩ := h
  have a1 := g5 y d (if 0 < fr - 9 then fr - 9 else 0) k1 (by omega) k2 (by split <;> omega) (by split <;> omega)
  have a4 : y < yy := by
    by_cases q : y < yy
    · exact q
    · have q := Int.not_lt.mp q
      rcases Int.lt_or_eq_of_le q with q2 | q2
      · have := g4 yy y hy1 q2 (by omega) (by omega)
        omega
      · rw [q2] at d2
        omega
  exact hi y a1 a4 (by rw [k2]; exact ⟨d1, by omega, hpd⟩)
/-! a state of the system: its towns, its feasts -/
def FI (z : Zt) (f : Nat) : Prop := (z f 0 = 0 ∨ z f 0 = 1) ∧ 1 ≤ z f 1 ∧ z f 1 ≤ 12 ∧ 1 ≤ z f 2 ∧ z f 2 ≤ 31 ∧ -1 ≤ z f 3 ∧ z f 3 ≤ 6
def SI (z : Zt) (s : Nat) : Prop := TI z (s + 1) ∧ TI z (s + 4) ∧ z (s + 1) 0 = 1 ∧ z (s + 4) 0 = 0 ∧ (0 ≤ z s 3 ∧ z s 3 ≤ 10) ∧ (1 ≤ z s 4 ∧ z s 4 ≤ 9) ∧ (0 ≤ z s 5 ∧ z s 5 ≤ 9) ∧ (0 ≤ z s 6 ∧ z s 6 ≤ 9999) ∧ ∀ k : Nat, k < 10 → FI z (s + 8 + k)
def tw (z : Zt) (s f : Nat) : Nat := if z f 0 = 0 then s + 1 else s + 4
def yS (z : Zt) (s f : Nat) (d : Int) : Int := yG (z (tw z s f) 0) (z (tw z s f) 3) (z (tw z s f + 1)) (z (tw z s f + 2)) d
def dS (z : Zt) (s f : Nat) (y : Int) : Int := dueG (z (tw z s f) 0) (z (tw z s f) 3) (z (tw z s f + 1)) (z (tw z s f + 2)) (z f 1) (z f 2) y
def kS (z : Zt) (s f : Nat) (y : Int) : Int := kG (z (tw z s f) 0) (z (tw z s f) 3) (z (tw z s f + 1)) (z (tw z s f + 2)) (z s 4) (z f 1) (z f 2) (z f 3) y
def onS (z : Zt) (s f : Nat) (d : Int) : Prop := onK (kS z s f) (yS z s f) d
theorem SI_tw {z : Zt} {s f : Nat} (h : SI z s) : TI z (tw z s f) := by
  unfold tw
  split
  · exact h.1
  · exact h.2.1
theorem kS_ok {z : Zt} {s f : Nat} (h : SI z s) (hf : FI z f) : Kok (kS z s f) (yS z s f) := kG_ok _ (SI_tw h).2 h.2.2.2.2.2.1 ⟨hf.2.1, hf.2.2.1⟩ ⟨hf.2.2.2.1, hf.2.2.2.2.1⟩
theorem yS_bd {z : Zt} {s f : Nat} (h : SI z s) {x : Int} (hx : 0 ≤ x ∧ x ≤ 100000) : 1 ≤ yS z s f x ∧ yS z s f x ≤ 300 := yG_bd (SI_tw h).2 hx
theorem kS_bd {z : Zt} {s f : Nat} (h : SI z s) (hf : FI z f) {y : Int} (hy : 1 ≤ y ∧ y ≤ 1000) : -1 ≤ kS z s f y ∧ kS z s f y ≤ 400000 := by
  have h9 := (SI_tw (f := f) h).2
  rcases due_is (a := z (tw z s f) 0) h9 ⟨hf.2.1, hf.2.2.1⟩ ⟨hf.2.2.2.1, hf.2.2.2.2.1⟩ hy.1 with q | ⟨u, q1, q2, -, -, -, q3⟩
  · unfold kS kG keG
    rw [q, if_pos rfl]
    omega
  · have h1 := keG_bd (b := z f 3) h.2.2.2.2.2.1 q2
    have h2 := (dofN_bd (a := z (tw z s f) 0) (y := y) ⟨hf.2.1, hf.2.2.1⟩ hf.2.2.2.1).2
    have h3 : y * yl (z (tw z s f) 0) ≤ 366000 := by
      unfold yl
      split <;> omega
    unfold kS kG
    rw [q1]
    omega
end
section
theorem fa_and (a b : Nat) : nI a &&& nI b = nI (a &&& b) := by
  apply Int32.toBitVec_inj.1
  show BitVec.ofNat 32 a &&& BitVec.ofNat 32 b = BitVec.ofNat 32 (a &&& b)
  apply BitVec.eq_of_getLsbD_eq
  intro i hi
  simp [hi]
theorem fa_or (a b : Nat) : nI a ||| nI b = nI (a ||| b) := by
  apply Int32.toBitVec_inj.1
  show BitVec.ofNat 32 a ||| BitVec.ofNat 32 b = BitVec.ofNat 32 (a ||| b)
  apply BitVec.eq_of_getLsbD_eq
  intro i hi
  simp [hi]
theorem s_l : ∀ n, n < 32 → ((nI n &&& 31).toBitVec.smod 32).toNat = n := by decide +kernel
/-! sets of feasts, as numbers -/
def isSet (P : Nat → Prop) (v : Int) : Prop := ∃ n : Nat, v = (n : Int) ∧ n < 1024 ∧ ∀ j : Nat, n.testBit j = true ↔ P j
theorem isSet_bd {P : Nat → Prop} {v : Int} (h : isSet P v) : 0 ≤ v ∧ v < 1024 := by
  obtain ⟨n, rfl, h1, -⟩ := h
  omega
theorem isSet_congr {P Q : Nat → Prop} {v : Int} (h : isSet P v) (e : ∀ j, P j ↔ Q j) : isSet Q v := by
  obtain ⟨n, h0, h1, h2⟩ := h
  exact ⟨n, h0, h1, fun j => (h2 j).trans (e j)⟩
theorem isSet_one {P : Nat → Prop} {v w : Int} (h : isSet P v) (h2 : isSet P w) : v = w := by
  obtain ⟨n, rfl, -, a⟩ := h
  obtain ⟨m, rfl, -, b⟩ := h2
  have e : n = m := Nat.eq_of_testBit_eq fun j => by
    have h3 := (a j).trans (b j).symm
    cases h4 : n.testBit j <;> cases h5 : m.testBit j
    · rfl
    · rw [h4, h5] at h3; simp at h3
    · rw [h4, h5] at h3; simp at h3
    · rfl
  rw [e]
theorem isSet_0 {P : Nat → Prop} (h : ∀ j, ¬ P j) : isSet P 0 := ⟨0, rfl, by decide, fun j => by simp [h j]⟩
theorem isSet_zero {P : Nat → Prop} {v : Int} (h : isSet P v) : v = 0 ↔ ∀ j, ¬ P j := by
  constructor
  · intro e
    subst e
    obtain ⟨n, h0, h1, h2⟩ := h
    have : n = 0 := by omega
    subst this
    intro j hj
    have := (h2 j).mpr hj
    simp at this
  · intro e
    exact isSet_one h (isSet_0 e)
theorem isSet_lt {P : Nat → Prop} {v : Int} (h : isSet P v) {j : Nat} (hj : P j) : j < 10 := by
  obtain ⟨n, h0, h1, h2⟩ := h
  have h3 := (h2 j).mpr hj
  rcases Nat.lt_or_ge j 10 with q | q
  · exact q
  · have h4 : n < 2 ^ j := Nat.lt_of_lt_of_le h1 (by
      have : (2 : Nat) ^ 10 ≤ 2 ^ j := Nat.pow_le_pow_right (by decide) q
      omega)
    rw [Nat.testBit_lt_two_pow h4] at h3
    cases h3
theorem shl_1 {k : Int} (hk : 0 ≤ k ∧ k < 31) : iN 1 <<< (iN k &&& 31) = nI (2 ^ k.toNat) := by
  have e1 : iN 1 = nI 1 := iN_nI 1
  have e2 : iN k = nI k.toNat := by
    rw [← iN_nI]
    exact congrArg iN (by omega)
  have h2 : (2 : Nat) ^ k.toNat < 2 ^ 31 := Nat.pow_lt_pow_right (by decide) (by omega)
  rw [e1, e2, pk_shlN _ k.toNat (s_l _ (by omega)) (by omega), Nat.one_mul]
theorem set_or {P : Nat → Prop} {v k : Int} (h : isSet P v) (hk : 0 ≤ k ∧ k < 10) : ∃ v', iN v ||| (iN 1 <<< (iN k &&& 31)) = iN v' ∧ isSet (fun j => P j ∨ j = k.toNat) v' := by
  obtain ⟨n, rfl, h1, h2⟩ := h
  have h3 : (2 : Nat) ^ k.toNat < 2 ^ 10 := Nat.pow_lt_pow_right (by decide) (by omega)
  refine ⟨((n ||| 2 ^ k.toNat : Nat) : Int), ?_, _, rfl, Nat.or_lt_two_pow (n := 10) h1 h3, fun j => ?_⟩
  · rw [shl_1 (by omega), iN_nI, iN_nI, fa_or]
  · rw [Nat.testBit_or, Bool.or_eq_true, h2 j, Nat.testBit_two_pow, decide_eq_true_eq]
    exact or_congr_right eq_comm
theorem set_and {P Q : Nat → Prop} {v w : Int} (h : isSet P v) (g : isSet Q w) : ∃ u, iN v &&& iN w = iN u ∧ isSet (fun j => P j ∧ Q j) u := by
  obtain ⟨n, rfl, h1, h2⟩ := h
  obtain ⟨m, rfl, g1, g2⟩ := g
  refine ⟨((n &&& m : Nat) : Int), ?_, _, rfl, Nat.lt_of_le_of_lt Nat.and_le_left h1, fun j => ?_⟩
  · rw [iN_nI, iN_nI, iN_nI, fa_and]
  · rw [Nat.testBit_and, Bool.and_eq_true, h2 j, g2 j]
/-! counting -/
noncomputable def ind (p : Prop) : Int := @ite Int p (Classical.propDecidable p) 1 0
theorem ind_t {p : Prop} (h : p) : ind p = 1 := if_pos h
theorem ind_f {p : Prop} (h : ¬ p) : ind p = 0 := if_neg h
theorem ind_c {p q : Prop} (h : p ↔ q) : ind p = ind q := by rw [propext h]
theorem ind_bd (p : Prop) : 0 ≤ ind p ∧ ind p ≤ 1 := by
  by_cases h : p
  · rw [ind_t h]; omega
  · rw [ind_f h]; omega
noncomputable def cntP (Q : Nat → Prop) : Nat → Int
  | 0 => 0
  | n + 1 => cntP Q n + ind (Q n)
theorem cntP_bd (Q : Nat → Prop) : ∀ n, 0 ≤ cntP Q n ∧ cntP Q n ≤ n
  | 0 => by simp [cntP]
  | n + 1 => by
    have := cntP_bd Q n
    have := ind_bd (Q n)
    simp only [cntP]
    omega
theorem cntP_congr {P Q : Nat → Prop} : ∀ {n : Nat}, (∀ j, j < n → (P j ↔ Q j)) → cntP P n = cntP Q n
  | 0, _ => rfl
  | n + 1, h => by
    simp only [cntP]
    rw [cntP_congr (fun j hj => h j (by omega)), ind_c (h n (by omega))]
theorem cntP_none {P : Nat → Prop} : ∀ {n : Nat}, (∀ j, j < n → ¬ P j) → cntP P n = 0
  | 0, _ => rfl
  | n + 1, h => by
    simp only [cntP]
    rw [cntP_none (fun j hj => h j (by omega)), ind_f (h n (by omega))]
    rfl
theorem cntP_cut {P : Nat → Prop} {n : Nat} : ∀ {m : Nat}, (∀ j, n ≤ j → ¬ P j) → cntP P (n + m) = cntP P n
  | 0, _ => rfl
  | m + 1, h => by
    show cntP P (n + m) + ind (P (n + m)) = _
    rw [cntP_cut h, ind_f (h _ (by omega))]
    omega
theorem cntP_pos {P : Nat → Prop} : ∀ {n : Nat}, (∃ j, j < n ∧ P j) → 0 < cntP P n
  | 0, h => by obtain ⟨j, hj, -⟩ := h; omega
  | n + 1, h => by
    obtain ⟨j, hj, hp⟩ := h
    have h1 := cntP_bd P n
    have h2 := ind_bd (P n)
    simp only [cntP]
    by_cases q : j < n
    · have := cntP_pos ⟨j, q, hp⟩
      omega
    · have e : j = n := by omega
      subst e
      rw [ind_t hp]
      omega
theorem cntP_pos_iff {P : Nat → Prop} {n : Nat} : 0 < cntP P n ↔ ∃ j, j < n ∧ P j := by
  refine ⟨fun h => Classical.byContradiction fun q => ?_, cntP_pos⟩
  rw [cntP_none (fun j hj hp => q ⟨j, hj, hp⟩)] at h
  omega
/-! blocks: a state's eighteen cells -/
theorem S_ne {s j : Nat} (h : kd s = 2) (hj : j < 18) : s + j ≠ 24 ∧ s + j ≠ 0 ∧ s + j < 169 := by
  have := kd_all (P := fun i k => k != 2 || (List.range 18).all (fun j => decide (i + j ≠ 24 ∧ i + j ≠ 0 ∧ i + j < 169))) (by decide +kernel) h (by decide)
  have h2 : (List.range 18).all (fun j => decide (s + j ≠ 24 ∧ s + j ≠ 0 ∧ s + j < 169)) = true := by simpa using this
  exact of_decide_eq_true (List.all_eq_true.mp h2 j (List.mem_range.mpr hj))
def blkE (z z1 : Zt) (s : Nat) : Prop := ∀ j : Nat, j < 18 → z1 (s + j) = z (s + j)
theorem blk_tw {z z1 : Zt} {s k : Nat} (h : blkE z z1 s) (hk : k < 10) : tw z1 s (s + 8 + k) = tw z s (s + 8 + k) := by
  unfold tw
  rw [show s + 8 + k = s + (8 + k) by omega, h (8 + k) (by omega)]
theorem blk_town {z z1 : Zt} {s : Nat} (h : blkE z z1 s) (f : Nat) : z1 (tw z s f) = z (tw z s f) ∧ z1 (tw z s f + 1) = z (tw z s f + 1) ∧ z1 (tw z s f + 2) = z (tw z s f + 2) := by
  unfold tw
  split
  · exact ⟨h 1 (by decide), h 2 (by decide), h 3 (by decide)⟩
  · exact ⟨h 4 (by decide), h 5 (by decide), h 6 (by decide)⟩
theorem blk_kS {z z1 : Zt} {s k : Nat} (h : blkE z z1 s) (hk : k < 10) : kS z1 s (s + 8 + k) = kS z s (s + 8 + k) ∧ yS z1 s (s + 8 + k) = yS z s (s + 8 + k) := by
  obtain ⟨h1, h2, h3⟩ := blk_town h (s + 8 + k)
  have h4 : z1 (s + 8 + k) = z (s + 8 + k) := by
    rw [show s + 8 + k = s + (8 + k) by omega]
    exact h (8 + k) (by omega)
  have h5 : z1 s = z s := h 0 (by decide)
  constructor
  · funext y
    unfold kS
    rw [blk_tw h hk, h1, h2, h3, h4, h5]
  · funext y
    unfold yS
    rw [blk_tw h hk, h1, h2, h3]
theorem blk_onS {z z1 : Zt} {s k : Nat} (h : blkE z z1 s) (hk : k < 10) : onS z1 s (s + 8 + k) = onS z s (s + 8 + k) := by
  obtain ⟨h1, h2⟩ := blk_kS h hk
  funext d
  unfold onS
  rw [h1, h2]
theorem blk_TI {z z1 : Zt} {t : Nat} (h0 : z1 t = z t) (h1 : z1 (t + 1) = z (t + 1)) (h2 : z1 (t + 2) = z (t + 2)) (h : TI z t) : TI z1 t := by
  unfold TI
  rw [h0, h1, h2]
  exact h
theorem blk_SI {z z1 : Zt} {s : Nat} (h : blkE z z1 s) (hS : SI z s) : SI z1 s := by
  have h0 : z1 s = z s := h 0 (by decide)
  obtain ⟨a1, a2, a3, a4, a5, a6, a7, a8, a9⟩ := hS
  refine ⟨blk_TI (h 1 (by decide)) (h 2 (by decide)) (h 3 (by decide)) a1, blk_TI (h 4 (by decide)) (h 5 (by decide)) (h 6 (by decide)) a2, by rw [h 1 (by decide)]; exact a3, by rw [h 4 (by decide)]; exact a4, by rw [h0]; exact a5, by rw [h0]; exact a6, by rw [h0]; exact a7, by rw [h0]; exact a8, fun k hk => ?_⟩
  unfold FI
  rw [show s + 8 + k = s + (8 + k) by omega, h (8 + k) (by omega)]
  have := a9 k hk
  rw [show s + 8 + k = s + (8 + k) by omega] at this
  exact this
/-- which days of a span are on: by the years that are looked at -/
theorem on_span {K Y : Int → Int} (h : Kok K Y) {fr to d : Int} (hf : 0 ≤ fr) (h1 : fr ≤ d) (h2 : d ≤ to) : onK K Y d ↔ ∃ y, y0of Y fr ≤ y ∧ y < Y to + 1 ∧ K y = d := by
  have hY1 : 1 ≤ y0of Y fr := h.2.1 _ (by split <;> omega)
  rw [on_ex h (by omega)]
  obtain ⟨g1, g2, g3, g4, g5, g6⟩ := h
  constructor
  · rintro ⟨y, k1, k2⟩
    have a1 := g5 y d (if 0 < fr - 9 then fr - 9 else 0) k1 (by omega) k2 (by split <;> omega) (by split <;> omega)
    have a2 := g6 y d k1 (by omega) k2
    have a3 := g1 d to (by omega) h2
    exact ⟨y, a1, by omega, k2⟩
  · rintro ⟨y, k1, k2, k3⟩
    exact ⟨y, by omega, k3⟩
theorem fkp_bd {K Y : Int → Int} {P : Int → Prop} {fr to x : Int} (h : FKP K Y P fr to x) (hf : 0 ≤ fr) (ht : -1 ≤ to) : -1 ≤ x ∧ x ≤ to := by
  rcases h with ⟨h1, -⟩ | ⟨h1, h2, -⟩ <;> omega
theorem fkp_pt {K Y : Int → Int} {d x : Int} (h : FKP K Y (fun _ => True) d d x) (hd : 0 ≤ d) : (x = -1 → ¬ onK K Y d) ∧ (x ≠ -1 → onK K Y d) := by
  rcases h with ⟨h1, h2⟩ | ⟨h1, h2, h3, -⟩
  · exact ⟨fun _ q => h2 d (by omega) (by omega) ⟨q, trivial⟩, fun q => absurd h1 q⟩
  · have e : x = d := by omega
    subst e
    exact ⟨fun q => by omega, fun _ => h3.1⟩
theorem y0_le {K Y : Int → Int} (h : Kok K Y) {fr to : Int} (hf : 0 ≤ fr) (ht : fr ≤ to) : 1 ≤ y0of Y fr ∧ y0of Y fr ≤ Y to := ⟨h.2.1 _ (by split <;> omega), h.1 _ _ (by split <;> omega) (by split <;> omega)⟩
theorem dG_bd {z : Zt} {t f : Nat} (h : TI z t) (hf : FI z f) {y : Int} (hy : 1 ≤ y ∧ y ≤ 1000) : -1 ≤ dueG (z t 0) (z t 3) (z (t + 1)) (z (t + 2)) (z f 1) (z f 2) y ∧ dueG (z t 0) (z t 3) (z (t + 1)) (z (t + 2)) (z f 1) (z f 2) y ≤ 400000 := by
  rcases due_is (a := z t 0) h.2 ⟨hf.2.1, hf.2.2.1⟩ ⟨hf.2.2.2.1, hf.2.2.2.2.1⟩ hy.1 with q | ⟨u, q1, q2, -, -, -, q3⟩
  · rw [q]; omega
  · have h2 := (dofN_bd (a := z t 0) (y := y) ⟨hf.2.1, hf.2.2.1⟩ hf.2.2.2.1).2
    have h3 : y * yl (z t 0) ≤ 366000 := by
      unfold yl
      split <;> omega
    rw [q1]
    omega
theorem yT_bd {z : Zt} {t : Nat} (h : TI z t) {d : Int} (hd : 0 ≤ d ∧ d ≤ 1000000) : 1 ≤ 1 + calT z t d / yl (z t 0) ∧ 1 + calT z t d / yl (z t 0) ≤ 3000 := by
  have h1 := calT_bd h d
  unfold yl
  split <;> omega
end
section
theorem isSet_yes {Q : Nat → Prop} {k v : Int} (hk : 0 ≤ k) (h : isSet (fun j => ((j : Int) < k ∧ Q j) ∨ j = k.toNat) v) (hq : Q k.toNat) : isSet (fun j => (j : Int) < k + 1 ∧ Q j) v := by
  refine isSet_congr h (fun j => ?_)
  constructor
  · rintro (⟨a, b⟩ | rfl)
    · exact ⟨by omega, b⟩
    · exact ⟨by omega, hq⟩
  · rintro ⟨a, b⟩
    by_cases q : (j : Int) < k
    · exact Or.inl ⟨q, b⟩
    · exact Or.inr (by omega)
theorem isSet_no {Q : Nat → Prop} {k v : Int} (hk : 0 ≤ k) (h : isSet (fun j => (j : Int) < k ∧ Q j) v) (hq : ¬ Q k.toNat) : isSet (fun j => (j : Int) < k + 1 ∧ Q j) v := by
  refine isSet_congr h (fun j => ?_)
  constructor
  · rintro ⟨a, b⟩
    exact ⟨by omega, b⟩
  · rintro ⟨a, b⟩
    by_cases q : (j : Int) < k
    · exact ⟨q, b⟩
    · have e : j = k.toNat := by omega
      exact absurd (e ▸ b) hq
end
section
/-! more rows: values as they are; cells that agree where it counts -/
def ksz (K j : Nat) : Prop := if K = 1 then j = 2 else if K = 2 then 3 ≤ j ∧ j ≤ 8 else if K = 3 then j = 0 ∨ j = 3 ∨ j = 4 else if K = 4 then j < 4 else if K = 5 then j = 1 else if K = 6 then j = 2 ∨ j = 5 ∨ j = 7 ∨ j = 8 else if K = 20 then j < 2 else if K = 32 then j < 2 else if K = 36 then j < 6 else if K = 40 then False else if K = 50 then j < 1 else j < K - 100
theorem arrV_eq {cI : ClassId} {N : Nat} {f g : Nat → Value} (h : ∀ j, j < N → f j = g j) : arrV cI N f = arrV cI N g := by
  unfold arrV
  congr 2
  funext j
  exact h j.val j.isLt
theorem cl_re {D : va_G} {K a i : Nat} {r : Nat → Nat} {cA : Nat → ClassId} {f g : Nat → Int} {H : Heap} (h : ∀ j, ksz K j → f j = g j) (hv : va_at D vwCl (a, cl K r cA i f) H) : va_at D vwCl (a, cl K r cA i g) H := by
  by_cases q1 : K = 1
  · subst q1
    have e : cl 1 r cA i g = cl 1 r cA i f := by rw [cl_1, cl_1, h 2 (by simp [ksz])]
    rw [e]
    exact hv
  by_cases q2 : K = 2
  · subst q2
    have e : cl 2 r cA i g = cl 2 r cA i f := by rw [cl_2, cl_2, h 3 (by simp [ksz]), h 4 (by simp [ksz]), h 5 (by simp [ksz]), h 6 (by simp [ksz]), h 7 (by simp [ksz]), h 8 (by simp [ksz])]
    rw [e]
    exact hv
  by_cases q3 : K = 3
  · subst q3
    have e : cl 3 r cA i g = cl 3 r cA i f := by rw [cl_3, cl_3, h 0 (by simp [ksz]), h 3 (by simp [ksz]), h 4 (by simp [ksz])]
    rw [e]
    exact hv
  by_cases q4 : K = 4
  · subst q4
    have e : cl 4 r cA i g = cl 4 r cA i f := by rw [cl_4, cl_4, h 0 (by simp [ksz]), h 1 (by simp [ksz]), h 2 (by simp [ksz]), h 3 (by simp [ksz])]
    rw [e]
    exact hv
  by_cases q5 : K = 5
  · subst q5
    have e : cl 5 r cA i g = cl 5 r cA i f := by rw [cl_5, cl_5, h 1 (by simp [ksz])]
    rw [e]
    exact hv
  by_cases q6 : K = 6
  · subst q6
    have e : cl 6 r cA i g = cl 6 r cA i f := by rw [cl_6, cl_6, h 2 (by simp [ksz]), h 5 (by simp [ksz]), h 7 (by simp [ksz]), h 8 (by simp [ksz])]
    rw [e]
    exact hv
  by_cases q20 : K = 20
  · subst q20
    have h1 : H[a]? = some (arrV (cA 1) 2 (fun j => .int (iN (f j)))) := hv
    have h2 : arrV (cA 1) 2 (fun j => .int (iN (f j))) = arrV (cA 1) 2 (fun j => .int (iN (g j))) := arrV_eq (fun j hj => by rw [h j hj])
    have h3 : H[a]? = some (arrV (cA 1) 2 (fun j => .int (iN (g j)))) := h1.trans (congrArg some h2)
    exact h3
  by_cases q32 : K = 32
  · subst q32
    have h1 : H[a]? = some (arrV (cA 4) 2 (fun j => va_rf (some (r (f j).toNat)))) := hv
    have h2 : arrV (cA 4) 2 (fun j => va_rf (some (r (f j).toNat))) = arrV (cA 4) 2 (fun j => va_rf (some (r (g j).toNat))) := arrV_eq (fun j hj => by rw [h j hj])
    have h3 : H[a]? = some (arrV (cA 4) 2 (fun j => va_rf (some (r (g j).toNat)))) := h1.trans (congrArg some h2)
    exact h3
  by_cases q36 : K = 36
  · subst q36
    have h1 : H[a]? = some (arrV (cA 4) 6 (fun j => va_rf (some (r (f j).toNat)))) := hv
    have h2 : arrV (cA 4) 6 (fun j => va_rf (some (r (f j).toNat))) = arrV (cA 4) 6 (fun j => va_rf (some (r (g j).toNat))) := arrV_eq (fun j hj => by rw [h j hj])
    have h3 : H[a]? = some (arrV (cA 4) 6 (fun j => va_rf (some (r (g j).toNat)))) := h1.trans (congrArg some h2)
    exact h3
  by_cases q40 : K = 40
  · subst q40
    exact hv
  by_cases q50 : K = 50
  · subst q50
    have h1 : H[a]? = some (arrV (cA 2) 1 (fun j => .long (Int64.ofInt (f j)))) := hv
    have h2 : arrV (cA 2) 1 (fun j => .long (Int64.ofInt (f j))) = arrV (cA 2) 1 (fun j => .long (Int64.ofInt (g j))) := arrV_eq (fun j hj => by rw [h j hj])
    have h3 : H[a]? = some (arrV (cA 2) 1 (fun j => .long (Int64.ofInt (g j)))) := h1.trans (congrArg some h2)
    exact h3
  have e1 : ∀ f : Nat → Int, cl K r cA i f = .inl (cA 0, K - 100, .inl (fun j => iN (f j))) := fun f => by
    unfold cl
    rw [if_neg q1, if_neg q2, if_neg q3, if_neg q4, if_neg q5, if_neg q6, if_neg q20, if_neg q32, if_neg q36, if_neg q40, if_neg q50]
  have e2 : ∀ j, ksz K j = (j < K - 100) := fun j => by
    unfold ksz
    rw [if_neg q1, if_neg q2, if_neg q3, if_neg q4, if_neg q5, if_neg q6, if_neg q20, if_neg q32, if_neg q36, if_neg q40, if_neg q50]
  rw [e1] at hv ⊢
  have h := fun j hj => h j (by rw [e2]; exact hj)
  have h1 : H[a]? = some (arrV (cA 0) (K - 100) (fun j => .int (iN (f j)))) := hv
  have h2 : arrV (cA 0) (K - 100) (fun j => .int (iN (f j))) = arrV (cA 0) (K - 100) (fun j => .int (iN (g j))) := arrV_eq (fun j hj => by rw [h j hj])
  have h3 : H[a]? = some (arrV (cA 0) (K - 100) (fun j => .int (iN (g j)))) := h1.trans (congrArg some h2)
  exact h3
theorem va_rez {D : va_G} {H : Heap} {r : Nat → Nat} {cA : Nat → ClassId} {z1 z2 : Zt} (h : ∀ i j, i < NN → ksz (kd i) j → z1 i j = z2 i j) (hP : va_P D vwCl (wz r cA z1) H) : va_P D vwCl (wz r cA z2) H := by
  intro k q hk
  obtain ⟨hk1, rfl⟩ := wl_key hk
  exact cl_re (fun j hj => h k j hk1 hj) (hP k _ (wl_at hk1))
section VS
variable {l : Launch} {D : va_G} {cA : Nat → ClassId} {r : Nat → Nat} {Rm : Room} {Γ : Cx} {cc : ByteArray} {own : String} {Ts : List Cond} {mL : Nat} {z : Zt} {kc ks : Nat} {lv : List (Nat × Value)} {pc : Nat} {st : List Value}

theorem v_re (G : Cok l D cA r Rm Γ cc own Ts mL) (z2 : Zt) (h : ∀ i j, i < NN → ksz (kd i) j → z i j = z2 i j) (kk : V Γ z2 kc ks lv pc st) : V Γ z kc ks lv pc st := by
  obtain ⟨p, l', e, R, s, m, args, below, meth, c, Q, A, D', cA', nL, r'⟩ := Γ
  obtain ⟨⟨rfl, rfl, rfl, rfl, rfl, rfl⟩, ⟨hx, hb, hml, hown, hts⟩, hK, hN, hr, hA⟩ := G
  intro H locs ls hP hS hL
  exact kk H locs ls (va_rez h hP) hS hL

theorem v_iadd0 (G : Cok l D cA r Rm Γ cc own Ts mL) {x y : Int32} (d : decode cc pc = .ok (.iadd, 1)) (kk : V Γ z kc ks lv (pc + 1) (.int (x + y) :: st)) : V Γ z kc ks lv pc (.int y :: .int x :: st) := by
  obtain ⟨p, l', e, R, s, m, args, below, meth, c, Q, A, D', cA', nL, r'⟩ := Γ
  obtain ⟨⟨rfl, rfl, rfl, rfl, rfl, rfl⟩, ⟨hx, hb, hml, hown, hts⟩, hK, hN, hr, hA⟩ := G
  intro H locs ls hP hS hL
  exact lv_iadd hx hb d (kk H locs ls hP hS hL)

theorem v_isub0 (G : Cok l D cA r Rm Γ cc own Ts mL) {x y : Int32} (d : decode cc pc = .ok (.isub, 1)) (kk : V Γ z kc ks lv (pc + 1) (.int (x - y) :: st)) : V Γ z kc ks lv pc (.int y :: .int x :: st) := by
  obtain ⟨p, l', e, R, s, m, args, below, meth, c, Q, A, D', cA', nL, r'⟩ := Γ
  obtain ⟨⟨rfl, rfl, rfl, rfl, rfl, rfl⟩, ⟨hx, hb, hml, hown, hts⟩, hK, hN, hr, hA⟩ := G
  intro H locs ls hP hS hL
  exact lv_isub hx hb d (kk H locs ls hP hS hL)

theorem v_iushr0 (G : Cok l D cA r Rm Γ cc own Ts mL) {x y : Int32} (d : decode cc pc = .ok (.iushr, 1)) (kk : V Γ z kc ks lv (pc + 1) (.int ((x.toUInt32 >>> (y.toUInt32 &&& Int32.toUInt32 31)).toInt32) :: st)) : V Γ z kc ks lv pc (.int y :: .int x :: st) := by
  obtain ⟨p, l', e, R, s, m, args, below, meth, c, Q, A, D', cA', nL, r'⟩ := Γ
  obtain ⟨⟨rfl, rfl, rfl, rfl, rfl, rfl⟩, ⟨hx, hb, hml, hown, hts⟩, hK, hN, hr, hA⟩ := G
  intro H locs ls hP hS hL
  exact lv_iushr hx hb d rfl (kk H locs ls hP hS hL)

theorem v_ldcw (G : Cok l D cA r Rm Γ cc own Ts mL) {v : Int32} {idx : Nat} (hc : Cond.constant own idx v ∈ Ts) (d : decode cc pc = .ok (.ldc_w idx, 3)) (kk : V Γ z kc ks lv (pc + 3) (.int v :: st)) : V Γ z kc ks lv pc st := by
  obtain ⟨p, l', e, R, s, m, args, below, meth, c, Q, A, D', cA', nL, r'⟩ := Γ
  obtain ⟨⟨rfl, rfl, rfl, rfl, rfl, rfl⟩, ⟨hx, hb, hml, hown, hts⟩, hK, hN, hr, hA⟩ := G
  intro H locs ls hP hS hL
  exact lv_ldcw hx hb hown (hts _ hc) d (kk H locs ls hP hS hL)

end VS
/-! the bits of a number, counted -/
def popK (n : Nat) : Nat → Nat
  | 0 => 0
  | k + 1 => popK n k + (n.testBit k).toNat
theorem popK_cnt {n : Nat} {Q : Nat → Prop} (h : ∀ j : Nat, n.testBit j = true ↔ Q j) : ∀ k, (popK n k : Int) = cntP Q k
  | 0 => rfl
  | k + 1 => by
    simp only [popK, cntP]
    rw [← popK_cnt h k]
    by_cases q : Q k
    · rw [ind_t q, (h k).mpr q]
      simp
    · rw [ind_f q, Bool.eq_false_iff.mpr (fun e => q ((h k).mp e))]
      simp
def bc1 (x : Int32) : Int32 := x - ((x.toUInt32 >>> ((iN 1).toUInt32 &&& Int32.toUInt32 31)).toInt32 &&& 1431655765)
def bc2 (x : Int32) : Int32 := (x &&& 858993459) + ((x.toUInt32 >>> ((iN 2).toUInt32 &&& Int32.toUInt32 31)).toInt32 &&& 858993459)
def bc3 (x : Int32) : Int32 := (x + (x.toUInt32 >>> ((iN 4).toUInt32 &&& Int32.toUInt32 31)).toInt32) &&& 252645135
def bc4 (x : Int32) : Int32 := x + (x.toUInt32 >>> ((iN 8).toUInt32 &&& Int32.toUInt32 31)).toInt32
def bc5 (x : Int32) : Int32 := x + (x.toUInt32 >>> ((iN 16).toUInt32 &&& Int32.toUInt32 31)).toInt32
def bc6 (x : Int32) : Int32 := x &&& iN 63
set_option maxRecDepth 100000 in
theorem bc_all : ∀ n, n < 1024 → bc6 (bc5 (bc4 (bc3 (bc2 (bc1 (nI n)))))) = nI (popK n 10) := by decide +kernel
theorem bc_ok {Q : Nat → Prop} {v : Int} (h : isSet Q v) : bc6 (bc5 (bc4 (bc3 (bc2 (bc1 (iN v)))))) = iN (cntP Q 10) := by
  obtain ⟨n, rfl, h1, h2⟩ := h
  rw [iN_nI, bc_all n h1, ← iN_nI, popK_cnt h2 10]
/-! copies -/
def cpy (z : Zt) (a b : Nat) : Zt := fun i => if i = a then z b else z i
def cpT (z : Zt) (t u : Nat) : Zt := fun i => if i = t then z u else if i = t + 1 then z (u + 1) else if i = t + 2 then z (u + 2) else z i
def cpS (z : Zt) (s q k : Nat) : Zt := fun i => if s + 1 ≤ i ∧ i < s + 7 then z (i - s + q) else if s + 8 ≤ i ∧ i < s + 8 + k then z (i - s + q) else z i
def cpB (z : Zt) (s q : Nat) : Zt := fun i => if s ≤ i ∧ i < s + 18 then z (i - s + q) else z i
theorem TT_ne {t u : Nat} (ht : kd t = 3) (hu : kd u = 3) : u ≠ t + 1 ∧ u ≠ t + 2 ∧ t ≠ u + 1 ∧ t ≠ u + 2 := by
  refine ⟨fun e => ?_, fun e => ?_, fun e => ?_, fun e => ?_⟩
  · rw [e, kT_D ht] at hu; cases hu
  · rw [e, kT_L ht] at hu; cases hu
  · rw [e, kT_D hu] at ht; cases ht
  · rw [e, kT_L hu] at ht; cases ht
theorem S_base {s : Nat} (h : kd s = 2) : s = 1 ∨ ∃ j : Nat, j < 8 ∧ s = 25 + 18 * j := by
  have h1 := kd_all (P := fun i k => k != 2 || decide (i = 1 ∨ ((25 ≤ i ∧ i < 169) ∧ (i - 25) % 18 = 0))) (by decide +kernel) h (by decide)
  have h2 : s = 1 ∨ ((25 ≤ s ∧ s < 169) ∧ (s - 25) % 18 = 0) := by simpa using h1
  rcases h2 with q | ⟨q1, q2⟩
  · exact Or.inl q
  · exact Or.inr ⟨(s - 25) / 18, by omega, by omega⟩
theorem SS_far {s q : Nat} (hs : kd s = 2) (hq : kd q = 2) (h : s ≠ q) : s + 18 ≤ q ∨ q + 18 ≤ s := by
  rcases S_base hs with a | ⟨j, a1, a2⟩ <;> rcases S_base hq with b | ⟨k, b1, b2⟩ <;> omega
theorem cpS_0 {z : Zt} {s q : Nat} (h : s + 18 ≤ q ∨ q + 18 ≤ s) : cpT (cpT z (s + 1) (q + 1)) (s + 4) (q + 4) = cpS z s q 0 := by
  funext i
  unfold cpT cpS
  by_cases a1 : i = s + 1
  · subst a1; rw [if_neg (by omega), if_neg (by omega), if_neg (by omega), if_pos rfl, if_pos (by omega), show s + 1 - s + q = q + 1 by omega]
  by_cases a2 : i = s + 2
  · subst a2; rw [if_neg (by omega), if_neg (by omega), if_neg (by omega), if_neg (by omega), if_pos rfl, if_pos (by omega), show s + 2 - s + q = q + 1 + 1 by omega]
  by_cases a3 : i = s + 3
  · subst a3; rw [if_neg (by omega), if_neg (by omega), if_neg (by omega), if_neg (by omega), if_neg (by omega), if_pos rfl, if_pos (by omega), show s + 3 - s + q = q + 1 + 2 by omega]
  by_cases a4 : i = s + 4
  · subst a4; rw [if_pos rfl, if_neg (by omega), if_neg (by omega), if_neg (by omega), if_pos (by omega), show s + 4 - s + q = q + 4 by omega]
  by_cases a5 : i = s + 5
  · subst a5; rw [if_neg (by omega), if_pos rfl, if_neg (by omega), if_neg (by omega), if_neg (by omega), if_pos (by omega), show s + 5 - s + q = q + 4 + 1 by omega]
  by_cases a6 : i = s + 6
  · subst a6; rw [if_neg (by omega), if_neg (by omega), if_pos rfl, if_neg (by omega), if_neg (by omega), if_neg (by omega), if_pos (by omega), show s + 6 - s + q = q + 4 + 2 by omega]
  rw [if_neg (by omega), if_neg (by omega), if_neg (by omega), if_neg (by omega), if_neg (by omega), if_neg (by omega), if_neg (by omega), if_neg (by omega)]
theorem cpS_s {z : Zt} {s q k : Nat} (h : s + 18 ≤ q ∨ q + 18 ≤ s) (hk : k < 10) : cpy (cpS z s q k) (s + 7 + 1 + k) (q + 7 + 1 + k) = cpS z s q (k + 1) := by
  funext i
  unfold cpy cpS
  by_cases a1 : i = s + 7 + 1 + k
  · subst a1
    rw [if_pos rfl, if_neg (by omega), if_neg (by omega), if_neg (by omega), if_pos (by omega), show s + 7 + 1 + k - s + q = q + 7 + 1 + k by omega]
  · rw [if_neg a1]
    by_cases a2 : s + 1 ≤ i ∧ i < s + 7
    · rw [if_pos a2, if_pos a2]
    · rw [if_neg a2, if_neg a2]
      by_cases a3 : s + 8 ≤ i ∧ i < s + 8 + k
      · rw [if_pos a3, if_pos (by omega)]
      · rw [if_neg a3, if_neg (by omega)]
theorem cpS_q {z : Zt} {s q k i : Nat} (h : s + 18 ≤ q ∨ q + 18 ≤ s) (hk : k ≤ 10) (hi : i < 18) : cpS z s q k (q + i) = z (q + i) := by
  unfold cpS
  rw [if_neg (by omega), if_neg (by omega)]
theorem cpS_own {z : Zt} {s q k : Nat} : cpS z s q k s = z s ∧ cpS z s q k (s + 7) = z (s + 7) := by
  unfold cpS
  constructor
  · rw [if_neg (by omega), if_neg (by omega)]
  · rw [if_neg (by omega), if_neg (by omega)]
theorem cpT_o {z : Zt} {t u i : Nat} (h1 : i ≠ t) (h2 : i ≠ t + 1) (h3 : i ≠ t + 2) : cpT z t u i = z i := by
  unfold cpT
  rw [if_neg h1, if_neg h2, if_neg h3]
end
section
/-! marking days: by years -/
theorem mk_skip {A : Nat → Prop} {K : Int → Int} {k : Nat} {y0 x d v : Int} (h : isSet (fun j => A j ∨ (j = k ∧ ∃ y, y0 ≤ y ∧ y < x ∧ K y = d)) v) (hx : K x ≠ d) : isSet (fun j => A j ∨ (j = k ∧ ∃ y, y0 ≤ y ∧ y < x + 1 ∧ K y = d)) v := by
  refine isSet_congr h (fun j => ?_)
  constructor
  · rintro (a | ⟨a, y, b1, b2, b3⟩)
    · exact Or.inl a
    · exact Or.inr ⟨a, y, b1, by omega, b3⟩
  · rintro (a | ⟨a, y, b1, b2, b3⟩)
    · exact Or.inl a
    · by_cases q : y < x
      · exact Or.inr ⟨a, y, b1, q, b3⟩
      · have e : y = x := by omega
        rw [e] at b3
        exact absurd b3 hx
theorem mk_hit {A : Nat → Prop} {K : Int → Int} {k : Nat} {y0 x d v : Int} (h : isSet (fun j => (A j ∨ (j = k ∧ ∃ y, y0 ≤ y ∧ y < x ∧ K y = d)) ∨ j = k) v) (hy : y0 ≤ x) (hx : K x = d) : isSet (fun j => A j ∨ (j = k ∧ ∃ y, y0 ≤ y ∧ y < x + 1 ∧ K y = d)) v := by
  refine isSet_congr h (fun j => ?_)
  constructor
  · rintro ((a | ⟨a, y, b1, b2, b3⟩) | a)
    · exact Or.inl a
    · exact Or.inr ⟨a, y, b1, by omega, b3⟩
    · exact Or.inr ⟨a, x, hy, by omega, hx⟩
  · rintro (a | ⟨a, -⟩)
    · exact Or.inl (Or.inl a)
    · exact Or.inr a
theorem mk_begin {A : Nat → Prop} {K : Int → Int} {k : Nat} {y0 d v : Int} (h : isSet A v) : isSet (fun j => A j ∨ (j = k ∧ ∃ y, y0 ≤ y ∧ y < y0 ∧ K y = d)) v := by
  refine isSet_congr h (fun j => ⟨Or.inl, ?_⟩)
  rintro (a | ⟨-, y, b1, b2, -⟩)
  · exact a
  · omega
theorem mk_done {O : Nat → Prop} {K : Int → Int} {kk : Int} {y0 x d v : Int} (h : isSet (fun j => ((j : Int) < kk ∧ O j) ∨ (j = kk.toNat ∧ ∃ y, y0 ≤ y ∧ y < x ∧ K y = d)) v) (hk : 0 ≤ kk) (ho : O kk.toNat ↔ ∃ y, y0 ≤ y ∧ y < x ∧ K y = d) : isSet (fun j => (j : Int) < kk + 1 ∧ O j) v := by
  refine isSet_congr h (fun j => ?_)
  constructor
  · rintro (⟨a, b⟩ | ⟨a, b⟩)
    · exact ⟨by omega, b⟩
    · rw [a]
      exact ⟨by omega, ho.mpr b⟩
  · rintro ⟨a, b⟩
    by_cases q : (j : Int) < kk
    · exact Or.inl ⟨q, b⟩
    · have e : j = kk.toNat := by omega
      rw [e] at b
      exact Or.inr ⟨e, ho.mp b⟩
/-- agreement but for the row of the days -/
def ag24 (z z1 : Zt) : Prop := ∀ a : Nat, a ≠ 24 → z1 a = z a
theorem ag24_blk {z z1 : Zt} {s : Nat} (h : ag24 z z1) (hs : kd s = 2) : blkE z z1 s := fun j hj => h _ (S_ne hs hj).1
theorem ag24_s {z z1 : Zt} {s : Nat} (h : ag24 z z1) (hs : kd s = 2) : z1 s = z s := by
  have := (S_ne (j := 0) hs (by decide)).1
  exact h s this
theorem ag24_up {z z1 : Zt} {k : Nat} {x : Int} (h : ag24 z z1) : ag24 z (zup z1 24 k x) := fun a ha => by
  have : zup z1 24 k x a = z1 a := by simp [zup, ha]
  rw [this]
  exact h a ha
theorem zup24_s (z : Zt) (k : Nat) (x : Int) : zup z 24 k x 24 k = x := by simp [zup]
theorem zup24_n (z : Zt) {k j : Nat} (x : Int) (h : j ≠ k) : zup z 24 k x 24 j = z 24 j := by simp [zup, h]
/-- both towns keep a feast on the day -/
def quS (z : Zt) (s : Nat) (d : Int) : Prop := (∃ j : Nat, ((j : Int) < z s 3 ∧ onS z s (s + 8 + j) d) ∧ ((j : Int) < z s 3 ∧ z (s + 8 + j) 0 = 0)) ∧ ∃ j : Nat, ((j : Int) < z s 3 ∧ onS z s (s + 8 + j) d) ∧ ((j : Int) < z s 3 ∧ z (s + 8 + j) 0 = 1)
theorem cntP_y {Q : Nat → Prop} {x : Int} (hx : 0 ≤ x) (h : Q x.toNat) : cntP Q (x + 1).toNat = cntP Q x.toNat + 1 := by
  rw [show (x + 1).toNat = x.toNat + 1 by omega]
  simp only [cntP]
  rw [ind_t h]
theorem cntP_n {Q : Nat → Prop} {x : Int} (hx : 0 ≤ x) (h : ¬ Q x.toNat) : cntP Q (x + 1).toNat = cntP Q x.toNat := by
  rw [show (x + 1).toNat = x.toNat + 1 by omega]
  simp only [cntP]
  rw [ind_f h]
  omega
theorem not_all {P : Nat → Prop} (h : ¬ ∀ j, ¬ P j) : ∃ j, P j := Classical.byContradiction fun q => h fun j hj => q ⟨j, hj⟩
def sumN (f : Nat → Int) : Nat → Int
  | 0 => 0
  | n + 1 => sumN f n + f n
theorem sumN_s {f : Nat → Int} {x : Int} (hx : 0 ≤ x) : sumN f (x + 1).toNat = sumN f x.toNat + f x.toNat := by
  rw [show (x + 1).toNat = x.toNat + 1 by omega]
  rfl
theorem sumN_congr {f g : Nat → Int} : ∀ {n : Nat}, (∀ j, j < n → f j = g j) → sumN f n = sumN g n
  | 0, _ => rfl
  | n + 1, h => by
    simp only [sumN]
    rw [sumN_congr (fun j hj => h j (by omega)), h n (by omega)]
/-- a state whose counts have grown -/
def psZ (z : Zt) (s : Nat) (a b c : Int) : Zt := fun i => if i = s + 1 then (fun j => if j = 4 then z (s + 1) 4 + a else z (s + 1) j) else if i = s + 4 then (fun j => if j = 4 then z (s + 4) 4 + b else z (s + 4) j) else if i = s then (fun j => if j = 8 then z s 8 + c else z s j) else z i
theorem psZ_0 (z : Zt) (s : Nat) : psZ z s 0 0 0 = z := by
  funext i j
  unfold psZ
  by_cases q1 : i = s + 1
  · subst q1
    by_cases q : j = 4
    · subst q; simp
    · simp [q]
  · by_cases q2 : i = s + 4
    · subst q2
      by_cases q : j = 4
      · subst q; simp
      · simp [q]
    · by_cases q3 : i = s
      · subst q3
        by_cases q : j = 8
        · subst q; simp
        · simp [q]
      · simp [q1, q2, q3]
theorem psZ_A (z : Zt) (s : Nat) (a b c x : Int) : zup (psZ z s a b c) (s + 1) 4 (psZ z s a b c (s + 1) 4 + x) = psZ z s (a + x) b c := by
  funext i j
  unfold psZ zup
  by_cases q1 : i = s + 1
  · subst q1
    by_cases q : j = 4
    · subst q; simp; omega
    · simp [q]
  · simp [q1]
theorem psZ_B (z : Zt) (s : Nat) (a b c x : Int) : zup (psZ z s a b c) (s + 4) 4 (psZ z s a b c (s + 4) 4 + x) = psZ z s a (b + x) c := by
  funext i j
  unfold psZ zup
  by_cases q1 : i = s + 4
  · subst q1
    by_cases q : j = 4
    · subst q; simp; omega
    · simp [q]
  · simp [q1]
theorem psZ_C (z : Zt) (s : Nat) (a b c x : Int) : zup (psZ z s a b c) s 8 (psZ z s a b c s 8 + x) = psZ z s a b (c + x) := by
  funext i j
  unfold psZ zup
  by_cases q1 : i = s
  · subst q1
    by_cases q : j = 8
    · subst q; simp; omega
    · simp [q]
  · simp [q1]
theorem psZ_o {z : Zt} {s i : Nat} {a b c : Int} (h1 : i ≠ s + 1) (h2 : i ≠ s + 4) (h3 : i ≠ s) : psZ z s a b c i = z i := by
  unfold psZ
  rw [if_neg h1, if_neg h2, if_neg h3]
theorem psZ_5 {z : Zt} {s : Nat} {a b c : Int} : psZ z s a b c s 5 = z s 5 ∧ psZ z s a b c s 3 = z s 3 := by
  unfold psZ
  rw [if_neg (by omega), if_neg (by omega), if_pos rfl]
  exact ⟨rfl, rfl⟩
end
section
set_option maxHeartbeats 4000000 in
set_option maxRecDepth 100000 in
/-- latestGapDay -/
theorem c_X3_latestGapDay {l : Launch} {D : va_G} {cA : Nat → ClassId} {r : Nat → Nat} {z : Zt} {t : Nat} (hr : Inj r) (ht : kd t = 3) (hT : TI z t) : Ki l D cA r yX3_latestGapDay wsX3_latestGapDay 0 0 z [.ref (r t)] (fun x z1 => z = z1 ∧ x = (if z t 3 = 0 then -1 else z (t + 1) (z t 3 - 1).toNat)) := by
  have iW3 : ∀ w ∈ u_ws RX3 TX3 5, w ∈ wsX3_latestGapDay := by decide +kernel
  have f9 : Cond.fieldLink RX3 9 (TX3 1).1 (TX3 1).2.1 (TX3 1).2.2.1 ∈ wsX3_latestGapDay := by decide +kernel
  have f18 : Cond.fieldLink RX3 18 (TX3 3).1 (TX3 3).2.1 (TX3 3).2.2.1 ∈ wsX3_latestGapDay := by decide +kernel
  obtain ⟨h01, hg⟩ := hT
  obtain ⟨hn0, hn3, hk, hs⟩ := id hg
  refine Ki_of [(0, _)] hr (by decide) rfl rfl (Nat.le_of_ble_eq_true rfl) rfl (fun Γ hG hR => ?_)
  refine v_aload_n hG dX3_latestGapDay_0 0 rfl ?_
  refine v_getf (ci := 3) (k := 3) hG iW3 f18 rfl (by decide) ht (by decide) (cl_3 _ _ _ _) rfl dX3_latestGapDay_1 ?_
  refine v_if_le hG 21 (by omega) dX3_latestGapDay_4 (by decide) (fun h4 => ?_) (fun h4 => ?_)
  · refine v_iconst hG dX3_latestGapDay_21 ?_
    exact v_iret hG hR dX3_latestGapDay_22 ⟨rfl, by first | (rw [if_neg (by omega)]) | (rw [if_pos (by omega)])⟩
  · refine v_aload_n hG dX3_latestGapDay_7 0 rfl ?_
    refine v_getf (ci := 3) (k := 1) hG iW3 f9 rfl (by decide) ht (by decide) (cl_3 _ _ _ _) rfl dX3_latestGapDay_8 ?_
    refine v_aload_n hG dX3_latestGapDay_11 0 rfl ?_
    refine v_getf (ci := 3) (k := 3) hG iW3 f18 rfl (by decide) ht (by decide) (cl_3 _ _ _ _) rfl dX3_latestGapDay_12 ?_
    refine v_iconst hG dX3_latestGapDay_15 ?_
    refine v_isub hG dX3_latestGapDay_16 ?_
    refine v_iald hG (kT_D ht) (by decide) (cl_103 _ _ _ _) (by decide) (by omega) dX3_latestGapDay_17 ?_
    refine v_goto hG 22 dX3_latestGapDay_18 (by decide) ?_
    exact v_iret hG hR dX3_latestGapDay_22 ⟨rfl, by first | (rw [if_neg (by omega)]) | (rw [if_pos (by omega)])⟩

set_option maxHeartbeats 4000000 in
set_option maxRecDepth 100000 in
theorem c_X3_daysInMonth {l : Launch} {D : va_G} {cA : Nat → ClassId} {r : Nat → Nat} {z : Zt} {t : Nat} {m : Int} (hr : Inj r) (ht : kd t = 3) (hT : TI z t) (hm : 0 ≤ m ∧ m ≤ 100) : Ki l D cA r yX3_daysInMonth wsX3_daysInMonth 0 0 z [.ref (r t), .int (iN m)] (fun x z1 => z = z1 ∧ x = mlen (z t 0) m) := by
  have iW3 : ∀ w ∈ u_ws RX3 TX3 5, w ∈ wsX3_daysInMonth := by decide +kernel
  have f25 : Cond.fieldLink RX3 25 (TX3 0).1 (TX3 0).2.1 (TX3 0).2.2.1 ∈ wsX3_daysInMonth := by decide +kernel
  obtain ⟨h01, hg⟩ := hT
  obtain ⟨hn0, hn3, hk, hs⟩ := id hg
  refine Ki_of [(0, _), (1, _)] hr (by decide) rfl rfl (Nat.le_of_ble_eq_true rfl) rfl (fun Γ hG hR => ?_)
  refine v_aload_n hG dX3_daysInMonth_0 0 rfl ?_
  refine v_getf (ci := 3) (k := 0) hG iW3 f25 rfl (by decide) ht (by decide) (cl_3 _ _ _ _) rfl dX3_daysInMonth_1 ?_
  refine v_if_eq hG 22 (by omega) dX3_daysInMonth_4 (by decide) (fun h4 => ?_) (fun h4 => ?_)
  · refine v_bipush hG dX3_daysInMonth_22 (by decide) ?_
    exact v_iret hG hR dX3_daysInMonth_24 ⟨rfl, by unfold mlen; first | (rw [if_pos (by omega)]) | (rw [if_neg (by omega), if_pos (by omega)]) | (rw [if_neg (by omega), if_neg (by omega)])⟩
  · refine v_iload_n hG dX3_daysInMonth_7 1 rfl ?_
    refine v_iconst hG dX3_daysInMonth_8 ?_
    refine v_irem hG (by omega) (by omega) dX3_daysInMonth_9 ?_
    refine v_iconst hG dX3_daysInMonth_10 ?_
    refine v_icmp_ne hG 19 (by omega) (by omega) dX3_daysInMonth_11 (by decide) (fun h11 => ?_) (fun h11 => ?_)
    · refine v_bipush hG dX3_daysInMonth_19 (by decide) ?_
      exact v_iret hG hR dX3_daysInMonth_21 ⟨rfl, by unfold mlen; first | (rw [if_pos (by omega)]) | (rw [if_neg (by omega), if_pos (by omega)]) | (rw [if_neg (by omega), if_neg (by omega)])⟩
    · refine v_bipush hG dX3_daysInMonth_14 (by decide) ?_
      refine v_goto hG 21 dX3_daysInMonth_16 (by decide) ?_
      exact v_iret hG hR dX3_daysInMonth_21 ⟨rfl, by unfold mlen; first | (rw [if_pos (by omega)]) | (rw [if_neg (by omega), if_pos (by omega)]) | (rw [if_neg (by omega), if_neg (by omega)])⟩

set_option maxHeartbeats 4000000 in
set_option maxRecDepth 100000 in
theorem c_X3_daysBeforeMonth {l : Launch} {D : va_G} {cA : Nat → ClassId} {r : Nat → Nat} {z : Zt} {t : Nat} {m : Int} (hr : Inj r) (ht : kd t = 3) (hT : TI z t) (hm : 1 ≤ m ∧ m ≤ 100) : Ki l D cA r yX3_daysBeforeMonth wsX3_daysBeforeMonth 0 0 z [.ref (r t), .int (iN m)] (fun x z1 => z = z1 ∧ x = mbef (z t 0) m) := by
  have iW3 : ∀ w ∈ u_ws RX3 TX3 5, w ∈ wsX3_daysBeforeMonth := by decide +kernel
  have f25 : Cond.fieldLink RX3 25 (TX3 0).1 (TX3 0).2.1 (TX3 0).2.2.1 ∈ wsX3_daysBeforeMonth := by decide +kernel
  obtain ⟨h01, hg⟩ := hT
  obtain ⟨hn0, hn3, hk, hs⟩ := id hg
  refine Ki_of [(0, _), (1, _)] hr (by decide) rfl rfl (Nat.le_of_ble_eq_true rfl) rfl (fun Γ hG hR => ?_)
  refine v_iload_n hG dX3_daysBeforeMonth_0 1 rfl ?_
  refine v_iconst hG dX3_daysBeforeMonth_1 ?_
  refine v_isub hG dX3_daysBeforeMonth_2 ?_
  refine v_istore_n hG [(0, _), (1, _), (2, _)] dX3_daysBeforeMonth_3 (by decide) rfl ?_
  refine v_aload_n hG dX3_daysBeforeMonth_4 0 rfl ?_
  refine v_getf (ci := 3) (k := 0) hG iW3 f25 rfl (by decide) ht (by decide) (cl_3 _ _ _ _) rfl dX3_daysBeforeMonth_5 ?_
  refine v_if_eq hG 22 (by omega) dX3_daysBeforeMonth_8 (by decide) (fun h8 => ?_) (fun h8 => ?_)
  · refine v_iload_n hG dX3_daysBeforeMonth_22 2 rfl ?_
    refine v_bipush hG dX3_daysBeforeMonth_23 (by decide) ?_
    refine v_imul hG dX3_daysBeforeMonth_25 ?_
    exact v_iret hG hR dX3_daysBeforeMonth_26 ⟨rfl, by unfold mbef; first | (rw [if_pos (by omega)]) | (rw [if_neg (by omega)])⟩
  · refine v_iload_n hG dX3_daysBeforeMonth_11 2 rfl ?_
    refine v_bipush hG dX3_daysBeforeMonth_12 (by decide) ?_
    refine v_imul hG dX3_daysBeforeMonth_14 ?_
    refine v_iload_n hG dX3_daysBeforeMonth_15 2 rfl ?_
    refine v_iconst hG dX3_daysBeforeMonth_16 ?_
    refine v_idiv hG (by omega) (by omega) dX3_daysBeforeMonth_17 ?_
    refine v_iadd hG dX3_daysBeforeMonth_18 ?_
    refine v_goto hG 26 dX3_daysBeforeMonth_19 (by decide) ?_
    exact v_iret hG hR dX3_daysBeforeMonth_26 ⟨rfl, by unfold mbef; first | (rw [if_pos (by omega)]) | (rw [if_neg (by omega)])⟩

set_option maxHeartbeats 4000000 in
set_option maxRecDepth 100000 in
theorem c_X3_daysInYear {l : Launch} {D : va_G} {cA : Nat → ClassId} {r : Nat → Nat} {z : Zt} {t : Nat} (hr : Inj r) (ht : kd t = 3) (hT : TI z t) : Ki l D cA r yX3_daysInYear wsX3_daysInYear 0 0 z [.ref (r t)] (fun x z1 => z = z1 ∧ x = yl (z t 0)) := by
  have iW3 : ∀ w ∈ u_ws RX3 TX3 5, w ∈ wsX3_daysInYear := by decide +kernel
  have f25 : Cond.fieldLink RX3 25 (TX3 0).1 (TX3 0).2.1 (TX3 0).2.2.1 ∈ wsX3_daysInYear := by decide +kernel
  obtain ⟨h01, hg⟩ := hT
  obtain ⟨hn0, hn3, hk, hs⟩ := id hg
  refine Ki_of [(0, _)] hr (by decide) rfl rfl (Nat.le_of_ble_eq_true rfl) rfl (fun Γ hG hR => ?_)
  refine v_aload_n hG dX3_daysInYear_0 0 rfl ?_
  refine v_getf (ci := 3) (k := 0) hG iW3 f25 rfl (by decide) ht (by decide) (cl_3 _ _ _ _) rfl dX3_daysInYear_1 ?_
  refine v_if_eq hG 13 (by omega) dX3_daysInYear_4 (by decide) (fun h4 => ?_) (fun h4 => ?_)
  · refine v_sipush hG dX3_daysInYear_13 (by decide) ?_
    exact v_iret hG hR dX3_daysInYear_16 ⟨rfl, by unfold yl; first | (rw [if_pos (by omega)]) | (rw [if_neg (by omega)])⟩
  · refine v_sipush hG dX3_daysInYear_7 (by decide) ?_
    refine v_goto hG 16 dX3_daysInYear_10 (by decide) ?_
    exact v_iret hG hR dX3_daysInYear_16 ⟨rfl, by unfold yl; first | (rw [if_pos (by omega)]) | (rw [if_neg (by omega)])⟩

set_option maxHeartbeats 4000000 in
set_option maxRecDepth 100000 in
theorem c_X3_dateOf {l : Launch} {D : va_G} {cA : Nat → ClassId} {r : Nat → Nat} {z : Zt} {t : Nat} {y m d : Int} (hr : Inj r) (ht : kd t = 3) (hT : TI z t) (hm : 1 ≤ m ∧ m ≤ 100) : Ki l D cA r yX3_dateOf wsX3_dateOf 1 22 z [.ref (r t), .int (iN y), .int (iN m), .int (iN d)] (fun x z1 => z = z1 ∧ x = dof (z t 0) y m d) := by
  refine Ki_of [(0, _), (1, _), (2, _), (3, _)] hr (by decide) rfl rfl (Nat.le_of_ble_eq_true rfl) rfl (fun Γ hG hR => ?_)
  refine v_iload_n hG dX3_dateOf_0 1 rfl ?_
  refine v_iconst hG dX3_dateOf_1 ?_
  refine v_isub hG dX3_dateOf_2 ?_
  refine v_aload_n hG dX3_dateOf_3 0 rfl ?_
  refine v_callVi (n := 0) (ci := 3) hG (c_X3_daysInYear hr ht hT) gX3_dateOf_X3_daysInYear rfl (by decide +kernel) rfl (by decide) ht (by decide) (cl_3 _ _ _ _) rfl dX3_dateOf_4 rfl (Nat.le_of_ble_eq_true rfl) (by decide) ?_
  intro v4 z4 hp4
  obtain ⟨rfl, rfl⟩ := hp4
  refine v_imul hG dX3_dateOf_7 ?_
  refine v_aload_n hG dX3_dateOf_8 0 rfl ?_
  refine v_iload_n hG dX3_dateOf_9 2 rfl ?_
  refine v_callVi (n := 1) (ci := 3) hG (c_X3_daysBeforeMonth hr ht hT (by omega)) gX3_dateOf_X3_daysBeforeMonth rfl (by decide +kernel) rfl (by decide) ht (by decide) (cl_3 _ _ _ _) rfl dX3_dateOf_10 rfl (Nat.le_of_ble_eq_true rfl) (by decide) ?_
  intro v10 z10 hp10
  obtain ⟨rfl, rfl⟩ := hp10
  refine v_iadd hG dX3_dateOf_13 ?_
  refine v_iload_n hG dX3_dateOf_14 3 rfl ?_
  refine v_iadd hG dX3_dateOf_15 ?_
  refine v_iconst hG dX3_dateOf_16 ?_
  refine v_isub hG dX3_dateOf_17 ?_
  exact v_iret hG hR dX3_dateOf_18 ⟨rfl, rfl⟩

set_option maxHeartbeats 4000000 in
set_option maxRecDepth 100000 in
theorem c_X3_dateOn {l : Launch} {D : va_G} {cA : Nat → ClassId} {r : Nat → Nat} {z : Zt} {t : Nat} {d : Int} (hr : Inj r) (ht : kd t = 3) (hT : TI z t) (hd : -2147483648 ≤ d ∧ d < 2147483648) : Ki l D cA r yX3_dateOn wsX3_dateOn 0 0 z [.ref (r t), .int (iN d)] (fun x z1 => z = z1 ∧ x = calT z t d) := by
  have iW3 : ∀ w ∈ u_ws RX3 TX3 5, w ∈ wsX3_dateOn := by decide +kernel
  have f9 : Cond.fieldLink RX3 9 (TX3 1).1 (TX3 1).2.1 (TX3 1).2.2.1 ∈ wsX3_dateOn := by decide +kernel
  have f15 : Cond.fieldLink RX3 15 (TX3 2).1 (TX3 2).2.1 (TX3 2).2.2.1 ∈ wsX3_dateOn := by decide +kernel
  have f18 : Cond.fieldLink RX3 18 (TX3 3).1 (TX3 3).2.1 (TX3 3).2.2.1 ∈ wsX3_dateOn := by decide +kernel
  obtain ⟨h01, hg⟩ := hT
  obtain ⟨hn0, hn3, hk, hs⟩ := id hg
  refine Ki_of [(0, _), (1, _)] hr (by decide) rfl rfl (Nat.le_of_ble_eq_true rfl) rfl (fun Γ hG hR => ?_)
  refine v_iload_n hG dX3_dateOn_0 1 rfl ?_
  refine v_istore_n hG [(0, _), (1, _), (2, _)] dX3_dateOn_1 (by decide) rfl ?_
  refine v_iconst hG dX3_dateOn_2 ?_
  refine v_istore_n hG [(0, _), (1, _), (2, _), (3, _)] dX3_dateOn_3 (by decide) rfl ?_
  have L4 : ∀ (n : Nat), ∀ (x2 x3 : Int), (0 ≤ x3 ∧ x3 ≤ z t 3 ∧ x2 = calN (z (t + 1)) (z (t + 2)) d x3.toNat) → (z t 3 - x3 + 1).toNat ≤ n → V Γ z 0 0 [(0, .ref (r t)), (1, .int (iN d)), (2, .int (iN x2)), (3, .int (iN x3))] 4 [] := by
    intro n
    induction n with
    | zero =>
      intro x2 x3 hI hm
      obtain ⟨i1, i2, i3v⟩ := hI
      exact absurd hm (by omega)
    | succ n ih4 =>
      intro x2 x3 hI hm
      obtain ⟨i1, i2, i3v⟩ := hI
      refine v_iload_n hG dX3_dateOn_4 3 rfl ?_
      refine v_aload_n hG dX3_dateOn_5 0 rfl ?_
      refine v_getf (ci := 3) (k := 3) hG iW3 f18 rfl (by decide) ht (by decide) (cl_3 _ _ _ _) rfl dX3_dateOn_6 ?_
      refine v_icmp_ge hG 37 (by omega) (by omega) dX3_dateOn_9 (by decide) (fun h9 => ?_) (fun h9 => ?_)
      · refine v_iload_n hG dX3_dateOn_37 2 rfl ?_
        exact v_iret hG hR dX3_dateOn_38 ⟨rfl, by rw [i3v, calT, show x3 = z t 3 by omega]⟩
      · have hb := hk x3.toNat (by omega)
        refine v_iload_n hG dX3_dateOn_12 1 rfl ?_
        refine v_aload_n hG dX3_dateOn_13 0 rfl ?_
        refine v_getf (ci := 3) (k := 1) hG iW3 f9 rfl (by decide) ht (by decide) (cl_3 _ _ _ _) rfl dX3_dateOn_14 ?_
        refine v_iload_n hG dX3_dateOn_17 3 rfl ?_
        refine v_iald hG (kT_D ht) (by decide) (cl_103 _ _ _ _) (by decide) (by omega) dX3_dateOn_18 ?_
        refine v_icmp_le hG 31 (by omega) (by omega) dX3_dateOn_19 (by decide) (fun h19 => ?_) (fun h19 => ?_)
        · refine v_iinc hG [(0, _), (1, _), (2, _), (3, _)] dX3_dateOn_31 3 rfl (by decide) rfl ?_
          refine v_goto hG 4 dX3_dateOn_34 (by decide) ?_
          exact ih4 _ _ (by refine ⟨by omega, by omega, ?_⟩; rw [show (x3 + 1).toNat = x3.toNat + 1 by omega]; simp only [calN]; split <;> omega) (by omega)
        · refine v_iload_n hG dX3_dateOn_22 2 rfl ?_
          refine v_aload_n hG dX3_dateOn_23 0 rfl ?_
          refine v_getf (ci := 3) (k := 2) hG iW3 f15 rfl (by decide) ht (by decide) (cl_3 _ _ _ _) rfl dX3_dateOn_24 ?_
          refine v_iload_n hG dX3_dateOn_27 3 rfl ?_
          refine v_iald hG (kT_L ht) (by decide) (cl_103 _ _ _ _) (by decide) (by omega) dX3_dateOn_28 ?_
          refine v_iadd hG dX3_dateOn_29 ?_
          refine v_istore_n hG [(0, _), (1, _), (2, _), (3, _)] dX3_dateOn_30 (by decide) rfl ?_
          refine v_iinc hG [(0, _), (1, _), (2, _), (3, _)] dX3_dateOn_31 3 rfl (by decide) rfl ?_
          refine v_goto hG 4 dX3_dateOn_34 (by decide) ?_
          exact ih4 _ _ (by refine ⟨by omega, by omega, ?_⟩; rw [show (x3 + 1).toNat = x3.toNat + 1 by omega]; simp only [calN]; split <;> omega) (by omega)
  exact L4 _ _ _ ⟨by omega, by omega, rfl⟩ (Nat.le_refl _)

set_option maxHeartbeats 4000000 in
set_option maxRecDepth 100000 in
theorem c_X3_dayInYearOn {l : Launch} {D : va_G} {cA : Nat → ClassId} {r : Nat → Nat} {z : Zt} {t : Nat} {d : Int} (hr : Inj r) (ht : kd t = 3) (hT : TI z t) (hd : 0 ≤ d ∧ d ≤ 1000000) : Ki l D cA r yX3_dayInYearOn wsX3_dayInYearOn 1 23 z [.ref (r t), .int (iN d)] (fun x z1 => z = z1 ∧ x = calT z t d % yl (z t 0)) := by
  have iW3 : ∀ w ∈ u_ws RX3 TX3 5, w ∈ wsX3_dayInYearOn := by decide +kernel
  have f25 : Cond.fieldLink RX3 25 (TX3 0).1 (TX3 0).2.1 (TX3 0).2.2.1 ∈ wsX3_dayInYearOn := by decide +kernel
  have hcb := calT_bd hT d
  have h01 := hT.1
  refine Ki_of [(0, _), (1, _)] hr (by decide) rfl rfl (Nat.le_of_ble_eq_true rfl) rfl (fun Γ hG hR => ?_)
  refine v_aload_n hG dX3_dayInYearOn_0 0 rfl ?_
  refine v_iload_n hG dX3_dayInYearOn_1 1 rfl ?_
  refine v_callVi (n := 1) (ci := 3) hG (c_X3_dateOn hr ht hT (by omega)) gX3_dayInYearOn_X3_dateOn rfl (by decide +kernel) rfl (by decide) ht (by decide) (cl_3 _ _ _ _) rfl dX3_dayInYearOn_2 rfl (Nat.le_of_ble_eq_true rfl) (by decide) ?_
  intro v2 z2 hp2
  obtain ⟨rfl, rfl⟩ := hp2
  refine v_istore_n hG [(0, _), (1, _), (2, _)] dX3_dayInYearOn_5 (by decide) rfl ?_
  refine v_aload_n hG dX3_dayInYearOn_6 0 rfl ?_
  refine v_getf (ci := 3) (k := 0) hG iW3 f25 rfl (by decide) ht (by decide) (cl_3 _ _ _ _) rfl dX3_dayInYearOn_7 ?_
  refine v_if_eq hG 21 (by omega) dX3_dayInYearOn_10 (by decide) (fun h10 => ?_) (fun h10 => ?_)
  · refine v_iload_n hG dX3_dayInYearOn_21 2 rfl ?_
    refine v_sipush hG dX3_dayInYearOn_22 (by decide) ?_
    refine v_irem hG (by omega) (by omega) dX3_dayInYearOn_25 ?_
    exact v_iret hG hR dX3_dayInYearOn_26 ⟨rfl, by unfold yl; first | (rw [if_pos (by omega)]) | (rw [if_neg (by omega)])⟩
  · refine v_iload_n hG dX3_dayInYearOn_13 2 rfl ?_
    refine v_sipush hG dX3_dayInYearOn_14 (by decide) ?_
    refine v_irem hG (by omega) (by omega) dX3_dayInYearOn_17 ?_
    refine v_goto hG 26 dX3_dayInYearOn_18 (by decide) ?_
    exact v_iret hG hR dX3_dayInYearOn_26 ⟨rfl, by unfold yl; first | (rw [if_pos (by omega)]) | (rw [if_neg (by omega)])⟩

set_option maxHeartbeats 4000000 in
set_option maxRecDepth 100000 in
theorem c_X3_yearOn {l : Launch} {D : va_G} {cA : Nat → ClassId} {r : Nat → Nat} {z : Zt} {t : Nat} {d : Int} (hr : Inj r) (ht : kd t = 3) (hT : TI z t) (hd : 0 ≤ d ∧ d ≤ 1000000) : Ki l D cA r yX3_yearOn wsX3_yearOn 1 23 z [.ref (r t), .int (iN d)] (fun x z1 => z = z1 ∧ x = 1 + calT z t d / yl (z t 0)) := by
  have iW3 : ∀ w ∈ u_ws RX3 TX3 5, w ∈ wsX3_yearOn := by decide +kernel
  have f25 : Cond.fieldLink RX3 25 (TX3 0).1 (TX3 0).2.1 (TX3 0).2.2.1 ∈ wsX3_yearOn := by decide +kernel
  have hcb := calT_bd hT d
  have h01 := hT.1
  refine Ki_of [(0, _), (1, _)] hr (by decide) rfl rfl (Nat.le_of_ble_eq_true rfl) rfl (fun Γ hG hR => ?_)
  refine v_aload_n hG dX3_yearOn_0 0 rfl ?_
  refine v_iload_n hG dX3_yearOn_1 1 rfl ?_
  refine v_callVi (n := 1) (ci := 3) hG (c_X3_dateOn hr ht hT (by omega)) gX3_yearOn_X3_dateOn rfl (by decide +kernel) rfl (by decide) ht (by decide) (cl_3 _ _ _ _) rfl dX3_yearOn_2 rfl (Nat.le_of_ble_eq_true rfl) (by decide) ?_
  intro v2 z2 hp2
  obtain ⟨rfl, rfl⟩ := hp2
  refine v_istore_n hG [(0, _), (1, _), (2, _)] dX3_yearOn_5 (by decide) rfl ?_
  refine v_iconst hG dX3_yearOn_6 ?_
  refine v_aload_n hG dX3_yearOn_7 0 rfl ?_
  refine v_getf (ci := 3) (k := 0) hG iW3 f25 rfl (by decide) ht (by decide) (cl_3 _ _ _ _) rfl dX3_yearOn_8 ?_
  refine v_if_eq hG 22 (by omega) dX3_yearOn_11 (by decide) (fun h11 => ?_) (fun h11 => ?_)
  · refine v_iload_n hG dX3_yearOn_22 2 rfl ?_
    refine v_sipush hG dX3_yearOn_23 (by decide) ?_
    refine v_idiv hG (by omega) (by omega) dX3_yearOn_26 ?_
    refine v_iadd hG dX3_yearOn_27 ?_
    exact v_iret hG hR dX3_yearOn_28 ⟨rfl, by unfold yl; first | (rw [if_pos (by omega)]) | (rw [if_neg (by omega)])⟩
  · refine v_iload_n hG dX3_yearOn_14 2 rfl ?_
    refine v_sipush hG dX3_yearOn_15 (by decide) ?_
    refine v_idiv hG (by omega) (by omega) dX3_yearOn_18 ?_
    refine v_goto hG 27 dX3_yearOn_19 (by decide) ?_
    refine v_iadd hG dX3_yearOn_27 ?_
    exact v_iret hG hR dX3_yearOn_28 ⟨rfl, by unfold yl; first | (rw [if_pos (by omega)]) | (rw [if_neg (by omega)])⟩

set_option maxHeartbeats 4000000 in
set_option maxRecDepth 100000 in
theorem c_X3_monthOn {l : Launch} {D : va_G} {cA : Nat → ClassId} {r : Nat → Nat} {z : Zt} {t : Nat} {d : Int} (hr : Inj r) (ht : kd t = 3) (hT : TI z t) (hd : 0 ≤ d ∧ d ≤ 1000000) : Ki l D cA r yX3_monthOn wsX3_monthOn 2 45 z [.ref (r t), .int (iN d)] (fun x z1 => z = z1 ∧ isMon (z t 0) (calT z t d % yl (z t 0)) x) := by
  have hcb := calT_bd hT d
  have hyl := yl_bd (z t 0)
  have hy0 := Int.emod_nonneg (calT z t d) (show yl (z t 0) ≠ 0 by omega)
  have hy1 := Int.emod_lt_of_pos (calT z t d) (show 0 < yl (z t 0) by omega)
  have h13 := mbef_13 (z t 0)
  have hm1 := mbef_1 (z t 0)
  refine Ki_of [(0, _), (1, _)] hr (by decide) rfl rfl (Nat.le_of_ble_eq_true rfl) rfl (fun Γ hG hR => ?_)
  refine v_aload_n hG dX3_monthOn_0 0 rfl ?_
  refine v_iload_n hG dX3_monthOn_1 1 rfl ?_
  refine v_callVi (n := 1) (ci := 3) hG (c_X3_dayInYearOn hr ht hT (by omega)) gX3_monthOn_X3_dayInYearOn rfl (by decide +kernel) rfl (by decide) ht (by decide) (cl_3 _ _ _ _) rfl dX3_monthOn_2 rfl (Nat.le_of_ble_eq_true rfl) (by decide) ?_
  intro v2 z2 hp2
  obtain ⟨rfl, rfl⟩ := hp2
  refine v_istore_n hG [(0, _), (1, _), (2, _)] dX3_monthOn_5 (by decide) rfl ?_
  refine v_bipush hG dX3_monthOn_6 (by decide) ?_
  refine v_istore_n hG [(0, _), (1, _), (2, _), (3, _)] dX3_monthOn_8 (by decide) rfl ?_
  have L9 : ∀ (n : Nat), ∀ (x3 : Int), (1 ≤ x3 ∧ x3 ≤ 12 ∧ calT z t d % yl (z t 0) < mbef (z t 0) (x3 + 1)) → (x3 + 1).toNat ≤ n → V Γ z 0 0 [(0, .ref (r t)), (1, .int (iN d)), (2, .int (iN (calT z t d % yl (z t 0)))), (3, .int (iN x3))] 9 [] := by
    intro n
    induction n with
    | zero =>
      intro x3 hI hm
      obtain ⟨i1, i2, i3v⟩ := hI
      exact absurd hm (by omega)
    | succ n ih9 =>
      intro x3 hI hm
      obtain ⟨i1, i2, i3v⟩ := hI
      have hmb := mbef_bd (a := z t 0) (m := x3) i1
      refine v_iload_n hG dX3_monthOn_9 3 rfl ?_
      refine v_iconst hG dX3_monthOn_10 ?_
      refine v_icmp_le hG 29 (by omega) (by omega) dX3_monthOn_11 (by decide) (fun h11 => ?_) (fun h11 => ?_)
      · refine v_iload_n hG dX3_monthOn_29 3 rfl ?_
        exact v_iret hG hR dX3_monthOn_30 ⟨rfl, i1, i2, by first | omega | (rw [show x3 = 1 by omega]; omega), i3v⟩
      · refine v_aload_n hG dX3_monthOn_14 0 rfl ?_
        refine v_iload_n hG dX3_monthOn_15 3 rfl ?_
        refine v_callVi (n := 1) (ci := 3) hG (c_X3_daysBeforeMonth hr ht hT (by omega)) gX3_monthOn_X3_daysBeforeMonth rfl (by decide +kernel) rfl (by decide) ht (by decide) (cl_3 _ _ _ _) rfl dX3_monthOn_16 rfl (Nat.le_of_ble_eq_true rfl) (by decide) ?_
        intro v16 z16 hp16
        obtain ⟨rfl, rfl⟩ := hp16
        refine v_iload_n hG dX3_monthOn_19 2 rfl ?_
        refine v_icmp_le hG 29 (by omega) (by omega) dX3_monthOn_20 (by decide) (fun h20 => ?_) (fun h20 => ?_)
        · refine v_iload_n hG dX3_monthOn_29 3 rfl ?_
          exact v_iret hG hR dX3_monthOn_30 ⟨rfl, i1, i2, by first | omega | (rw [show x3 = 1 by omega]; omega), i3v⟩
        · refine v_iinc hG [(0, _), (1, _), (2, _), (3, _)] dX3_monthOn_23 3 rfl (by decide) rfl ?_
          refine v_goto hG 9 dX3_monthOn_26 (by decide) ?_
          exact ih9 _ (by refine ⟨by omega, by omega, ?_⟩; rw [show x3 + -1 + 1 = x3 by omega]; omega) (by omega)
  exact L9 _ _ (by refine ⟨by omega, by omega, ?_⟩; show _ < mbef _ 13; omega) (Nat.le_refl _)

set_option maxHeartbeats 4000000 in
set_option maxRecDepth 100000 in
theorem c_X3_dayOfMonthOn {l : Launch} {D : va_G} {cA : Nat → ClassId} {r : Nat → Nat} {z : Zt} {t : Nat} {d : Int} (hr : Inj r) (ht : kd t = 3) (hT : TI z t) (hd : 0 ≤ d ∧ d ≤ 1000000) : Ki l D cA r yX3_dayOfMonthOn wsX3_dayOfMonthOn 3 68 z [.ref (r t), .int (iN d)] (fun x z1 => z = z1 ∧ ∃ mm : Int, isMon (z t 0) (calT z t d % yl (z t 0)) mm ∧ x = calT z t d % yl (z t 0) - mbef (z t 0) mm + 1) := by
  refine Ki_of [(0, _), (1, _)] hr (by decide) rfl rfl (Nat.le_of_ble_eq_true rfl) rfl (fun Γ hG hR => ?_)
  refine v_aload_n hG dX3_dayOfMonthOn_0 0 rfl ?_
  refine v_iload_n hG dX3_dayOfMonthOn_1 1 rfl ?_
  refine v_callVi (n := 1) (ci := 3) hG (c_X3_dayInYearOn hr ht hT (by omega)) gX3_dayOfMonthOn_X3_dayInYearOn rfl (by decide +kernel) rfl (by decide) ht (by decide) (cl_3 _ _ _ _) rfl dX3_dayOfMonthOn_2 rfl (Nat.le_of_ble_eq_true rfl) (by decide) ?_
  intro v2 z2 hp2
  obtain ⟨rfl, rfl⟩ := hp2
  refine v_aload_n hG dX3_dayOfMonthOn_5 0 rfl ?_
  refine v_aload_n hG dX3_dayOfMonthOn_6 0 rfl ?_
  refine v_iload_n hG dX3_dayOfMonthOn_7 1 rfl ?_
  refine v_callVi (n := 1) (ci := 3) hG (c_X3_monthOn hr ht hT (by omega)) gX3_dayOfMonthOn_X3_monthOn rfl (by decide +kernel) rfl (by decide) ht (by decide) (cl_3 _ _ _ _) rfl dX3_dayOfMonthOn_8 rfl (Nat.le_of_ble_eq_true rfl) (by decide) ?_
  intro v8 z8 hp8
  obtain ⟨rfl, hx8⟩ := hp8
  have ha8 := hx8.1
  have hb8 := hx8.2.1
  refine v_callVi (n := 1) (ci := 3) hG (c_X3_daysBeforeMonth hr ht hT (by omega)) gX3_dayOfMonthOn_X3_daysBeforeMonth rfl (by decide +kernel) rfl (by decide) ht (by decide) (cl_3 _ _ _ _) rfl dX3_dayOfMonthOn_11 rfl (Nat.le_of_ble_eq_true rfl) (by decide) ?_
  intro v11 z11 hp11
  obtain ⟨rfl, rfl⟩ := hp11
  refine v_isub hG dX3_dayOfMonthOn_14 ?_
  refine v_iconst hG dX3_dayOfMonthOn_15 ?_
  refine v_iadd hG dX3_dayOfMonthOn_16 ?_
  exact v_iret hG hR dX3_dayOfMonthOn_17 ⟨rfl, _, ‹isMon _ _ _›, rfl⟩

set_option maxHeartbeats 4000000 in
set_option maxRecDepth 100000 in
theorem c_X3_firstDayFrom {l : Launch} {D : va_G} {cA : Nat → ClassId} {r : Nat → Nat} {z : Zt} {t : Nat} {d : Int} (hr : Inj r) (ht : kd t = 3) (hT : TI z t) (hd : 0 ≤ d ∧ d ≤ 1000000) : Ki l D cA r yX3_firstDayFrom wsX3_firstDayFrom 0 0 z [.ref (r t), .int (iN d)] (fun x z1 => z = z1 ∧ x = fdT z t d) := by
  have iW3 : ∀ w ∈ u_ws RX3 TX3 5, w ∈ wsX3_firstDayFrom := by decide +kernel
  have f9 : Cond.fieldLink RX3 9 (TX3 1).1 (TX3 1).2.1 (TX3 1).2.2.1 ∈ wsX3_firstDayFrom := by decide +kernel
  have f15 : Cond.fieldLink RX3 15 (TX3 2).1 (TX3 2).2.1 (TX3 2).2.2.1 ∈ wsX3_firstDayFrom := by decide +kernel
  have f18 : Cond.fieldLink RX3 18 (TX3 3).1 (TX3 3).2.1 (TX3 3).2.2.1 ∈ wsX3_firstDayFrom := by decide +kernel
  obtain ⟨h01, hg⟩ := hT
  obtain ⟨hn0, hn3, hk, hs⟩ := id hg
  refine Ki_of [(0, _), (1, _)] hr (by decide) rfl rfl (Nat.le_of_ble_eq_true rfl) rfl (fun Γ hG hR => ?_)
  refine v_iload_n hG dX3_firstDayFrom_0 1 rfl ?_
  refine v_istore_n hG [(0, _), (1, _), (2, _)] dX3_firstDayFrom_1 (by decide) rfl ?_
  refine v_iconst hG dX3_firstDayFrom_2 ?_
  refine v_istore_n hG [(0, _), (1, _), (2, _), (3, _)] dX3_firstDayFrom_3 (by decide) rfl ?_
  have L4 : ∀ (n : Nat), ∀ (x2 x3 : Int), (0 ≤ x3 ∧ x3 ≤ z t 3 ∧ x2 = fdN (z (t + 1)) (z (t + 2)) d x3.toNat) → (z t 3 - x3 + 1).toNat ≤ n → V Γ z 0 0 [(0, .ref (r t)), (1, .int (iN d)), (2, .int (iN x2)), (3, .int (iN x3))] 4 [] := by
    intro n
    induction n with
    | zero =>
      intro x2 x3 hI hm
      obtain ⟨i1, i2, i3v⟩ := hI
      exact absurd hm (by omega)
    | succ n ih4 =>
      intro x2 x3 hI hm
      obtain ⟨i1, i2, i3v⟩ := hI
      have hfb := fdN_bd hg hd.1 x3.toNat (by omega)
      refine v_iload_n hG dX3_firstDayFrom_4 3 rfl ?_
      refine v_aload_n hG dX3_firstDayFrom_5 0 rfl ?_
      refine v_getf (ci := 3) (k := 3) hG iW3 f18 rfl (by decide) ht (by decide) (cl_3 _ _ _ _) rfl dX3_firstDayFrom_6 ?_
      refine v_icmp_ge hG 63 (by omega) (by omega) dX3_firstDayFrom_9 (by decide) (fun h9 => ?_) (fun h9 => ?_)
      · refine v_iload_n hG dX3_firstDayFrom_63 2 rfl ?_
        exact v_iret hG hR dX3_firstDayFrom_64 ⟨rfl, by first | (rw [i3v, fdT, show x3 = z t 3 by omega]) | (have h9 := (fdN_stop hg (d := d) (k := x3.toNat) (by omega) (z t 3 - x3).toNat (by omega)).1; rw [show x3.toNat + (z t 3 - x3).toNat = (z t 3).toNat by omega] at h9; rw [i3v, fdT, h9])⟩
      · have hb := hk x3.toNat (by omega)
        refine v_iload_n hG dX3_firstDayFrom_12 2 rfl ?_
        refine v_aload_n hG dX3_firstDayFrom_13 0 rfl ?_
        refine v_getf (ci := 3) (k := 1) hG iW3 f9 rfl (by decide) ht (by decide) (cl_3 _ _ _ _) rfl dX3_firstDayFrom_14 ?_
        refine v_iload_n hG dX3_firstDayFrom_17 3 rfl ?_
        refine v_iald hG (kT_D ht) (by decide) (cl_103 _ _ _ _) (by decide) (by omega) dX3_firstDayFrom_18 ?_
        refine v_icmp_le hG 63 (by omega) (by omega) dX3_firstDayFrom_19 (by decide) (fun h19 => ?_) (fun h19 => ?_)
        · refine v_iload_n hG dX3_firstDayFrom_63 2 rfl ?_
          exact v_iret hG hR dX3_firstDayFrom_64 ⟨rfl, by first | (rw [i3v, fdT, show x3 = z t 3 by omega]) | (have h9 := (fdN_stop hg (d := d) (k := x3.toNat) (by omega) (z t 3 - x3).toNat (by omega)).1; rw [show x3.toNat + (z t 3 - x3).toNat = (z t 3).toNat by omega] at h9; rw [i3v, fdT, h9])⟩
        · refine v_aload_n hG dX3_firstDayFrom_22 0 rfl ?_
          refine v_getf (ci := 3) (k := 1) hG iW3 f9 rfl (by decide) ht (by decide) (cl_3 _ _ _ _) rfl dX3_firstDayFrom_23 ?_
          refine v_iload_n hG dX3_firstDayFrom_26 3 rfl ?_
          refine v_iald hG (kT_D ht) (by decide) (cl_103 _ _ _ _) (by decide) (by omega) dX3_firstDayFrom_27 ?_
          refine v_iconst hG dX3_firstDayFrom_28 ?_
          refine v_iadd hG dX3_firstDayFrom_29 ?_
          refine v_istore hG [(0, _), (1, _), (2, _), (3, _), (4, _)] dX3_firstDayFrom_30 (by decide) rfl ?_
          refine v_iload_n hG dX3_firstDayFrom_32 2 rfl ?_
          refine v_aload_n hG dX3_firstDayFrom_33 0 rfl ?_
          refine v_getf (ci := 3) (k := 2) hG iW3 f15 rfl (by decide) ht (by decide) (cl_3 _ _ _ _) rfl dX3_firstDayFrom_34 ?_
          refine v_iload_n hG dX3_firstDayFrom_37 3 rfl ?_
          refine v_iald hG (kT_L ht) (by decide) (cl_103 _ _ _ _) (by decide) (by omega) dX3_firstDayFrom_38 ?_
          refine v_isub hG dX3_firstDayFrom_39 ?_
          refine v_istore hG [(0, _), (1, _), (2, _), (3, _), (4, _), (5, _)] dX3_firstDayFrom_40 (by decide) rfl ?_
          refine v_iload hG dX3_firstDayFrom_42 5 rfl ?_
          refine v_iload hG dX3_firstDayFrom_44 4 rfl ?_
          refine v_icmp_le hG 54 (by omega) (by omega) dX3_firstDayFrom_46 (by decide) (fun h46 => ?_) (fun h46 => ?_)
          · refine v_iload hG dX3_firstDayFrom_54 4 rfl ?_
            refine v_istore_n hG [(0, _), (1, _), (2, _), (3, _), (4, _), (5, _)] dX3_firstDayFrom_56 (by decide) rfl ?_
            refine v_iinc hG [(0, _), (1, _), (2, _), (3, _), (4, _), (5, _)] dX3_firstDayFrom_57 3 rfl (by decide) rfl ?_
            refine v_goto hG 4 dX3_firstDayFrom_60 (by decide) ?_
            refine v_sub hG [(0, _), (1, _), (2, _), (3, _)] [0, 1, 2, 3] rfl ?_
            exact ih4 _ _ (by refine ⟨by omega, by omega, ?_⟩; rw [show (x3 + 1).toNat = x3.toNat + 1 by omega]; simp only [fdN]; rw [if_pos (by omega)]; split <;> omega) (by omega)
          · refine v_iload hG dX3_firstDayFrom_49 5 rfl ?_
            refine v_goto hG 56 dX3_firstDayFrom_51 (by decide) ?_
            refine v_istore_n hG [(0, _), (1, _), (2, _), (3, _), (4, _), (5, _)] dX3_firstDayFrom_56 (by decide) rfl ?_
            refine v_iinc hG [(0, _), (1, _), (2, _), (3, _), (4, _), (5, _)] dX3_firstDayFrom_57 3 rfl (by decide) rfl ?_
            refine v_goto hG 4 dX3_firstDayFrom_60 (by decide) ?_
            refine v_sub hG [(0, _), (1, _), (2, _), (3, _)] [0, 1, 2, 3] rfl ?_
            exact ih4 _ _ (by refine ⟨by omega, by omega, ?_⟩; rw [show (x3 + 1).toNat = x3.toNat + 1 by omega]; simp only [fdN]; rw [if_pos (by omega)]; split <;> omega) (by omega)
  exact L4 _ _ _ ⟨by omega, by omega, rfl⟩ (Nat.le_refl _)

set_option maxHeartbeats 4000000 in
set_option maxRecDepth 100000 in
theorem c_X3_dayWithDate {l : Launch} {D : va_G} {cA : Nat → ClassId} {r : Nat → Nat} {z : Zt} {t : Nat} {y m d : Int} (hr : Inj r) (ht : kd t = 3) (hT : TI z t) (hy : 1 ≤ y ∧ y ≤ 1000) (hm : 1 ≤ m ∧ m ≤ 100) (hd : 1 ≤ d ∧ d ≤ 99) : Ki l D cA r yX3_dayWithDate wsX3_dayWithDate 2 45 z [.ref (r t), .int (iN y), .int (iN m), .int (iN d)] (fun x z1 => z = z1 ∧ x = (if 12 < m ∨ mlen (z t 0) m < d then -1 else if calT z t (fdT z t (dof (z t 0) y m d)) = dof (z t 0) y m d then fdT z t (dof (z t 0) y m d) else -1)) := by
  have hml := mlen_bd (z t 0) m
  have h01 := hT.1
  refine Ki_of [(0, _), (1, _), (2, _), (3, _)] hr (by decide) rfl rfl (Nat.le_of_ble_eq_true rfl) rfl (fun Γ hG hR => ?_)
  refine v_iload_n hG dX3_dayWithDate_0 2 rfl ?_
  refine v_bipush hG dX3_dayWithDate_1 (by decide) ?_
  refine v_icmp_gt hG 15 (by omega) (by omega) dX3_dayWithDate_3 (by decide) (fun h3 => ?_) (fun h3 => ?_)
  · refine v_iconst hG dX3_dayWithDate_15 ?_
    exact v_iret hG hR dX3_dayWithDate_16 ⟨rfl, by first | (rw [if_pos (by omega)]) | (rw [if_neg (by omega), if_pos (by omega)]) | (rw [if_neg (by omega), if_neg (by omega)])⟩
  · refine v_iload_n hG dX3_dayWithDate_6 3 rfl ?_
    refine v_aload_n hG dX3_dayWithDate_7 0 rfl ?_
    refine v_iload_n hG dX3_dayWithDate_8 2 rfl ?_
    refine v_callVi (n := 1) (ci := 3) hG (c_X3_daysInMonth hr ht hT (by omega)) gX3_dayWithDate_X3_daysInMonth rfl (by decide +kernel) rfl (by decide) ht (by decide) (cl_3 _ _ _ _) rfl dX3_dayWithDate_9 rfl (Nat.le_of_ble_eq_true rfl) (by decide) ?_
    intro v9 z9 hp9
    obtain ⟨rfl, rfl⟩ := hp9
    refine v_icmp_le hG 17 (by omega) (by omega) dX3_dayWithDate_12 (by decide) (fun h12 => ?_) (fun h12 => ?_)
    · refine v_aload_n hG dX3_dayWithDate_17 0 rfl ?_
      have hdb := dof_bd (a := z t 0) (y := y) (m := m) (d := d) (by omega) (by omega) (by omega)
      have hfb := fdT_bd hT (d := dof (z t 0) y m d) hdb.1
      have hcb := calT_bd hT (fdT z t (dof (z t 0) y m d))
      refine v_iload_n hG dX3_dayWithDate_18 1 rfl ?_
      refine v_iload_n hG dX3_dayWithDate_19 2 rfl ?_
      refine v_iload_n hG dX3_dayWithDate_20 3 rfl ?_
      refine v_callVi (n := 3) (ci := 3) hG (c_X3_dateOf hr ht hT (by omega)) gX3_dayWithDate_X3_dateOf rfl (by decide +kernel) rfl (by decide) ht (by decide) (cl_3 _ _ _ _) rfl dX3_dayWithDate_21 rfl (Nat.le_of_ble_eq_true rfl) (by decide) ?_
      intro v21 z21 hp21
      obtain ⟨rfl, rfl⟩ := hp21
      refine v_istore hG [(0, _), (1, _), (2, _), (3, _), (4, _)] dX3_dayWithDate_24 (by decide) rfl ?_
      refine v_aload_n hG dX3_dayWithDate_26 0 rfl ?_
      refine v_iload hG dX3_dayWithDate_27 4 rfl ?_
      refine v_callVi (n := 1) (ci := 3) hG (c_X3_firstDayFrom hr ht hT (by omega)) gX3_dayWithDate_X3_firstDayFrom rfl (by decide +kernel) rfl (by decide) ht (by decide) (cl_3 _ _ _ _) rfl dX3_dayWithDate_29 rfl (Nat.le_of_ble_eq_true rfl) (by decide) ?_
      intro v29 z29 hp29
      obtain ⟨rfl, rfl⟩ := hp29
      refine v_istore hG [(0, _), (1, _), (2, _), (3, _), (4, _), (5, _)] dX3_dayWithDate_32 (by decide) rfl ?_
      refine v_aload_n hG dX3_dayWithDate_34 0 rfl ?_
      refine v_iload hG dX3_dayWithDate_35 5 rfl ?_
      refine v_callVi (n := 1) (ci := 3) hG (c_X3_dateOn hr ht hT (by omega)) gX3_dayWithDate_X3_dateOn rfl (by decide +kernel) rfl (by decide) ht (by decide) (cl_3 _ _ _ _) rfl dX3_dayWithDate_37 rfl (Nat.le_of_ble_eq_true rfl) (by decide) ?_
      intro v37 z37 hp37
      obtain ⟨rfl, rfl⟩ := hp37
      refine v_iload hG dX3_dayWithDate_40 4 rfl ?_
      refine v_icmp_ne hG 50 (by omega) (by omega) dX3_dayWithDate_42 (by decide) (fun h42 => ?_) (fun h42 => ?_)
      · refine v_iconst hG dX3_dayWithDate_50 ?_
        exact v_iret hG hR dX3_dayWithDate_51 ⟨rfl, by first | (rw [if_pos (by omega)]) | (rw [if_neg (by omega), if_pos (by omega)]) | (rw [if_neg (by omega), if_neg (by omega)])⟩
      · refine v_iload hG dX3_dayWithDate_45 5 rfl ?_
        refine v_goto hG 51 dX3_dayWithDate_47 (by decide) ?_
        exact v_iret hG hR dX3_dayWithDate_51 ⟨rfl, by first | (rw [if_pos (by omega)]) | (rw [if_neg (by omega), if_pos (by omega)]) | (rw [if_neg (by omega), if_neg (by omega)])⟩
    · refine v_iconst hG dX3_dayWithDate_15 ?_
      exact v_iret hG hR dX3_dayWithDate_16 ⟨rfl, by first | (rw [if_pos (by omega)]) | (rw [if_neg (by omega), if_pos (by omega)]) | (rw [if_neg (by omega), if_neg (by omega)])⟩
end
section
set_option maxHeartbeats 4000000 in
set_option maxRecDepth 100000 in
theorem c_X3_dueIn {l : Launch} {D : va_G} {cA : Nat → ClassId} {r : Nat → Nat} {z : Zt} {t f : Nat} {y : Int} (hr : Inj r) (ht : kd t = 3) (hf : kd f = 4) (hT : TI z t) (hF : FI z f) (hy : 1 ≤ y ∧ y ≤ 1000) : Ki l D cA r yX3_dueIn wsX3_dueIn 2 45 z [.ref (r t), .ref (r f), .int (iN y)] (fun x z1 => z = z1 ∧ x = dueG (z t 0) (z t 3) (z (t + 1)) (z (t + 2)) (z f 1) (z f 2) y) := by
  have iW1 : ∀ w ∈ u_ws RX1 TX1 4, w ∈ wsX3_dueIn := by decide +kernel
  have f56 : Cond.fieldLinkNest RX3 56 (TX1 1).1 (TX1 1).2.1 (TX1 1).2.2.1 "TwoTownAlmanac" ∈ nwF := by decide +kernel
  have f61 : Cond.fieldLinkNest RX3 61 (TX1 2).1 (TX1 2).2.1 (TX1 2).2.2.1 "TwoTownAlmanac" ∈ nwF := by decide +kernel
  obtain ⟨hf0, hf1, hf2, hf3, hf4, hf5, hf6⟩ := id hF
  have hml := mlen_bd (z t 0) (z f 1)
  have hnd := nd_bd (a := z t 0) (m := z f 1) hf3
  have hdb := dofN_bd (a := z t 0) (y := y) (m := z f 1) (dd := z f 2) ⟨hf1, hf2⟩ hf3
  have hd1 : y * yl (z t 0) ≤ 366000 := by
    unfold yl
    split <;> omega
  have hd0 : 0 ≤ (y - 1) * yl (z t 0) := Int.mul_nonneg (by omega) (by have := yl_bd (z t 0); omega)
  have hfb := fdT_bd hT (d := dof (z t 0) y (z f 1) (nd (z t 0) (z f 1) (z f 2))) (by omega)
  have hyb := yT_bd hT (d := fdT z t (dof (z t 0) y (z f 1) (nd (z t 0) (z f 1) (z f 2)))) (by omega)
  refine Ki_of [(0, _), (1, _), (2, _)] hr (by decide) rfl rfl (Nat.le_of_ble_eq_true rfl) rfl (fun Γ hG hR => ?_)
  refine v_aload_n hG dX3_dueIn_0 0 rfl ?_
  refine v_aload_n hG dX3_dueIn_1 1 rfl ?_
  refine v_getfN (ci := 1) (k := 1) hG iW1 f56 rfl (by decide) hf (by decide) (cl_4 _ _ _ _) rfl dX3_dueIn_2 ?_
  refine v_callVi (n := 1) (ci := 3) hG (c_X3_daysInMonth hr ht hT (by omega)) gX3_dueIn_X3_daysInMonth rfl (by decide +kernel) rfl (by decide) ht (by decide) (cl_3 _ _ _ _) rfl dX3_dueIn_5 rfl (Nat.le_of_ble_eq_true rfl) (by decide) ?_
  intro v5 z5 hp5
  obtain ⟨rfl, rfl⟩ := hp5
  refine v_iconst hG dX3_dueIn_8 ?_
  refine v_iadd hG dX3_dueIn_9 ?_
  refine v_istore_n hG [(0, _), (1, _), (2, _), (3, _)] dX3_dueIn_10 (by decide) rfl ?_
  refine v_aload_n hG dX3_dueIn_11 1 rfl ?_
  refine v_getfN (ci := 1) (k := 2) hG iW1 f61 rfl (by decide) hf (by decide) (cl_4 _ _ _ _) rfl dX3_dueIn_12 ?_
  refine v_iload_n hG dX3_dueIn_15 3 rfl ?_
  have L27 : ∀ (x : Int), x = nd (z t 0) (z f 1) (z f 2) → V Γ z 0 0 [(0, .ref (r t)), (1, .ref (r f)), (2, .int (iN y))] 27 [.int (iN x)] := by
    intro x hI
    subst hI
    refine v_istore hG [(0, _), (1, _), (2, _), (4, _)] dX3_dueIn_27 (by decide) rfl ?_
    refine v_aload_n hG dX3_dueIn_29 0 rfl ?_
    refine v_aload_n hG dX3_dueIn_30 0 rfl ?_
    refine v_iload_n hG dX3_dueIn_31 2 rfl ?_
    refine v_aload_n hG dX3_dueIn_32 1 rfl ?_
    refine v_getfN (ci := 1) (k := 1) hG iW1 f56 rfl (by decide) hf (by decide) (cl_4 _ _ _ _) rfl dX3_dueIn_33 ?_
    refine v_iload hG dX3_dueIn_36 3 rfl ?_
    refine v_callVi (n := 3) (ci := 3) hG (c_X3_dateOf hr ht hT (by omega)) gX3_dueIn_X3_dateOf rfl (by decide +kernel) rfl (by decide) ht (by decide) (cl_3 _ _ _ _) rfl dX3_dueIn_38 rfl (Nat.le_of_ble_eq_true rfl) (by decide) ?_
    intro v38 z38 hp38
    obtain ⟨rfl, rfl⟩ := hp38
    refine v_callVi (n := 1) (ci := 3) hG (c_X3_firstDayFrom hr ht hT (by omega)) gX3_dueIn_X3_firstDayFrom rfl (by decide +kernel) rfl (by decide) ht (by decide) (cl_3 _ _ _ _) rfl dX3_dueIn_41 rfl (Nat.le_of_ble_eq_true rfl) (by decide) ?_
    intro v41 z41 hp41
    obtain ⟨rfl, rfl⟩ := hp41
    refine v_istore hG [(0, _), (1, _), (2, _), (4, _), (5, _)] dX3_dueIn_44 (by decide) rfl ?_
    refine v_aload_n hG dX3_dueIn_46 0 rfl ?_
    refine v_iload hG dX3_dueIn_47 4 rfl ?_
    refine v_callVi (n := 1) (ci := 3) hG (c_X3_yearOn hr ht hT (by omega)) gX3_dueIn_X3_yearOn rfl (by decide +kernel) rfl (by decide) ht (by decide) (cl_3 _ _ _ _) rfl dX3_dueIn_49 rfl (Nat.le_of_ble_eq_true rfl) (by decide) ?_
    intro v49 z49 hp49
    obtain ⟨rfl, rfl⟩ := hp49
    refine v_iload_n hG dX3_dueIn_52 2 rfl ?_
    refine v_icmp_ne hG 61 (by omega) (by omega) dX3_dueIn_53 (by decide) (fun h53 => ?_) (fun h53 => ?_)
    · refine v_iconst hG dX3_dueIn_61 ?_
      exact v_iret hG hR dX3_dueIn_62 ⟨rfl, by unfold dueG; first | exact (if_pos h53).symm | exact (if_neg h53).symm⟩
    · refine v_iload hG dX3_dueIn_56 4 rfl ?_
      refine v_goto hG 62 dX3_dueIn_58 (by decide) ?_
      exact v_iret hG hR dX3_dueIn_62 ⟨rfl, by unfold dueG; first | exact (if_pos h53).symm | exact (if_neg h53).symm⟩
  refine v_icmp_ge hG 26 (by omega) (by omega) dX3_dueIn_16 (by decide) (fun h16 => ?_) (fun h16 => ?_)
  · refine v_iload_n hG dX3_dueIn_26 3 rfl ?_
    refine v_sub hG [(0, _), (1, _), (2, _)] [0, 1, 2] rfl ?_
    exact L27 _ (by unfold nd; first | (rw [if_pos (by omega)]) | (rw [if_neg (by omega)]))
  · refine v_aload_n hG dX3_dueIn_19 1 rfl ?_
    refine v_getfN (ci := 1) (k := 2) hG iW1 f61 rfl (by decide) hf (by decide) (cl_4 _ _ _ _) rfl dX3_dueIn_20 ?_
    refine v_goto hG 27 dX3_dueIn_23 (by decide) ?_
    refine v_sub hG [(0, _), (1, _), (2, _)] [0, 1, 2] rfl ?_
    exact L27 _ (by unfold nd; first | (rw [if_pos (by omega)]) | (rw [if_neg (by omega)]))

set_option maxHeartbeats 4000000 in
set_option maxRecDepth 100000 in
theorem c_X2_townWith {l : Launch} {D : va_G} {cA : Nat → ClassId} {r : Nat → Nat} {z : Zt} {s : Nat} {q : Int} (hr : Inj r) (hs : kd s = 2) (hq : -2147483648 ≤ q ∧ q < 2147483648) : Kr l D cA r yX2_townWith wsX2_townWith 0 0 z [.ref (r s), .int (iN q)] (fun t1 z1 => z = z1 ∧ kd t1 = 3 ∧ t1 = (if q = 0 then s + 1 else s + 4)) := by
  have iW2 : ∀ w ∈ u_ws RX2 TX2 9, w ∈ wsX2_townWith := by decide +kernel
  have f14 : Cond.fieldLink RX2 14 (TX2 0).1 (TX2 0).2.1 (TX2 0).2.2.1 ∈ wsX2_townWith := by decide +kernel
  have f20 : Cond.fieldLink RX2 20 (TX2 1).1 (TX2 1).2.1 (TX2 1).2.2.1 ∈ wsX2_townWith := by decide +kernel
  refine Kr_of [(0, _), (1, _)] hr (by decide) rfl rfl (Nat.le_of_ble_eq_true rfl) rfl (fun Γ hG hR => ?_)
  refine v_iload_n hG dX2_townWith_0 1 rfl ?_
  refine v_if_ne hG 11 (by omega) dX2_townWith_1 (by decide) (fun h1 => ?_) (fun h1 => ?_)
  · refine v_aload_n hG dX2_townWith_11 0 rfl ?_
    refine v_getf (ci := 2) (k := 1) hG iW2 f20 rfl (by decide) hs (by decide) (cl_2 _ _ _ _) rfl dX2_townWith_12 ?_
    exact v_aret hG hR dX2_townWith_15 ⟨rfl, by first | exact kS_A hs | exact kS_B hs, by first | (rw [if_pos (by omega)]) | (rw [if_neg (by omega)])⟩
  · refine v_aload_n hG dX2_townWith_4 0 rfl ?_
    refine v_getf (ci := 2) (k := 0) hG iW2 f14 rfl (by decide) hs (by decide) (cl_2 _ _ _ _) rfl dX2_townWith_5 ?_
    refine v_goto hG 15 dX2_townWith_8 (by decide) ?_
    exact v_aret hG hR dX2_townWith_15 ⟨rfl, by first | exact kS_A hs | exact kS_B hs, by first | (rw [if_pos (by omega)]) | (rw [if_neg (by omega)])⟩

set_option maxHeartbeats 4000000 in
set_option maxRecDepth 100000 in
theorem c_X2_keptIn {l : Launch} {D : va_G} {cA : Nat → ClassId} {r : Nat → Nat} {z : Zt} {s f : Nat} {y : Int} (hr : Inj r) (hs : kd s = 2) (hf : kd f = 4) (hS : SI z s) (hF : FI z f) (hy : 1 ≤ y ∧ y ≤ 1000) : Ki l D cA r yX2_keptIn wsX2_keptIn 3 70 z [.ref (r s), .ref (r f), .int (iN y)] (fun x z1 => z = z1 ∧ x = kS z s f y) := by
  have iW1 : ∀ w ∈ u_ws RX1 TX1 4, w ∈ wsX2_keptIn := by decide +kernel
  have iW2 : ∀ w ∈ u_ws RX2 TX2 9, w ∈ wsX2_keptIn := by decide +kernel
  have f33 : Cond.fieldLink RX2 33 (TX2 4).1 (TX2 4).2.1 (TX2 4).2.2.1 ∈ wsX2_keptIn := by decide +kernel
  have f56 : Cond.fieldLinkNest RX2 56 (TX1 0).1 (TX1 0).2.1 (TX1 0).2.2.1 "TwoTownAlmanac" ∈ nwF := by decide +kernel
  have f65 : Cond.fieldLinkNest RX2 65 (TX1 3).1 (TX1 3).2.1 (TX1 3).2.2.1 "TwoTownAlmanac" ∈ nwF := by decide +kernel
  obtain ⟨hTA, hTB, hA1, hB0, hmn, hsh, hcp, hdn, hfe⟩ := id hS
  obtain ⟨hf0, hf1, hf2, hf3, hf4, hf5, hf6⟩ := id hF
  have hTW := SI_tw (f := f) hS
  have hdu := dG_bd hTW hF hy
  refine Ki_of [(0, _), (1, _), (2, _)] hr (by decide) rfl rfl (Nat.le_of_ble_eq_true rfl) rfl (fun Γ hG hR => ?_)
  refine v_aload_n hG dX2_keptIn_0 0 rfl ?_
  refine v_aload_n hG dX2_keptIn_1 1 rfl ?_
  refine v_getfN (ci := 1) (k := 0) hG iW1 f56 rfl (by decide) hf (by decide) (cl_4 _ _ _ _) rfl dX2_keptIn_2 ?_
  refine v_callVr (n := 1) (ci := 2) hG (c_X2_townWith hr hs (by omega)) gX2_keptIn_X2_townWith rfl (by decide +kernel) rfl (by decide) hs (by decide) (cl_2 _ _ _ _) rfl dX2_keptIn_5 rfl (Nat.le_of_ble_eq_true rfl) (by decide) ?_
  intro t5 z5 hp5
  obtain ⟨rfl, hk5, ht5⟩ := hp5
  have hw5 : t5 = tw z s f := ht5
  subst hw5
  refine v_aload_n hG dX2_keptIn_8 1 rfl ?_
  refine v_iload_n hG dX2_keptIn_9 2 rfl ?_
  refine v_callVi (n := 2) (ci := 3) hG (c_X3_dueIn hr hk5 hf hTW hF hy) gX2_keptIn_X3_dueIn rfl (by decide +kernel) rfl (by decide) hk5 (by decide) (cl_3 _ _ _ _) rfl dX2_keptIn_10 rfl (Nat.le_of_ble_eq_true rfl) (by decide) ?_
  intro v10 z10 hp10
  obtain ⟨rfl, rfl⟩ := hp10
  refine v_istore_n hG [(0, _), (1, _), (2, _), (3, _)] dX2_keptIn_13 (by decide) rfl ?_
  refine v_iload_n hG dX2_keptIn_14 3 rfl ?_
  refine v_iconst hG dX2_keptIn_15 ?_
  refine v_icmp_eq hG 30 (by omega) (by omega) dX2_keptIn_16 (by decide) (fun h16 => ?_) (fun h16 => ?_)
  · refine v_iload_n hG dX2_keptIn_30 3 rfl ?_
    exact v_iret hG hR dX2_keptIn_31 ⟨rfl, by unfold kS kG keG; (repeat' split) <;> omega⟩
  · refine v_iload_n hG dX2_keptIn_19 3 rfl ?_
    refine v_bipush hG dX2_keptIn_20 (by decide) ?_
    refine v_irem hG (by omega) (by omega) dX2_keptIn_22 ?_
    refine v_aload_n hG dX2_keptIn_23 1 rfl ?_
    refine v_getfN (ci := 1) (k := 3) hG iW1 f65 rfl (by decide) hf (by decide) (cl_4 _ _ _ _) rfl dX2_keptIn_24 ?_
    refine v_icmp_eq hG 32 (by omega) (by omega) dX2_keptIn_27 (by decide) (fun h27 => ?_) (fun h27 => ?_)
    · refine v_iload_n hG dX2_keptIn_32 3 rfl ?_
      refine v_aload_n hG dX2_keptIn_33 0 rfl ?_
      refine v_getf (ci := 2) (k := 4) hG iW2 f33 rfl (by decide) hs (by decide) (cl_2 _ _ _ _) rfl dX2_keptIn_34 ?_
      refine v_bipush hG dX2_keptIn_37 (by decide) ?_
      refine v_icmp_ne hG 46 (by omega) (by omega) dX2_keptIn_39 (by decide) (fun h39 => ?_) (fun h39 => ?_)
      · refine v_aload_n hG dX2_keptIn_46 0 rfl ?_
        refine v_getf (ci := 2) (k := 4) hG iW2 f33 rfl (by decide) hs (by decide) (cl_2 _ _ _ _) rfl dX2_keptIn_47 ?_
        refine v_iadd hG dX2_keptIn_50 ?_
        exact v_iret hG hR dX2_keptIn_51 ⟨rfl, by unfold kS kG keG; (repeat' split) <;> omega⟩
      · refine v_iconst hG dX2_keptIn_42 ?_
        refine v_goto hG 50 dX2_keptIn_43 (by decide) ?_
        refine v_iadd hG dX2_keptIn_50 ?_
        exact v_iret hG hR dX2_keptIn_51 ⟨rfl, by unfold kS kG keG; (repeat' split) <;> omega⟩
    · refine v_iload_n hG dX2_keptIn_30 3 rfl ?_
      exact v_iret hG hR dX2_keptIn_31 ⟨rfl, by unfold kS kG keG; (repeat' split) <;> omega⟩

set_option maxHeartbeats 4000000 in
set_option maxRecDepth 100000 in
theorem c_X2_firstYearFor {l : Launch} {D : va_G} {cA : Nat → ClassId} {r : Nat → Nat} {z : Zt} {s f : Nat} {d : Int} (hr : Inj r) (hs : kd s = 2) (hf : kd f = 4) (hS : SI z s) (hF : FI z f) (hd : 0 ≤ d ∧ d ≤ 30000) : Ki l D cA r yX2_firstYearFor wsX2_firstYearFor 2 45 z [.ref (r s), .ref (r f), .int (iN d)] (fun x z1 => z = z1 ∧ x = y0of (yS z s f) d) := by
  have iW1 : ∀ w ∈ u_ws RX1 TX1 4, w ∈ wsX2_firstYearFor := by decide +kernel
  have f56 : Cond.fieldLinkNest RX2 56 (TX1 0).1 (TX1 0).2.1 (TX1 0).2.2.1 "TwoTownAlmanac" ∈ nwF := by decide +kernel
  obtain ⟨hf0, hf1, hf2, hf3, hf4, hf5, hf6⟩ := id hF
  have hTW := SI_tw (f := f) hS
  refine Ki_of [(0, _), (1, _), (2, _)] hr (by decide) rfl rfl (Nat.le_of_ble_eq_true rfl) rfl (fun Γ hG hR => ?_)
  refine v_aload_n hG dX2_firstYearFor_0 0 rfl ?_
  refine v_aload_n hG dX2_firstYearFor_1 1 rfl ?_
  refine v_getfN (ci := 1) (k := 0) hG iW1 f56 rfl (by decide) hf (by decide) (cl_4 _ _ _ _) rfl dX2_firstYearFor_2 ?_
  refine v_callVr (n := 1) (ci := 2) hG (c_X2_townWith hr hs (by omega)) gX2_firstYearFor_X2_townWith rfl (by decide +kernel) rfl (by decide) hs (by decide) (cl_2 _ _ _ _) rfl dX2_firstYearFor_5 rfl (Nat.le_of_ble_eq_true rfl) (by decide) ?_
  intro t5 z5 hp5
  obtain ⟨rfl, hk5, ht5⟩ := hp5
  have hw5 : t5 = tw z s f := ht5
  subst hw5
  refine v_iconst hG dX2_firstYearFor_8 ?_
  refine v_iload_n hG dX2_firstYearFor_9 2 rfl ?_
  refine v_bipush hG dX2_firstYearFor_10 (by decide) ?_
  refine v_isub hG dX2_firstYearFor_12 ?_
  refine v_mmax hG (by decide +kernel) (by decide +kernel) (by decide +kernel) (by decide +kernel) (by omega) (by omega) (by decide) (Nat.le_of_ble_eq_true rfl) (by decide) dX2_firstYearFor_13 ?_
  refine v_callVi (n := 1) (ci := 3) hG (c_X3_yearOn hr hk5 hTW (by split <;> omega)) gX2_firstYearFor_X3_yearOn rfl (by decide +kernel) rfl (by decide) hk5 (by decide) (cl_3 _ _ _ _) rfl dX2_firstYearFor_16 rfl (Nat.le_of_ble_eq_true rfl) (by decide) ?_
  intro v16 z16 hp16
  obtain ⟨rfl, rfl⟩ := hp16
  exact v_iret hG hR dX2_firstYearFor_19 ⟨rfl, rfl⟩

set_option maxHeartbeats 4000000 in
set_option maxRecDepth 100000 in
theorem c_X2_firstKept {l : Launch} {D : va_G} {cA : Nat → ClassId} {r : Nat → Nat} {z : Zt} {s f : Nat} {fr to : Int} (hr : Inj r) (hs : kd s = 2) (hf : kd f = 4) (hS : SI z s) (hF : FI z f) (hd : 0 ≤ fr ∧ fr ≤ to ∧ to ≤ 30000) : Ki l D cA r yX2_firstKept wsX2_firstKept 4 93 z [.ref (r s), .ref (r f), .int (iN fr), .int (iN to)] (fun x z1 => z = z1 ∧ FKP (kS z s f) (yS z s f) (fun _ => True) fr to x) := by
  have iW1 : ∀ w ∈ u_ws RX1 TX1 4, w ∈ wsX2_firstKept := by decide +kernel
  have f56 : Cond.fieldLinkNest RX2 56 (TX1 0).1 (TX1 0).2.1 (TX1 0).2.2.1 "TwoTownAlmanac" ∈ nwF := by decide +kernel
  obtain ⟨hf0, hf1, hf2, hf3, hf4, hf5, hf6⟩ := id hF
  have hTW := SI_tw (f := f) hS
  have hKo := kS_ok hS hF
  have hyt := yS_bd (f := f) hS (x := to) (by omega)
  have hy0 := y0_le hKo (fr := fr) (to := to) hd.1 hd.2.1
  refine Ki_of [(0, _), (1, _), (2, _), (3, _)] hr (by decide) rfl rfl (Nat.le_of_ble_eq_true rfl) rfl (fun Γ hG hR => ?_)
  refine v_aload_n hG dX2_firstKept_0 0 rfl ?_
  refine v_aload_n hG dX2_firstKept_1 1 rfl ?_
  refine v_getfN (ci := 1) (k := 0) hG iW1 f56 rfl (by decide) hf (by decide) (cl_4 _ _ _ _) rfl dX2_firstKept_2 ?_
  refine v_callVr (n := 1) (ci := 2) hG (c_X2_townWith hr hs (by omega)) gX2_firstKept_X2_townWith rfl (by decide +kernel) rfl (by decide) hs (by decide) (cl_2 _ _ _ _) rfl dX2_firstKept_5 rfl (Nat.le_of_ble_eq_true rfl) (by decide) ?_
  intro t5 z5 hp5
  obtain ⟨rfl, hk5, ht5⟩ := hp5
  have hw5 : t5 = tw z s f := ht5
  subst hw5
  refine v_iload_n hG dX2_firstKept_8 3 rfl ?_
  refine v_callVi (n := 1) (ci := 3) hG (c_X3_yearOn hr hk5 hTW (by omega)) gX2_firstKept_X3_yearOn rfl (by decide +kernel) rfl (by decide) hk5 (by decide) (cl_3 _ _ _ _) rfl dX2_firstKept_9 rfl (Nat.le_of_ble_eq_true rfl) (by decide) ?_
  intro v9 z9 hp9
  obtain ⟨rfl, rfl⟩ := hp9
  refine v_istore hG [(0, _), (1, _), (2, _), (3, _), (4, _)] dX2_firstKept_12 (by decide) rfl ?_
  refine v_aload_n hG dX2_firstKept_14 0 rfl ?_
  refine v_aload_n hG dX2_firstKept_15 1 rfl ?_
  refine v_iload_n hG dX2_firstKept_16 2 rfl ?_
  refine v_callVi (n := 2) (ci := 2) hG (c_X2_firstYearFor hr hs hf hS hF (by omega)) gX2_firstKept_X2_firstYearFor rfl (by decide +kernel) rfl (by decide) hs (by decide) (cl_2 _ _ _ _) rfl dX2_firstKept_17 rfl (Nat.le_of_ble_eq_true rfl) (by decide) ?_
  intro v17 z17 hp17
  obtain ⟨rfl, rfl⟩ := hp17
  refine v_istore hG [(0, _), (1, _), (2, _), (3, _), (4, _), (5, _)] dX2_firstKept_20 (by decide) rfl ?_
  have L22 : ∀ (n : Nat), ∀ (x5 : Int), (y0of (yS z s f) fr ≤ x5 ∧ x5 ≤ yS z s f to + 1 ∧ ∀ y', y0of (yS z s f) fr ≤ y' → y' < x5 → ¬ (fr ≤ kS z s f y' ∧ kS z s f y' ≤ to ∧ True)) → (yS z s f to - x5 + 2).toNat ≤ n → V Γ z 0 0 [(0, .ref (r s)), (1, .ref (r f)), (2, .int (iN fr)), (3, .int (iN to)), (4, .int (iN (yS z s f to))), (5, .int (iN x5))] 22 [] := by
    intro n
    induction n with
    | zero =>
      intro x5 hI hm
      obtain ⟨i1, i2, i3v⟩ := hI
      exact absurd hm (by omega)
    | succ n ih22 =>
      intro x5 hI hm
      obtain ⟨i1, i2, i3v⟩ := hI
      have hkb : x5 ≤ yS z s f to → -1 ≤ kS z s f x5 ∧ kS z s f x5 ≤ 400000 := fun q => kS_bd hS hF (by omega)
      refine v_iload hG dX2_firstKept_22 5 rfl ?_
      refine v_iload hG dX2_firstKept_24 4 rfl ?_
      refine v_icmp_gt hG 59 (by omega) (by omega) dX2_firstKept_26 (by decide) (fun h26 => ?_) (fun h26 => ?_)
      · refine v_iconst hG dX2_firstKept_59 ?_
        exact v_iret hG hR dX2_firstKept_60 ⟨rfl, fk_none hKo hd.1 i3v (by omega)⟩
      · have hkb := hkb (by omega)
        refine v_aload_n hG dX2_firstKept_29 0 rfl ?_
        refine v_aload_n hG dX2_firstKept_30 1 rfl ?_
        refine v_iload hG dX2_firstKept_31 5 rfl ?_
        refine v_callVi (n := 2) (ci := 2) hG (c_X2_keptIn hr hs hf hS hF (by omega)) gX2_firstKept_X2_keptIn rfl (by decide +kernel) rfl (by decide) hs (by decide) (cl_2 _ _ _ _) rfl dX2_firstKept_33 rfl (Nat.le_of_ble_eq_true rfl) (by decide) ?_
        intro v33 z33 hp33
        obtain ⟨rfl, rfl⟩ := hp33
        refine v_istore hG [(0, _), (1, _), (2, _), (3, _), (4, _), (5, _), (6, _)] dX2_firstKept_36 (by decide) rfl ?_
        refine v_iload hG dX2_firstKept_38 6 rfl ?_
        refine v_iload_n hG dX2_firstKept_40 2 rfl ?_
        refine v_icmp_lt hG 53 (by omega) (by omega) dX2_firstKept_41 (by decide) (fun h41 => ?_) (fun h41 => ?_)
        · refine v_iinc hG [(0, _), (1, _), (2, _), (3, _), (4, _), (5, _), (6, _)] dX2_firstKept_53 5 rfl (by decide) rfl ?_
          refine v_goto hG 22 dX2_firstKept_56 (by decide) ?_
          refine v_sub hG [(0, _), (1, _), (2, _), (3, _), (4, _), (5, _)] [0, 1, 2, 3, 4, 5] rfl ?_
          exact ih22 _ (by refine ⟨by omega, by omega, fun y' a b c => ?_⟩; by_cases q9 : y' < x5; exact i3v y' a q9 c; have e9 : y' = x5 := (by omega); subst e9; first | exact absurd c.1 (by omega) | exact absurd c.2.1 (by omega)) (by omega)
        · refine v_iload hG dX2_firstKept_44 6 rfl ?_
          refine v_iload_n hG dX2_firstKept_46 3 rfl ?_
          refine v_icmp_gt hG 53 (by omega) (by omega) dX2_firstKept_47 (by decide) (fun h47 => ?_) (fun h47 => ?_)
          · refine v_iinc hG [(0, _), (1, _), (2, _), (3, _), (4, _), (5, _), (6, _)] dX2_firstKept_53 5 rfl (by decide) rfl ?_
            refine v_goto hG 22 dX2_firstKept_56 (by decide) ?_
            refine v_sub hG [(0, _), (1, _), (2, _), (3, _), (4, _), (5, _)] [0, 1, 2, 3, 4, 5] rfl ?_
            exact ih22 _ (by refine ⟨by omega, by omega, fun y' a b c => ?_⟩; by_cases q9 : y' < x5; exact i3v y' a q9 c; have e9 : y' = x5 := (by omega); subst e9; first | exact absurd c.1 (by omega) | exact absurd c.2.1 (by omega)) (by omega)
          · refine v_iload hG dX2_firstKept_50 6 rfl ?_
            exact v_iret hG hR dX2_firstKept_52 ⟨rfl, fk_found hKo hd.1 (by omega) i3v (by omega) (by omega) trivial⟩
  exact L22 _ _ ⟨by omega, by omega, fun y' a b => by omega⟩ (Nat.le_refl _)

set_option maxHeartbeats 4000000 in
set_option maxRecDepth 100000 in
theorem c_X2_firstMeeting {l : Launch} {D : va_G} {cA : Nat → ClassId} {r : Nat → Nat} {z : Zt} {s f g : Nat} {fr to : Int} (hr : Inj r) (hs : kd s = 2) (hf : kd f = 4) (hg : kd g = 4) (hS : SI z s) (hF : FI z f) (hG2 : FI z g) (hd : 0 ≤ fr ∧ fr ≤ to ∧ to ≤ 30000) : Ki l D cA r yX2_firstMeeting wsX2_firstMeeting 5 119 z [.ref (r s), .ref (r f), .ref (r g), .int (iN fr), .int (iN to)] (fun x z1 => z = z1 ∧ FKP (kS z s f) (yS z s f) (onS z s g) fr to x) := by
  have iW1 : ∀ w ∈ u_ws RX1 TX1 4, w ∈ wsX2_firstMeeting := by decide +kernel
  have f56 : Cond.fieldLinkNest RX2 56 (TX1 0).1 (TX1 0).2.1 (TX1 0).2.2.1 "TwoTownAlmanac" ∈ nwF := by decide +kernel
  obtain ⟨hf0, hf1, hf2, hf3, hf4, hf5, hf6⟩ := id hF
  have hTW := SI_tw (f := f) hS
  have hKo := kS_ok hS hF
  have hyt := yS_bd (f := f) hS (x := to) (by omega)
  have hy0 := y0_le hKo (fr := fr) (to := to) hd.1 hd.2.1
  refine Ki_of [(0, _), (1, _), (2, _), (3, _), (4, _)] hr (by decide) rfl rfl (Nat.le_of_ble_eq_true rfl) rfl (fun Γ hG hR => ?_)
  refine v_aload_n hG dX2_firstMeeting_0 0 rfl ?_
  refine v_aload_n hG dX2_firstMeeting_1 1 rfl ?_
  refine v_getfN (ci := 1) (k := 0) hG iW1 f56 rfl (by decide) hf (by decide) (cl_4 _ _ _ _) rfl dX2_firstMeeting_2 ?_
  refine v_callVr (n := 1) (ci := 2) hG (c_X2_townWith hr hs (by omega)) gX2_firstMeeting_X2_townWith rfl (by decide +kernel) rfl (by decide) hs (by decide) (cl_2 _ _ _ _) rfl dX2_firstMeeting_5 rfl (Nat.le_of_ble_eq_true rfl) (by decide) ?_
  intro t5 z5 hp5
  obtain ⟨rfl, hk5, ht5⟩ := hp5
  have hw5 : t5 = tw z s f := ht5
  subst hw5
  refine v_iload hG dX2_firstMeeting_8 4 rfl ?_
  refine v_callVi (n := 1) (ci := 3) hG (c_X3_yearOn hr hk5 hTW (by omega)) gX2_firstMeeting_X3_yearOn rfl (by decide +kernel) rfl (by decide) hk5 (by decide) (cl_3 _ _ _ _) rfl dX2_firstMeeting_10 rfl (Nat.le_of_ble_eq_true rfl) (by decide) ?_
  intro v10 z10 hp10
  obtain ⟨rfl, rfl⟩ := hp10
  refine v_istore hG [(0, _), (1, _), (2, _), (3, _), (4, _), (5, _)] dX2_firstMeeting_13 (by decide) rfl ?_
  refine v_aload_n hG dX2_firstMeeting_15 0 rfl ?_
  refine v_aload_n hG dX2_firstMeeting_16 1 rfl ?_
  refine v_iload_n hG dX2_firstMeeting_17 3 rfl ?_
  refine v_callVi (n := 2) (ci := 2) hG (c_X2_firstYearFor hr hs hf hS hF (by omega)) gX2_firstMeeting_X2_firstYearFor rfl (by decide +kernel) rfl (by decide) hs (by decide) (cl_2 _ _ _ _) rfl dX2_firstMeeting_18 rfl (Nat.le_of_ble_eq_true rfl) (by decide) ?_
  intro v18 z18 hp18
  obtain ⟨rfl, rfl⟩ := hp18
  refine v_istore hG [(0, _), (1, _), (2, _), (3, _), (4, _), (5, _), (6, _)] dX2_firstMeeting_21 (by decide) rfl ?_
  have L23 : ∀ (n : Nat), ∀ (x5 : Int), (y0of (yS z s f) fr ≤ x5 ∧ x5 ≤ yS z s f to + 1 ∧ ∀ y', y0of (yS z s f) fr ≤ y' → y' < x5 → ¬ (fr ≤ kS z s f y' ∧ kS z s f y' ≤ to ∧ onS z s g (kS z s f y'))) → (yS z s f to - x5 + 2).toNat ≤ n → V Γ z 0 0 [(0, .ref (r s)), (1, .ref (r f)), (2, .ref (r g)), (3, .int (iN fr)), (4, .int (iN to)), (5, .int (iN (yS z s f to))), (6, .int (iN x5))] 23 [] := by
    intro n
    induction n with
    | zero =>
      intro x5 hI hm
      obtain ⟨i1, i2, i3v⟩ := hI
      exact absurd hm (by omega)
    | succ n ih23 =>
      intro x5 hI hm
      obtain ⟨i1, i2, i3v⟩ := hI
      have hkb : x5 ≤ yS z s f to → -1 ≤ kS z s f x5 ∧ kS z s f x5 ≤ 400000 := fun q => kS_bd hS hF (by omega)
      refine v_iload hG dX2_firstMeeting_23 6 rfl ?_
      refine v_iload hG dX2_firstMeeting_25 5 rfl ?_
      refine v_icmp_gt hG 74 (by omega) (by omega) dX2_firstMeeting_27 (by decide) (fun h27 => ?_) (fun h27 => ?_)
      · refine v_iconst hG dX2_firstMeeting_74 ?_
        exact v_iret hG hR dX2_firstMeeting_75 ⟨rfl, fk_none hKo hd.1 i3v (by omega)⟩
      · have hkb := hkb (by omega)
        refine v_aload_n hG dX2_firstMeeting_30 0 rfl ?_
        refine v_aload_n hG dX2_firstMeeting_31 1 rfl ?_
        refine v_iload hG dX2_firstMeeting_32 6 rfl ?_
        refine v_callVi (n := 2) (ci := 2) hG (c_X2_keptIn hr hs hf hS hF (by omega)) gX2_firstMeeting_X2_keptIn rfl (by decide +kernel) rfl (by decide) hs (by decide) (cl_2 _ _ _ _) rfl dX2_firstMeeting_34 rfl (Nat.le_of_ble_eq_true rfl) (by decide) ?_
        intro v34 z34 hp34
        obtain ⟨rfl, rfl⟩ := hp34
        refine v_istore hG [(0, _), (1, _), (2, _), (3, _), (4, _), (5, _), (6, _), (7, _)] dX2_firstMeeting_37 (by decide) rfl ?_
        refine v_iload hG dX2_firstMeeting_39 7 rfl ?_
        refine v_iload_n hG dX2_firstMeeting_41 3 rfl ?_
        refine v_icmp_lt hG 68 (by omega) (by omega) dX2_firstMeeting_42 (by decide) (fun h42 => ?_) (fun h42 => ?_)
        · refine v_iinc hG [(0, _), (1, _), (2, _), (3, _), (4, _), (5, _), (6, _), (7, _)] dX2_firstMeeting_68 6 rfl (by decide) rfl ?_
          refine v_goto hG 23 dX2_firstMeeting_71 (by decide) ?_
          refine v_sub hG [(0, _), (1, _), (2, _), (3, _), (4, _), (5, _), (6, _)] [0, 1, 2, 3, 4, 5, 6] rfl ?_
          exact ih23 _ (by refine ⟨by omega, by omega, fun y' a b c => ?_⟩; by_cases q9 : y' < x5; exact i3v y' a q9 c; have e9 : y' = x5 := (by omega); subst e9; first | exact absurd c.1 (by omega) | exact absurd c.2.1 (by omega) | exact hpp.1 (by omega) c.2.2) (by omega)
        · refine v_iload hG dX2_firstMeeting_45 7 rfl ?_
          refine v_iload hG dX2_firstMeeting_47 4 rfl ?_
          refine v_icmp_gt hG 68 (by omega) (by omega) dX2_firstMeeting_49 (by decide) (fun h49 => ?_) (fun h49 => ?_)
          · refine v_iinc hG [(0, _), (1, _), (2, _), (3, _), (4, _), (5, _), (6, _), (7, _)] dX2_firstMeeting_68 6 rfl (by decide) rfl ?_
            refine v_goto hG 23 dX2_firstMeeting_71 (by decide) ?_
            refine v_sub hG [(0, _), (1, _), (2, _), (3, _), (4, _), (5, _), (6, _)] [0, 1, 2, 3, 4, 5, 6] rfl ?_
            exact ih23 _ (by refine ⟨by omega, by omega, fun y' a b c => ?_⟩; by_cases q9 : y' < x5; exact i3v y' a q9 c; have e9 : y' = x5 := (by omega); subst e9; first | exact absurd c.1 (by omega) | exact absurd c.2.1 (by omega) | exact hpp.1 (by omega) c.2.2) (by omega)
          · refine v_aload_n hG dX2_firstMeeting_52 0 rfl ?_
            refine v_aload_n hG dX2_firstMeeting_53 2 rfl ?_
            refine v_iload hG dX2_firstMeeting_54 7 rfl ?_
            refine v_iload hG dX2_firstMeeting_56 7 rfl ?_
            refine v_callVi (n := 3) (ci := 2) hG (c_X2_firstKept hr hs hg hS hG2 (by omega)) gX2_firstMeeting_X2_firstKept rfl (by decide +kernel) rfl (by decide) hs (by decide) (cl_2 _ _ _ _) rfl dX2_firstMeeting_58 rfl (Nat.le_of_ble_eq_true rfl) (by decide) ?_
            intro v58 z58 hp58
            obtain ⟨rfl, hx58⟩ := hp58
            have hpp := fkp_pt hx58 (by omega)
            have hpb := fkp_bd hx58 (by omega) (by omega)
            refine v_iconst hG dX2_firstMeeting_61 ?_
            refine v_icmp_eq hG 68 (by omega) (by omega) dX2_firstMeeting_62 (by decide) (fun h62 => ?_) (fun h62 => ?_)
            · refine v_iinc hG [(0, _), (1, _), (2, _), (3, _), (4, _), (5, _), (6, _), (7, _)] dX2_firstMeeting_68 6 rfl (by decide) rfl ?_
              refine v_goto hG 23 dX2_firstMeeting_71 (by decide) ?_
              refine v_sub hG [(0, _), (1, _), (2, _), (3, _), (4, _), (5, _), (6, _)] [0, 1, 2, 3, 4, 5, 6] rfl ?_
              exact ih23 _ (by refine ⟨by omega, by omega, fun y' a b c => ?_⟩; by_cases q9 : y' < x5; exact i3v y' a q9 c; have e9 : y' = x5 := (by omega); subst e9; first | exact absurd c.1 (by omega) | exact absurd c.2.1 (by omega) | exact hpp.1 (by omega) c.2.2) (by omega)
            · refine v_iload hG dX2_firstMeeting_65 7 rfl ?_
              exact v_iret hG hR dX2_firstMeeting_67 ⟨rfl, fk_found hKo hd.1 (by omega) i3v (by omega) (by omega) (hpp.2 (by omega))⟩
  exact L23 _ _ ⟨by omega, by omega, fun y' a b => by omega⟩ (Nat.le_refl _)

set_option maxHeartbeats 4000000 in
set_option maxRecDepth 100000 in
theorem c_X2_feastsOf {l : Launch} {D : va_G} {cA : Nat → ClassId} {r : Nat → Nat} {z : Zt} {s : Nat} {q : Int} (hr : Inj r) (hs : kd s = 2) (hS : SI z s) (hq : 0 ≤ q ∧ q ≤ 1) : Ki l D cA r yX2_feastsOf wsX2_feastsOf 0 0 z [.ref (r s), .int (iN q)] (fun x z1 => z = z1 ∧ isSet (fun j => (j : Int) < z s 3 ∧ z (s + 8 + j) 0 = q) x) := by
  have iW1 : ∀ w ∈ u_ws RX1 TX1 4, w ∈ wsX2_feastsOf := by decide +kernel
  have iW2 : ∀ w ∈ u_ws RX2 TX2 9, w ∈ wsX2_feastsOf := by decide +kernel
  have f25 : Cond.fieldLink RX2 25 (TX2 2).1 (TX2 2).2.1 (TX2 2).2.2.1 ∈ wsX2_feastsOf := by decide +kernel
  have f29 : Cond.fieldLink RX2 29 (TX2 3).1 (TX2 3).2.1 (TX2 3).2.2.1 ∈ wsX2_feastsOf := by decide +kernel
  have f56 : Cond.fieldLinkNest RX2 56 (TX1 0).1 (TX1 0).2.1 (TX1 0).2.2.1 "TwoTownAlmanac" ∈ nwF := by decide +kernel
  obtain ⟨hTA, hTB, hA1, hB0, hmn, hsh, hcp, hdn, hfe⟩ := id hS
  refine Ki_of [(0, _), (1, _)] hr (by decide) rfl rfl (Nat.le_of_ble_eq_true rfl) rfl (fun Γ hG hR => ?_)
  refine v_iconst hG dX2_feastsOf_0 ?_
  refine v_istore_n hG [(0, _), (1, _), (2, _)] dX2_feastsOf_1 (by decide) rfl ?_
  refine v_iconst hG dX2_feastsOf_2 ?_
  refine v_istore_n hG [(0, _), (1, _), (2, _), (3, _)] dX2_feastsOf_3 (by decide) rfl ?_
  have L4 : ∀ (n : Nat), ∀ (x2 x3 : Int), (0 ≤ x3 ∧ x3 ≤ z s 3 ∧ isSet (fun j => (j : Int) < x3 ∧ z (s + 8 + j) 0 = q) x2) → (z s 3 - x3 + 1).toNat ≤ n → V Γ z 0 0 [(0, .ref (r s)), (1, .int (iN q)), (2, .int (iN x2)), (3, .int (iN x3))] 4 [] := by
    intro n
    induction n with
    | zero =>
      intro x2 x3 hI hm
      obtain ⟨i1, i2, i3v⟩ := hI
      exact absurd hm (by omega)
    | succ n ih4 =>
      intro x2 x3 hI hm
      obtain ⟨i1, i2, i3v⟩ := hI
      refine v_iload_n hG dX2_feastsOf_4 3 rfl ?_
      refine v_aload_n hG dX2_feastsOf_5 0 rfl ?_
      refine v_getf (ci := 2) (k := 3) hG iW2 f29 rfl (by decide) hs (by decide) (cl_2 _ _ _ _) rfl dX2_feastsOf_6 ?_
      refine v_icmp_ge hG 37 (by omega) (by omega) dX2_feastsOf_9 (by decide) (fun h9 => ?_) (fun h9 => ?_)
      · refine v_iload_n hG dX2_feastsOf_37 2 rfl ?_
        exact v_iret hG hR dX2_feastsOf_38 ⟨rfl, isSet_congr i3v (fun j => by rw [show x3 = z s 3 by omega])⟩
      · have hb := hfe x3.toNat (by omega)
        obtain ⟨hb0, hb1⟩ := hb
        refine v_aload_n hG dX2_feastsOf_12 0 rfl ?_
        refine v_getf (ci := 2) (k := 2) hG iW2 f25 rfl (by decide) hs (by decide) (cl_2 _ _ _ _) rfl dX2_feastsOf_13 ?_
        refine v_iload_n hG dX2_feastsOf_16 3 rfl ?_
        refine v_aaldF hG (kS_F hs) (by omega) dX2_feastsOf_17 ?_
        rw [show s + 7 + 1 + x3.toNat = s + 8 + x3.toNat by omega]
        refine v_getfN (ci := 1) (k := 0) hG iW1 f56 rfl (by decide) (kF_f (kS_F hs) (by omega)) (by decide) (cl_4 _ _ _ _) rfl dX2_feastsOf_18 ?_
        refine v_iload_n hG dX2_feastsOf_21 1 rfl ?_
        refine v_icmp_ne hG 31 (by omega) (by omega) dX2_feastsOf_22 (by decide) (fun h22 => ?_) (fun h22 => ?_)
        · refine v_iinc hG [(0, _), (1, _), (2, _), (3, _)] dX2_feastsOf_31 3 rfl (by decide) rfl ?_
          refine v_goto hG 4 dX2_feastsOf_34 (by decide) ?_
          exact ih4 _ _ ⟨by omega, by omega, by first | exact isSet_yes i1 hs9 h22 | exact isSet_no i1 i3v h22⟩ (by omega)
        · refine v_iload_n hG dX2_feastsOf_25 2 rfl ?_
          refine v_iconst hG dX2_feastsOf_26 ?_
          refine v_iload_n hG dX2_feastsOf_27 3 rfl ?_
          refine v_ishl0 hG dX2_feastsOf_28 ?_
          refine v_ior0 hG dX2_feastsOf_29 ?_
          obtain ⟨x9, e9, hs9⟩ := set_or i3v (k := x3) (by omega)
          refine v_eqi hG e9 ?_
          refine v_istore_n hG [(0, _), (1, _), (2, _), (3, _)] dX2_feastsOf_30 (by decide) rfl ?_
          refine v_iinc hG [(0, _), (1, _), (2, _), (3, _)] dX2_feastsOf_31 3 rfl (by decide) rfl ?_
          refine v_goto hG 4 dX2_feastsOf_34 (by decide) ?_
          exact ih4 _ _ ⟨by omega, by omega, by first | exact isSet_yes i1 hs9 h22 | exact isSet_no i1 i3v h22⟩ (by omega)
  exact L4 _ _ _ ⟨by omega, by omega, isSet_0 (fun j hj => by omega)⟩ (Nat.le_refl _)
end
section
def lvZ (z : Zt) (t : Nat) (a q : Int) : Zt := zup (zup (zup z (t + 1) (z t 3).toNat a) (t + 2) (z t 3).toNat q) t 3 (z t 3 + 1)
def pfZ (z : Zt) (s : Nat) (tn m d : Int) : Zt := zup (zup (zup (zup (zup z (s + 7 + 1 + (z s 3).toNat) 0 tn) (s + 7 + 1 + (z s 3).toNat) 1 m) (s + 7 + 1 + (z s 3).toNat) 2 d) (s + 7 + 1 + (z s 3).toNat) 3 (-1)) s 3 (z s 3 + 1)
set_option maxHeartbeats 4000000 in
set_option maxRecDepth 100000 in
theorem c_J6_bitCount_0f7a4 {l : Launch} {D : va_G} {cA : Nat → ClassId} {r : Nat → Nat} {z : Zt} {v : Int} {Q : Nat → Prop} (hr : Inj r) (hv : isSet Q v) : Ki l D cA r yJ6_bitCount_0f7a4 wsJ6_bitCount_0f7a4 0 0 z [.int (iN v)] (fun x z1 => z = z1 ∧ x = cntP Q 10) := by
  refine Ki_of [(0, _)] hr (by decide) rfl rfl (Nat.le_of_ble_eq_true rfl) rfl (fun Γ hG hR => ?_)
  refine v_iload_n hG dJ6_bitCount_0f7a4_0 0 rfl ?_
  refine v_iload_n hG dJ6_bitCount_0f7a4_1 0 rfl ?_
  refine v_iconst hG dJ6_bitCount_0f7a4_2 ?_
  refine v_iushr0 hG dJ6_bitCount_0f7a4_3 ?_
  refine v_ldcw (v := 1431655765) hG (by decide +kernel) dJ6_bitCount_0f7a4_4 ?_
  refine v_iand0 hG dJ6_bitCount_0f7a4_7 ?_
  refine v_isub0 hG dJ6_bitCount_0f7a4_8 ?_
  refine v_istore_n hG [(0, _)] dJ6_bitCount_0f7a4_9 (by decide) rfl ?_
  refine v_iload_n hG dJ6_bitCount_0f7a4_10 0 rfl ?_
  refine v_ldcw (v := 858993459) hG (by decide +kernel) dJ6_bitCount_0f7a4_11 ?_
  refine v_iand0 hG dJ6_bitCount_0f7a4_14 ?_
  refine v_iload_n hG dJ6_bitCount_0f7a4_15 0 rfl ?_
  refine v_iconst hG dJ6_bitCount_0f7a4_16 ?_
  refine v_iushr0 hG dJ6_bitCount_0f7a4_17 ?_
  refine v_ldcw (v := 858993459) hG (by decide +kernel) dJ6_bitCount_0f7a4_18 ?_
  refine v_iand0 hG dJ6_bitCount_0f7a4_21 ?_
  refine v_iadd0 hG dJ6_bitCount_0f7a4_22 ?_
  refine v_istore_n hG [(0, _)] dJ6_bitCount_0f7a4_23 (by decide) rfl ?_
  refine v_iload_n hG dJ6_bitCount_0f7a4_24 0 rfl ?_
  refine v_iload_n hG dJ6_bitCount_0f7a4_25 0 rfl ?_
  refine v_iconst hG dJ6_bitCount_0f7a4_26 ?_
  refine v_iushr0 hG dJ6_bitCount_0f7a4_27 ?_
  refine v_iadd0 hG dJ6_bitCount_0f7a4_28 ?_
  refine v_ldcw (v := 252645135) hG (by decide +kernel) dJ6_bitCount_0f7a4_29 ?_
  refine v_iand0 hG dJ6_bitCount_0f7a4_32 ?_
  refine v_istore_n hG [(0, _)] dJ6_bitCount_0f7a4_33 (by decide) rfl ?_
  refine v_iload_n hG dJ6_bitCount_0f7a4_34 0 rfl ?_
  refine v_iload_n hG dJ6_bitCount_0f7a4_35 0 rfl ?_
  refine v_bipush hG dJ6_bitCount_0f7a4_36 (by decide) ?_
  refine v_iushr0 hG dJ6_bitCount_0f7a4_38 ?_
  refine v_iadd0 hG dJ6_bitCount_0f7a4_39 ?_
  refine v_istore_n hG [(0, _)] dJ6_bitCount_0f7a4_40 (by decide) rfl ?_
  refine v_iload_n hG dJ6_bitCount_0f7a4_41 0 rfl ?_
  refine v_iload_n hG dJ6_bitCount_0f7a4_42 0 rfl ?_
  refine v_bipush hG dJ6_bitCount_0f7a4_43 (by decide) ?_
  refine v_iushr0 hG dJ6_bitCount_0f7a4_45 ?_
  refine v_iadd0 hG dJ6_bitCount_0f7a4_46 ?_
  refine v_istore_n hG [(0, _)] dJ6_bitCount_0f7a4_47 (by decide) rfl ?_
  refine v_iload_n hG dJ6_bitCount_0f7a4_48 0 rfl ?_
  refine v_bipush hG dJ6_bitCount_0f7a4_49 (by decide) ?_
  refine v_iand0 hG dJ6_bitCount_0f7a4_51 ?_
  refine v_eqi hG (bc_ok hv) ?_
  exact v_iret hG hR dJ6_bitCount_0f7a4_52 ⟨rfl, rfl⟩

set_option maxHeartbeats 4000000 in
set_option maxRecDepth 100000 in
theorem c_X1_copyFrom {l : Launch} {D : va_G} {cA : Nat → ClassId} {r : Nat → Nat} {z : Zt} {f g : Nat} (hr : Inj r) (hf : kd f = 4) (hg : kd g = 4) (hne : g ≠ f) : Kv l D cA r yX1_copyFrom wsX1_copyFrom 0 0 z [.ref (r f), .ref (r g)] (fun z1 => cpy z f g = z1) := by
  have iW1 : ∀ w ∈ u_ws RX1 TX1 4, w ∈ wsX1_copyFrom := by decide +kernel
  have f9 : Cond.fieldLink RX1 9 (TX1 0).1 (TX1 0).2.1 (TX1 0).2.2.1 ∈ wsX1_copyFrom := by decide +kernel
  have f15 : Cond.fieldLink RX1 15 (TX1 1).1 (TX1 1).2.1 (TX1 1).2.2.1 ∈ wsX1_copyFrom := by decide +kernel
  have f18 : Cond.fieldLink RX1 18 (TX1 2).1 (TX1 2).2.1 (TX1 2).2.2.1 ∈ wsX1_copyFrom := by decide +kernel
  have f21 : Cond.fieldLink RX1 21 (TX1 3).1 (TX1 3).2.1 (TX1 3).2.2.1 ∈ wsX1_copyFrom := by decide +kernel
  refine Kv_of [(0, _), (1, _)] hr (by decide) rfl rfl (Nat.le_of_ble_eq_true rfl) rfl (fun Γ hG hR => ?_)
  refine v_aload_n hG dX1_copyFrom_0 0 rfl ?_
  refine v_aload_n hG dX1_copyFrom_1 1 rfl ?_
  refine v_getf (ci := 1) (k := 0) hG iW1 f9 rfl (by decide) hg (by decide) (cl_4 _ _ _ _) rfl dX1_copyFrom_2 ?_
  refine v_putf (ci := 1) (k := 0) hG iW1 tyX1_ok nmX1 f9 rfl (by decide) rfl rfl hf (by decide) (cl_4 _ _ _ _) (Nat.le_of_ble_eq_true rfl) rfl dX1_copyFrom_5 ?_
  refine v_aload_n hG dX1_copyFrom_8 0 rfl ?_
  refine v_aload_n hG dX1_copyFrom_9 1 rfl ?_
  refine v_getf (ci := 1) (k := 1) hG iW1 f15 rfl (by decide) hg (by decide) (cl_4 _ _ _ _) rfl dX1_copyFrom_10 ?_
  refine v_putf (ci := 1) (k := 1) hG iW1 tyX1_ok nmX1 f15 rfl (by decide) rfl rfl hf (by decide) (cl_4 _ _ _ _) (Nat.le_of_ble_eq_true rfl) rfl dX1_copyFrom_13 ?_
  refine v_aload_n hG dX1_copyFrom_16 0 rfl ?_
  refine v_aload_n hG dX1_copyFrom_17 1 rfl ?_
  refine v_getf (ci := 1) (k := 2) hG iW1 f18 rfl (by decide) hg (by decide) (cl_4 _ _ _ _) rfl dX1_copyFrom_18 ?_
  refine v_putf (ci := 1) (k := 2) hG iW1 tyX1_ok nmX1 f18 rfl (by decide) rfl rfl hf (by decide) (cl_4 _ _ _ _) (Nat.le_of_ble_eq_true rfl) rfl dX1_copyFrom_21 ?_
  refine v_aload_n hG dX1_copyFrom_24 0 rfl ?_
  refine v_aload_n hG dX1_copyFrom_25 1 rfl ?_
  refine v_getf (ci := 1) (k := 3) hG iW1 f21 rfl (by decide) hg (by decide) (cl_4 _ _ _ _) rfl dX1_copyFrom_26 ?_
  refine v_putf (ci := 1) (k := 3) hG iW1 tyX1_ok nmX1 f21 rfl (by decide) rfl rfl hf (by decide) (cl_4 _ _ _ _) (Nat.le_of_ble_eq_true rfl) rfl dX1_copyFrom_29 ?_
  refine v_re hG (cpy z f g) ?_ ?_
  · intro i j _ hj
    unfold cpy
    by_cases q : i = f
    · subst q
      rw [if_pos rfl]
      rw [hf] at hj
      have hj4 : j < 4 := by simpa [ksz] using hj
      rcases (show j = 0 ∨ j = 1 ∨ j = 2 ∨ j = 3 by omega) with rfl | rfl | rfl | rfl <;> simp [zup, hne]
    · rw [if_neg q]
      simp [zup, q]
  exact v_vret hG hR dX1_copyFrom_32 rfl

set_option maxHeartbeats 4000000 in
set_option maxRecDepth 100000 in
theorem c_X3_copyFrom {l : Launch} {D : va_G} {cA : Nat → ClassId} {r : Nat → Nat} {z : Zt} {t u : Nat} (hr : Inj r) (ht : kd t = 3) (hu : kd u = 3) (hne : u ≠ t) (h00 : z t 0 = z u 0) : Kv l D cA r yX3_copyFrom wsX3_copyFrom 0 0 z [.ref (r t), .ref (r u)] (fun z1 => cpT z t u = z1) := by
  have iW3 : ∀ w ∈ u_ws RX3 TX3 5, w ∈ wsX3_copyFrom := by decide +kernel
  have f9 : Cond.fieldLink RX3 9 (TX3 1).1 (TX3 1).2.1 (TX3 1).2.2.1 ∈ wsX3_copyFrom := by decide +kernel
  have f15 : Cond.fieldLink RX3 15 (TX3 2).1 (TX3 2).2.1 (TX3 2).2.2.1 ∈ wsX3_copyFrom := by decide +kernel
  have f18 : Cond.fieldLink RX3 18 (TX3 3).1 (TX3 3).2.1 (TX3 3).2.2.1 ∈ wsX3_copyFrom := by decide +kernel
  have f22 : Cond.fieldLink RX3 22 (TX3 4).1 (TX3 4).2.1 (TX3 4).2.2.1 ∈ wsX3_copyFrom := by decide +kernel
  obtain ⟨n1, n2, n3, n4⟩ := TT_ne ht hu
  refine Kv_of [(0, _), (1, _)] hr (by decide) rfl rfl (Nat.le_of_ble_eq_true rfl) rfl (fun Γ hG hR => ?_)
  refine v_iconst hG dX3_copyFrom_0 ?_
  refine v_istore_n hG [(0, _), (1, _), (2, _)] dX3_copyFrom_1 (by decide) rfl ?_
  have L2 : ∀ (n : Nat), ∀ (x2 : Int) (z1 : Zt), (0 ≤ x2 ∧ x2 ≤ 3 ∧ (∀ a, a ≠ t + 1 → a ≠ t + 2 → z1 a = z a) ∧ ∀ j : Nat, (j : Int) < x2 → z1 (t + 1) j = z (u + 1) j ∧ z1 (t + 2) j = z (u + 2) j) → (3 - x2 + 1).toNat ≤ n → V Γ z1 0 0 [(0, .ref (r t)), (1, .ref (r u)), (2, .int (iN x2))] 2 [] := by
    intro n
    induction n with
    | zero =>
      intro x2 z1 hI hm
      obtain ⟨i1, i2, i3v, i4⟩ := hI
      exact absurd hm (by omega)
    | succ n ih2 =>
      intro x2 z1 hI hm
      obtain ⟨i1, i2, i3v, i4⟩ := hI
      refine v_iload_n hG dX3_copyFrom_2 2 rfl ?_
      refine v_iconst hG dX3_copyFrom_3 ?_
      refine v_icmp_ge hG 37 (by omega) (by omega) dX3_copyFrom_4 (by decide) (fun h4 => ?_) (fun h4 => ?_)
      · refine v_aload_n hG dX3_copyFrom_37 0 rfl ?_
        refine v_aload_n hG dX3_copyFrom_38 1 rfl ?_
        refine v_getf (ci := 3) (k := 3) hG iW3 f18 rfl (by decide) hu (by decide) (cl_3 _ _ _ _) rfl dX3_copyFrom_39 ?_
        refine v_putf (ci := 3) (k := 3) hG iW3 tyX3_ok nmX3 f18 rfl (by decide) rfl rfl ht (by decide) (cl_3 _ _ _ _) (Nat.le_of_ble_eq_true rfl) rfl dX3_copyFrom_42 ?_
        refine v_aload_n hG dX3_copyFrom_45 0 rfl ?_
        refine v_aload_n hG dX3_copyFrom_46 1 rfl ?_
        refine v_getf (ci := 3) (k := 4) hG iW3 f22 rfl (by decide) hu (by decide) (cl_3 _ _ _ _) rfl dX3_copyFrom_47 ?_
        refine v_putf (ci := 3) (k := 4) hG iW3 tyX3_ok nmX3 f22 rfl (by decide) rfl rfl ht (by decide) (cl_3 _ _ _ _) (Nat.le_of_ble_eq_true rfl) rfl dX3_copyFrom_50 ?_
        refine v_re hG (cpT z t u) ?_ ?_
        · intro i j _ hj
          unfold cpT
          rcases Classical.em (t = i) with rfl | q0
          · rw [if_pos rfl]
            rw [ht] at hj
            have hj4 : j = 0 ∨ j = 3 ∨ j = 4 := by simpa [ksz] using hj
            rcases hj4 with rfl | rfl | rfl
            · simp [zup, i3v t (by omega) (by omega), h00]
            · simp [zup, i3v u n1 n2]
            · simp [zup, hne, i3v u n1 n2]
          · have q : ¬ i = t := fun e => q0 e.symm
            rw [if_neg q]
            by_cases q1 : i = t + 1
            · subst q1
              rw [if_pos rfl]
              rw [kT_D ht] at hj
              have hj4 : j < 3 := by simpa [ksz] using hj
              simp [zup, (i4 j (by omega)).1]
            · rw [if_neg q1]
              by_cases q2 : i = t + 2
              · subst q2
                rw [if_pos rfl]
                rw [kT_L ht] at hj
                have hj4 : j < 3 := by simpa [ksz] using hj
                simp [zup, (i4 j (by omega)).2]
              · rw [if_neg q2]
                simp [zup, q, i3v i q1 q2]
        exact v_vret hG hR dX3_copyFrom_53 rfl
      · refine v_aload_n hG dX3_copyFrom_7 0 rfl ?_
        refine v_getf (ci := 3) (k := 1) hG iW3 f9 rfl (by decide) ht (by decide) (cl_3 _ _ _ _) rfl dX3_copyFrom_8 ?_
        refine v_iload_n hG dX3_copyFrom_11 2 rfl ?_
        refine v_aload_n hG dX3_copyFrom_12 1 rfl ?_
        refine v_getf (ci := 3) (k := 1) hG iW3 f9 rfl (by decide) hu (by decide) (cl_3 _ _ _ _) rfl dX3_copyFrom_13 ?_
        refine v_iload_n hG dX3_copyFrom_16 2 rfl ?_
        refine v_iald hG (kT_D hu) (by decide) (cl_103 _ _ _ _) (by decide) (by omega) dX3_copyFrom_17 ?_
        refine v_iast hG (kT_D ht) (by decide) (cl_103 _ _ _) (by decide) (by omega) dX3_copyFrom_18 ?_
        refine v_aload_n hG dX3_copyFrom_19 0 rfl ?_
        refine v_getf (ci := 3) (k := 2) hG iW3 f15 rfl (by decide) ht (by decide) (cl_3 _ _ _ _) rfl dX3_copyFrom_20 ?_
        refine v_iload_n hG dX3_copyFrom_23 2 rfl ?_
        refine v_aload_n hG dX3_copyFrom_24 1 rfl ?_
        refine v_getf (ci := 3) (k := 2) hG iW3 f15 rfl (by decide) hu (by decide) (cl_3 _ _ _ _) rfl dX3_copyFrom_25 ?_
        refine v_iload_n hG dX3_copyFrom_28 2 rfl ?_
        refine v_iald hG (kT_L hu) (by decide) (cl_103 _ _ _ _) (by decide) (by omega) dX3_copyFrom_29 ?_
        refine v_iast hG (kT_L ht) (by decide) (cl_103 _ _ _) (by decide) (by omega) dX3_copyFrom_30 ?_
        refine v_iinc hG [(0, _), (1, _), (2, _)] dX3_copyFrom_31 2 rfl (by decide) rfl ?_
        refine v_goto hG 2 dX3_copyFrom_34 (by decide) ?_
        refine ih2 _ _ ?_ (by omega)
        refine ⟨by omega, by omega, fun a b1 b2 => ?_, fun j hj => ?_⟩
        · simp only [zup, if_neg b1, if_neg b2]
          exact i3v a b1 b2
        · by_cases q : j = x2.toNat
          · subst q
            simp only [zup, if_pos, show ¬ (t + 1 = t + 2) by omega, show ¬ (u + 2 = t + 1) by omega, if_false]
            rw [i3v (u + 1) (by omega) (by omega), i3v (u + 2) (by omega) (by omega)]
            exact ⟨rfl, rfl⟩
          · have h9 := i4 j (by omega)
            simp only [zup, if_pos, show ¬ (t + 1 = t + 2) by omega, show ¬ (t + 2 = t + 1) by omega, if_false, if_neg q]
            exact h9
  exact L2 _ _ _ ⟨by omega, by omega, fun _ _ _ => rfl, fun j hj => by omega⟩ (Nat.le_refl _)

set_option maxHeartbeats 4000000 in
set_option maxRecDepth 100000 in
theorem c_X3_leaveOut {l : Launch} {D : va_G} {cA : Nat → ClassId} {r : Nat → Nat} {z : Zt} {t : Nat} {a q : Int} (hr : Inj r) (ht : kd t = 3) (hg : 0 ≤ z t 3 ∧ z t 3 < 3) : Ki l D cA r yX3_leaveOut wsX3_leaveOut 0 0 z [.ref (r t), .int (iN a), .int (iN q)] (fun x z1 => lvZ z t a q = z1 ∧ x = z t 3 + 1) := by
  have iW3 : ∀ w ∈ u_ws RX3 TX3 5, w ∈ wsX3_leaveOut := by decide +kernel
  have f9 : Cond.fieldLink RX3 9 (TX3 1).1 (TX3 1).2.1 (TX3 1).2.2.1 ∈ wsX3_leaveOut := by decide +kernel
  have f15 : Cond.fieldLink RX3 15 (TX3 2).1 (TX3 2).2.1 (TX3 2).2.2.1 ∈ wsX3_leaveOut := by decide +kernel
  have f18 : Cond.fieldLink RX3 18 (TX3 3).1 (TX3 3).2.1 (TX3 3).2.2.1 ∈ wsX3_leaveOut := by decide +kernel
  have n1 : t ≠ t + 1 := by omega
  have n2 : t ≠ t + 2 := by omega
  have n3 : t + 1 ≠ t + 2 := by omega
  refine Ki_of [(0, _), (1, _), (2, _)] hr (by decide) rfl rfl (Nat.le_of_ble_eq_true rfl) rfl (fun Γ hG hR => ?_)
  refine v_aload_n hG dX3_leaveOut_0 0 rfl ?_
  refine v_getf (ci := 3) (k := 3) hG iW3 f18 rfl (by decide) ht (by decide) (cl_3 _ _ _ _) rfl dX3_leaveOut_1 ?_
  refine v_iconst hG dX3_leaveOut_4 ?_
  refine v_icmp_ge hG 38 (by omega) (by omega) dX3_leaveOut_5 (by decide) (fun h5 => ?_) (fun h5 => ?_)
  · exfalso; omega
  · refine v_aload_n hG dX3_leaveOut_8 0 rfl ?_
    refine v_getf (ci := 3) (k := 1) hG iW3 f9 rfl (by decide) ht (by decide) (cl_3 _ _ _ _) rfl dX3_leaveOut_9 ?_
    refine v_aload_n hG dX3_leaveOut_12 0 rfl ?_
    refine v_getf (ci := 3) (k := 3) hG iW3 f18 rfl (by decide) ht (by decide) (cl_3 _ _ _ _) rfl dX3_leaveOut_13 ?_
    have e1 : z t 3 = z t 3 := rfl
    refine v_iload_n hG dX3_leaveOut_16 1 rfl ?_
    refine v_iast hG (kT_D ht) (by decide) (cl_103 _ _ _) (by decide) (by omega) dX3_leaveOut_17 ?_
    refine v_aload_n hG dX3_leaveOut_18 0 rfl ?_
    refine v_getf (ci := 3) (k := 2) hG iW3 f15 rfl (by decide) ht (by decide) (cl_3 _ _ _ _) rfl dX3_leaveOut_19 ?_
    refine v_aload_n hG dX3_leaveOut_22 0 rfl ?_
    refine v_getf (ci := 3) (k := 3) hG iW3 f18 rfl (by decide) ht (by decide) (cl_3 _ _ _ _) rfl dX3_leaveOut_23 ?_
    rw [show zup z (t + 1) (z t 3).toNat a t 3 = z t 3 by simp [zup]]
    refine v_iload_n hG dX3_leaveOut_26 2 rfl ?_
    refine v_iast hG (kT_L ht) (by decide) (cl_103 _ _ _) (by decide) (by omega) dX3_leaveOut_27 ?_
    refine v_aload_n hG dX3_leaveOut_28 0 rfl ?_
    refine v_dup hG dX3_leaveOut_29 rfl ?_
    refine v_getf (ci := 3) (k := 3) hG iW3 f18 rfl (by decide) ht (by decide) (cl_3 _ _ _ _) rfl dX3_leaveOut_30 ?_
    rw [show zup (zup z (t + 1) (z t 3).toNat a) (t + 2) (z t 3).toNat q t 3 = z t 3 by simp [zup]]
    refine v_iconst hG dX3_leaveOut_33 ?_
    refine v_iadd hG dX3_leaveOut_34 ?_
    refine v_putf (ci := 3) (k := 3) hG iW3 tyX3_ok nmX3 f18 rfl (by decide) rfl rfl ht (by decide) (cl_3 _ _ _ _) (Nat.le_of_ble_eq_true rfl) rfl dX3_leaveOut_35 ?_
    refine v_aload_n hG dX3_leaveOut_38 0 rfl ?_
    refine v_getf (ci := 3) (k := 3) hG iW3 f18 rfl (by decide) ht (by decide) (cl_3 _ _ _ _) rfl dX3_leaveOut_39 ?_
    rw [zup_s]
    exact v_iret hG hR dX3_leaveOut_42 ⟨rfl, rfl⟩

set_option maxHeartbeats 4000000 in
set_option maxRecDepth 100000 in
theorem c_X2_putFeast {l : Launch} {D : va_G} {cA : Nat → ClassId} {r : Nat → Nat} {z : Zt} {s : Nat} {tn m d : Int} (hr : Inj r) (hs : kd s = 2) (hg : 0 ≤ z s 3 ∧ z s 3 < 10) : Ki l D cA r yX2_putFeast wsX2_putFeast 0 0 z [.ref (r s), .int (iN tn), .int (iN m), .int (iN d)] (fun x z1 => pfZ z s tn m d = z1 ∧ x = z s 3) := by
  have iW1 : ∀ w ∈ u_ws RX1 TX1 4, w ∈ wsX2_putFeast := by decide +kernel
  have iW2 : ∀ w ∈ u_ws RX2 TX2 9, w ∈ wsX2_putFeast := by decide +kernel
  have f25 : Cond.fieldLink RX2 25 (TX2 2).1 (TX2 2).2.1 (TX2 2).2.2.1 ∈ wsX2_putFeast := by decide +kernel
  have f29 : Cond.fieldLink RX2 29 (TX2 3).1 (TX2 3).2.1 (TX2 3).2.2.1 ∈ wsX2_putFeast := by decide +kernel
  have f56 : Cond.fieldLinkNest RX2 56 (TX1 0).1 (TX1 0).2.1 (TX1 0).2.2.1 "TwoTownAlmanac" ∈ nwF := by decide +kernel
  have f59 : Cond.fieldLinkNest RX2 59 (TX1 1).1 (TX1 1).2.1 (TX1 1).2.2.1 "TwoTownAlmanac" ∈ nwF := by decide +kernel
  have f62 : Cond.fieldLinkNest RX2 62 (TX1 2).1 (TX1 2).2.1 (TX1 2).2.2.1 "TwoTownAlmanac" ∈ nwF := by decide +kernel
  have f65 : Cond.fieldLinkNest RX2 65 (TX1 3).1 (TX1 3).2.1 (TX1 3).2.2.1 "TwoTownAlmanac" ∈ nwF := by decide +kernel
  have hf : kd (s + 7 + 1 + (z s 3).toNat) = 4 := kF_f (kS_F hs) (by omega)
  have n1 : ¬ s = s + 7 + 1 + (z s 3).toNat := by omega
  refine Ki_of [(0, _), (1, _), (2, _), (3, _)] hr (by decide) rfl rfl (Nat.le_of_ble_eq_true rfl) rfl (fun Γ hG hR => ?_)
  refine v_aload_n hG dX2_putFeast_0 0 rfl ?_
  refine v_getf (ci := 2) (k := 3) hG iW2 f29 rfl (by decide) hs (by decide) (cl_2 _ _ _ _) rfl dX2_putFeast_1 ?_
  refine v_istore hG [(0, _), (1, _), (2, _), (3, _), (4, _)] dX2_putFeast_4 (by decide) rfl ?_
  refine v_iload hG dX2_putFeast_6 4 rfl ?_
  refine v_bipush hG dX2_putFeast_8 (by decide) ?_
  refine v_icmp_ge hG 56 (by omega) (by omega) dX2_putFeast_10 (by decide) (fun h10 => ?_) (fun h10 => ?_)
  · exfalso; omega
  · refine v_aload_n hG dX2_putFeast_13 0 rfl ?_
    refine v_getf (ci := 2) (k := 2) hG iW2 f25 rfl (by decide) hs (by decide) (cl_2 _ _ _ _) rfl dX2_putFeast_14 ?_
    refine v_iload hG dX2_putFeast_17 4 rfl ?_
    refine v_aaldF hG (kS_F hs) (by omega) dX2_putFeast_19 ?_
    refine v_astore hG [(0, _), (1, _), (2, _), (3, _), (4, _), (5, _)] dX2_putFeast_20 (by decide) rfl ?_
    refine v_aload hG dX2_putFeast_22 5 rfl ?_
    refine v_iload_n hG dX2_putFeast_24 1 rfl ?_
    refine v_putfN (ci := 1) (k := 0) hG iW1 tyX1_ok nmX1 f56 rfl (by decide) rfl rfl (kF_f (kS_F hs) (by omega)) (by decide) (cl_4 _ _ _ _) (Nat.le_of_ble_eq_true rfl) rfl dX2_putFeast_25 ?_
    refine v_aload hG dX2_putFeast_28 5 rfl ?_
    refine v_iload_n hG dX2_putFeast_30 2 rfl ?_
    refine v_putfN (ci := 1) (k := 1) hG iW1 tyX1_ok nmX1 f59 rfl (by decide) rfl rfl (kF_f (kS_F hs) (by omega)) (by decide) (cl_4 _ _ _ _) (Nat.le_of_ble_eq_true rfl) rfl dX2_putFeast_31 ?_
    refine v_aload hG dX2_putFeast_34 5 rfl ?_
    refine v_iload_n hG dX2_putFeast_36 3 rfl ?_
    refine v_putfN (ci := 1) (k := 2) hG iW1 tyX1_ok nmX1 f62 rfl (by decide) rfl rfl (kF_f (kS_F hs) (by omega)) (by decide) (cl_4 _ _ _ _) (Nat.le_of_ble_eq_true rfl) rfl dX2_putFeast_37 ?_
    refine v_aload hG dX2_putFeast_40 5 rfl ?_
    refine v_iconst hG dX2_putFeast_42 ?_
    refine v_putfN (ci := 1) (k := 3) hG iW1 tyX1_ok nmX1 f65 rfl (by decide) rfl rfl (kF_f (kS_F hs) (by omega)) (by decide) (cl_4 _ _ _ _) (Nat.le_of_ble_eq_true rfl) rfl dX2_putFeast_43 ?_
    refine v_aload_n hG dX2_putFeast_46 0 rfl ?_
    refine v_dup hG dX2_putFeast_47 rfl ?_
    refine v_getf (ci := 2) (k := 3) hG iW2 f29 rfl (by decide) hs (by decide) (cl_2 _ _ _ _) rfl dX2_putFeast_48 ?_
    rw [show zup (zup (zup (zup z (s + 7 + 1 + (z s 3).toNat) 0 tn) (s + 7 + 1 + (z s 3).toNat) 1 m) (s + 7 + 1 + (z s 3).toNat) 2 d) (s + 7 + 1 + (z s 3).toNat) 3 (-1) s 3 = z s 3 by simp [zup, n1]]
    refine v_iconst hG dX2_putFeast_51 ?_
    refine v_iadd hG dX2_putFeast_52 ?_
    refine v_putf (ci := 2) (k := 3) hG iW2 tyX2_ok nmX2 f29 rfl (by decide) rfl rfl hs (by decide) (cl_2 _ _ _ _) (Nat.le_of_ble_eq_true rfl) rfl dX2_putFeast_53 ?_
    refine v_iload hG dX2_putFeast_56 4 rfl ?_
    exact v_iret hG hR dX2_putFeast_58 ⟨rfl, rfl⟩

set_option maxHeartbeats 4000000 in
set_option maxRecDepth 100000 in
theorem c_X2_copyFrom {l : Launch} {D : va_G} {cA : Nat → ClassId} {r : Nat → Nat} {z : Zt} {s q : Nat} (hr : Inj r) (hs : kd s = 2) (hq : kd q = 2) (hne : s ≠ q) (hA : z (s + 1) 0 = z (q + 1) 0) (hB : z (s + 4) 0 = z (q + 4) 0) : Kv l D cA r yX2_copyFrom wsX2_copyFrom 1 22 z [.ref (r s), .ref (r q)] (fun z1 => cpB z s q = z1) := by
  have iW2 : ∀ w ∈ u_ws RX2 TX2 9, w ∈ wsX2_copyFrom := by decide +kernel
  have f14 : Cond.fieldLink RX2 14 (TX2 0).1 (TX2 0).2.1 (TX2 0).2.2.1 ∈ wsX2_copyFrom := by decide +kernel
  have f20 : Cond.fieldLink RX2 20 (TX2 1).1 (TX2 1).2.1 (TX2 1).2.2.1 ∈ wsX2_copyFrom := by decide +kernel
  have f25 : Cond.fieldLink RX2 25 (TX2 2).1 (TX2 2).2.1 (TX2 2).2.2.1 ∈ wsX2_copyFrom := by decide +kernel
  have f29 : Cond.fieldLink RX2 29 (TX2 3).1 (TX2 3).2.1 (TX2 3).2.2.1 ∈ wsX2_copyFrom := by decide +kernel
  have f33 : Cond.fieldLink RX2 33 (TX2 4).1 (TX2 4).2.1 (TX2 4).2.2.1 ∈ wsX2_copyFrom := by decide +kernel
  have f36 : Cond.fieldLink RX2 36 (TX2 5).1 (TX2 5).2.1 (TX2 5).2.2.1 ∈ wsX2_copyFrom := by decide +kernel
  have f39 : Cond.fieldLink RX2 39 (TX2 6).1 (TX2 6).2.1 (TX2 6).2.2.1 ∈ wsX2_copyFrom := by decide +kernel
  have f42 : Cond.fieldLink RX2 42 (TX2 7).1 (TX2 7).2.1 (TX2 7).2.2.1 ∈ wsX2_copyFrom := by decide +kernel
  have f45 : Cond.fieldLink RX2 45 (TX2 8).1 (TX2 8).2.1 (TX2 8).2.2.1 ∈ wsX2_copyFrom := by decide +kernel
  have far := SS_far hs hq hne
  refine Kv_of [(0, _), (1, _)] hr (by decide) rfl rfl (Nat.le_of_ble_eq_true rfl) rfl (fun Γ hG hR => ?_)
  refine v_aload_n hG dX2_copyFrom_0 0 rfl ?_
  refine v_getf (ci := 2) (k := 0) hG iW2 f14 rfl (by decide) hs (by decide) (cl_2 _ _ _ _) rfl dX2_copyFrom_1 ?_
  refine v_aload_n hG dX2_copyFrom_4 1 rfl ?_
  refine v_getf (ci := 2) (k := 0) hG iW2 f14 rfl (by decide) hq (by decide) (cl_2 _ _ _ _) rfl dX2_copyFrom_5 ?_
  refine v_callVv (n := 1) (ci := 3) hG (c_X3_copyFrom hr (kS_A hs) (kS_A hq) (by omega) hA) gX2_copyFrom_X3_copyFrom rfl (by decide +kernel) rfl (by decide) (kS_A hs) (by decide) (cl_3 _ _ _ _) rfl dX2_copyFrom_8 rfl (Nat.le_of_ble_eq_true rfl) (by decide) ?_
  intro z8 hp8
  obtain rfl := hp8
  refine v_aload_n hG dX2_copyFrom_11 0 rfl ?_
  refine v_getf (ci := 2) (k := 1) hG iW2 f20 rfl (by decide) hs (by decide) (cl_2 _ _ _ _) rfl dX2_copyFrom_12 ?_
  refine v_aload_n hG dX2_copyFrom_15 1 rfl ?_
  refine v_getf (ci := 2) (k := 1) hG iW2 f20 rfl (by decide) hq (by decide) (cl_2 _ _ _ _) rfl dX2_copyFrom_16 ?_
  refine v_callVv (n := 1) (ci := 3) hG (c_X3_copyFrom hr (kS_B hs) (kS_B hq) (by omega) (by rw [cpT_o (by omega) (by omega) (by omega), cpT_o (by omega) (by omega) (by omega)]; exact hB)) gX2_copyFrom_X3_copyFrom rfl (by decide +kernel) rfl (by decide) (kS_B hs) (by decide) (cl_3 _ _ _ _) rfl dX2_copyFrom_19 rfl (Nat.le_of_ble_eq_true rfl) (by decide) ?_
  intro z19 hp19
  obtain rfl := hp19
  refine v_iconst hG dX2_copyFrom_22 ?_
  refine v_istore_n hG [(0, _), (1, _), (2, _)] dX2_copyFrom_23 (by decide) rfl ?_
  have L24 : ∀ (n : Nat), ∀ (x2 : Int) (z1 : Zt), (0 ≤ x2 ∧ x2 ≤ 10 ∧ z1 = cpS z s q x2.toNat) → (10 - x2 + 1).toNat ≤ n → V Γ z1 0 0 [(0, .ref (r s)), (1, .ref (r q)), (2, .int (iN x2))] 24 [] := by
    intro n
    induction n with
    | zero =>
      intro x2 z1 hI hm
      obtain ⟨i1, i2, i3v⟩ := hI
      exact absurd hm (by omega)
    | succ n ih24 =>
      intro x2 z1 hI hm
      obtain ⟨i1, i2, i3v⟩ := hI
      refine v_iload_n hG dX2_copyFrom_24 2 rfl ?_
      refine v_bipush hG dX2_copyFrom_25 (by decide) ?_
      refine v_icmp_ge hG 51 (by omega) (by omega) dX2_copyFrom_27 (by decide) (fun h27 => ?_) (fun h27 => ?_)
      · refine v_aload_n hG dX2_copyFrom_51 0 rfl ?_
        refine v_aload_n hG dX2_copyFrom_52 1 rfl ?_
        refine v_getf (ci := 2) (k := 3) hG iW2 f29 rfl (by decide) hq (by decide) (cl_2 _ _ _ _) rfl dX2_copyFrom_53 ?_
        refine v_putf (ci := 2) (k := 3) hG iW2 tyX2_ok nmX2 f29 rfl (by decide) rfl rfl hs (by decide) (cl_2 _ _ _ _) (Nat.le_of_ble_eq_true rfl) rfl dX2_copyFrom_56 ?_
        refine v_aload_n hG dX2_copyFrom_59 0 rfl ?_
        refine v_aload_n hG dX2_copyFrom_60 1 rfl ?_
        refine v_getf (ci := 2) (k := 4) hG iW2 f33 rfl (by decide) hq (by decide) (cl_2 _ _ _ _) rfl dX2_copyFrom_61 ?_
        refine v_putf (ci := 2) (k := 4) hG iW2 tyX2_ok nmX2 f33 rfl (by decide) rfl rfl hs (by decide) (cl_2 _ _ _ _) (Nat.le_of_ble_eq_true rfl) rfl dX2_copyFrom_64 ?_
        refine v_aload_n hG dX2_copyFrom_67 0 rfl ?_
        refine v_aload_n hG dX2_copyFrom_68 1 rfl ?_
        refine v_getf (ci := 2) (k := 5) hG iW2 f36 rfl (by decide) hq (by decide) (cl_2 _ _ _ _) rfl dX2_copyFrom_69 ?_
        refine v_putf (ci := 2) (k := 5) hG iW2 tyX2_ok nmX2 f36 rfl (by decide) rfl rfl hs (by decide) (cl_2 _ _ _ _) (Nat.le_of_ble_eq_true rfl) rfl dX2_copyFrom_72 ?_
        refine v_aload_n hG dX2_copyFrom_75 0 rfl ?_
        refine v_aload_n hG dX2_copyFrom_76 1 rfl ?_
        refine v_getf (ci := 2) (k := 6) hG iW2 f39 rfl (by decide) hq (by decide) (cl_2 _ _ _ _) rfl dX2_copyFrom_77 ?_
        refine v_putf (ci := 2) (k := 6) hG iW2 tyX2_ok nmX2 f39 rfl (by decide) rfl rfl hs (by decide) (cl_2 _ _ _ _) (Nat.le_of_ble_eq_true rfl) rfl dX2_copyFrom_80 ?_
        refine v_aload_n hG dX2_copyFrom_83 0 rfl ?_
        refine v_aload_n hG dX2_copyFrom_84 1 rfl ?_
        refine v_getf (ci := 2) (k := 7) hG iW2 f42 rfl (by decide) hq (by decide) (cl_2 _ _ _ _) rfl dX2_copyFrom_85 ?_
        refine v_putf (ci := 2) (k := 7) hG iW2 tyX2_ok nmX2 f42 rfl (by decide) rfl rfl hs (by decide) (cl_2 _ _ _ _) (Nat.le_of_ble_eq_true rfl) rfl dX2_copyFrom_88 ?_
        refine v_aload_n hG dX2_copyFrom_91 0 rfl ?_
        refine v_aload_n hG dX2_copyFrom_92 1 rfl ?_
        refine v_getf (ci := 2) (k := 8) hG iW2 f45 rfl (by decide) hq (by decide) (cl_2 _ _ _ _) rfl dX2_copyFrom_93 ?_
        refine v_putf (ci := 2) (k := 8) hG iW2 tyX2_ok nmX2 f45 rfl (by decide) rfl rfl hs (by decide) (cl_2 _ _ _ _) (Nat.le_of_ble_eq_true rfl) rfl dX2_copyFrom_96 ?_
        refine v_re hG (cpB z s q) ?_ ?_
        · intro i j _ hj
          have e10 : x2.toNat = 10 := by omega
          rw [e10] at i3v
          unfold cpB
          by_cases b1 : i = s
          · subst b1
            rw [if_pos (by omega), show i - i + q = q by omega]
            rw [hs] at hj
            have hj4 : 3 ≤ j ∧ j ≤ 8 := by simpa [ksz] using hj
            have hq0 : z1 q = z q := by
              rw [i3v]
              exact cpS_q (i := 0) far (Nat.le_refl _) (by decide)
            rcases (show j = 3 ∨ j = 4 ∨ j = 5 ∨ j = 6 ∨ j = 7 ∨ j = 8 by omega) with rfl | rfl | rfl | rfl | rfl | rfl <;> simp [zup, Ne.symm hne, hq0]
          · have h9 : ∀ (k : Nat) (x : Int) (w : Zt), zup w s k x i j = w i j := fun k x w => zup_n w x (fun e => b1 e.1)
            rw [h9, h9, h9, h9, h9, h9, i3v]
            unfold cpS
            by_cases b2 : s ≤ i ∧ i < s + 18
            · rw [if_pos b2]
              by_cases b3 : s + 1 ≤ i ∧ i < s + 7
              · rw [if_pos b3]
              · rw [if_neg b3]
                by_cases b4 : i = s + 7
                · exfalso
                  subst b4
                  rw [kS_F hs] at hj
                  simp [ksz] at hj
                · rw [if_pos (by omega)]
            · rw [if_neg b2, if_neg (by omega), if_neg (by omega)]
        exact v_vret hG hR dX2_copyFrom_99 rfl
      · refine v_aload_n hG dX2_copyFrom_30 0 rfl ?_
        refine v_getf (ci := 2) (k := 2) hG iW2 f25 rfl (by decide) hs (by decide) (cl_2 _ _ _ _) rfl dX2_copyFrom_31 ?_
        refine v_iload_n hG dX2_copyFrom_34 2 rfl ?_
        refine v_aaldF hG (kS_F hs) (by omega) dX2_copyFrom_35 ?_
        refine v_aload_n hG dX2_copyFrom_36 1 rfl ?_
        refine v_getf (ci := 2) (k := 2) hG iW2 f25 rfl (by decide) hq (by decide) (cl_2 _ _ _ _) rfl dX2_copyFrom_37 ?_
        refine v_iload_n hG dX2_copyFrom_40 2 rfl ?_
        refine v_aaldF hG (kS_F hq) (by omega) dX2_copyFrom_41 ?_
        refine v_callVv (n := 1) (ci := 1) hG (c_X1_copyFrom hr (kF_f (kS_F hs) (by omega)) (kF_f (kS_F hq) (by omega)) (by omega)) gX2_copyFrom_X1_copyFrom rfl (by decide +kernel) rfl (by decide) (kF_f (kS_F hs) (by omega)) (by decide) (cl_4 _ _ _ _) rfl dX2_copyFrom_42 rfl (Nat.le_of_ble_eq_true rfl) (by decide) ?_
        intro z42 hp42
        obtain rfl := hp42
        refine v_iinc hG [(0, _), (1, _), (2, _)] dX2_copyFrom_45 2 rfl (by decide) rfl ?_
        refine v_goto hG 24 dX2_copyFrom_48 (by decide) ?_
        exact ih24 _ _ ⟨by omega, by omega, by rw [i3v, cpS_s far (by omega), show (x2 + 1).toNat = x2.toNat + 1 by omega]⟩ (by omega)
  exact L24 _ _ _ ⟨by omega, by omega, cpS_0 far⟩ (Nat.le_refl _)
end
section
set_option maxHeartbeats 4000000 in
set_option maxRecDepth 100000 in
theorem c_X2_markFeasts {l : Launch} {D : va_G} {cA : Nat → ClassId} {r : Nat → Nat} {z : Zt} {s : Nat} {fr days : Int} (hr : Inj r) (hs : kd s = 2) (h24 : kd 24 = 500) (hS : SI z s) (hd : 0 ≤ fr ∧ fr ≤ 20000 ∧ 1 ≤ days ∧ days ≤ 400) : Kv l D cA r yX2_markFeasts wsX2_markFeasts 4 93 z [.ref (r s), .ref (r 24), .int (iN fr), .int (iN days)] (fun z1 => ag24 z z1 ∧ ∀ i : Nat, (i : Int) < days → isSet (fun j => (j : Int) < z s 3 ∧ onS z s (s + 8 + j) (fr + i)) (z1 24 i)) := by
  have iW1 : ∀ w ∈ u_ws RX1 TX1 4, w ∈ wsX2_markFeasts := by decide +kernel
  have iW2 : ∀ w ∈ u_ws RX2 TX2 9, w ∈ wsX2_markFeasts := by decide +kernel
  have f25 : Cond.fieldLink RX2 25 (TX2 2).1 (TX2 2).2.1 (TX2 2).2.2.1 ∈ wsX2_markFeasts := by decide +kernel
  have f29 : Cond.fieldLink RX2 29 (TX2 3).1 (TX2 3).2.1 (TX2 3).2.2.1 ∈ wsX2_markFeasts := by decide +kernel
  have f56 : Cond.fieldLinkNest RX2 56 (TX1 0).1 (TX1 0).2.1 (TX1 0).2.2.1 "TwoTownAlmanac" ∈ nwF := by decide +kernel
  obtain ⟨hTA, hTB, hA1, hB0, hmn, hsh, hcp, hdn, hfe⟩ := id hS
  refine Kv_of [(0, _), (1, _), (2, _), (3, _)] hr (by decide) rfl rfl (Nat.le_of_ble_eq_true rfl) rfl (fun Γ hG hR => ?_)
  refine v_iconst hG dX2_markFeasts_0 ?_
  refine v_istore hG [(0, _), (1, _), (2, _), (3, _), (4, _)] dX2_markFeasts_1 (by decide) rfl ?_
  have L3 : ∀ (n : Nat), ∀ (a4 : Int) (z1 : Zt), (0 ≤ a4 ∧ a4 ≤ days ∧ ag24 z z1 ∧ ∀ i : Nat, (i : Int) < a4 → z1 24 i = 0) → (days - a4 + 1).toNat ≤ n → V Γ z1 0 0 [(0, .ref (r s)), (1, .ref (r 24)), (2, .int (iN fr)), (3, .int (iN days)), (4, .int (iN a4))] 3 [] := by
    intro n
    induction n with
    | zero =>
      intro a4 z1 hI hm
      obtain ⟨i1, i2, i3v, i4⟩ := hI
      exact absurd hm (by omega)
    | succ n ih3 =>
      intro a4 z1 hI hm
      obtain ⟨i1, i2, i3v, i4⟩ := hI
      refine v_iload hG dX2_markFeasts_3 4 rfl ?_
      refine v_iload_n hG dX2_markFeasts_5 3 rfl ?_
      refine v_icmp_ge hG 27 (by omega) (by omega) dX2_markFeasts_6 (by decide) (fun h6 => ?_) (fun h6 => ?_)
      · refine v_iconst hG dX2_markFeasts_27 ?_
        refine v_istore hG [(0, _), (1, _), (2, _), (3, _), (4, _)] dX2_markFeasts_28 (by decide) rfl ?_
        have L30 : ∀ (n : Nat), ∀ (x4 : Int) (z2 : Zt), (0 ≤ x4 ∧ x4 ≤ z s 3 ∧ ag24 z z2 ∧ ∀ i : Nat, (i : Int) < days → isSet (fun j => (j : Int) < x4 ∧ onS z s (s + 8 + j) (fr + i)) (z2 24 i)) → (z s 3 - x4 + 1).toNat ≤ n → V Γ z2 0 0 [(0, .ref (r s)), (1, .ref (r 24)), (2, .int (iN fr)), (3, .int (iN days)), (4, .int (iN x4))] 30 [] := by
          intro n
          induction n with
          | zero =>
            intro x4 z2 hI hm
            obtain ⟨j1, j2, j3, j4⟩ := hI
            exact absurd hm (by omega)
          | succ n ih30 =>
            intro x4 z2 hI hm
            obtain ⟨j1, j2, j3, j4⟩ := hI
            have hblQ : blkE z z2 s := ag24_blk j3 hs
            have hSQ := blk_SI hblQ hS
            have esQ : z2 s = z s := ag24_s j3 hs
            have e3Q : z2 s 3 = z s 3 := by rw [esQ]
            refine v_iload hG dX2_markFeasts_30 4 rfl ?_
            refine v_aload_n hG dX2_markFeasts_32 0 rfl ?_
            refine v_getf (ci := 2) (k := 3) hG iW2 f29 rfl (by decide) hs (by decide) (cl_2 _ _ _ _) rfl dX2_markFeasts_33 ?_
            refine v_icmp_ge hG 142 (by omega) (by omega) dX2_markFeasts_36 (by decide) (fun h36 => ?_) (fun h36 => ?_)
            · exact v_vret hG hR dX2_markFeasts_142 ⟨j3, fun i hi => isSet_congr (j4 i hi) (fun j => by rw [show x4 = z s 3 by omega])⟩
            · have hFq : FI z (s + 8 + x4.toNat) := hfe _ (by omega)
              have hFQ := hSQ.2.2.2.2.2.2.2.2 x4.toNat (by omega)
              have hKo := kS_ok hS hFq
              have hKY := blk_kS (k := x4.toNat) hblQ (by omega)
              have hyt := yS_bd (f := s + 8 + x4.toNat) hS (x := fr + days - 1) (by omega)
              have hy0 := y0_le hKo (fr := fr) (to := fr + days - 1) (by omega) (by omega)
              have hFr := hFQ.1
              refine v_aload_n hG dX2_markFeasts_39 0 rfl ?_
              refine v_aload_n hG dX2_markFeasts_40 0 rfl ?_
              refine v_getf (ci := 2) (k := 2) hG iW2 f25 rfl (by decide) hs (by decide) (cl_2 _ _ _ _) rfl dX2_markFeasts_41 ?_
              refine v_iload hG dX2_markFeasts_44 4 rfl ?_
              refine v_aaldF hG (kS_F hs) (by omega) dX2_markFeasts_46 ?_
              rw [show s + 7 + 1 + x4.toNat = s + 8 + x4.toNat by omega]
              refine v_getfN (ci := 1) (k := 0) hG iW1 f56 rfl (by decide) (kF_f (kS_F hs) (by omega)) (by decide) (cl_4 _ _ _ _) rfl dX2_markFeasts_47 ?_
              refine v_callVr (n := 1) (ci := 2) hG (c_X2_townWith hr hs (by omega)) gX2_markFeasts_X2_townWith rfl (by decide +kernel) rfl (by decide) hs (by decide) (cl_2 _ _ _ _) rfl dX2_markFeasts_50 rfl (Nat.le_of_ble_eq_true rfl) (by decide) ?_
              intro t50 z50 hp50
              obtain ⟨rfl, hk50, ht50⟩ := hp50
              have hw50 : t50 = tw z2 s (s + 8 + x4.toNat) := ht50
              subst hw50
              refine v_iload_n hG dX2_markFeasts_53 2 rfl ?_
              refine v_iload_n hG dX2_markFeasts_54 3 rfl ?_
              refine v_iadd hG dX2_markFeasts_55 ?_
              refine v_iconst hG dX2_markFeasts_56 ?_
              refine v_isub hG dX2_markFeasts_57 ?_
              refine v_callVi (n := 1) (ci := 3) hG (c_X3_yearOn hr hk50 (SI_tw hSQ) (by omega)) gX2_markFeasts_X3_yearOn rfl (by decide +kernel) rfl (by decide) hk50 (by decide) (cl_3 _ _ _ _) rfl dX2_markFeasts_58 rfl (Nat.le_of_ble_eq_true rfl) (by decide) ?_
              intro v58 z58 hp58
              obtain ⟨rfl, rfl⟩ := hp58
              refine v_eqi hG (y := iN (yS z s (s + 8 + x4.toNat) (fr + days - 1))) (by rw [← hKY.2]; rfl) ?_
              refine v_istore hG [(0, _), (1, _), (2, _), (3, _), (4, _), (5, _)] dX2_markFeasts_61 (by decide) rfl ?_
              refine v_aload_n hG dX2_markFeasts_63 0 rfl ?_
              refine v_aload_n hG dX2_markFeasts_64 0 rfl ?_
              refine v_getf (ci := 2) (k := 2) hG iW2 f25 rfl (by decide) hs (by decide) (cl_2 _ _ _ _) rfl dX2_markFeasts_65 ?_
              refine v_iload hG dX2_markFeasts_68 4 rfl ?_
              refine v_aaldF hG (kS_F hs) (by omega) dX2_markFeasts_70 ?_
              rw [show s + 7 + 1 + x4.toNat = s + 8 + x4.toNat by omega]
              refine v_iload_n hG dX2_markFeasts_71 2 rfl ?_
              refine v_callVi (n := 2) (ci := 2) hG (c_X2_firstYearFor hr hs (kF_f (kS_F hs) (by omega)) hSQ hFQ (by omega)) gX2_markFeasts_X2_firstYearFor rfl (by decide +kernel) rfl (by decide) hs (by decide) (cl_2 _ _ _ _) rfl dX2_markFeasts_72 rfl (Nat.le_of_ble_eq_true rfl) (by decide) ?_
              intro v72 z72 hp72
              obtain ⟨rfl, rfl⟩ := hp72
              refine v_eqi hG (y := iN (y0of (yS z s (s + 8 + x4.toNat)) fr)) (by rw [hKY.2]) ?_
              refine v_istore hG [(0, _), (1, _), (2, _), (3, _), (4, _), (5, _), (6, _)] dX2_markFeasts_75 (by decide) rfl ?_
              have L77 : ∀ (n : Nat), ∀ (x6 : Int) (z3 : Zt), (y0of (yS z s (s + 8 + x4.toNat)) fr ≤ x6 ∧ x6 ≤ yS z s (s + 8 + x4.toNat) (fr + days - 1) + 1 ∧ ag24 z z3 ∧ ∀ i : Nat, (i : Int) < days → isSet (fun j => ((j : Int) < x4 ∧ onS z s (s + 8 + j) (fr + i)) ∨ (j = x4.toNat ∧ ∃ y, y0of (yS z s (s + 8 + x4.toNat)) fr ≤ y ∧ y < x6 ∧ kS z s (s + 8 + x4.toNat) y = fr + i)) (z3 24 i)) → (yS z s (s + 8 + x4.toNat) (fr + days - 1) - x6 + 2).toNat ≤ n → V Γ z3 0 0 [(0, .ref (r s)), (1, .ref (r 24)), (2, .int (iN fr)), (3, .int (iN days)), (4, .int (iN x4)), (5, .int (iN (yS z s (s + 8 + x4.toNat) (fr + days - 1)))), (6, .int (iN x6))] 77 [] := by
                intro n
                induction n with
                | zero =>
                  intro x6 z3 hI hm
                  obtain ⟨k1, k2, k3, k4⟩ := hI
                  exact absurd hm (by omega)
                | succ n ih77 =>
                  intro x6 z3 hI hm
                  obtain ⟨k1, k2, k3, k4⟩ := hI
                  have hblR : blkE z z3 s := ag24_blk k3 hs
                  have hSR := blk_SI hblR hS
                  have esR : z3 s = z s := ag24_s k3 hs
                  have e3R : z3 s 3 = z s 3 := by rw [esR]
                  have hKR := blk_kS (k := x4.toNat) hblR (by omega)
                  refine v_iload hG dX2_markFeasts_77 6 rfl ?_
                  refine v_iload hG dX2_markFeasts_79 5 rfl ?_
                  refine v_icmp_gt hG 136 (by omega) (by omega) dX2_markFeasts_81 (by decide) (fun h81 => ?_) (fun h81 => ?_)
                  · refine v_iinc hG [(0, _), (1, _), (2, _), (3, _), (4, _), (5, _), (6, _)] dX2_markFeasts_136 4 rfl (by decide) rfl ?_
                    refine v_goto hG 30 dX2_markFeasts_139 (by decide) ?_
                    refine v_sub hG [(0, _), (1, _), (2, _), (3, _), (4, _)] [0, 1, 2, 3, 4] rfl ?_
                    refine ih30 _ _ ?_ (by omega)
                    refine ⟨by omega, by omega, k3, fun i hi => ?_⟩
                    refine mk_done (k4 i hi) j1 ?_
                    have e9 : x6 = yS z s (s + 8 + x4.toNat) (fr + days - 1) + 1 := by omega
                    rw [e9]
                    exact on_span hKo (by omega) (by omega) (by omega)
                  · have hFR := hSR.2.2.2.2.2.2.2.2 x4.toNat (by omega)
                    have hkb := kS_bd hS hFq (y := x6) (by omega)
                    refine v_aload_n hG dX2_markFeasts_84 0 rfl ?_
                    refine v_aload_n hG dX2_markFeasts_85 0 rfl ?_
                    refine v_getf (ci := 2) (k := 2) hG iW2 f25 rfl (by decide) hs (by decide) (cl_2 _ _ _ _) rfl dX2_markFeasts_86 ?_
                    refine v_iload hG dX2_markFeasts_89 4 rfl ?_
                    refine v_aaldF hG (kS_F hs) (by omega) dX2_markFeasts_91 ?_
                    rw [show s + 7 + 1 + x4.toNat = s + 8 + x4.toNat by omega]
                    refine v_iload hG dX2_markFeasts_92 6 rfl ?_
                    refine v_callVi (n := 2) (ci := 2) hG (c_X2_keptIn hr hs (kF_f (kS_F hs) (by omega)) hSR hFR (by omega)) gX2_markFeasts_X2_keptIn rfl (by decide +kernel) rfl (by decide) hs (by decide) (cl_2 _ _ _ _) rfl dX2_markFeasts_94 rfl (Nat.le_of_ble_eq_true rfl) (by decide) ?_
                    intro v94 z94 hp94
                    obtain ⟨rfl, rfl⟩ := hp94
                    refine v_eqi hG (y := iN (kS z s (s + 8 + x4.toNat) x6)) (by rw [hKR.1]) ?_
                    refine v_iload_n hG dX2_markFeasts_97 2 rfl ?_
                    refine v_isub hG dX2_markFeasts_98 ?_
                    refine v_istore hG [(0, _), (1, _), (2, _), (3, _), (4, _), (5, _), (6, _), (7, _)] dX2_markFeasts_99 (by decide) rfl ?_
                    refine v_iload hG dX2_markFeasts_101 7 rfl ?_
                    refine v_if_lt hG 130 (by omega) dX2_markFeasts_103 (by decide) (fun h103 => ?_) (fun h103 => ?_)
                    · refine v_iinc hG [(0, _), (1, _), (2, _), (3, _), (4, _), (5, _), (6, _), (7, _)] dX2_markFeasts_130 6 rfl (by decide) rfl ?_
                      refine v_goto hG 77 dX2_markFeasts_133 (by decide) ?_
                      refine v_sub hG [(0, _), (1, _), (2, _), (3, _), (4, _), (5, _), (6, _)] [0, 1, 2, 3, 4, 5, 6] rfl ?_
                      refine ih77 _ _ ?_ (by omega)
                      refine ⟨by omega, by omega, ?_, ?_⟩
                      · first | exact k3 | exact ag24_up k3
                      · intro i hi
                        first
                          | exact mk_skip (k4 i hi) (by omega)
                          | (by_cases q9 : i = (kS z s (s + 8 + x4.toNat) x6 - fr).toNat
                             · rw [q9, zup24_s]
                               exact mk_hit hs9 k1 (by omega)
                             · rw [zup24_n _ _ q9]
                               exact mk_skip (k4 i hi) (by omega))
                    · refine v_iload hG dX2_markFeasts_106 7 rfl ?_
                      refine v_iload_n hG dX2_markFeasts_108 3 rfl ?_
                      refine v_icmp_ge hG 130 (by omega) (by omega) dX2_markFeasts_109 (by decide) (fun h109 => ?_) (fun h109 => ?_)
                      · refine v_iinc hG [(0, _), (1, _), (2, _), (3, _), (4, _), (5, _), (6, _), (7, _)] dX2_markFeasts_130 6 rfl (by decide) rfl ?_
                        refine v_goto hG 77 dX2_markFeasts_133 (by decide) ?_
                        refine v_sub hG [(0, _), (1, _), (2, _), (3, _), (4, _), (5, _), (6, _)] [0, 1, 2, 3, 4, 5, 6] rfl ?_
                        refine ih77 _ _ ?_ (by omega)
                        refine ⟨by omega, by omega, ?_, ?_⟩
                        · first | exact k3 | exact ag24_up k3
                        · intro i hi
                          first
                            | exact mk_skip (k4 i hi) (by omega)
                            | (by_cases q9 : i = (kS z s (s + 8 + x4.toNat) x6 - fr).toNat
                               · rw [q9, zup24_s]
                                 exact mk_hit hs9 k1 (by omega)
                               · rw [zup24_n _ _ q9]
                                 exact mk_skip (k4 i hi) (by omega))
                      · refine v_iload hG dX2_markFeasts_112 7 rfl ?_
                        refine v_aload_n hG dX2_markFeasts_114 1 rfl ?_
                        refine v_alen hG h24 (by decide) (cl_500 _ _ _ _) rfl dX2_markFeasts_115 ?_
                        refine v_icmp_ge hG 130 (by omega) (by omega) dX2_markFeasts_116 (by decide) (fun h116 => ?_) (fun h116 => ?_)
                        · exfalso; omega
                        · have hi9 : ((kS z s (s + 8 + x4.toNat) x6 - fr).toNat : Int) < days := by omega
                          refine v_aload_n hG dX2_markFeasts_119 1 rfl ?_
                          refine v_iload hG dX2_markFeasts_120 7 rfl ?_
                          refine v_dup2 hG dX2_markFeasts_122 rfl rfl ?_
                          refine v_iald hG h24 (by decide) (cl_500 _ _ _ _) (by decide) (by omega) dX2_markFeasts_123 ?_
                          refine v_iconst hG dX2_markFeasts_124 ?_
                          refine v_iload hG dX2_markFeasts_125 4 rfl ?_
                          refine v_ishl0 hG dX2_markFeasts_127 ?_
                          refine v_ior0 hG dX2_markFeasts_128 ?_
                          obtain ⟨x9, e9, hs9⟩ := set_or (k4 (kS z s (s + 8 + x4.toNat) x6 - fr).toNat hi9) (k := x4) (by omega)
                          refine v_eqi hG e9 ?_
                          refine v_iast hG h24 (by decide) (cl_500 _ _ _) (by decide) (by omega) dX2_markFeasts_129 ?_
                          refine v_iinc hG [(0, _), (1, _), (2, _), (3, _), (4, _), (5, _), (6, _), (7, _)] dX2_markFeasts_130 6 rfl (by decide) rfl ?_
                          refine v_goto hG 77 dX2_markFeasts_133 (by decide) ?_
                          refine v_sub hG [(0, _), (1, _), (2, _), (3, _), (4, _), (5, _), (6, _)] [0, 1, 2, 3, 4, 5, 6] rfl ?_
                          refine ih77 _ _ ?_ (by omega)
                          refine ⟨by omega, by omega, ?_, ?_⟩
                          · first | exact k3 | exact ag24_up k3
                          · intro i hi
                            first
                              | exact mk_skip (k4 i hi) (by omega)
                              | (by_cases q9 : i = (kS z s (s + 8 + x4.toNat) x6 - fr).toNat
                                 · rw [q9, zup24_s]
                                   exact mk_hit hs9 k1 (by omega)
                                 · rw [zup24_n _ _ q9]
                                   exact mk_skip (k4 i hi) (by omega))
              exact L77 _ _ _ ⟨by omega, by omega, j3, fun i hi => mk_begin (j4 i hi)⟩ (Nat.le_refl _)
        exact L30 _ _ _ ⟨by omega, by omega, i3v, fun i hi => by rw [i4 i (by omega)]; exact isSet_0 (fun j hj => by omega)⟩ (Nat.le_refl _)
      · refine v_iload hG dX2_markFeasts_9 4 rfl ?_
        refine v_aload_n hG dX2_markFeasts_11 1 rfl ?_
        refine v_alen hG h24 (by decide) (cl_500 _ _ _ _) rfl dX2_markFeasts_12 ?_
        refine v_icmp_ge hG 27 (by omega) (by omega) dX2_markFeasts_13 (by decide) (fun h13 => ?_) (fun h13 => ?_)
        · exfalso; omega
        · refine v_aload_n hG dX2_markFeasts_16 1 rfl ?_
          refine v_iload hG dX2_markFeasts_17 4 rfl ?_
          refine v_iconst hG dX2_markFeasts_19 ?_
          refine v_iast hG h24 (by decide) (cl_500 _ _ _) (by decide) (by omega) dX2_markFeasts_20 ?_
          refine v_iinc hG [(0, _), (1, _), (2, _), (3, _), (4, _)] dX2_markFeasts_21 4 rfl (by decide) rfl ?_
          refine v_goto hG 3 dX2_markFeasts_24 (by decide) ?_
          refine ih3 _ _ ?_ (by omega)
          refine ⟨by omega, by omega, ag24_up i3v, fun i hi => ?_⟩
          by_cases q : i = a4.toNat
          · rw [q, zup24_s]
          · rw [zup24_n _ _ q]
            exact i4 i (by omega)
  exact L3 _ _ _ ⟨by omega, by omega, fun _ _ => rfl, fun i hi => by omega⟩ (Nat.le_refl _)

set_option maxHeartbeats 4000000 in
set_option maxRecDepth 100000 in
theorem c_X2_countQuarrels {l : Launch} {D : va_G} {cA : Nat → ClassId} {r : Nat → Nat} {z : Zt} {s : Nat} {days : Int} {P : Nat → Nat → Prop} (hr : Inj r) (hs : kd s = 2) (h24 : kd 24 = 500) (hS : SI z s) (hd : 1 ≤ days ∧ days ≤ 400) (hmk : ∀ i : Nat, (i : Int) < days → isSet (P i) (z 24 i)) : Ki l D cA r yX2_countQuarrels wsX2_countQuarrels 1 23 z [.ref (r s), .ref (r 24), .int (iN days)] (fun x z1 => z = z1 ∧ x = cntP (fun i => (∃ j : Nat, P i j ∧ ((j : Int) < z s 3 ∧ z (s + 8 + j) 0 = 0)) ∧ ∃ j : Nat, P i j ∧ ((j : Int) < z s 3 ∧ z (s + 8 + j) 0 = 1)) days.toNat) := by
  obtain ⟨hTA, hTB, hA1, hB0, hmn, hsh, hcp, hdn, hfe⟩ := id hS
  refine Ki_of [(0, _), (1, _), (2, _)] hr (by decide) rfl rfl (Nat.le_of_ble_eq_true rfl) rfl (fun Γ hG hR => ?_)
  refine v_aload_n hG dX2_countQuarrels_0 0 rfl ?_
  refine v_iconst hG dX2_countQuarrels_1 ?_
  refine v_callVi (n := 1) (ci := 2) hG (c_X2_feastsOf hr hs hS (by omega)) gX2_countQuarrels_X2_feastsOf rfl (by decide +kernel) rfl (by decide) hs (by decide) (cl_2 _ _ _ _) rfl dX2_countQuarrels_2 rfl (Nat.le_of_ble_eq_true rfl) (by decide) ?_
  intro v2 z2 hp2
  obtain ⟨rfl, hx2⟩ := hp2
  refine v_istore_n hG [(0, _), (1, _), (2, _), (3, _)] dX2_countQuarrels_5 (by decide) rfl ?_
  refine v_aload_n hG dX2_countQuarrels_6 0 rfl ?_
  refine v_iconst hG dX2_countQuarrels_7 ?_
  refine v_callVi (n := 1) (ci := 2) hG (c_X2_feastsOf hr hs hS (by omega)) gX2_countQuarrels_X2_feastsOf rfl (by decide +kernel) rfl (by decide) hs (by decide) (cl_2 _ _ _ _) rfl dX2_countQuarrels_8 rfl (Nat.le_of_ble_eq_true rfl) (by decide) ?_
  intro v8 z8 hp8
  obtain ⟨rfl, hx8⟩ := hp8
  refine v_istore hG [(0, _), (1, _), (2, _), (3, _), (4, _)] dX2_countQuarrels_11 (by decide) rfl ?_
  refine v_iconst hG dX2_countQuarrels_13 ?_
  refine v_istore hG [(0, _), (1, _), (2, _), (3, _), (4, _), (5, _)] dX2_countQuarrels_14 (by decide) rfl ?_
  refine v_iconst hG dX2_countQuarrels_16 ?_
  refine v_istore hG [(0, _), (1, _), (2, _), (3, _), (4, _), (5, _), (6, _)] dX2_countQuarrels_17 (by decide) rfl ?_
  have L19 : ∀ (n : Nat), ∀ (x5 x6 : Int), (0 ≤ x6 ∧ x6 ≤ days ∧ x5 = cntP (fun i => (∃ j : Nat, P i j ∧ ((j : Int) < z s 3 ∧ z (s + 8 + j) 0 = 0)) ∧ ∃ j : Nat, P i j ∧ ((j : Int) < z s 3 ∧ z (s + 8 + j) 0 = 1)) x6.toNat) → (days - x6 + 1).toNat ≤ n → V Γ z 0 0 [(0, .ref (r s)), (1, .ref (r 24)), (2, .int (iN days)), (3, .int (iN v2)), (4, .int (iN v8)), (5, .int (iN x5)), (6, .int (iN x6))] 19 [] := by
    intro n
    induction n with
    | zero =>
      intro x5 x6 hI hm
      obtain ⟨i1, i2, i3v⟩ := hI
      exact absurd hm (by omega)
    | succ n ih19 =>
      intro x5 x6 hI hm
      obtain ⟨i1, i2, i3v⟩ := hI
      refine v_iload hG dX2_countQuarrels_19 6 rfl ?_
      refine v_iload_n hG dX2_countQuarrels_21 2 rfl ?_
      refine v_icmp_ge hG 60 (by omega) (by omega) dX2_countQuarrels_22 (by decide) (fun h22 => ?_) (fun h22 => ?_)
      · refine v_iload hG dX2_countQuarrels_60 5 rfl ?_
        exact v_iret hG hR dX2_countQuarrels_62 ⟨rfl, by rw [i3v, show x6 = days by omega]⟩
      · refine v_iload hG dX2_countQuarrels_25 6 rfl ?_
        refine v_aload_n hG dX2_countQuarrels_27 1 rfl ?_
        refine v_alen hG h24 (by decide) (cl_500 _ _ _ _) rfl dX2_countQuarrels_28 ?_
        refine v_icmp_ge hG 60 (by omega) (by omega) dX2_countQuarrels_29 (by decide) (fun h29 => ?_) (fun h29 => ?_)
        · exfalso; omega
        · have hmi := hmk x6.toNat (by omega)
          refine v_aload_n hG dX2_countQuarrels_32 1 rfl ?_
          refine v_iload hG dX2_countQuarrels_33 6 rfl ?_
          refine v_iald hG h24 (by decide) (cl_500 _ _ _ _) (by decide) (by omega) dX2_countQuarrels_35 ?_
          refine v_iload_n hG dX2_countQuarrels_36 3 rfl ?_
          refine v_iand0 hG dX2_countQuarrels_37 ?_
          obtain ⟨uA, eA, hsA⟩ := set_and hmi hx2
          have hbA := isSet_bd hsA
          refine v_eqi hG eA ?_
          refine v_if_eq hG 54 (by omega) dX2_countQuarrels_38 (by decide) (fun h38 => ?_) (fun h38 => ?_)
          · refine v_iinc hG [(0, _), (1, _), (2, _), (3, _), (4, _), (5, _), (6, _)] dX2_countQuarrels_54 6 rfl (by decide) rfl ?_
            refine v_goto hG 19 dX2_countQuarrels_57 (by decide) ?_
            refine ih19 _ _ ?_ (by omega)
            refine ⟨by omega, by omega, ?_⟩
            first
              | (rw [i3v]; exact (cntP_y (Q := (fun i => (∃ j : Nat, P i j ∧ ((j : Int) < z s 3 ∧ z (s + 8 + j) 0 = 0)) ∧ ∃ j : Nat, P i j ∧ ((j : Int) < z s 3 ∧ z (s + 8 + j) 0 = 1))) i1 ⟨not_all (fun q => h38 ((isSet_zero hsA).mpr q)), not_all (fun q => h48 ((isSet_zero hsB).mpr q))⟩).symm)
              | (rw [i3v]; exact (cntP_n (Q := (fun i => (∃ j : Nat, P i j ∧ ((j : Int) < z s 3 ∧ z (s + 8 + j) 0 = 0)) ∧ ∃ j : Nat, P i j ∧ ((j : Int) < z s 3 ∧ z (s + 8 + j) 0 = 1))) i1 (fun q => by obtain ⟨-, j, hj⟩ := q; exact (isSet_zero hsB).mp h48 j hj)).symm)
              | (rw [i3v]; exact (cntP_n (Q := (fun i => (∃ j : Nat, P i j ∧ ((j : Int) < z s 3 ∧ z (s + 8 + j) 0 = 0)) ∧ ∃ j : Nat, P i j ∧ ((j : Int) < z s 3 ∧ z (s + 8 + j) 0 = 1))) i1 (fun q => by obtain ⟨⟨j, hj⟩, -⟩ := q; exact (isSet_zero hsA).mp h38 j hj)).symm)
          · refine v_aload_n hG dX2_countQuarrels_41 1 rfl ?_
            refine v_iload hG dX2_countQuarrels_42 6 rfl ?_
            refine v_iald hG h24 (by decide) (cl_500 _ _ _ _) (by decide) (by omega) dX2_countQuarrels_44 ?_
            refine v_iload hG dX2_countQuarrels_45 4 rfl ?_
            refine v_iand0 hG dX2_countQuarrels_47 ?_
            obtain ⟨uB, eB, hsB⟩ := set_and hmi hx8
            have hbB := isSet_bd hsB
            refine v_eqi hG eB ?_
            refine v_if_eq hG 54 (by omega) dX2_countQuarrels_48 (by decide) (fun h48 => ?_) (fun h48 => ?_)
            · refine v_iinc hG [(0, _), (1, _), (2, _), (3, _), (4, _), (5, _), (6, _)] dX2_countQuarrels_54 6 rfl (by decide) rfl ?_
              refine v_goto hG 19 dX2_countQuarrels_57 (by decide) ?_
              refine ih19 _ _ ?_ (by omega)
              refine ⟨by omega, by omega, ?_⟩
              first
                | (rw [i3v]; exact (cntP_y (Q := (fun i => (∃ j : Nat, P i j ∧ ((j : Int) < z s 3 ∧ z (s + 8 + j) 0 = 0)) ∧ ∃ j : Nat, P i j ∧ ((j : Int) < z s 3 ∧ z (s + 8 + j) 0 = 1))) i1 ⟨not_all (fun q => h38 ((isSet_zero hsA).mpr q)), not_all (fun q => h48 ((isSet_zero hsB).mpr q))⟩).symm)
                | (rw [i3v]; exact (cntP_n (Q := (fun i => (∃ j : Nat, P i j ∧ ((j : Int) < z s 3 ∧ z (s + 8 + j) 0 = 0)) ∧ ∃ j : Nat, P i j ∧ ((j : Int) < z s 3 ∧ z (s + 8 + j) 0 = 1))) i1 (fun q => by obtain ⟨-, j, hj⟩ := q; exact (isSet_zero hsB).mp h48 j hj)).symm)
                | (rw [i3v]; exact (cntP_n (Q := (fun i => (∃ j : Nat, P i j ∧ ((j : Int) < z s 3 ∧ z (s + 8 + j) 0 = 0)) ∧ ∃ j : Nat, P i j ∧ ((j : Int) < z s 3 ∧ z (s + 8 + j) 0 = 1))) i1 (fun q => by obtain ⟨⟨j, hj⟩, -⟩ := q; exact (isSet_zero hsA).mp h38 j hj)).symm)
            · refine v_iinc hG [(0, _), (1, _), (2, _), (3, _), (4, _), (5, _), (6, _)] dX2_countQuarrels_51 5 rfl (by decide) rfl ?_
              refine v_iinc hG [(0, _), (1, _), (2, _), (3, _), (4, _), (5, _), (6, _)] dX2_countQuarrels_54 6 rfl (by decide) rfl ?_
              refine v_goto hG 19 dX2_countQuarrels_57 (by decide) ?_
              refine ih19 _ _ ?_ (by omega)
              refine ⟨by omega, by omega, ?_⟩
              first
                | (rw [i3v]; exact (cntP_y (Q := (fun i => (∃ j : Nat, P i j ∧ ((j : Int) < z s 3 ∧ z (s + 8 + j) 0 = 0)) ∧ ∃ j : Nat, P i j ∧ ((j : Int) < z s 3 ∧ z (s + 8 + j) 0 = 1))) i1 ⟨not_all (fun q => h38 ((isSet_zero hsA).mpr q)), not_all (fun q => h48 ((isSet_zero hsB).mpr q))⟩).symm)
                | (rw [i3v]; exact (cntP_n (Q := (fun i => (∃ j : Nat, P i j ∧ ((j : Int) < z s 3 ∧ z (s + 8 + j) 0 = 0)) ∧ ∃ j : Nat, P i j ∧ ((j : Int) < z s 3 ∧ z (s + 8 + j) 0 = 1))) i1 (fun q => by obtain ⟨-, j, hj⟩ := q; exact (isSet_zero hsB).mp h48 j hj)).symm)
                | (rw [i3v]; exact (cntP_n (Q := (fun i => (∃ j : Nat, P i j ∧ ((j : Int) < z s 3 ∧ z (s + 8 + j) 0 = 0)) ∧ ∃ j : Nat, P i j ∧ ((j : Int) < z s 3 ∧ z (s + 8 + j) 0 = 1))) i1 (fun q => by obtain ⟨⟨j, hj⟩, -⟩ := q; exact (isSet_zero hsA).mp h38 j hj)).symm)
  exact L19 _ _ _ ⟨by omega, by omega, rfl⟩ (Nat.le_refl _)

set_option maxHeartbeats 4000000 in
set_option maxRecDepth 100000 in
theorem c_X2_countPassed {l : Launch} {D : va_G} {cA : Nat → ClassId} {r : Nat → Nat} {z : Zt} {s : Nat} {days : Int} {P : Nat → Nat → Prop} (hr : Inj r) (hs : kd s = 2) (h24 : kd 24 = 500) (hS : SI z s) (hd : 1 ≤ days ∧ days ≤ 400) (hmk : ∀ i : Nat, (i : Int) < days → isSet (P i) (z 24 i)) : Kv l D cA r yX2_countPassed wsX2_countPassed 1 23 z [.ref (r s), .ref (r 24), .int (iN days)] (fun z1 => psZ z s (sumN (fun i => cntP (fun j => P i j ∧ ((j : Int) < z s 3 ∧ z (s + 8 + j) 0 = 0)) 10) days.toNat) (sumN (fun i => cntP (fun j => P i j ∧ ((j : Int) < z s 3 ∧ z (s + 8 + j) 0 = 1)) 10) days.toNat) (sumN (fun i => ind (∀ j, ¬ P i j) * z s 5) days.toNat) = z1) := by
  have iW2 : ∀ w ∈ u_ws RX2 TX2 9, w ∈ wsX2_countPassed := by decide +kernel
  have iW3 : ∀ w ∈ u_ws RX3 TX3 5, w ∈ wsX2_countPassed := by decide +kernel
  have f14 : Cond.fieldLink RX2 14 (TX2 0).1 (TX2 0).2.1 (TX2 0).2.2.1 ∈ wsX2_countPassed := by decide +kernel
  have f20 : Cond.fieldLink RX2 20 (TX2 1).1 (TX2 1).2.1 (TX2 1).2.2.1 ∈ wsX2_countPassed := by decide +kernel
  have f36 : Cond.fieldLink RX2 36 (TX2 5).1 (TX2 5).2.1 (TX2 5).2.2.1 ∈ wsX2_countPassed := by decide +kernel
  have f45 : Cond.fieldLink RX2 45 (TX2 8).1 (TX2 8).2.1 (TX2 8).2.2.1 ∈ wsX2_countPassed := by decide +kernel
  have f99 : Cond.fieldLinkNest RX2 99 (TX3 4).1 (TX3 4).2.1 (TX3 4).2.2.1 "TwoTownAlmanac" ∈ nwF := by decide +kernel
  obtain ⟨hTA, hTB, hA1, hB0, hmn, hsh, hcp, hdn, hfe⟩ := id hS
  have n1 : ¬ 24 = s + 1 := fun e => (S_ne (j := 1) hs (by decide)).1 e.symm
  have n4 : ¬ 24 = s + 4 := fun e => (S_ne (j := 4) hs (by decide)).1 e.symm
  have n0 : ¬ 24 = s := fun e => (S_ne (j := 0) hs (by decide)).1 e.symm
  have p24 : ∀ a b c : Int, psZ z s a b c 24 = z 24 := fun a b c => psZ_o n1 n4 n0
  refine Kv_of [(0, _), (1, _), (2, _)] hr (by decide) rfl rfl (Nat.le_of_ble_eq_true rfl) rfl (fun Γ hG hR => ?_)
  refine v_aload_n hG dX2_countPassed_0 0 rfl ?_
  refine v_iconst hG dX2_countPassed_1 ?_
  refine v_callVi (n := 1) (ci := 2) hG (c_X2_feastsOf hr hs hS (by omega)) gX2_countPassed_X2_feastsOf rfl (by decide +kernel) rfl (by decide) hs (by decide) (cl_2 _ _ _ _) rfl dX2_countPassed_2 rfl (Nat.le_of_ble_eq_true rfl) (by decide) ?_
  intro v2 z2 hp2
  obtain ⟨rfl, hx2⟩ := hp2
  refine v_istore_n hG [(0, _), (1, _), (2, _), (3, _)] dX2_countPassed_5 (by decide) rfl ?_
  refine v_aload_n hG dX2_countPassed_6 0 rfl ?_
  refine v_iconst hG dX2_countPassed_7 ?_
  refine v_callVi (n := 1) (ci := 2) hG (c_X2_feastsOf hr hs hS (by omega)) gX2_countPassed_X2_feastsOf rfl (by decide +kernel) rfl (by decide) hs (by decide) (cl_2 _ _ _ _) rfl dX2_countPassed_8 rfl (Nat.le_of_ble_eq_true rfl) (by decide) ?_
  intro v8 z8 hp8
  obtain ⟨rfl, hx8⟩ := hp8
  refine v_istore hG [(0, _), (1, _), (2, _), (3, _), (4, _)] dX2_countPassed_11 (by decide) rfl ?_
  refine v_iconst hG dX2_countPassed_13 ?_
  refine v_istore hG [(0, _), (1, _), (2, _), (3, _), (4, _), (5, _)] dX2_countPassed_14 (by decide) rfl ?_
  have L16 : ∀ (n : Nat), ∀ (x5 : Int) (z1 : Zt), (0 ≤ x5 ∧ x5 ≤ days ∧ z1 = psZ z s (sumN (fun i => cntP (fun j => P i j ∧ ((j : Int) < z s 3 ∧ z (s + 8 + j) 0 = 0)) 10) x5.toNat) (sumN (fun i => cntP (fun j => P i j ∧ ((j : Int) < z s 3 ∧ z (s + 8 + j) 0 = 1)) 10) x5.toNat) (sumN (fun i => ind (∀ j, ¬ P i j) * z s 5) x5.toNat)) → (days - x5 + 1).toNat ≤ n → V Γ z1 0 0 [(0, .ref (r s)), (1, .ref (r 24)), (2, .int (iN days)), (3, .int (iN v2)), (4, .int (iN v8)), (5, .int (iN x5))] 16 [] := by
    intro n
    induction n with
    | zero =>
      intro x5 z1 hI hm
      obtain ⟨i1, i2, i3v⟩ := hI
      exact absurd hm (by omega)
    | succ n ih16 =>
      intro x5 z1 hI hm
      obtain ⟨i1, i2, i3v⟩ := hI
      obtain ⟨a1, ha1⟩ : ∃ q, q = sumN (fun i => cntP (fun j => P i j ∧ ((j : Int) < z s 3 ∧ z (s + 8 + j) 0 = 0)) 10) x5.toNat := ⟨_, rfl⟩
      obtain ⟨a2, ha2⟩ : ∃ q, q = sumN (fun i => cntP (fun j => P i j ∧ ((j : Int) < z s 3 ∧ z (s + 8 + j) 0 = 1)) 10) x5.toNat := ⟨_, rfl⟩
      obtain ⟨a3, ha3⟩ : ∃ q, q = sumN (fun i => ind (∀ j, ¬ P i j) * z s 5) x5.toNat := ⟨_, rfl⟩
      rw [← ha1, ← ha2, ← ha3] at i3v
      subst i3v
      refine v_iload hG dX2_countPassed_16 5 rfl ?_
      refine v_iload_n hG dX2_countPassed_18 2 rfl ?_
      refine v_icmp_ge hG 98 (by omega) (by omega) dX2_countPassed_19 (by decide) (fun h19 => ?_) (fun h19 => ?_)
      · exact v_vret hG hR dX2_countPassed_98 (by rw [ha1, ha2, ha3, show x5 = days by omega])
      · refine v_iload hG dX2_countPassed_22 5 rfl ?_
        refine v_aload_n hG dX2_countPassed_24 1 rfl ?_
        refine v_alen hG h24 (by decide) (cl_500 _ _ _ _) rfl dX2_countPassed_25 ?_
        refine v_icmp_ge hG 98 (by omega) (by omega) dX2_countPassed_26 (by decide) (fun h26 => ?_) (fun h26 => ?_)
        · exfalso; omega
        · have hmi := hmk x5.toNat (by omega)
          refine v_aload_n hG dX2_countPassed_29 0 rfl ?_
          refine v_getf (ci := 2) (k := 0) hG iW2 f14 rfl (by decide) hs (by decide) (cl_2 _ _ _ _) rfl dX2_countPassed_30 ?_
          refine v_dup hG dX2_countPassed_33 rfl ?_
          refine v_getfN (ci := 3) (k := 4) hG iW3 f99 rfl (by decide) (kS_A hs) (by decide) (cl_3 _ _ _ _) rfl dX2_countPassed_34 ?_
          refine v_aload_n hG dX2_countPassed_37 1 rfl ?_
          refine v_iload hG dX2_countPassed_38 5 rfl ?_
          refine v_iald hG h24 (by decide) (cl_500 _ _ _ _) (by decide) (by omega) dX2_countPassed_40 ?_
          rw [p24]
          refine v_iload_n hG dX2_countPassed_41 3 rfl ?_
          refine v_iand0 hG dX2_countPassed_42 ?_
          obtain ⟨uA, eA, hsA⟩ := set_and hmi hx2
          refine v_eqi hG eA ?_
          refine v_callSi (n := 1) hG (c_J6_bitCount_0f7a4 hr hsA) gX2_countPassed_J6_bitCount_0f7a4 rfl (by decide +kernel) rfl (by decide) dX2_countPassed_43 rfl (Nat.le_of_ble_eq_true rfl) (by decide) ?_
          intro v43 z43 hp43
          obtain ⟨rfl, rfl⟩ := hp43
          refine v_iadd hG dX2_countPassed_46 ?_
          refine v_putfN (ci := 3) (k := 4) hG iW3 tyX3_ok nmX3 f99 rfl (by decide) rfl rfl (kS_A hs) (by decide) (cl_3 _ _ _ _) (Nat.le_of_ble_eq_true rfl) rfl dX2_countPassed_47 ?_
          rw [psZ_A]
          refine v_aload_n hG dX2_countPassed_50 0 rfl ?_
          refine v_getf (ci := 2) (k := 1) hG iW2 f20 rfl (by decide) hs (by decide) (cl_2 _ _ _ _) rfl dX2_countPassed_51 ?_
          refine v_dup hG dX2_countPassed_54 rfl ?_
          refine v_getfN (ci := 3) (k := 4) hG iW3 f99 rfl (by decide) (kS_B hs) (by decide) (cl_3 _ _ _ _) rfl dX2_countPassed_55 ?_
          refine v_aload_n hG dX2_countPassed_58 1 rfl ?_
          refine v_iload hG dX2_countPassed_59 5 rfl ?_
          refine v_iald hG h24 (by decide) (cl_500 _ _ _ _) (by decide) (by omega) dX2_countPassed_61 ?_
          rw [p24]
          refine v_iload hG dX2_countPassed_62 4 rfl ?_
          refine v_iand0 hG dX2_countPassed_64 ?_
          obtain ⟨uB, eB, hsB⟩ := set_and hmi hx8
          refine v_eqi hG eB ?_
          refine v_callSi (n := 1) hG (c_J6_bitCount_0f7a4 hr hsB) gX2_countPassed_J6_bitCount_0f7a4 rfl (by decide +kernel) rfl (by decide) dX2_countPassed_65 rfl (Nat.le_of_ble_eq_true rfl) (by decide) ?_
          intro v65 z65 hp65
          obtain ⟨rfl, rfl⟩ := hp65
          refine v_iadd hG dX2_countPassed_68 ?_
          refine v_putfN (ci := 3) (k := 4) hG iW3 tyX3_ok nmX3 f99 rfl (by decide) rfl rfl (kS_B hs) (by decide) (cl_3 _ _ _ _) (Nat.le_of_ble_eq_true rfl) rfl dX2_countPassed_69 ?_
          rw [psZ_B]
          refine v_aload_n hG dX2_countPassed_72 1 rfl ?_
          refine v_iload hG dX2_countPassed_73 5 rfl ?_
          refine v_iald hG h24 (by decide) (cl_500 _ _ _ _) (by decide) (by omega) dX2_countPassed_75 ?_
          have hb76 := isSet_bd hmi
          refine v_if_ne hG 92 (by rw [p24]; omega) dX2_countPassed_76 (by decide) (fun h76 => ?_) (fun h76 => ?_)
          · refine v_iinc hG [(0, _), (1, _), (2, _), (3, _), (4, _), (5, _)] dX2_countPassed_92 5 rfl (by decide) rfl ?_
            refine v_goto hG 16 dX2_countPassed_95 (by decide) ?_
            refine ih16 _ _ ?_ (by omega)
            refine ⟨by omega, by omega, ?_⟩
            rw [sumN_s i1, sumN_s i1, sumN_s i1, ← ha1, ← ha2, ← ha3]
            first
              | (rw [ind_t ((isSet_zero hmi).mp (by rw [← p24 (a1 + cntP (fun j => P x5.toNat j ∧ ((j : Int) < z s 3 ∧ z (s + 8 + j) 0 = 0)) 10) (a2 + cntP (fun j => P x5.toNat j ∧ ((j : Int) < z s 3 ∧ z (s + 8 + j) 0 = 1)) 10) a3]; exact h76)), Int.one_mul, psZ_C, psZ_5.1])
              | (rw [ind_f (fun q => h76 (by rw [p24]; exact (isSet_zero hmi).mpr q)), Int.zero_mul, Int.add_zero])
          · refine v_aload_n hG dX2_countPassed_79 0 rfl ?_
            refine v_dup hG dX2_countPassed_80 rfl ?_
            refine v_getf (ci := 2) (k := 8) hG iW2 f45 rfl (by decide) hs (by decide) (cl_2 _ _ _ _) rfl dX2_countPassed_81 ?_
            refine v_aload_n hG dX2_countPassed_84 0 rfl ?_
            refine v_getf (ci := 2) (k := 5) hG iW2 f36 rfl (by decide) hs (by decide) (cl_2 _ _ _ _) rfl dX2_countPassed_85 ?_
            refine v_iadd hG dX2_countPassed_88 ?_
            refine v_putf (ci := 2) (k := 8) hG iW2 tyX2_ok nmX2 f45 rfl (by decide) rfl rfl hs (by decide) (cl_2 _ _ _ _) (Nat.le_of_ble_eq_true rfl) rfl dX2_countPassed_89 ?_
            refine v_iinc hG [(0, _), (1, _), (2, _), (3, _), (4, _), (5, _)] dX2_countPassed_92 5 rfl (by decide) rfl ?_
            refine v_goto hG 16 dX2_countPassed_95 (by decide) ?_
            refine ih16 _ _ ?_ (by omega)
            refine ⟨by omega, by omega, ?_⟩
            rw [sumN_s i1, sumN_s i1, sumN_s i1, ← ha1, ← ha2, ← ha3]
            first
              | (rw [ind_t ((isSet_zero hmi).mp (by rw [← p24 (a1 + cntP (fun j => P x5.toNat j ∧ ((j : Int) < z s 3 ∧ z (s + 8 + j) 0 = 0)) 10) (a2 + cntP (fun j => P x5.toNat j ∧ ((j : Int) < z s 3 ∧ z (s + 8 + j) 0 = 1)) 10) a3]; exact h76)), Int.one_mul, psZ_C, psZ_5.1])
              | (rw [ind_f (fun q => h76 (by rw [p24]; exact (isSet_zero hmi).mpr q)), Int.zero_mul, Int.add_zero])
  exact L16 _ _ _ ⟨by omega, by omega, (psZ_0 z s).symm⟩ (Nat.le_refl _)
end
