section
-- ===== PART A: goes FIRST, ahead of the names: the tables' words, and 'selects' of the private methods out of them =====
/-- a private method of a class that the tables say can be made, by its rows of tables_1 -/
def lw_okq (q : MethodName × Nat) : Prop := (q.1.cls ≠ "java/lang/invoke/MethodHandle" ∧ q.1.cls ≠ "java/lang/invoke/VarHandle") ∧ Cond.instantiable q.1.cls q.2 ∈ tables_1 ∧ Cond.privateMethod q.1 ∈ tables_1 ∧ Cond.instanceMethod q.1 ∈ tables_1
theorem lw_p0 : lw_okq (⟨"Trigonyard", "countHeld", "()I"⟩, 6) := ⟨⟨by decide +kernel, by decide +kernel⟩, List.mem_of_getElem? (i := 19) (by decide +kernel), List.mem_of_getElem? (i := 67) (by decide +kernel), List.mem_of_getElem? (i := 68) (by decide +kernel)⟩
theorem lw_p1 : lw_okq (⟨"Trigonyard", "triangleAt", "(I)LTrigonyard$Triangle;"⟩, 6) := ⟨⟨by decide +kernel, by decide +kernel⟩, List.mem_of_getElem? (i := 19) (by decide +kernel), List.mem_of_getElem? (i := 71) (by decide +kernel), List.mem_of_getElem? (i := 72) (by decide +kernel)⟩
theorem lw_p2 : lw_okq (⟨"java/lang/Throwable", "fillInStackTrace", "(I)Ljava/lang/Throwable;"⟩, 6) := ⟨⟨by decide +kernel, by decide +kernel⟩, List.mem_of_getElem? (i := 149) (by decide +kernel), List.mem_of_getElem? (i := 147) (by decide +kernel), List.mem_of_getElem? (i := 148) (by decide +kernel)⟩
theorem lw_p3 : lw_okq (⟨"Trigonyard", "hold", "(ILTrigonyard$Triangle;)V"⟩, 6) := ⟨⟨by decide +kernel, by decide +kernel⟩, List.mem_of_getElem? (i := 19) (by decide +kernel), List.mem_of_getElem? (i := 263) (by decide +kernel), List.mem_of_getElem? (i := 264) (by decide +kernel)⟩
theorem lw_p4 : lw_okq (⟨"Trigonyard", "heldAt", "(I)LTrigonyard$Triangle;"⟩, 6) := ⟨⟨by decide +kernel, by decide +kernel⟩, List.mem_of_getElem? (i := 19) (by decide +kernel), List.mem_of_getElem? (i := 275) (by decide +kernel), List.mem_of_getElem? (i := 276) (by decide +kernel)⟩
theorem lw_p5 : lw_okq (⟨"Trigonyard", "holdIfShortEnough", "(IIII)I"⟩, 6) := ⟨⟨by decide +kernel, by decide +kernel⟩, List.mem_of_getElem? (i := 19) (by decide +kernel), List.mem_of_getElem? (i := 332) (by decide +kernel), List.mem_of_getElem? (i := 333) (by decide +kernel)⟩
theorem lw_p6 : lw_okq (⟨"Trigonyard", "primitiveAt", "(I)LTrigonyard$Triangle;"⟩, 6) := ⟨⟨by decide +kernel, by decide +kernel⟩, List.mem_of_getElem? (i := 19) (by decide +kernel), List.mem_of_getElem? (i := 542) (by decide +kernel), List.mem_of_getElem? (i := 543) (by decide +kernel)⟩
theorem lw_p7 : lw_okq (⟨"Trigonyard$Primitives", "fillByNumbers", "(I)V"⟩, 2) := ⟨⟨by decide +kernel, by decide +kernel⟩, List.mem_of_getElem? (i := 29) (by decide +kernel), List.mem_of_getElem? (i := 628) (by decide +kernel), List.mem_of_getElem? (i := 629) (by decide +kernel)⟩
theorem lw_p8 : lw_okq (⟨"Trigonyard$Primitives", "add", "(III)V"⟩, 2) := ⟨⟨by decide +kernel, by decide +kernel⟩, List.mem_of_getElem? (i := 29) (by decide +kernel), List.mem_of_getElem? (i := 633) (by decide +kernel), List.mem_of_getElem? (i := 634) (by decide +kernel)⟩
theorem lw_p9 : lw_okq (⟨"Trigonyard$Primitives", "fillBySteps", "(I)V"⟩, 2) := ⟨⟨by decide +kernel, by decide +kernel⟩, List.mem_of_getElem? (i := 29) (by decide +kernel), List.mem_of_getElem? (i := 639) (by decide +kernel), List.mem_of_getElem? (i := 640) (by decide +kernel)⟩
theorem lw_p10 : lw_okq (⟨"Trigonyard$Primitives", "addStepsOf", "(II)V"⟩, 2) := ⟨⟨by decide +kernel, by decide +kernel⟩, List.mem_of_getElem? (i := 29) (by decide +kernel), List.mem_of_getElem? (i := 643) (by decide +kernel), List.mem_of_getElem? (i := 644) (by decide +kernel)⟩
theorem lw_p11 : lw_okq (⟨"Trigonyard$Primitives", "addStep", "(CIIII)V"⟩, 2) := ⟨⟨by decide +kernel, by decide +kernel⟩, List.mem_of_getElem? (i := 29) (by decide +kernel), List.mem_of_getElem? (i := 648) (by decide +kernel), List.mem_of_getElem? (i := 649) (by decide +kernel)⟩
theorem lw_p12 : lw_okq (⟨"Trigonyard$Primitives", "fillByHypot", "(I)V"⟩, 2) := ⟨⟨by decide +kernel, by decide +kernel⟩, List.mem_of_getElem? (i := 29) (by decide +kernel), List.mem_of_getElem? (i := 655) (by decide +kernel), List.mem_of_getElem? (i := 656) (by decide +kernel)⟩
theorem lw_p13 : lw_okq (⟨"Trigonyard$Primitives", "addByHypot", "(II)V"⟩, 2) := ⟨⟨by decide +kernel, by decide +kernel⟩, List.mem_of_getElem? (i := 29) (by decide +kernel), List.mem_of_getElem? (i := 659) (by decide +kernel), List.mem_of_getElem? (i := 660) (by decide +kernel)⟩
theorem lw_p14 : lw_okq (⟨"Trigonyard", "putInOrder", "(IC)V"⟩, 6) := ⟨⟨by decide +kernel, by decide +kernel⟩, List.mem_of_getElem? (i := 19) (by decide +kernel), List.mem_of_getElem? (i := 698) (by decide +kernel), List.mem_of_getElem? (i := 699) (by decide +kernel)⟩
theorem lw_p15 : lw_okq (⟨"Trigonyard", "isLess", "(IIC)Z"⟩, 6) := ⟨⟨by decide +kernel, by decide +kernel⟩, List.mem_of_getElem? (i := 19) (by decide +kernel), List.mem_of_getElem? (i := 702) (by decide +kernel), List.mem_of_getElem? (i := 703) (by decide +kernel)⟩
def lw_privs_1 : List (MethodName × Nat) := [(⟨"Trigonyard", "countHeld", "()I"⟩, 6), (⟨"Trigonyard", "triangleAt", "(I)LTrigonyard$Triangle;"⟩, 6), (⟨"java/lang/Throwable", "fillInStackTrace", "(I)Ljava/lang/Throwable;"⟩, 6), (⟨"Trigonyard", "hold", "(ILTrigonyard$Triangle;)V"⟩, 6), (⟨"Trigonyard", "heldAt", "(I)LTrigonyard$Triangle;"⟩, 6), (⟨"Trigonyard", "holdIfShortEnough", "(IIII)I"⟩, 6), (⟨"Trigonyard", "primitiveAt", "(I)LTrigonyard$Triangle;"⟩, 6), (⟨"Trigonyard$Primitives", "fillByNumbers", "(I)V"⟩, 2), (⟨"Trigonyard$Primitives", "add", "(III)V"⟩, 2), (⟨"Trigonyard$Primitives", "fillBySteps", "(I)V"⟩, 2), (⟨"Trigonyard$Primitives", "addStepsOf", "(II)V"⟩, 2), (⟨"Trigonyard$Primitives", "addStep", "(CIIII)V"⟩, 2), (⟨"Trigonyard$Primitives", "fillByHypot", "(I)V"⟩, 2), (⟨"Trigonyard$Primitives", "addByHypot", "(II)V"⟩, 2), (⟨"Trigonyard", "putInOrder", "(IC)V"⟩, 6), (⟨"Trigonyard", "isLess", "(IIC)Z"⟩, 6)]
theorem lw_r1 : ∀ q ∈ lw_privs_1, lw_okq q := List.forall_mem_cons.mpr ⟨lw_p0, List.forall_mem_cons.mpr ⟨lw_p1, List.forall_mem_cons.mpr ⟨lw_p2, List.forall_mem_cons.mpr ⟨lw_p3, List.forall_mem_cons.mpr ⟨lw_p4, List.forall_mem_cons.mpr ⟨lw_p5, List.forall_mem_cons.mpr ⟨lw_p6, List.forall_mem_cons.mpr ⟨lw_p7, List.forall_mem_cons.mpr ⟨lw_p8, List.forall_mem_cons.mpr ⟨lw_p9, List.forall_mem_cons.mpr ⟨lw_p10, List.forall_mem_cons.mpr ⟨lw_p11, List.forall_mem_cons.mpr ⟨lw_p12, List.forall_mem_cons.mpr ⟨lw_p13, List.forall_mem_cons.mpr ⟨lw_p14, List.forall_mem_cons.mpr ⟨lw_p15, fun _ h => absurd h List.not_mem_nil⟩⟩⟩⟩⟩⟩⟩⟩⟩⟩⟩⟩⟩⟩⟩⟩
theorem lw_p16 : lw_okq (⟨"TrigonyardModel", "isWrong", "(I)Z"⟩, 14) := ⟨⟨by decide +kernel, by decide +kernel⟩, List.mem_of_getElem? (i := 824) (by decide +kernel), List.mem_of_getElem? (i := 889) (by decide +kernel), List.mem_of_getElem? (i := 890) (by decide +kernel)⟩
theorem lw_p17 : lw_okq (⟨"TrigonyardModel", "hold", "(IIII)V"⟩, 14) := ⟨⟨by decide +kernel, by decide +kernel⟩, List.mem_of_getElem? (i := 824) (by decide +kernel), List.mem_of_getElem? (i := 893) (by decide +kernel), List.mem_of_getElem? (i := 894) (by decide +kernel)⟩
theorem lw_p18 : lw_okq (⟨"TrigonyardModel", "least", "(II)I"⟩, 14) := ⟨⟨by decide +kernel, by decide +kernel⟩, List.mem_of_getElem? (i := 824) (by decide +kernel), List.mem_of_getElem? (i := 897) (by decide +kernel), List.mem_of_getElem? (i := 898) (by decide +kernel)⟩
theorem lw_p19 : lw_okq (⟨"TrigonyardModel", "most", "(II)I"⟩, 14) := ⟨⟨by decide +kernel, by decide +kernel⟩, List.mem_of_getElem? (i := 824) (by decide +kernel), List.mem_of_getElem? (i := 901) (by decide +kernel), List.mem_of_getElem? (i := 902) (by decide +kernel)⟩
theorem lw_p20 : lw_okq (⟨"TrigonyardModel", "many", "()I"⟩, 14) := ⟨⟨by decide +kernel, by decide +kernel⟩, List.mem_of_getElem? (i := 824) (by decide +kernel), List.mem_of_getElem? (i := 905) (by decide +kernel), List.mem_of_getElem? (i := 906) (by decide +kernel)⟩
theorem lw_p21 : lw_okq (⟨"TrigonyardModel", "missing", "(II)I"⟩, 14) := ⟨⟨by decide +kernel, by decide +kernel⟩, List.mem_of_getElem? (i := 824) (by decide +kernel), List.mem_of_getElem? (i := 913) (by decide +kernel), List.mem_of_getElem? (i := 914) (by decide +kernel)⟩
theorem lw_p22 : lw_okq (⟨"TrigonyardModel", "isThere", "(I)Z"⟩, 14) := ⟨⟨by decide +kernel, by decide +kernel⟩, List.mem_of_getElem? (i := 824) (by decide +kernel), List.mem_of_getElem? (i := 917) (by decide +kernel), List.mem_of_getElem? (i := 918) (by decide +kernel)⟩
theorem lw_p23 : lw_okq (⟨"TrigonyardModel", "sideOf", "(II)I"⟩, 14) := ⟨⟨by decide +kernel, by decide +kernel⟩, List.mem_of_getElem? (i := 824) (by decide +kernel), List.mem_of_getElem? (i := 930) (by decide +kernel), List.mem_of_getElem? (i := 931) (by decide +kernel)⟩
theorem lw_p24 : lw_okq (⟨"TrigonyardModel", "kindOf", "(I)I"⟩, 14) := ⟨⟨by decide +kernel, by decide +kernel⟩, List.mem_of_getElem? (i := 824) (by decide +kernel), List.mem_of_getElem? (i := 955) (by decide +kernel), List.mem_of_getElem? (i := 956) (by decide +kernel)⟩
theorem lw_p25 : lw_okq (⟨"TrigonyardModel", "leg", "(II)I"⟩, 14) := ⟨⟨by decide +kernel, by decide +kernel⟩, List.mem_of_getElem? (i := 824) (by decide +kernel), List.mem_of_getElem? (i := 962) (by decide +kernel), List.mem_of_getElem? (i := 963) (by decide +kernel)⟩
theorem lw_p26 : lw_okq (⟨"TrigonyardModel", "wide", "(II)I"⟩, 14) := ⟨⟨by decide +kernel, by decide +kernel⟩, List.mem_of_getElem? (i := 824) (by decide +kernel), List.mem_of_getElem? (i := 966) (by decide +kernel), List.mem_of_getElem? (i := 967) (by decide +kernel)⟩
theorem lw_p27 : lw_okq (⟨"TrigonyardModel", "hasArea", "(I)Z"⟩, 14) := ⟨⟨by decide +kernel, by decide +kernel⟩, List.mem_of_getElem? (i := 824) (by decide +kernel), List.mem_of_getElem? (i := 982) (by decide +kernel), List.mem_of_getElem? (i := 983) (by decide +kernel)⟩
theorem lw_p28 : lw_okq (⟨"TrigonyardModel", "findRoot", "(I)V"⟩, 14) := ⟨⟨by decide +kernel, by decide +kernel⟩, List.mem_of_getElem? (i := 824) (by decide +kernel), List.mem_of_getElem? (i := 986) (by decide +kernel), List.mem_of_getElem? (i := 987) (by decide +kernel)⟩
theorem lw_p29 : lw_okq (⟨"TrigonyardModel", "makeS", "(I)V"⟩, 14) := ⟨⟨by decide +kernel, by decide +kernel⟩, List.mem_of_getElem? (i := 824) (by decide +kernel), List.mem_of_getElem? (i := 990) (by decide +kernel), List.mem_of_getElem? (i := 991) (by decide +kernel)⟩
theorem lw_p30 : lw_okq (⟨"TrigonyardModel", "around", "(I)I"⟩, 14) := ⟨⟨by decide +kernel, by decide +kernel⟩, List.mem_of_getElem? (i := 824) (by decide +kernel), List.mem_of_getElem? (i := 994) (by decide +kernel), List.mem_of_getElem? (i := 995) (by decide +kernel)⟩
theorem lw_p31 : lw_okq (⟨"TrigonyardModel", "round", "(IC)J"⟩, 14) := ⟨⟨by decide +kernel, by decide +kernel⟩, List.mem_of_getElem? (i := 824) (by decide +kernel), List.mem_of_getElem? (i := 1011) (by decide +kernel), List.mem_of_getElem? (i := 1012) (by decide +kernel)⟩
def lw_privs_2 : List (MethodName × Nat) := [(⟨"TrigonyardModel", "isWrong", "(I)Z"⟩, 14), (⟨"TrigonyardModel", "hold", "(IIII)V"⟩, 14), (⟨"TrigonyardModel", "least", "(II)I"⟩, 14), (⟨"TrigonyardModel", "most", "(II)I"⟩, 14), (⟨"TrigonyardModel", "many", "()I"⟩, 14), (⟨"TrigonyardModel", "missing", "(II)I"⟩, 14), (⟨"TrigonyardModel", "isThere", "(I)Z"⟩, 14), (⟨"TrigonyardModel", "sideOf", "(II)I"⟩, 14), (⟨"TrigonyardModel", "kindOf", "(I)I"⟩, 14), (⟨"TrigonyardModel", "leg", "(II)I"⟩, 14), (⟨"TrigonyardModel", "wide", "(II)I"⟩, 14), (⟨"TrigonyardModel", "hasArea", "(I)Z"⟩, 14), (⟨"TrigonyardModel", "findRoot", "(I)V"⟩, 14), (⟨"TrigonyardModel", "makeS", "(I)V"⟩, 14), (⟨"TrigonyardModel", "around", "(I)I"⟩, 14), (⟨"TrigonyardModel", "round", "(IC)J"⟩, 14)]
theorem lw_r2 : ∀ q ∈ lw_privs_2, lw_okq q := List.forall_mem_cons.mpr ⟨lw_p16, List.forall_mem_cons.mpr ⟨lw_p17, List.forall_mem_cons.mpr ⟨lw_p18, List.forall_mem_cons.mpr ⟨lw_p19, List.forall_mem_cons.mpr ⟨lw_p20, List.forall_mem_cons.mpr ⟨lw_p21, List.forall_mem_cons.mpr ⟨lw_p22, List.forall_mem_cons.mpr ⟨lw_p23, List.forall_mem_cons.mpr ⟨lw_p24, List.forall_mem_cons.mpr ⟨lw_p25, List.forall_mem_cons.mpr ⟨lw_p26, List.forall_mem_cons.mpr ⟨lw_p27, List.forall_mem_cons.mpr ⟨lw_p28, List.forall_mem_cons.mpr ⟨lw_p29, List.forall_mem_cons.mpr ⟨lw_p30, List.forall_mem_cons.mpr ⟨lw_p31, fun _ h => absurd h List.not_mem_nil⟩⟩⟩⟩⟩⟩⟩⟩⟩⟩⟩⟩⟩⟩⟩⟩
theorem lw_p32 : lw_okq (⟨"TrigonyardModel", "ratio", "(IZJ)J"⟩, 14) := ⟨⟨by decide +kernel, by decide +kernel⟩, List.mem_of_getElem? (i := 824) (by decide +kernel), List.mem_of_getElem? (i := 1015) (by decide +kernel), List.mem_of_getElem? (i := 1016) (by decide +kernel)⟩
theorem lw_p33 : lw_okq (⟨"TrigonyardModel", "compared", "(II)I"⟩, 14) := ⟨⟨by decide +kernel, by decide +kernel⟩, List.mem_of_getElem? (i := 824) (by decide +kernel), List.mem_of_getElem? (i := 1024) (by decide +kernel), List.mem_of_getElem? (i := 1025) (by decide +kernel)⟩
theorem lw_p34 : lw_okq (⟨"TrigonyardModel", "canStep", "(IC)Z"⟩, 14) := ⟨⟨by decide +kernel, by decide +kernel⟩, List.mem_of_getElem? (i := 824) (by decide +kernel), List.mem_of_getElem? (i := 1066) (by decide +kernel), List.mem_of_getElem? (i := 1067) (by decide +kernel)⟩
theorem lw_p35 : lw_okq (⟨"TrigonyardModel", "isPrimitive", "(I)Z"⟩, 14) := ⟨⟨by decide +kernel, by decide +kernel⟩, List.mem_of_getElem? (i := 824) (by decide +kernel), List.mem_of_getElem? (i := 1070) (by decide +kernel), List.mem_of_getElem? (i := 1071) (by decide +kernel)⟩
theorem lw_p36 : lw_okq (⟨"TrigonyardModel", "odd", "(I)I"⟩, 14) := ⟨⟨by decide +kernel, by decide +kernel⟩, List.mem_of_getElem? (i := 824) (by decide +kernel), List.mem_of_getElem? (i := 1074) (by decide +kernel), List.mem_of_getElem? (i := 1075) (by decide +kernel)⟩
theorem lw_p37 : lw_okq (⟨"TrigonyardModel", "even", "(I)I"⟩, 14) := ⟨⟨by decide +kernel, by decide +kernel⟩, List.mem_of_getElem? (i := 824) (by decide +kernel), List.mem_of_getElem? (i := 1078) (by decide +kernel), List.mem_of_getElem? (i := 1079) (by decide +kernel)⟩
theorem lw_p38 : lw_okq (⟨"TrigonyardModel", "isBehind", "(IIC)Z"⟩, 14) := ⟨⟨by decide +kernel, by decide +kernel⟩, List.mem_of_getElem? (i := 824) (by decide +kernel), List.mem_of_getElem? (i := 1114) (by decide +kernel), List.mem_of_getElem? (i := 1115) (by decide +kernel)⟩
def lw_privs_3 : List (MethodName × Nat) := [(⟨"TrigonyardModel", "ratio", "(IZJ)J"⟩, 14), (⟨"TrigonyardModel", "compared", "(II)I"⟩, 14), (⟨"TrigonyardModel", "canStep", "(IC)Z"⟩, 14), (⟨"TrigonyardModel", "isPrimitive", "(I)Z"⟩, 14), (⟨"TrigonyardModel", "odd", "(I)I"⟩, 14), (⟨"TrigonyardModel", "even", "(I)I"⟩, 14), (⟨"TrigonyardModel", "isBehind", "(IIC)Z"⟩, 14)]
theorem lw_r3 : ∀ q ∈ lw_privs_3, lw_okq q := List.forall_mem_cons.mpr ⟨lw_p32, List.forall_mem_cons.mpr ⟨lw_p33, List.forall_mem_cons.mpr ⟨lw_p34, List.forall_mem_cons.mpr ⟨lw_p35, List.forall_mem_cons.mpr ⟨lw_p36, List.forall_mem_cons.mpr ⟨lw_p37, List.forall_mem_cons.mpr ⟨lw_p38, fun _ h => absurd h List.not_mem_nil⟩⟩⟩⟩⟩⟩⟩
def lw_privs : List (MethodName × Nat) := lw_privs_1 ++ (lw_privs_2 ++ (lw_privs_3))
def lw_tbl : List Cond := k2_sels lw_privs ++ tables_1
theorem lw_privs_ok : ∀ q ∈ lw_privs, lw_okq q := by
  show ∀ q ∈ lw_privs_1 ++ (lw_privs_2 ++ (lw_privs_3)), lw_okq q
  exact List.forall_mem_append.mpr ⟨lw_r1, List.forall_mem_append.mpr ⟨lw_r2, lw_r3⟩⟩
/-- the streams that the claim lets the run draw from -/
abbrev lw_cs : List Choice := [Jvm.Choice.named "NaN.bits"]
theorem lw_bits : nanBits ∈ lw_cs := by first | decide | exact List.mem_cons_self | simp [lw_cs, nanBits]
-- ===== end of PART A; then your names; then what follows =====
/-- the tables' words that hold in every later state too: every method's own list -/
def WS : List Cond := lw_tbl.filter goodWord
theorem WS_in (i : Nat) (w : Cond) (h : (match lw_tbl[i]? with | some v => decide (v = w) && goodWord v | none => false) = true) : w ∈ WS := by
  split at h
  · next v hv =>
    simp only [Bool.and_eq_true, decide_eq_true_eq] at h
    obtain ⟨h1, h2⟩ := h
    subst h1
    exact List.mem_filter.mpr ⟨List.mem_of_getElem? hv, h2⟩
  · cases h
theorem WS_good {c0 c : Cond} (h : c ∈ WS) : GoodIn (c0 :: WS) (c :: WS) := by
  intro w hw
  have hm : w ∈ WS := by
    rcases List.mem_cons.mp hw with e | e
    · rw [e]; exact h
    · exact e
  exact ⟨List.mem_cons_of_mem _ hm, good_of_word (List.mem_filter.mp hm).2⟩
theorem WS_good0 {c : Cond} (h : c ∈ WS) : GoodIn lw_tbl (c :: WS) := by
  intro w hw
  have hm : w ∈ WS := by
    rcases List.mem_cons.mp hw with e | e
    · rw [e]; exact h
    · exact e
  exact ⟨(List.mem_filter.mp hm).1, good_of_word (List.mem_filter.mp hm).2⟩
theorem WS_test : Cond.classLink "Trigonyard" 9 "Trigonyard$Triangle" ∈ WS := WS_in 65 _ (by decide +kernel)
end
section
/-! ===== BEGIN words of one list among another's, by their places ===== -/
theorem goodIn_r {big : List Cond} (ws : List Cond) (ps : List Nat) (hp : ws = ps.filterMap (fun i => big[i]?)) (h : ws.all goodWord = true) : GoodIn big ws := by
  intro w hw
  have h1 := List.all_eq_true.mp h w hw
  rw [hp] at hw
  obtain ⟨i, -, hi⟩ := List.mem_filterMap.mp hw
  have hm : w ∈ big := by first | exact List.mem_of_getElem? hi | exact List.getElem?_mem hi
  exact ⟨hm, good_of_word h1⟩
theorem goodIn_app {big a b : List Cond} (ha : GoodIn big a) (hb : GoodIn big b) : GoodIn big (a ++ b) := fun w h => (List.mem_append.mp h).elim (ha w) (hb w)
theorem goodIn_ca {big a b : List Cond} {c : Cond} (ha : GoodIn big (c :: a)) (hb : GoodIn big b) : GoodIn big (c :: (a ++ b)) := fun w h => (List.mem_cons.mp h).elim (fun e => ha w (List.mem_cons.mpr (Or.inl e))) (fun h => (List.mem_append.mp h).elim (fun h => ha w (List.mem_cons.mpr (Or.inr h))) (hb w))
theorem goodIn_sub {big ws : List Cond} (hm : ∀ w ∈ ws, w ∈ big) (h : ws.all goodWord = true) : GoodIn big ws := fun w hw => ⟨hm w hw, good_of_word (List.all_eq_true.mp h w hw)⟩
/-! ===== END ===== -/

/-! ===== BEGIN exceptions that leave a method, and their catching by the caller (launches without stack traces) ===== -/
section VXA
/-! The laws vx_back, vx_callV, vx_callS, vx_callSW, vx_throw0, vx_throwS follow proofs of the library, with one case more: JvmDerived/Free/Laws.lean (Back.of_free), Shelf42/LK1.lean (callV, callS), Shelf/KitTraced.lean (throwNew0V, throwNewS). -/
/-- where a method has thrown q: the class by its name, the cell, what was written, the world -/
def vx_T (XC : String → State → State → Prop) (st : State) (q : Addr) (t : State) (mc ms : Nat) (free : Addr → Prop) : Prop :=
  ∃ (E : String) (ce : Cell) (L : List Loc), XC E st t ∧ t.heap[q]? = some ce ∧ ce.vm = .none ∧ st.vm.findClass E = some ce.cls ∧ st.WarmedH t.vm ∧ st.sameButNew ({ t with vm := st.vm } : State) L mc ms ∧ ∀ z ∈ L, free z.base
def vx_Q (Qc : Array Value → State → Outcome → State → Prop) (XC : String → State → State → Prop) (mc ms : Nat) (free : Addr → Prop) : Array Value → State → Outcome → State → Prop := fun a st o t =>
  (Qc a st o t ∧ ∃ L, FrameEnd st o t L mc ms ∧ ∀ q ∈ L, free q.base) ∨ ∃ q, o = .threw q ∧ vx_T XC st q t mc ms free
/-- a callee that returns or throws -/
def vx_Met (l : Launch) (y : MethodName) (ws : List Cond) (rm : Room) (Pc : Array Value → State → Prop) (Qc : Array Value → State → Outcome → State → Prop) (XC : String → State → State → Prop) (mc ms : Nat) (free : Addr → Prop) : Prop :=
  MetFree l y (headSpec ws rm) Pc (fun _ _ _ _ _ => True) (vx_Q Qc XC mc ms free)
def vx_Post (XC : String → State → State → Prop) (mc ms : Nat) (free : Addr → Prop) : Pt → Array Value → Addr → Pt → Prop := fun A a q B =>
  ∃ (g : JFrame) (mk : MethodId) (t : State) (L : List Loc) (E : String) (ce : Cell), B.U.heap = t.heap ∧ B.U.vm = t.vm ∧ XC E (A.U.calling g mk a) t ∧ t.heap[q]? = some ce ∧ ce.vm = .none ∧ A.U.vm.findClass E = some ce.cls ∧ B.locs = A.locs ++ L ∧ (∀ z ∈ L, free z.base) ∧ B.cells = A.cells + mc ∧ B.slots = A.slots + ms
def vx_Back (l : Launch) (R : Room) (p : Program) (e : Env) (below : List Frame) (s : State) (sargs : Array Value) (y : MethodName) (len W9 : Nat)
    (Pre : Pt → Array Value → Prop) (Post : Pt → Array Value → Option Value → Pt → Prop) (PostX : Pt → Array Value → Addr → Pt → Prop) : Prop :=
  ∀ (m : MethodId) (meth : Method) (c : Code) (A : Pt) (g : JFrame) (ig : Instr) (mk : MethodId) (a : Array Value),
    Stand p l e R s m sargs below meth c A.U A.locs A.cells A.slots → g.method = m → g.locals.size = c.maxLocals → decode c.code g.pc = .ok (ig, len) →
    2 * g.monitorRoom + (g.stack.map fun v => v.category).sum ≤ W9 → A.U.methodNamed? y = some mk → Pre A a →
    (∃ (v : Option Value) (B : Pt), Stand p l e R s m sargs below meth c B.U B.locs B.cells B.slots ∧ Post A a v B ∧
      Steps p.tables e below (doInvoke e (A.U.setTop g) [] mk a).1 (B.U.setTop { g with pc := g.pc + len, stack := v.toList ++ g.stack })) ∨
    (∃ (q : Addr) (B : Pt), Stand p l e R s m sargs below meth c B.U B.locs B.cells B.slots ∧ PostX A a q B ∧
      Steps p.tables e below (doInvoke e (A.U.setTop g) [] mk a).1 ((B.U.setTop g).pushFrame (.throwing q)))
section Payer
variable {l : Launch} {R : Room} {p : Program} {e : Env} {below : List Frame} {s : State} {sargs : Array Value} {y : MethodName} {len W9 : Nat}
theorem vx_back {ws : List Cond} {rm : Room} {Pc : Array Value → State → Prop} {Qc : Array Value → State → Outcome → State → Prop} {XC : String → State → State → Prop} {mc ms : Nat} {free : Addr → Prop} {bytes : ByteArray} {maxL : Nat} {ret : Option FieldType}
    (hM : vx_Met l y ws rm Pc Qc XC mc ms free) (hblind : FrameBlind Pc) (hrc : rm.cells = mc) (hrs : rm.slots = ms)
    (hframes : rm.frames + 1 ≤ R.frames) (hlocals : W9 + (maxL + 11) + rm.locals ≤ R.locals)
    (hws : ∀ w ∈ ws, ∀ a' U, s.WarmedH U.vm → w.before a' U = true) (hcode : Cond.code y bytes maxL ret ∈ ws) (hinit : ∀ a' U, s.WarmedH U.vm → (Cond.initialized y.cls).before a' U = true) :
    vx_Back l R p e below s sargs y len W9 (PreOf R mc ms Pc) (PostOf Qc mc ms free) (vx_Post XC mc ms free) := by
  intro m meth c A g ig mk a X hg hsize hdg hW hn hp
  have h1 : (headSpec ws rm).pre.before a A.U = true := atoms_intro fun w hw => hws w hw _ _ X.warmed
  have h2 : (Cond.code y bytes maxL ret).before a A.U = true := hws _ hcode _ _ X.warmed
  have h3 : (Cond.initialized y.cls).before a A.U = true := hinit _ _ X.warmed
  have h4 : A.cells + (headSpec ws rm).room.cells ≤ R.cells := by rw [show (headSpec ws rm).room.cells = mc from hrc]; exact hp.1
  have h5 : A.slots + (headSpec ws rm).room.slots ≤ R.slots := by rw [show (headSpec ws rm).room.slots = ms from hrs]; exact hp.2.1
  have hPc : Pc a (A.U.calling g mk a) := hblind _ _ _ _ hp.2.2
  obtain ⟨U, Ls, c0, s0⟩ := A
  dsimp only [Pt.U, Pt.locs, Pt.cells, Pt.slots] at h1 h2 h3 h4 h5 X hn hPc ⊢
  obtain ⟨methY, cY, hmY, hcY, -, hlY, -, -, -, -⟩ := Cond.code_spec hn h2
  obtain ⟨kY, hkY, -⟩ := className_of_methodNamed hn
  have hinitY : kY.init = .initialized := Cond.initialized_spec (findClass_of_methodNamed hn) hkY h3
  have h : At U g.method c below := by rw [hg]; exact X.here
  have hlocals9 : W9 + (maxL + 11) + (headSpec ws rm).room.locals ≤ R.locals := hlocals
  have happ : (headSpec ws rm).appliesLoose y e.platform (U.calling g mk a) = true :=
    Spec.appliesLoose_calling (g := g) h hdg hn hkY hinitY
      (X.room_calling (g := g) (R' := (headSpec ws rm).room) hsize hmY hcY hframes (by rw [hlY]; omega) h4 h5) h1
  obtain ⟨mid, hmid⟩ := h.above
  have hfr : (U.setTop g).frames = (.java g :: mid) ++ below := by rw [State.frames_setTop' g h.top, hmid]; rfl
  obtain ⟨o, s₂, hsteps, -, hend, hq⟩ := Steps.callFree hM p X.admits X.cas X.clock (acts := []) hfr happ hPc trivial
  have hq' : vx_Q Qc XC mc ms free a (U.calling g mk a) o s₂ := hq
  rw [State.frames_setTop' g h.top] at hend
  obtain ⟨g₀, hg0⟩ := Option.isSome_iff_exists.mp h.top
  obtain ⟨r, hr⟩ := State.topJava?_eq_some.mp hg0
  have hr' : (({ U with heap := s₂.heap, slotsUsed := s₂.slotsUsed } : State).setVm s₂.vm).frames = .java g₀ :: r := hr
  rcases hq' with ⟨hqc, L, hfe, hL⟩ | ⟨q, rfl, E, ce, L, hx, hce, hcv, hcl, hW₂, hsm, hL⟩
  · obtain ⟨⟨v, rfl⟩, hW₂, e2, q2, q3, q4, q5, q6⟩ := id hfe
    have e3 : s₂ = ({ (U.calling g mk a).setFrames s₂.frames with heap := s₂.heap, slotsUsed := s₂.slotsUsed } : State).setVm s₂.vm := by
      have : s₂ = ({ s₂ with vm := (U.calling g mk a).vm } : State).setVm s₂.vm := rfl
      rw [e2] at this
      exact this
    obtain ⟨c₂, i₂, len₂, hc₂, hd₂, hf₂⟩ := hend
    have hW' : U.WarmedH s₂.vm := hW₂
    have hcc : c₂ = c := by
      have h1 : s₂.code? g.method = U.code? g.method := by
        rw [State.code?_eq, State.code?_eq, hW'.alike.method?]
      exact Option.some.inj (hc₂.symm.trans (h1.trans h.code))
    subst hcc
    have hlen : len₂ = len := by rw [hdg] at hd₂; cases hd₂; rfl
    subst hlen
    have hs₂ : s₂ = (({ U with heap := s₂.heap, slotsUsed := s₂.slotsUsed } : State).setVm s₂.vm).setTop { g with pc := g.pc + len₂, stack := v.toList ++ g.stack } := by
      refine e3.trans ?_
      rw [hf₂, State.calling_eq h.top, State.setFrames_setFrames, State.setTop_of_frames _ hr', hr]
      rfl
    have hsame : U.sameButNew ({ U with heap := s₂.heap, slotsUsed := s₂.slotsUsed } : State) L mc ms := by
      refine ⟨?_, q2, q3, q4, q5, q6⟩
      obtain ⟨t, ht, -⟩ := State.frames_cons hr
      show ({ U with heap := s₂.heap, slotsUsed := s₂.slotsUsed } : State) = { U.setFrames U.frames with heap := s₂.heap, slotsUsed := s₂.slotsUsed }
      rw [State.setFrames_self ht]
    subst hg
    refine Or.inl ⟨v, ⟨(({ U with heap := s₂.heap, slotsUsed := s₂.slotsUsed } : State).setVm s₂.vm), Ls ++ L, c0 + mc, s0 + ms⟩,
      ⟨X.admits, X.cas, X.clock, X.frames, X.room, X.hears, X.method, X.code, (X.here.setHeapUsed s₂.heap s₂.slotsUsed).setVm hW'.alike, X.tail, State.WarmedH.trans X.warmed hW', X.limits, X.bytes, X.same.trans (hsame.setVm s.vm)⟩,
      ⟨g, mk, s₂, L, rfl, rfl, hqc, rfl, hL, rfl, rfl⟩, ?_⟩
    show Steps p.tables e below _ ((({ U with heap := s₂.heap, slotsUsed := s₂.slotsUsed } : State).setVm s₂.vm).setTop { g with pc := g.pc + len₂, stack := v.toList ++ g.stack })
    rw [← hs₂]
    exact hsteps
  · obtain ⟨e2, q2, q3, q4, q5, q6⟩ := id hsm
    have e3 : s₂ = ({ (U.calling g mk a).setFrames s₂.frames with heap := s₂.heap, slotsUsed := s₂.slotsUsed } : State).setVm s₂.vm := by
      have : s₂ = ({ s₂ with vm := (U.calling g mk a).vm } : State).setVm s₂.vm := rfl
      rw [e2] at this
      exact this
    have hf₂ : s₂.frames = .throwing q :: .java g :: U.frames.tail := hend
    have hW' : U.WarmedH s₂.vm := hW₂
    have hs₂ : s₂ = ((({ U with heap := s₂.heap, slotsUsed := s₂.slotsUsed } : State).setVm s₂.vm).setTop g).pushFrame (.throwing q) := by
      refine e3.trans ?_
      rw [hf₂, State.calling_eq h.top, State.setFrames_setFrames, State.pushFrame, State.frames_setTop _ hr', State.setTop_of_frames _ hr', State.setFrames_setFrames, hr]
      rfl
    have hsame : U.sameButNew ({ U with heap := s₂.heap, slotsUsed := s₂.slotsUsed } : State) L mc ms := by
      refine ⟨?_, q2, q3, q4, q5, q6⟩
      obtain ⟨t, ht, -⟩ := State.frames_cons hr
      show ({ U with heap := s₂.heap, slotsUsed := s₂.slotsUsed } : State) = { U.setFrames U.frames with heap := s₂.heap, slotsUsed := s₂.slotsUsed }
      rw [State.setFrames_self ht]
    subst hg
    refine Or.inr ⟨q, ⟨(({ U with heap := s₂.heap, slotsUsed := s₂.slotsUsed } : State).setVm s₂.vm), Ls ++ L, c0 + mc, s0 + ms⟩,
      ⟨X.admits, X.cas, X.clock, X.frames, X.room, X.hears, X.method, X.code, (X.here.setHeapUsed s₂.heap s₂.slotsUsed).setVm hW'.alike, X.tail, State.WarmedH.trans X.warmed hW', X.limits, X.bytes, X.same.trans (hsame.setVm s.vm)⟩,
      ⟨g, mk, s₂, L, E, ce, rfl, rfl, hx, hce, hcv, hcl, rfl, hL, rfl, rfl⟩, ?_⟩
    show Steps p.tables e below _ (((({ U with heap := s₂.heap, slotsUsed := s₂.slotsUsed } : State).setVm s₂.vm).setTop g).pushFrame (.throwing q))
    rw [← hs₂]
    exact hsteps
end Payer
section Calls
variable {p : Program} {l : Launch} {e : Env} {R : Room} {s : State} {m : MethodId} {args : Array Value} {below : List Frame} {meth : Method} {c : Code} {T : State} {locs : List Loc} {cells slots : Nat}
theorem vx_callV (X : Stand p l e R s m args below meth c T locs cells slots) (hexec : p.tables.exec = Jvm.exec) {own C : String} {index : Nat} {y : MethodName} {bytes : ByteArray} {maxL : Nat} {ret : Option FieldType}
    (hown : s.vm.findClass own = some m.cls) (hlink : (Cond.methodLink own index y).before args s = true) (hinst : (Cond.instanceMethod y).before args s = true) (hsel : (Cond.selects C y y).before args s = true)
    (hcode : (Cond.code y bytes maxL ret).before args s = true) (hy : y.cls ≠ "java/lang/invoke/MethodHandle" ∧ y.cls ≠ "java/lang/invoke/VarHandle")
    {W9 : Nat} {Pre : Pt → Array Value → Prop} {Post : Pt → Array Value → Option Value → Pt → Prop} {PostX : Pt → Array Value → Addr → Pt → Prop} (hK : vx_Back l R p e below s args y 3 W9 Pre Post PostX)
    {b : Addr} {cellB : Cell} (hcell : T.heap[b]? = some cellB) (hobj : cellB.vm.isStatics = false) (hcls : s.vm.findClass C = some cellB.cls)
    {g : JFrame} (hg : g.method = m) (hsize : g.locals.size = c.maxLocals) {argsL rest : List Value} (hlen : ∀ sig, parseMethodDescriptor y.desc = some sig → argsL.length = sig.parameters.length)
    (hstack : g.stack = argsL.reverse ++ .ref b :: rest) (hW : 2 * g.monitorRoom + (rest.map fun v => v.category).sum ≤ W9) (hdg : decode c.code g.pc = .ok (.invokevirtual index, 3))
    (hpre : ∀ vm₁, s.WarmedH vm₁ → Pre ⟨T.setVm vm₁, locs, cells, slots⟩ (Value.ref b :: argsL).toArray) :
    (∃ (v : Option Value) (vm₁ : Vm) (B : Pt), s.WarmedH vm₁ ∧ Stand p l e R s m args below meth c B.U B.locs B.cells B.slots ∧ Post ⟨T.setVm vm₁, locs, cells, slots⟩ (Value.ref b :: argsL).toArray v B ∧
      ∀ target, Steps p.tables e below (B.U.setTop { g with pc := g.pc + 3, stack := v.toList ++ rest }) target → Steps p.tables e below (T.setTop g) target) ∨
    (∃ (q : Addr) (vm₁ : Vm) (B : Pt), s.WarmedH vm₁ ∧ Stand p l e R s m args below meth c B.U B.locs B.cells B.slots ∧ PostX ⟨T.setVm vm₁, locs, cells, slots⟩ (Value.ref b :: argsL).toArray q B ∧
      Steps p.tables e below (T.setTop g) ((B.U.setTop { g with stack := rest }).pushFrame (.throwing q))) := by
  obtain ⟨mk, methM, hnamed, hmethM, hstM, habM⟩ := Cond.instanceMethod_spec hinst
  obtain ⟨methM', cM, hmethM', -, -, -, -, -, -, hsigM⟩ := Cond.code_spec hnamed hcode
  cases hmethM.symm.trans hmethM'
  obtain ⟨c2, r2, m2, q1, q2, q3, q4, kP, hkP, hkPi⟩ := Cond.selects_spec hsel
  cases hcls.symm.trans q1
  cases (State.methodFound?_of_named hnamed hy).symm.trans q2
  cases hnamed.symm.trans q3
  have hselP : selectMethod e.platform s.vm cellB.cls mk = .method mk := by rw [Launch.admits_selectMethod X.admits]; exact q4
  obtain ⟨vm₁, X₁, hstep₁⟩ := X.invokevirtual hexec hown hlink hnamed hmethM hstM hkP hkPi hy (a := b) (cell := cellB) hcell
    (fun z h => by rw [h] at hobj; cases hobj) hselP hmethM habM hkP hkPi (g := g) hg (argsL := argsL) (rest := rest) (hlen _ hsigM) hstack hdg
  rcases hK m meth c ⟨T.setVm vm₁, locs, cells, slots⟩ { g with stack := rest } (.invokevirtual index) mk (Value.ref b :: argsL).toArray X₁ hg hsize hdg hW (X₁.named hnamed) (hpre vm₁ X₁.warmed) with ⟨v, B, X', hpost, hsteps⟩ | ⟨q, B, X', hpost, hsteps⟩
  · exact Or.inl ⟨v, vm₁, B, X₁.warmed, X', hpost, fun target h => hstep₁ _ fun acts => by rw [doInvoke_state]; exact hsteps.trans h⟩
  · exact Or.inr ⟨q, vm₁, B, X₁.warmed, X', hpost, hstep₁ _ fun acts => by rw [doInvoke_state]; exact hsteps⟩
theorem vx_callS (X : Stand p l e R s m args below meth c T locs cells slots) (hexec : p.tables.exec = Jvm.exec) {own : String} {index : Nat} {y : MethodName} {bytes : ByteArray} {maxL : Nat} {ret : Option FieldType}
    (hown : s.vm.findClass own = some m.cls) (hlink : (Cond.methodLink own index y).before args s = true) (hstat : (Cond.static y).before args s = true) (hinit : (Cond.initialized y.cls).before args s = true)
    (hcode : (Cond.code y bytes maxL ret).before args s = true) (hy : y.cls ≠ "java/lang/invoke/MethodHandle" ∧ y.cls ≠ "java/lang/invoke/VarHandle")
    {W9 : Nat} {Pre : Pt → Array Value → Prop} {Post : Pt → Array Value → Option Value → Pt → Prop} {PostX : Pt → Array Value → Addr → Pt → Prop} (hK : vx_Back l R p e below s args y 3 W9 Pre Post PostX)
    {g : JFrame} (hg : g.method = m) (hsize : g.locals.size = c.maxLocals) {argsL rest : List Value} (hlen : ∀ sig, parseMethodDescriptor y.desc = some sig → argsL.length = sig.parameters.length)
    (hstack : g.stack = argsL.reverse ++ rest) (hW : 2 * g.monitorRoom + (rest.map fun v => v.category).sum ≤ W9) (hdg : decode c.code g.pc = .ok (.invokestatic index, 3))
    (hpre : ∀ vm₁, s.WarmedH vm₁ → Pre ⟨T.setVm vm₁, locs, cells, slots⟩ argsL.toArray) :
    (∃ (v : Option Value) (vm₁ : Vm) (B : Pt), s.WarmedH vm₁ ∧ Stand p l e R s m args below meth c B.U B.locs B.cells B.slots ∧ Post ⟨T.setVm vm₁, locs, cells, slots⟩ argsL.toArray v B ∧
      ∀ target, Steps p.tables e below (B.U.setTop { g with pc := g.pc + 3, stack := v.toList ++ rest }) target → Steps p.tables e below (T.setTop g) target) ∨
    (∃ (q : Addr) (vm₁ : Vm) (B : Pt), s.WarmedH vm₁ ∧ Stand p l e R s m args below meth c B.U B.locs B.cells B.slots ∧ PostX ⟨T.setVm vm₁, locs, cells, slots⟩ argsL.toArray q B ∧
      Steps p.tables e below (T.setTop g) ((B.U.setTop { g with stack := rest }).pushFrame (.throwing q))) := by
  obtain ⟨mk, hnamed⟩ := Cond.code_named hcode
  obtain ⟨methM, cM, hmethM, -, -, -, -, -, -, hsigM⟩ := Cond.code_spec hnamed hcode
  have hstatic : methM.isStatic = true := Cond.static_spec hnamed hmethM hstat
  obtain ⟨kP, hkP, -⟩ := className_of_methodNamed hnamed
  have hinitP : kP.init = .initialized := Cond.initialized_spec (findClass_of_methodNamed hnamed) hkP hinit
  obtain ⟨vm₁, X₁, hstep₁⟩ := X.invokestatic hexec hown hlink hnamed hmethM hstatic hkP hinitP hy (g := g) hg (argsL := argsL) (rest := rest) (hlen _ hsigM) hstack hdg
  rcases hK m meth c ⟨T.setVm vm₁, locs, cells, slots⟩ { g with stack := rest } (.invokestatic index) mk argsL.toArray X₁ hg hsize hdg hW (X₁.named hnamed) (hpre vm₁ X₁.warmed) with ⟨v, B, X', hpost, hsteps⟩ | ⟨q, B, X', hpost, hsteps⟩
  · exact Or.inl ⟨v, vm₁, B, X₁.warmed, X', hpost, fun target h => hstep₁ _ fun acts => by rw [doInvoke_state]; exact hsteps.trans h⟩
  · exact Or.inr ⟨q, vm₁, B, X₁.warmed, X', hpost, hstep₁ _ fun acts => by rw [doInvoke_state]; exact hsteps⟩
end Calls
theorem vx_cls {s : State} {T : State} {vm₁ : Vm} {E : String} {k : ClassId} (hW : s.WarmedH vm₁) (h : (T.setVm vm₁).vm.findClass E = some k) : s.vm.findClass E = some k := by
  have h1 : vm₁.findClass E = some k := h
  rw [hW.alike.findClass] at h1
  exact h1
/-- the method's frame g, with q thrown over it -/
def vx_W (p : Program) (l : Launch) (e : Env) (R : Room) (s : State) (m : MethodId) (args : Array Value) (below : List Frame) (meth : Method) (c : Code) (H : Heap) (locs : List Loc) (cells slots : Nat) (Q : State → Prop) (g : JFrame) (q : Addr) : Prop :=
  ∀ T : State, T.heap = H → Stand p l e R s m args below meth c T locs cells slots → ∃ t, Steps p.tables e below ((T.setTop g).pushFrame (.throwing q)) t ∧ Q t
def vx_Run (p : Program) (l : Launch) (e : Env) (R : Room) (s : State) (m : MethodId) (args : Array Value) (below : List Frame) (meth : Method) (c : Code) (H : Heap) (locs : List Loc) (cells slots mc ms : Nat) (g : JFrame) (rest : List Value) (Qa : State → Outcome → State → Prop) (XC : String → State → State → Prop) (free : Addr → Prop) : Prop :=
  ∀ T : State, T.heap = H → Stand p l e R s m args below meth c T locs cells slots →
    (∃ (v : Option Value) (st₀ t T' : State) (L : List Loc), st₀.heap = H ∧ Stand p l e R s m args below meth c T' (locs ++ L) (cells + mc) (slots + ms) ∧ (∀ q ∈ L, free q.base) ∧ T'.heap = t.heap ∧ T'.vm = t.vm ∧ Qa st₀ (.returned v) t ∧
      Goes p e below T g T' { g with pc := g.pc + 3, stack := v.toList ++ rest }) ∨
    (∃ (q : Addr) (st₀ t T' : State) (L : List Loc) (E : String) (ce : Cell), st₀.heap = H ∧ Stand p l e R s m args below meth c T' (locs ++ L) (cells + mc) (slots + ms) ∧ (∀ z ∈ L, free z.base) ∧ T'.heap = t.heap ∧ T'.vm = t.vm ∧ XC E st₀ t ∧ t.heap[q]? = some ce ∧ ce.vm = .none ∧ s.vm.findClass E = some ce.cls ∧
      Steps p.tables e below (T.setTop g) ((T'.setTop { g with stack := rest }).pushFrame (.throwing q)))
def vx_X {S : Type} (px : S → Prop) (B : String → S → State → Prop) (A : Nat → Prop) : String → State → State → Prop := fun E st t => ∃ u : S, px u ∧ B E u t ∧ va_F A st t
section Runs
variable {p : Program} {l : Launch} {e : Env} {R : Room} {s : State} {m : MethodId} {args : Array Value} {below : List Frame} {meth : Method} {c : Code} {H : Heap} {locs : List Loc} {cells slots : Nat}
variable {y : MethodName} {bytes cc : ByteArray} {maxL nL mc ms n index : Nat} {ret : Option FieldType} {ws : List Cond} {rm : Room} {Pc : Array Value → State → Prop} {Qc : Array Value → State → Outcome → State → Prop} {XC : String → State → State → Prop} {free : Addr → Prop} {Ts : List Cond} {own C : String} {b : Addr} {As rest : List Value} {g : JFrame}
theorem vx_callBack (cb : CallB R s args own index y bytes maxL ret ws rm mc ms n) (hM : vx_Met l y ws rm Pc Qc XC mc ms free) (hbl : FrameBlind Pc) : vx_Back l R p e below s args y 3 8 (PreOf R mc ms Pc) (PostOf Qc mc ms free) (vx_Post XC mc ms free) := by
  obtain ⟨hrc, hrs, hfr, hlo, hws, hcw, -, hini, -⟩ := cb
  exact vx_back (bytes := bytes) (maxL := maxL) (ret := ret) hM hbl hrc hrs hfr hlo hws hcw (fun a' U hW => word_at hW (Or.inl (by first | rfl | simp [Cond.onTables, Cond.keeps, Cond.steady])) hini)
theorem vx_runV (S : CallFix p m c cc nL s args Ts own) (hM : vx_Met l y ws rm Pc Qc XC mc ms free) (cw : CallW R s args own C index y bytes maxL ret ws rm mc ms n) (hp : PreV s H C b Pc As)
    (hg : g.method = m) (hn : As.length = n) (hsize : g.locals.size = nL) (hstack : g.stack = As.reverse ++ .ref b :: rest) (hW : 2 * g.monitorRoom + (rest.map fun v => v.category).sum ≤ 8) (hdg : decode cc g.pc = .ok (.invokevirtual index, 3)) (hf : cells + mc ≤ R.cells ∧ slots + ms ≤ R.slots) :
    vx_Run p l e R s m args below meth c H locs cells slots mc ms g rest (Qc (Value.ref b :: As).toArray) XC free := by
  have hK : vx_Back l R p e below s args y 3 8 (PreOf R mc ms Pc) (PostOf Qc mc ms free) (vx_Post XC mc ms free) := vx_callBack cw.1 hM hp.1
  obtain ⟨⟨-, -, -, -, -, -, hcode, -, hy, hlen, hl⟩, hin, hse⟩ := cw
  obtain ⟨hx, hb, hml, ho, -⟩ := S
  obtain ⟨-, ⟨cellB, hcB, hoB, hclB⟩, hPc⟩ := hp
  intro T hT X
  rcases vx_callV X hx (C := C) (bytes := bytes) (maxL := maxL) (ret := ret) ho hl hin hse hcode hy hK (by rw [hT]; exact hcB) hoB hclB hg (hsize.trans hml.symm) (argsL := As) (rest := rest) (fun sig h => hn.trans (hlen sig h)) hstack hW (by rw [hb]; exact hdg)
    (fun vm₁ hW₁ => ⟨hf.1, hf.2, hPc (T.setVm vm₁) hT hW₁⟩) with ⟨v, vm₁, ⟨U', l2, c2, s2⟩, hW₁, X', ⟨g', mk, t, L, e1, e2, hq, h1, hL, h2, h3⟩, st⟩ | ⟨q, vm₁, ⟨U', l2, c2, s2⟩, hW₁, X', ⟨g', mk, t, L, E, ce, e1, e2, hq, hce, hcv, hcl, h1, hL, h2, h3⟩, st⟩
  · dsimp only [Pt.U, Pt.locs, Pt.cells, Pt.slots] at X' e1 e2 h1 h2 h3 st
    subst h1; subst h2; subst h3
    exact Or.inl ⟨v, (T.setVm vm₁).calling g' mk (Value.ref b :: As).toArray, t, U', L, hT, X', hL, e1, e2, hq, st⟩
  · dsimp only [Pt.U, Pt.locs, Pt.cells, Pt.slots] at X' e1 e2 h1 h2 h3 st hcl
    subst h1; subst h2; subst h3
    exact Or.inr ⟨q, (T.setVm vm₁).calling g' mk (Value.ref b :: As).toArray, t, U', L, E, ce, hT, X', hL, e1, e2, hq, hce, hcv, vx_cls hW₁ hcl, st⟩
theorem vx_runS (S : CallFix p m c cc nL s args Ts own) (hM : vx_Met l y ws rm Pc Qc XC mc ms free) (cw : CallB R s args own index y bytes maxL ret ws rm mc ms n ∧ (Cond.static y).before args s = true) (hp : PreS s H Pc As)
    (hg : g.method = m) (hn : As.length = n) (hsize : g.locals.size = nL) (hstack : g.stack = As.reverse ++ rest) (hW : 2 * g.monitorRoom + (rest.map fun v => v.category).sum ≤ 8) (hdg : decode cc g.pc = .ok (.invokestatic index, 3)) (hf : cells + mc ≤ R.cells ∧ slots + ms ≤ R.slots) :
    vx_Run p l e R s m args below meth c H locs cells slots mc ms g rest (Qc As.toArray) XC free := by
  have hK : vx_Back l R p e below s args y 3 8 (PreOf R mc ms Pc) (PostOf Qc mc ms free) (vx_Post XC mc ms free) := vx_callBack cw.1 hM hp.1
  obtain ⟨⟨-, -, -, -, -, -, hcode, hini, hy, hlen, hl⟩, hstt⟩ := cw
  obtain ⟨hx, hb, hml, ho, -⟩ := S
  intro T hT X
  rcases vx_callS X hx (bytes := bytes) (maxL := maxL) (ret := ret) ho hl hstt hini hcode hy hK hg (hsize.trans hml.symm) (argsL := As) (rest := rest) (fun sig h => hn.trans (hlen sig h)) hstack hW (by rw [hb]; exact hdg)
    (fun vm₁ hW₁ => ⟨hf.1, hf.2, hp.2 (T.setVm vm₁) hT hW₁⟩) with ⟨v, vm₁, ⟨U', l2, c2, s2⟩, hW₁, X', ⟨g', mk, t, L, e1, e2, hq, h1, hL, h2, h3⟩, st⟩ | ⟨q, vm₁, ⟨U', l2, c2, s2⟩, hW₁, X', ⟨g', mk, t, L, E, ce, e1, e2, hq, hce, hcv, hcl, h1, hL, h2, h3⟩, st⟩
  · dsimp only [Pt.U, Pt.locs, Pt.cells, Pt.slots] at X' e1 e2 h1 h2 h3 st
    subst h1; subst h2; subst h3
    exact Or.inl ⟨v, (T.setVm vm₁).calling g' mk As.toArray, t, U', L, hT, X', hL, e1, e2, hq, st⟩
  · dsimp only [Pt.U, Pt.locs, Pt.cells, Pt.slots] at X' e1 e2 h1 h2 h3 st hcl
    subst h1; subst h2; subst h3
    exact Or.inr ⟨q, (T.setVm vm₁).calling g' mk As.toArray, t, U', L, E, ce, hT, X', hL, e1, e2, hq, hce, hcv, vx_cls hW₁ hcl, st⟩
end Runs
section Rows
variable {p : Program} {l : Launch} {e : Env} {R : Room} {s : State} {m : MethodId} {args : Array Value} {below : List Frame} {meth : Method} {c : Code} {H : Heap} {locs : List Loc} {cells slots : Nat} {Q : State → Prop}
variable {mc ms : Nat} {free : Addr → Prop} {A0 A1 : Nat → Prop} {H0 : Heap} {a : Array Value} {pc : Nat} {ls : Array Slot} {st0 rest : List Value}
theorem vx_keep {st₀ t T' : State} {L : List Loc} (h0 : st₀.heap = H) (e1 : T'.heap = t.heap) (hS : va_S A0 H0 H locs) (hA : ∀ q, q < H.size → A1 q → A0 q) (hf : ∀ q, free q → A0 q) (hL : ∀ q ∈ L, free q.base) (hF : va_F A1 st₀ t) :
    H.size ≤ T'.heap.size ∧ (∀ q : Nat, q < H.size → ¬ A1 q → T'.heap[q]? = H[q]?) ∧ va_S A0 H0 T'.heap (locs ++ L) := by
  obtain ⟨hz, hk⟩ := hF
  rw [h0] at hz hk
  exact ⟨by rw [e1]; exact hz, fun q h1 h2 => by rw [e1]; exact hk q h1 h2,
    ⟨Nat.le_trans hS.1 (by rw [e1]; exact hz), fun q h1 h2 => by rw [e1, hk q (Nat.lt_of_lt_of_le h1 hS.1) (fun z => h2 (hA q (Nat.lt_of_lt_of_le h1 hS.1) z))]; exact hS.2.1 q h1 h2, fun q hq => by
      rcases List.mem_append.mp hq with h | h
      · exact hS.2.2 q h
      · exact hf _ (hL q h)⟩⟩
theorem vx_calli {S SX : Type} {post : Int32 → S → Prop} {px : SX → Prop} {B : S → State → Prop} {BX : String → SX → State → Prop} {AX : Nat → Prop} (hr : vx_Run p l e R s m args below meth c H locs cells slots mc ms (F0 m pc ls st0) rest (va_Qi post B A1 a) (vx_X px BX AX) free) (hS : va_S A0 H0 H locs) (hA : ∀ q, q < H.size → A1 q → A0 q) (hf : ∀ q, free q → A0 q) (hAX : ∀ q, q < H.size → AX q → A0 q)
    (kx : ∀ (E : String) (ce : Cell) (q9 : Addr) (u : SX) (t : State) (H1 : Heap) (locs1 : List Loc), t.heap = H1 → s.vm.Alike t.vm → px u → BX E u t → H.size ≤ H1.size → (∀ q : Nat, q < H.size → ¬ AX q → H1[q]? = H[q]?) → va_S A0 H0 H1 locs1 → H1[q9]? = some ce → ce.vm = .none → s.vm.findClass E = some ce.cls → vx_W p l e R s m args below meth c H1 locs1 (cells + mc) (slots + ms) Q (F0 m pc ls rest) q9)
    (kk : ∀ (r : Int32) (u : S) (t : State) (H1 : Heap) (locs1 : List Loc), t.heap = H1 → s.vm.Alike t.vm → post r u → B u t → H.size ≤ H1.size → (∀ q : Nat, q < H.size → ¬ A1 q → H1[q]? = H[q]?) → va_S A0 H0 H1 locs1 → W p l e R s m args below meth c H1 locs1 (cells + mc) (slots + ms) Q (F0 m (pc + 3) ls (.int r :: rest))) : W p l e R s m args below meth c H locs cells slots Q (F0 m pc ls st0) := by
  intro T hT X
  rcases hr T hT X with ⟨v, st₀, t, T', L, h0, X', hL, e1, e2, ⟨⟨r, u, hv, hp, hb⟩, hF⟩, st⟩ | ⟨q, st₀, t, T', L, E, ce, h0, X', hL, e1, e2, ⟨u, hp, hb, hF⟩, hce, hcv, hcl, st⟩
  · cases hv
    obtain ⟨k1, k2, k3⟩ := vx_keep h0 e1 hS hA hf hL hF
    obtain ⟨t2, a1, b1⟩ := kk r u t T'.heap (locs ++ L) e1.symm (by rw [← e2]; exact X'.warmed.alike) hp hb k1 k2 k3 T' rfl X'
    exact ⟨t2, st t2 a1, b1⟩
  · obtain ⟨k1, k2, k3⟩ := vx_keep h0 e1 hS hAX hf hL hF
    obtain ⟨t2, a1, b1⟩ := kx E ce q u t T'.heap (locs ++ L) e1.symm (by rw [← e2]; exact X'.warmed.alike) hp hb k1 k2 k3 (by rw [e1]; exact hce) hcv hcl T' rfl X'
    exact ⟨t2, st.trans a1, b1⟩
theorem vx_calll {S SX : Type} {post : Int64 → S → Prop} {px : SX → Prop} {B : S → State → Prop} {BX : String → SX → State → Prop} {AX : Nat → Prop} (hr : vx_Run p l e R s m args below meth c H locs cells slots mc ms (F0 m pc ls st0) rest (va_Ql post B A1 a) (vx_X px BX AX) free) (hS : va_S A0 H0 H locs) (hA : ∀ q, q < H.size → A1 q → A0 q) (hf : ∀ q, free q → A0 q) (hAX : ∀ q, q < H.size → AX q → A0 q)
    (kx : ∀ (E : String) (ce : Cell) (q9 : Addr) (u : SX) (t : State) (H1 : Heap) (locs1 : List Loc), t.heap = H1 → s.vm.Alike t.vm → px u → BX E u t → H.size ≤ H1.size → (∀ q : Nat, q < H.size → ¬ AX q → H1[q]? = H[q]?) → va_S A0 H0 H1 locs1 → H1[q9]? = some ce → ce.vm = .none → s.vm.findClass E = some ce.cls → vx_W p l e R s m args below meth c H1 locs1 (cells + mc) (slots + ms) Q (F0 m pc ls rest) q9)
    (kk : ∀ (r : Int64) (u : S) (t : State) (H1 : Heap) (locs1 : List Loc), t.heap = H1 → s.vm.Alike t.vm → post r u → B u t → H.size ≤ H1.size → (∀ q : Nat, q < H.size → ¬ A1 q → H1[q]? = H[q]?) → va_S A0 H0 H1 locs1 → W p l e R s m args below meth c H1 locs1 (cells + mc) (slots + ms) Q (F0 m (pc + 3) ls (.long r :: rest))) : W p l e R s m args below meth c H locs cells slots Q (F0 m pc ls st0) := by
  intro T hT X
  rcases hr T hT X with ⟨v, st₀, t, T', L, h0, X', hL, e1, e2, ⟨⟨r, u, hv, hp, hb⟩, hF⟩, st⟩ | ⟨q, st₀, t, T', L, E, ce, h0, X', hL, e1, e2, ⟨u, hp, hb, hF⟩, hce, hcv, hcl, st⟩
  · cases hv
    obtain ⟨k1, k2, k3⟩ := vx_keep h0 e1 hS hA hf hL hF
    obtain ⟨t2, a1, b1⟩ := kk r u t T'.heap (locs ++ L) e1.symm (by rw [← e2]; exact X'.warmed.alike) hp hb k1 k2 k3 T' rfl X'
    exact ⟨t2, st t2 a1, b1⟩
  · obtain ⟨k1, k2, k3⟩ := vx_keep h0 e1 hS hAX hf hL hF
    obtain ⟨t2, a1, b1⟩ := kx E ce q u t T'.heap (locs ++ L) e1.symm (by rw [← e2]; exact X'.warmed.alike) hp hb k1 k2 k3 (by rw [e1]; exact hce) hcv hcl T' rfl X'
    exact ⟨t2, st.trans a1, b1⟩
theorem vx_callf {S SX : Type} {post : UInt32 → S → Prop} {px : SX → Prop} {B : S → State → Prop} {BX : String → SX → State → Prop} {AX : Nat → Prop} (hr : vx_Run p l e R s m args below meth c H locs cells slots mc ms (F0 m pc ls st0) rest (va_Qf post B A1 a) (vx_X px BX AX) free) (hS : va_S A0 H0 H locs) (hA : ∀ q, q < H.size → A1 q → A0 q) (hf : ∀ q, free q → A0 q) (hAX : ∀ q, q < H.size → AX q → A0 q)
    (kx : ∀ (E : String) (ce : Cell) (q9 : Addr) (u : SX) (t : State) (H1 : Heap) (locs1 : List Loc), t.heap = H1 → s.vm.Alike t.vm → px u → BX E u t → H.size ≤ H1.size → (∀ q : Nat, q < H.size → ¬ AX q → H1[q]? = H[q]?) → va_S A0 H0 H1 locs1 → H1[q9]? = some ce → ce.vm = .none → s.vm.findClass E = some ce.cls → vx_W p l e R s m args below meth c H1 locs1 (cells + mc) (slots + ms) Q (F0 m pc ls rest) q9)
    (kk : ∀ (r : UInt32) (u : S) (t : State) (H1 : Heap) (locs1 : List Loc), t.heap = H1 → s.vm.Alike t.vm → post r u → B u t → H.size ≤ H1.size → (∀ q : Nat, q < H.size → ¬ A1 q → H1[q]? = H[q]?) → va_S A0 H0 H1 locs1 → W p l e R s m args below meth c H1 locs1 (cells + mc) (slots + ms) Q (F0 m (pc + 3) ls (.float r :: rest))) : W p l e R s m args below meth c H locs cells slots Q (F0 m pc ls st0) := by
  intro T hT X
  rcases hr T hT X with ⟨v, st₀, t, T', L, h0, X', hL, e1, e2, ⟨⟨r, u, hv, hp, hb⟩, hF⟩, st⟩ | ⟨q, st₀, t, T', L, E, ce, h0, X', hL, e1, e2, ⟨u, hp, hb, hF⟩, hce, hcv, hcl, st⟩
  · cases hv
    obtain ⟨k1, k2, k3⟩ := vx_keep h0 e1 hS hA hf hL hF
    obtain ⟨t2, a1, b1⟩ := kk r u t T'.heap (locs ++ L) e1.symm (by rw [← e2]; exact X'.warmed.alike) hp hb k1 k2 k3 T' rfl X'
    exact ⟨t2, st t2 a1, b1⟩
  · obtain ⟨k1, k2, k3⟩ := vx_keep h0 e1 hS hAX hf hL hF
    obtain ⟨t2, a1, b1⟩ := kx E ce q u t T'.heap (locs ++ L) e1.symm (by rw [← e2]; exact X'.warmed.alike) hp hb k1 k2 k3 (by rw [e1]; exact hce) hcv hcl T' rfl X'
    exact ⟨t2, st.trans a1, b1⟩
theorem vx_calld {S SX : Type} {post : UInt64 → S → Prop} {px : SX → Prop} {B : S → State → Prop} {BX : String → SX → State → Prop} {AX : Nat → Prop} (hr : vx_Run p l e R s m args below meth c H locs cells slots mc ms (F0 m pc ls st0) rest (va_Qd post B A1 a) (vx_X px BX AX) free) (hS : va_S A0 H0 H locs) (hA : ∀ q, q < H.size → A1 q → A0 q) (hf : ∀ q, free q → A0 q) (hAX : ∀ q, q < H.size → AX q → A0 q)
    (kx : ∀ (E : String) (ce : Cell) (q9 : Addr) (u : SX) (t : State) (H1 : Heap) (locs1 : List Loc), t.heap = H1 → s.vm.Alike t.vm → px u → BX E u t → H.size ≤ H1.size → (∀ q : Nat, q < H.size → ¬ AX q → H1[q]? = H[q]?) → va_S A0 H0 H1 locs1 → H1[q9]? = some ce → ce.vm = .none → s.vm.findClass E = some ce.cls → vx_W p l e R s m args below meth c H1 locs1 (cells + mc) (slots + ms) Q (F0 m pc ls rest) q9)
    (kk : ∀ (r : UInt64) (u : S) (t : State) (H1 : Heap) (locs1 : List Loc), t.heap = H1 → s.vm.Alike t.vm → post r u → B u t → H.size ≤ H1.size → (∀ q : Nat, q < H.size → ¬ A1 q → H1[q]? = H[q]?) → va_S A0 H0 H1 locs1 → W p l e R s m args below meth c H1 locs1 (cells + mc) (slots + ms) Q (F0 m (pc + 3) ls (.double r :: rest))) : W p l e R s m args below meth c H locs cells slots Q (F0 m pc ls st0) := by
  intro T hT X
  rcases hr T hT X with ⟨v, st₀, t, T', L, h0, X', hL, e1, e2, ⟨⟨r, u, hv, hp, hb⟩, hF⟩, st⟩ | ⟨q, st₀, t, T', L, E, ce, h0, X', hL, e1, e2, ⟨u, hp, hb, hF⟩, hce, hcv, hcl, st⟩
  · cases hv
    obtain ⟨k1, k2, k3⟩ := vx_keep h0 e1 hS hA hf hL hF
    obtain ⟨t2, a1, b1⟩ := kk r u t T'.heap (locs ++ L) e1.symm (by rw [← e2]; exact X'.warmed.alike) hp hb k1 k2 k3 T' rfl X'
    exact ⟨t2, st t2 a1, b1⟩
  · obtain ⟨k1, k2, k3⟩ := vx_keep h0 e1 hS hAX hf hL hF
    obtain ⟨t2, a1, b1⟩ := kx E ce q u t T'.heap (locs ++ L) e1.symm (by rw [← e2]; exact X'.warmed.alike) hp hb k1 k2 k3 (by rw [e1]; exact hce) hcv hcl T' rfl X'
    exact ⟨t2, st.trans a1, b1⟩
theorem vx_callv {S SX : Type} {post : S → Prop} {px : SX → Prop} {B : S → State → Prop} {BX : String → SX → State → Prop} {AX : Nat → Prop} (hr : vx_Run p l e R s m args below meth c H locs cells slots mc ms (F0 m pc ls st0) rest (va_Qv post B A1 a) (vx_X px BX AX) free) (hS : va_S A0 H0 H locs) (hA : ∀ q, q < H.size → A1 q → A0 q) (hf : ∀ q, free q → A0 q) (hAX : ∀ q, q < H.size → AX q → A0 q)
    (kx : ∀ (E : String) (ce : Cell) (q9 : Addr) (u : SX) (t : State) (H1 : Heap) (locs1 : List Loc), t.heap = H1 → s.vm.Alike t.vm → px u → BX E u t → H.size ≤ H1.size → (∀ q : Nat, q < H.size → ¬ AX q → H1[q]? = H[q]?) → va_S A0 H0 H1 locs1 → H1[q9]? = some ce → ce.vm = .none → s.vm.findClass E = some ce.cls → vx_W p l e R s m args below meth c H1 locs1 (cells + mc) (slots + ms) Q (F0 m pc ls rest) q9)
    (kk : ∀ (u : S) (t : State) (H1 : Heap) (locs1 : List Loc), t.heap = H1 → s.vm.Alike t.vm → post u → B u t → H.size ≤ H1.size → (∀ q : Nat, q < H.size → ¬ A1 q → H1[q]? = H[q]?) → va_S A0 H0 H1 locs1 → W p l e R s m args below meth c H1 locs1 (cells + mc) (slots + ms) Q (F0 m (pc + 3) ls (rest))) : W p l e R s m args below meth c H locs cells slots Q (F0 m pc ls st0) := by
  intro T hT X
  rcases hr T hT X with ⟨v, st₀, t, T', L, h0, X', hL, e1, e2, ⟨⟨u, hv, hp, hb⟩, hF⟩, st⟩ | ⟨q, st₀, t, T', L, E, ce, h0, X', hL, e1, e2, ⟨u, hp, hb, hF⟩, hce, hcv, hcl, st⟩
  · cases hv
    obtain ⟨k1, k2, k3⟩ := vx_keep h0 e1 hS hA hf hL hF
    obtain ⟨t2, a1, b1⟩ := kk u t T'.heap (locs ++ L) e1.symm (by rw [← e2]; exact X'.warmed.alike) hp hb k1 k2 k3 T' rfl X'
    exact ⟨t2, st t2 a1, b1⟩
  · obtain ⟨k1, k2, k3⟩ := vx_keep h0 e1 hS hAX hf hL hF
    obtain ⟨t2, a1, b1⟩ := kx E ce q u t T'.heap (locs ++ L) e1.symm (by rw [← e2]; exact X'.warmed.alike) hp hb k1 k2 k3 (by rw [e1]; exact hce) hcv hcl T' rfl X'
    exact ⟨t2, st.trans a1, b1⟩
/-- caught by the row x of this method's table; the rows ahead don't take it -/
theorem vx_catch {own name : String} {E : String} {ce : Cell} {q : Addr} (hown : s.vm.findClass own = some m.cls) (pre : List ExceptionTableEntry) (x : ExceptionTableEntry) (suf : List ExceptionTableEntry) (hsplit : c.exceptionTable.toList = pre ++ x :: suf)
    (hpass : ∀ z ∈ pre, covers z pc = false ∨ (z.catchType ≠ 0 ∧ ∃ nm : String, (Cond.classLink own z.catchType nm).before args s = true ∧ va_Nc E nm s)) (hx : covers x pc = true) (h0 : x.catchType ≠ 0)
    (hlink : (Cond.classLink own x.catchType name).before args s = true) (hcast : (Cond.castable E name).before args s = true) (hcell : H[q]? = some ce) (hv : ce.vm = .none) (hcl : s.vm.findClass E = some ce.cls)
    (kk : W p l e R s m args below meth c H locs cells slots Q (F0 m x.handlerPc ls [.ref q])) : vx_W p l e R s m args below meth c H locs cells slots Q (F0 m pc ls rest) q := by
  intro T hT X
  have hpl : e.platform.magicAccessors = ({} : Platform).magicAccessors := by rw [X.admits.platform]
  obtain ⟨c3, c4, hc3, hc4, hasg⟩ := Cond.castable_spec hcast
  cases Option.some.inj (hc3.symm.trans hcl)
  obtain ⟨c5, hc5, hcl5⟩ := Cond.classLink_spec hown hlink e.platform hpl
  cases Option.some.inj (hc4.symm.trans hc5)
  obtain ⟨vm', X', st⟩ := X.thenCaughtThrough q (g := F0 m pc ls rest) rfl (Steps.refl _) (by rw [hT]; exact hcell) (by rw [hv]; rfl) (by obtain ⟨k9, h9, -⟩ := Vm.findClass_spec hcl; exact ⟨k9, h9⟩) pre x suf hsplit
    (fun z hz => by
      rcases hpass z hz with h | ⟨hz0, nm, hl1, hn1⟩
      · exact Or.inl h
      · obtain ⟨c6, hc6, hcl6⟩ := Cond.classLink_spec hown hl1 e.platform hpl
        obtain ⟨a8, b8, h1, h2, h3⟩ := hn1
        cases Option.some.inj (h1.symm.trans hcl)
        cases Option.some.inj (h2.symm.trans hc6)
        exact Or.inr ⟨hz0, _, hcl6, h3⟩) hx (Or.inr ⟨h0, c4, hcl5, hasg⟩)
  obtain ⟨t, a1, b1⟩ := kk (T.setVm vm') hT X'
  exact ⟨t, st.trans a1, b1⟩
end Rows
section Ends
variable {p : Program} {l : Launch} {e : Env} {R : Room} {s : State} {m : MethodId} {args : Array Value} {below : List Frame} {meth : Method} {c : Code} {H : Heap} {locs : List Loc} {cells slots : Nat} {Q : State → Prop}
variable {mc ms : Nat} {free : Addr → Prop} {A0 A1 : Nat → Prop} {H0 : Heap} {a : Array Value} {ls : Array Slot} {st0 rest : List Value}
variable {Qc : Array Value → State → Outcome → State → Prop} {XC : String → State → State → Prop}
/-- what a body that may throw owes at its end -/
def vx_MQ (below : List Frame) (Qc : Array Value → State → Outcome → State → Prop) (XC : String → State → State → Prop) (a : Array Value) (s : State) (mc ms : Nat) (free : Addr → Prop) : State → Prop := fun t =>
  ∃ o, t.status = .running ∧ Ended t below o ∧ vx_Q Qc XC mc ms free a s o t
theorem vx_ret {g : JFrame} {mc ms : Nat} (k : W p l e R s m args below meth c H locs cells slots (MQ below Qc args s mc ms free) g) : W p l e R s m args below meth c H locs cells slots (vx_MQ below Qc XC args s mc ms free) g := by
  intro T hT X
  obtain ⟨t, a1, o, b1, b2, b3, b4⟩ := k T hT X
  exact ⟨t, a1, o, b1, b2, Or.inl ⟨b3, b4⟩⟩
/-- not caught here: it goes on to the caller -/
theorem vx_widen {g : JFrame} {q : Addr} {k n : Nat} (h1 : cells ≤ k) (h2 : slots ≤ n) (kk : vx_W p l e R s m args below meth c H locs k n Q g q) : vx_W p l e R s m args below meth c H locs cells slots Q g q := fun T hT X => kk T hT (stand_widen X h1 h2)
theorem vx_out {pc : Nat} {E : String} {ce : Cell} {q : Addr} {mc ms : Nat} (hout : ∀ x ∈ c.exceptionTable.toList, covers x pc = false) (hlocks : meth.locks = false) (hcell : H[q]? = some ce) (hv : ce.vm = .none) (hcl : s.vm.findClass E = some ce.cls)
    (hx : ∀ t : State, t.heap = H → s.vm.Alike t.vm → XC E s t) (hf : ∀ z ∈ locs, free z.base) (hc : cells ≤ mc) (hs : slots ≤ ms) :
    vx_W p l e R s m args below meth c H locs cells slots (vx_MQ below Qc XC args s mc ms free) (F0 m pc ls rest) q := by
  intro T hT X
  obtain ⟨st1, hrun, hend, hW, hsm⟩ := X.leaveThrown q (g := F0 m pc ls rest) rfl rfl rfl hout hlocks
  have hcell9 : (T.setFrames (.throwing q :: below)).heap[q]? = some ce := by
    show T.heap[q]? = some ce
    rw [hT]; exact hcell
  exact ⟨_, st1, .threw q, hrun, hend, Or.inr ⟨q, rfl, E, ce, locs, hx _ hT hW.alike, hcell9, hv, hcl, hW, hsm.mono hc hs, hf⟩⟩
theorem vx_frame {U : State} {k n : Nat} (h : s.sameButNew ({ U with vm := s.vm } : State) locs k n) : s.heap.size ≤ U.heap.size ∧ ∀ q : Nat, q < s.heap.size → (∀ z ∈ locs, z.base ≠ q) → U.heap[q]? = s.heap[q]? := by
  obtain ⟨-, h2, -, -, -, h6⟩ := h
  refine ⟨h2, fun q hq hz => ?_⟩
  obtain ⟨c9, e1, e2, e3, e4⟩ := h6 q _ (Array.getElem?_eq_getElem hq)
  have hs : c9.slots = (s.heap[q]).slots := Array.ext_getElem? fun i => e4 i fun hm => hz _ hm rfl
  have h9 : c9 = s.heap[q] := by
    rw [hs] at e2
    exact e2
  have e5 : U.heap[q]? = some c9 := e1
  rw [e5, h9, Array.getElem?_eq_getElem hq]
/-- the words of a throw but the four that speak of the heap -/
def vx_no (w : Cond) : Bool := decide (w ≠ .isRef (.static Bundle.tN "UNASSIGNED_STACK" Bundle.steD)) && decide (w ≠ .isRef (.static Bundle.tN "SUPPRESSED_SENTINEL" Bundle.listD)) && decide (w ≠ .laysStatic Bundle.tN "UNASSIGNED_STACK" Bundle.steD) && decide (w ≠ .laysStatic Bundle.tN "SUPPRESSED_SENTINEL" Bundle.listD)
def vx_at0 (own : String) (ic : Nat) (X : String) (names : List String) : List Cond := (Bundle.ownAtoms0 own ic X names).filter vx_no
def vx_atS (own : String) (ic : Nat) (X : String) (names : List String) : List Cond := (Bundle.ownAtoms own ic X names).filter vx_no
/-- a word that the tables alone decide, or a good one -/
def vx_ot (w : Cond) : Bool := w.onTables || goodWord w
theorem vx_ot_at {args a' : Array Value} {s U : State} {w : Cond} (hW : s.WarmedH U.vm) (hvm : s.vm = U.vm) (hg : vx_ot w = true) (h : w.before args s = true) : w.before a' U = true := by
  simp only [vx_ot, Bool.or_eq_true] at hg
  rcases hg with hg | hg
  · exact va_tabs hg hvm h
  · exact word_at hW (good_of_word hg) h
/-- a list's words: the good ones out of the method's own list, the others by premises of their own -/
theorem vx_hat {args : Array Value} {s : State} {L B : List Cond} (h1 : ∀ w ∈ L.filter goodWord, w.before args s = true) (h2 : ∀ w ∈ L.filter (fun w => !goodWord w), w ∈ B) (h3 : ∀ w ∈ B, w.before args s = true) : ∀ w ∈ L, w.before args s = true := by
  intro w hw
  by_cases g : goodWord w = true
  · exact h1 w (List.mem_filter.mpr ⟨hw, g⟩)
  · refine h3 w (h2 w (List.mem_filter.mpr ⟨hw, ?_⟩))
    show (!goodWord w) = true
    cases hgw : goodWord w
    · rfl
    · exact absurd hgw g
theorem vx_c {args : Array Value} {s : State} {w : Cond} {B : List Cond} (h : w.before args s = true) (t : ∀ w ∈ B, w.before args s = true) : ∀ w' ∈ w :: B, w'.before args s = true := fun w' h' => (List.mem_cons.mp h').elim (fun e => by rw [e]; exact h) (t w')
theorem vx_n {args : Array Value} {s : State} : ∀ w ∈ ([] : List Cond), w.before args s = true := fun _ h => nomatch h
theorem vx_own {args : Array Value} {s : State} {L : List Cond} (h1 : ∀ w ∈ L.filter vx_no, w.before args s = true)
    (hU : (Cond.isRef (.static Bundle.tN "UNASSIGNED_STACK" Bundle.steD)).before args s = true) (hN : (Cond.isRef (.static Bundle.tN "SUPPRESSED_SENTINEL" Bundle.listD)).before args s = true)
    (lU : (Cond.laysStatic Bundle.tN "UNASSIGNED_STACK" Bundle.steD).before args s = true) (lN : (Cond.laysStatic Bundle.tN "SUPPRESSED_SENTINEL" Bundle.listD).before args s = true) : ∀ w ∈ L, w.before args s = true := by
  intro w hw
  by_cases e1 : w = .isRef (.static Bundle.tN "UNASSIGNED_STACK" Bundle.steD)
  · rw [e1]; exact hU
  · by_cases e2 : w = .isRef (.static Bundle.tN "SUPPRESSED_SENTINEL" Bundle.listD)
    · rw [e2]; exact hN
    · by_cases e3 : w = .laysStatic Bundle.tN "UNASSIGNED_STACK" Bundle.steD
      · rw [e3]; exact lU
      · by_cases e4 : w = .laysStatic Bundle.tN "SUPPRESSED_SENTINEL" Bundle.listD
        · rw [e4]; exact lN
        · exact h1 w (List.mem_filter.mpr ⟨hw, by unfold vx_no; rw [decide_eq_true e1, decide_eq_true e2, decide_eq_true e3, decide_eq_true e4]; rfl⟩)
/-- where a static field lies, its class's statics cell in H -/
def vx_L (C n d : String) (A : Nat → Prop) (U : State) (H : Heap) : Prop := ∃ (c : ClassId) (k : Class) (i : Nat) (f : Field) (a : Nat) (cell : Cell), U.vm.findClass C = some c ∧ U.fieldFound? C n d = some (c, k, i, f) ∧ f.isStatic = true ∧ k.statics = some a ∧ H[a]? = some cell ∧ cell.vm.isStatics = true ∧ cell.cls = c ∧ f.slot < cell.slots.size ∧ k.staticTypes[f.slot]? = some f.type ∧ ¬ A a
theorem vx_L.moved {C n d : String} {A : Nat → Prop} {u U : State} {H : Heap} (hvm : u.vm.Alike U.vm) (h : vx_L C n d A u H) : vx_L C n d A U H := by
  obtain ⟨c, k, i, f, a, cell, h1, h2, h3, h4, h5, h6, h7, h8, h9, h10⟩ := h
  obtain ⟨k', hi', he⟩ := State.fieldFound?_setVm hvm h2
  exact ⟨c, k', i, f, a, cell, by rw [hvm.findClass]; exact h1, hi', h3, by rw [he]; exact h4, h5, h6, h7, h8, by rw [he]; exact h9, h10⟩
theorem vx_L.kept {C n d : String} {A : Nat → Prop} {U : State} {H H1 : Heap} (h : vx_L C n d A U H) (hq : ∀ a : Nat, a < H.size → ¬ A a → H1[a]? = H[a]?) : vx_L C n d A U H1 := by
  obtain ⟨c, k, i, f, a, cell, h1, h2, h3, h4, h5, h6, h7, h8, h9, h10⟩ := h
  exact ⟨c, k, i, f, a, cell, h1, h2, h3, h4, by rw [hq a (Array.getElem?_eq_some_iff.mp h5).1 h10]; exact h5, h6, h7, h8, h9, h10⟩
theorem vx_L.narrow {C n d : String} {A B : Nat → Prop} {U : State} {H : Heap} (h : vx_L C n d A U H) (hAB : ∀ q, B q → A q) : vx_L C n d B U H := by
  obtain ⟨c, k, i, f, a, cell, h1, h2, h3, h4, h5, h6, h7, h8, h9, h10⟩ := h
  exact ⟨c, k, i, f, a, cell, h1, h2, h3, h4, h5, h6, h7, h8, h9, fun z => h10 (hAB _ z)⟩
theorem vx_L.word {C n d : String} {A : Nat → Prop} {s : State} {args : Array Value} (h : vx_L C n d A s s.heap) : (Cond.laysStatic C n d).before args s = true := by
  obtain ⟨c, k, i, f, a, cell, h1, h2, h3, h4, h5, h6, h7, h8, h9, -⟩ := h
  show (Cond.laysStatic C n d).holds args s none s [] = true
  exact Cond.laysStatic_of h1 h2 h3 h4 h5 h6 h7 h8 h9
/-- .. and what it holds: null or some reference -/
def vx_Zq (C n d : String) (A : Nat → Prop) (U : State) (H : Heap) : Prop := va_Zq C n d A U H ∧ vx_L C n d A U H
theorem vx_Zq.moved {C n d : String} {A : Nat → Prop} {u U : State} {H : Heap} (hvm : u.vm.Alike U.vm) (h : vx_Zq C n d A u H) : vx_Zq C n d A U H := ⟨va_Zq.moved hvm h.1, vx_L.moved hvm h.2⟩
theorem vx_Zq.kept {C n d : String} {A : Nat → Prop} {U : State} {H H1 : Heap} (h : vx_Zq C n d A U H) (hq : ∀ a : Nat, a < H.size → ¬ A a → H1[a]? = H[a]?) : vx_Zq C n d A U H1 := ⟨va_Zq.kept h.1 hq, vx_L.kept h.2 hq⟩
theorem vx_Zq.narrow {C n d : String} {A B : Nat → Prop} {U : State} {H : Heap} (h : vx_Zq C n d A U H) (hAB : ∀ q, B q → A q) : vx_Zq C n d B U H := ⟨va_Zq.narrow h.1 hAB, vx_L.narrow h.2 hAB⟩
theorem vx_Zqof {args : Array Value} {s : State} {C n d : String} {A : Nat → Prop} (hl : (Cond.laysStatic C n d).before args s = true) (hini : (Cond.initialized C).before args s = true) (h : (Cond.isRef (.static C n d)).before args s = true) (hA : ∀ a : Nat, a < s.heap.size → ¬ A a) : vx_Zq C n d A s s.heap := by
  refine ⟨va_Zqof hl hini h hA, ?_⟩
  obtain ⟨c, k, i, f, a, cell, h1, h2, h3, h4, h5, h6, h7, h8, h9⟩ := Cond.laysStatic_spec hl
  exact ⟨c, k, i, f, a, cell, h1, h2, h3, h4, h5, h6, h7, h8, h9, hA a (Array.getElem?_eq_some_iff.mp h5).1⟩
theorem vx_isRef {C n d : String} {v : Value} {A : Nat → Prop} {s : State} {args : Array Value} (h : va_Z C n d v A s s.heap) (hv : v.isRef = true) : (Cond.isRef (.static C n d)).before args s = true := by
  obtain ⟨cf, kf, fi, f, a, cell, h1, h2, h3, h4, h5, h6, h7, -⟩ := h
  have he : (Term.static C n d).eval args s none [] s = some v := by
    simp [Term.eval, State.fieldNamed?, h1, h2, h4, h5, h6, h7]
  simp only [Cond.before, Cond.holds, Cond.value, he]
  cases v <;> simp_all [Value.isRef]
theorem vx_isRefq {C n d : String} {A : Nat → Prop} {s : State} {args : Array Value} (h : va_Zq C n d A s s.heap) : (Cond.isRef (.static C n d)).before args s = true := by
  rcases h with h | ⟨t, h⟩
  · exact vx_isRef h rfl
  · exact vx_isRef h rfl
/-- the same frame, seen from here: as if the method were called anew in this heap -/
theorem vx_rebase {T : State} (X : Stand p l e R s m args below meth c T locs cells slots) {R' : Room} (hf : R'.frames ≤ R.frames) (hl : R'.locals ≤ R.locals) (hc : cells + R'.cells ≤ R.cells) (hs : slots + R'.slots ≤ R.slots) :
    Stand p l e R' ((T.setVm s.vm).setFrames (.invoking m args :: below)) m args below meth c T [] 0 0 := by
  have htop : (T.setVm s.vm).topJava?.isSome := X.here.top
  have hF : ((T.setVm s.vm).setFrames (.invoking m args :: below)).frames = .invoking m args :: below := State.frames_setFrames _ (State.cur_lt_of_top htop)
  obtain ⟨g₀, hg0⟩ := Option.isSome_iff_exists.mp htop
  obtain ⟨r, hr⟩ := State.topJava?_eq_some.mp hg0
  have hl9 : e.platform.stackLimits (T.setVm s.vm).me = e.platform.stackLimits s.me := X.limits
  have hb9 : (T.setVm s.vm).me.stackBytes = s.me.stackBytes := X.bytes
  refine ⟨X.admits, X.cas, X.clock, hF, ?_, X.hears, X.method, X.code, X.here, X.tail, X.warmed, ?_, ?_, ?_⟩
  · have h := X.room
    have hU : ((T.setVm s.vm).setFrames (.invoking m args :: below)).localsInUse = s.localsInUse := by
      rw [State.localsInUse_invoking hF (meth := meth) (c := c) X.method X.code, State.localsInUse_invoking X.frames X.method X.code]
    simp only [State.hasRoom, Bool.and_eq_true, decide_eq_true_eq] at h ⊢
    obtain ⟨⟨⟨⟨h1, h2, h3, h4, h5, h6⟩, h7⟩, h8⟩, h9⟩ := h
    rw [X.frames, List.length_cons] at h2 h3
    have q1 := X.heapSize
    have q2 := X.used
    simp only [hF, hU, List.length_cons, State.stackLimits_setFrames, State.stackBytes_setFrames, hl9, hb9]
    refine ⟨⟨⟨⟨by omega, by omega, by omega, by omega, by omega, h6⟩, ?_⟩, ?_⟩, X.book⟩
    · show T.heap.size + R'.cells ≤ e.platform.maxCells
      omega
    · show T.slotsUsed + R'.slots ≤ e.platform.maxSlots
      omega
  · rw [State.stackLimits_setFrames]; rfl
  · rw [State.stackBytes_setFrames]; rfl
  · refine ⟨?_, Nat.le_refl _, Nat.le_refl _, ?_, ?_, fun a c9 h9 => ⟨c9, h9, rfl, rfl, fun _ _ => rfl⟩⟩
    · obtain ⟨t, ht, -⟩ := State.frames_cons hr
      show T.setVm s.vm = { ((T.setVm s.vm).setFrames (.invoking m args :: below)).setFrames (T.setVm s.vm).frames with heap := T.heap, slotsUsed := T.slotsUsed }
      rw [State.setFrames_setFrames, State.setFrames_self ht]
      rfl
    · show T.slotsUsed = T.slotsUsed + ((T.heap.toList.drop T.heap.size).map (·.slots.size)).sum
      rw [List.drop_eq_nil_of_le (Nat.le_of_eq Array.length_toList)]
      rfl
    · show ((T.heap.toList.drop T.heap.size).map (·.slots.size)).sum ≤ 0
      rw [List.drop_eq_nil_of_le (Nat.le_of_eq Array.length_toList)]
      exact Nat.le_refl _
/-- 'throw new E()': new; dup; invokespecial; athrow -/
theorem vx_throw0 {cc : ByteArray} {pc : Nat} (hexec : p.tables.exec = Jvm.exec) (hb : c.code = cc) (hl : l.stackTraces = false) {own cls : String} {names : List String} {ik ic mc ms : Nat} {A : Nat → Prop}
    (hown : s.vm.findClass own = some m.cls) (hcls : Bundle.fit cls = true) (hnames : ∀ n ∈ names, Bundle.fit n = true)
    (hk : (Cond.classLink own ik cls).before args s = true) (hini : (Cond.initialized cls).before args s = true) (hat : ∀ w ∈ vx_at0 own ic cls names, w.before args s = true)
    (hgood : ∀ w ∈ Cond.classLink own ik cls :: Cond.initialized cls :: vx_at0 own ic cls names, vx_ot w = true)
    (hU : vx_Zq Bundle.tN "UNASSIGNED_STACK" Bundle.steD A s s.heap) (hN : vx_Zq Bundle.tN "SUPPRESSED_SENTINEL" Bundle.listD A s s.heap) (hS : va_S A s.heap H locs) (hsize : ls.size = c.maxLocals)
    (d0 : decode cc pc = .ok (.new ik, 3)) (d3 : decode cc (pc + 3) = .ok (.dup, 1)) (d4 : decode cc (pc + 4) = .ok (.invokespecial ic, 3)) (d7 : decode cc (pc + 7) = .ok (.athrow, 1))
    (hout : ∀ x ∈ c.exceptionTable.toList, covers x (pc + 7) = false)
    (hRframes : names.length + 3 < R.frames) (hRlocals : (rest.map fun v => v.category).sum + (13 * (names.length + 1) + 42) ≤ R.locals) (hRcells : cells + 1 ≤ R.cells) (hRslots : slots + 6 ≤ R.slots) (hlocks : meth.locks = false)
    (hx : ∀ t : State, s.vm.Alike t.vm → H.size ≤ t.heap.size → (∀ q : Nat, q < H.size → t.heap[q]? = H[q]?) → XC cls s t)
    (hf : ∀ z ∈ locs, free z.base) (hc : cells + 1 ≤ mc) (hs : slots + 6 ≤ ms) :
    W p l e R s m args below meth c H locs cells slots (vx_MQ below Qc XC args s mc ms free) (F0 m pc ls rest) := by
  intro T hT X
  have htr : e.platform.stackTraces = false := (show e.platform.stackTraces = l.stackTraces by rw [X.admits.platform]).trans hl
  have Y := vx_rebase X (R' := { frames := R.frames, locals := R.locals, cells := 1, slots := 6 }) (Nat.le_refl _) (Nat.le_refl _) hRcells hRslots
  obtain ⟨s', hA⟩ : ∃ z, z = (T.setVm s.vm).setFrames (.invoking m args :: below) := ⟨_, rfl⟩
  rw [← hA] at Y
  have hvm : s'.vm = s.vm := by rw [hA]; rfl
  have hhp : s'.heap = H := by rw [hA]; exact hT
  have hW0 : s.WarmedH s'.vm := by rw [hvm]; exact State.WarmedH.refl s
  have hat' : ∀ w ∈ vx_at0 own ic cls names, w.before args s' = true := fun w hw => vx_ot_at hW0 hvm.symm (hgood w (List.mem_cons_of_mem _ (List.mem_cons_of_mem _ hw))) (hat w hw)
  have hk' : (Cond.classLink own ik cls).before args s' = true := vx_ot_at hW0 hvm.symm (hgood _ List.mem_cons_self) hk
  have hini' : (Cond.initialized cls).before args s' = true := vx_ot_at hW0 hvm.symm (hgood _ (List.mem_cons_of_mem _ List.mem_cons_self)) hini
  have hU' : vx_Zq Bundle.tN "UNASSIGNED_STACK" Bundle.steD A s' s'.heap := by rw [hhp]; exact vx_Zq.moved hW0.alike (hU.kept hS.2.1)
  have hN' : vx_Zq Bundle.tN "SUPPRESSED_SENTINEL" Bundle.listD A s' s'.heap := by rw [hhp]; exact vx_Zq.moved hW0.alike (hN.kept hS.2.1)
  have h : ∀ w ∈ Bundle.ownAtoms0 own ic cls names, w.before args s' = true := vx_own hat' (vx_isRefq hU'.1) (vx_isRefq hN'.1) hU'.2.word hN'.2.word
  have hown' : s'.vm.findClass own = some m.cls := by rw [hvm]; exact hown
  have hins : (Cond.instantiable cls 6).before args s' = true := h _ (by simp [Bundle.ownAtoms0])
  obtain ⟨vm₁, cX, kX, hfX, hkX, -, -, X₁, st1⟩ := Y.newCold hexec (own := own) (C := cls) (index := ik) (n := 6) hown' hk' hins hini'
    (g := F0 m pc ls rest) rfl (by rw [hb]; exact d0) (Nat.le_refl _) (Nat.le_refl _)
  generalize hT1 : (T.setVm vm₁).pushCell { cls := cX, slots := kX.instanceTypes.map defaultValue, vm := .none } = T1 at X₁ st1
  have hcat : (Value.ref T.heap.size).category = 1 := rfl
  have hcellA : T1.heap[T.heap.size]? = some (freshCell cX kX) := by rw [← hT1]; exact State.heap_pushCell_size _ _
  have d3' : decode c.code (pc + 3) = .ok (.dup, 1) := by rw [hb]; exact d3
  obtain ⟨U, hsteps, hrun, hend, hW, hsame, ce, hce, hO⟩ := X₁.ctorThrow0 hexec htr (own := own) (cls := cls) (names := names) (ic := ic) hown' hcls hnames h (fun x hx => nomatch hx) hfX hkX hcellA (by rw [hhp, hT]; exact Nat.le_refl _)
    (g := { method := m, pc := pc + 4, locals := ls, stack := .ref T.heap.size :: .ref T.heap.size :: rest, locked := none }) rfl hsize rfl rfl (rest := rest) rfl
    (by rw [hb]; exact d4) (by rw [hb]; exact d7) hout hRframes (by simp only [List.map_cons, List.sum_cons, hcat]; omega) hlocks
  obtain ⟨f1, f2⟩ := vx_frame hsame
  rw [hhp] at f1 f2
  have hWs : s.WarmedH U.vm := State.WarmedH.trans hW0 hW
  have hcl : s.vm.findClass cls = some ce.cls := by
    have h9 := hO.cls
    rw [hvm] at h9
    exact h9
  have hall : s.sameButNew ({ U with vm := s.vm } : State) locs mc ms := by
    subst hA
    obtain ⟨e1, e2⟩ := hsame
    rw [State.setFrames_setFrames] at e1
    have h2 : (T.setVm s.vm).sameButNew ({ U with vm := s.vm } : State) [] (0 + 1) (0 + 6) := ⟨e1, e2⟩
    have h3 := X.same.trans h2
    rw [List.append_nil] at h3
    exact h3.mono hc hs
  refine ⟨U, ?_, .threw T.heap.size, hrun, hend, Or.inr ⟨T.heap.size, rfl, cls, ce, locs, hx U hWs.alike f1 (fun q hq => f2 q hq (fun z hz => nomatch hz)), hce, hO.vm, hcl, hWs, hall, hf⟩⟩
  refine st1 _ ?_
  show Steps p.tables e below (T1.setTop { method := m, pc := pc + 3, locals := ls, stack := .ref T.heap.size :: rest, locked := none }) _
  jvm_step X₁.here [X₁.here.top, hexec, d3', Value.category]
  exact hsteps
/-- 'throw new E("text")': new; dup; ldc; invokespecial; athrow -/
theorem vx_throwS {cc : ByteArray} {pc : Nat} (hexec : p.tables.exec = Jvm.exec) (hb : c.code = cc) (hl : l.stackTraces = false) {own cls text : String} {names : List String} {ik is ic mc ms sa : Nat} {A : Nat → Prop}
    (hown : s.vm.findClass own = some m.cls) (hcls : Bundle.fit cls = true) (hnames : ∀ n ∈ names, Bundle.fit n = true)
    (hk : (Cond.classLink own ik cls).before args s = true) (hini : (Cond.initialized cls).before args s = true) (hstr : vk_R own is text sa s) (hat : ∀ w ∈ vx_atS own ic cls names, w.before args s = true)
    (hgood : ∀ w ∈ Cond.classLink own ik cls :: Cond.initialized cls :: vx_atS own ic cls names, vx_ot w = true)
    (hU : vx_Zq Bundle.tN "UNASSIGNED_STACK" Bundle.steD A s s.heap) (hN : vx_Zq Bundle.tN "SUPPRESSED_SENTINEL" Bundle.listD A s s.heap) (hS : va_S A s.heap H locs) (hsize : ls.size = c.maxLocals)
    (d0 : decode cc pc = .ok (.new ik, 3)) (d3 : decode cc (pc + 3) = .ok (.dup, 1)) (d4 : decode cc (pc + 4) = .ok (.ldc is, 2)) (d6 : decode cc (pc + 6) = .ok (.invokespecial ic, 3)) (d9 : decode cc (pc + 9) = .ok (.athrow, 1))
    (hout : ∀ x ∈ c.exceptionTable.toList, covers x (pc + 9) = false)
    (hRframes : names.length + 3 < R.frames) (hRlocals : (rest.map fun v => v.category).sum + (13 * (names.length + 1) + 43) ≤ R.locals) (hRcells : cells + 1 ≤ R.cells) (hRslots : slots + 6 ≤ R.slots) (hlocks : meth.locks = false)
    (hx : ∀ t : State, s.vm.Alike t.vm → H.size ≤ t.heap.size → (∀ q : Nat, q < H.size → t.heap[q]? = H[q]?) → XC cls s t)
    (hf : ∀ z ∈ locs, free z.base) (hc : cells + 1 ≤ mc) (hs : slots + 6 ≤ ms) :
    W p l e R s m args below meth c H locs cells slots (vx_MQ below Qc XC args s mc ms free) (F0 m pc ls rest) := by
  intro T hT X
  have htr : e.platform.stackTraces = false := (show e.platform.stackTraces = l.stackTraces by rw [X.admits.platform]).trans hl
  have Y := vx_rebase X (R' := { frames := R.frames, locals := R.locals, cells := 1, slots := 6 }) (Nat.le_refl _) (Nat.le_refl _) hRcells hRslots
  obtain ⟨s', hA⟩ : ∃ z, z = (T.setVm s.vm).setFrames (.invoking m args :: below) := ⟨_, rfl⟩
  rw [← hA] at Y
  have hvm : s'.vm = s.vm := by rw [hA]; rfl
  have hhp : s'.heap = H := by rw [hA]; exact hT
  have hW0 : s.WarmedH s'.vm := by rw [hvm]; exact State.WarmedH.refl s
  have hat' : ∀ w ∈ vx_atS own ic cls names, w.before args s' = true := fun w hw => vx_ot_at hW0 hvm.symm (hgood w (List.mem_cons_of_mem _ (List.mem_cons_of_mem _ hw))) (hat w hw)
  have hk' : (Cond.classLink own ik cls).before args s' = true := vx_ot_at hW0 hvm.symm (hgood _ List.mem_cons_self) hk
  have hini' : (Cond.initialized cls).before args s' = true := vx_ot_at hW0 hvm.symm (hgood _ (List.mem_cons_of_mem _ List.mem_cons_self)) hini
  have hU' : vx_Zq Bundle.tN "UNASSIGNED_STACK" Bundle.steD A s' s'.heap := by rw [hhp]; exact vx_Zq.moved hW0.alike (hU.kept hS.2.1)
  have hN' : vx_Zq Bundle.tN "SUPPRESSED_SENTINEL" Bundle.listD A s' s'.heap := by rw [hhp]; exact vx_Zq.moved hW0.alike (hN.kept hS.2.1)
  have h : ∀ w ∈ Bundle.ownAtoms own ic cls names, w.before args s' = true := vx_own hat' (vx_isRefq hU'.1) (vx_isRefq hN'.1) hU'.2.word hN'.2.word
  have hown' : s'.vm.findClass own = some m.cls := by rw [hvm]; exact hown
  have hins : (Cond.instantiable cls 6).before args s' = true := h _ (by simp [Bundle.ownAtoms])
  obtain ⟨vm₁, cX, kX, hfX, hkX, -, -, X₁, st1⟩ := Y.newCold hexec (own := own) (C := cls) (index := ik) (n := 6) hown' hk' hins hini'
    (g := F0 m pc ls rest) rfl (by rw [hb]; exact d0) (Nat.le_refl _) (Nat.le_refl _)
  generalize hT1 : (T.setVm vm₁).pushCell { cls := cX, slots := kX.instanceTypes.map defaultValue, vm := .none } = T1 at X₁ st1
  have hcat : (Value.ref T.heap.size).category = 1 := rfl
  have hcellA : T1.heap[T.heap.size]? = some (freshCell cX kX) := by rw [← hT1]; exact State.heap_pushCell_size _ _
  have d3' : decode c.code (pc + 3) = .ok (.dup, 1) := by rw [hb]; exact d3
  have d4' : decode c.code (pc + 4) = .ok (.ldc is, 2) := by rw [hb]; exact d4
  have hstr' : vk_R own is text sa s' := vk_R.warm hW0 hstr
  obtain ⟨U, hsteps, hrun, hend, hW, hsame, ce, hce, hO⟩ := X₁.ctorThrowS hexec htr (own := own) (cls := cls) (names := names) (ic := ic) hown' hcls hnames h (fun x hx => nomatch hx) hfX hkX hcellA (by rw [hhp, hT]; exact Nat.le_refl _) (msg := .ref sa) rfl
    (g := { method := m, pc := pc + 6, locals := ls, stack := .ref sa :: .ref T.heap.size :: .ref T.heap.size :: rest, locked := none }) rfl hsize rfl rfl (rest := rest) rfl
    (by rw [hb]; exact d6) (by rw [hb]; exact d9) hout hRframes (by simp only [List.map_cons, List.sum_cons, hcat]; omega) hlocks
  obtain ⟨f1, f2⟩ := vx_frame hsame
  rw [hhp] at f1 f2
  have hWs : s.WarmedH U.vm := State.WarmedH.trans hW0 hW
  have hcl : s.vm.findClass cls = some ce.cls := by
    have h9 := hO.cls
    rw [hvm] at h9
    exact h9
  have hall : s.sameButNew ({ U with vm := s.vm } : State) locs mc ms := by
    subst hA
    obtain ⟨e1, e2⟩ := hsame
    rw [State.setFrames_setFrames] at e1
    have h2 : (T.setVm s.vm).sameButNew ({ U with vm := s.vm } : State) [] (0 + 1) (0 + 6) := ⟨e1, e2⟩
    have h3 := X.same.trans h2
    rw [List.append_nil] at h3
    exact h3.mono hc hs
  refine ⟨U, ?_, .threw T.heap.size, hrun, hend, Or.inr ⟨T.heap.size, rfl, cls, ce, locs, hx U hWs.alike f1 (fun q hq => f2 q hq (fun z hz => nomatch hz)), hce, hO.vm, hcl, hWs, hall, hf⟩⟩
  refine st1 _ ?_
  show Steps p.tables e below (T1.setTop { method := m, pc := pc + 3, locals := ls, stack := .ref T.heap.size :: rest, locked := none }) _
  jvm_step X₁.here [X₁.here.top, hexec, d3', Value.category]
  exact X₁.ldcString hexec (own := own) (text := text) (index := is) (a := sa) hown' hstr'.1 hstr'.2
    (g := { method := m, pc := pc + 4, locals := ls, stack := .ref T.heap.size :: .ref T.heap.size :: rest, locked := none }) rfl d4' _ hsteps
/-- 'throw new E("text")', the text by a wide index -/
theorem vx_throwSW {cc : ByteArray} {pc : Nat} (hexec : p.tables.exec = Jvm.exec) (hb : c.code = cc) (hl : l.stackTraces = false) {own cls text : String} {names : List String} {ik is ic mc ms sa : Nat} {A : Nat → Prop}
    (hown : s.vm.findClass own = some m.cls) (hcls : Bundle.fit cls = true) (hnames : ∀ n ∈ names, Bundle.fit n = true)
    (hk : (Cond.classLink own ik cls).before args s = true) (hini : (Cond.initialized cls).before args s = true) (hstr : vk_R own is text sa s) (hat : ∀ w ∈ vx_atS own ic cls names, w.before args s = true)
    (hgood : ∀ w ∈ Cond.classLink own ik cls :: Cond.initialized cls :: vx_atS own ic cls names, vx_ot w = true)
    (hU : vx_Zq Bundle.tN "UNASSIGNED_STACK" Bundle.steD A s s.heap) (hN : vx_Zq Bundle.tN "SUPPRESSED_SENTINEL" Bundle.listD A s s.heap) (hS : va_S A s.heap H locs) (hsize : ls.size = c.maxLocals)
    (d0 : decode cc pc = .ok (.new ik, 3)) (d3 : decode cc (pc + 3) = .ok (.dup, 1)) (d4 : decode cc (pc + 4) = .ok (.ldc_w is, 3)) (d7 : decode cc (pc + 7) = .ok (.invokespecial ic, 3)) (d10 : decode cc (pc + 10) = .ok (.athrow, 1))
    (hout : ∀ x ∈ c.exceptionTable.toList, covers x (pc + 10) = false)
    (hRframes : names.length + 3 < R.frames) (hRlocals : (rest.map fun v => v.category).sum + (13 * (names.length + 1) + 43) ≤ R.locals) (hRcells : cells + 1 ≤ R.cells) (hRslots : slots + 6 ≤ R.slots) (hlocks : meth.locks = false)
    (hx : ∀ t : State, s.vm.Alike t.vm → H.size ≤ t.heap.size → (∀ q : Nat, q < H.size → t.heap[q]? = H[q]?) → XC cls s t)
    (hf : ∀ z ∈ locs, free z.base) (hc : cells + 1 ≤ mc) (hs : slots + 6 ≤ ms) :
    W p l e R s m args below meth c H locs cells slots (vx_MQ below Qc XC args s mc ms free) (F0 m pc ls rest) := by
  intro T hT X
  have htr : e.platform.stackTraces = false := (show e.platform.stackTraces = l.stackTraces by rw [X.admits.platform]).trans hl
  have Y := vx_rebase X (R' := { frames := R.frames, locals := R.locals, cells := 1, slots := 6 }) (Nat.le_refl _) (Nat.le_refl _) hRcells hRslots
  obtain ⟨s', hA⟩ : ∃ z, z = (T.setVm s.vm).setFrames (.invoking m args :: below) := ⟨_, rfl⟩
  rw [← hA] at Y
  have hvm : s'.vm = s.vm := by rw [hA]; rfl
  have hhp : s'.heap = H := by rw [hA]; exact hT
  have hW0 : s.WarmedH s'.vm := by rw [hvm]; exact State.WarmedH.refl s
  have hat' : ∀ w ∈ vx_atS own ic cls names, w.before args s' = true := fun w hw => vx_ot_at hW0 hvm.symm (hgood w (List.mem_cons_of_mem _ (List.mem_cons_of_mem _ hw))) (hat w hw)
  have hk' : (Cond.classLink own ik cls).before args s' = true := vx_ot_at hW0 hvm.symm (hgood _ List.mem_cons_self) hk
  have hini' : (Cond.initialized cls).before args s' = true := vx_ot_at hW0 hvm.symm (hgood _ (List.mem_cons_of_mem _ List.mem_cons_self)) hini
  have hU' : vx_Zq Bundle.tN "UNASSIGNED_STACK" Bundle.steD A s' s'.heap := by rw [hhp]; exact vx_Zq.moved hW0.alike (hU.kept hS.2.1)
  have hN' : vx_Zq Bundle.tN "SUPPRESSED_SENTINEL" Bundle.listD A s' s'.heap := by rw [hhp]; exact vx_Zq.moved hW0.alike (hN.kept hS.2.1)
  have h : ∀ w ∈ Bundle.ownAtoms own ic cls names, w.before args s' = true := vx_own hat' (vx_isRefq hU'.1) (vx_isRefq hN'.1) hU'.2.word hN'.2.word
  have hown' : s'.vm.findClass own = some m.cls := by rw [hvm]; exact hown
  have hins : (Cond.instantiable cls 6).before args s' = true := h _ (by simp [Bundle.ownAtoms])
  obtain ⟨vm₁, cX, kX, hfX, hkX, -, -, X₁, st1⟩ := Y.newCold hexec (own := own) (C := cls) (index := ik) (n := 6) hown' hk' hins hini'
    (g := F0 m pc ls rest) rfl (by rw [hb]; exact d0) (Nat.le_refl _) (Nat.le_refl _)
  generalize hT1 : (T.setVm vm₁).pushCell { cls := cX, slots := kX.instanceTypes.map defaultValue, vm := .none } = T1 at X₁ st1
  have hcat : (Value.ref T.heap.size).category = 1 := rfl
  have hcellA : T1.heap[T.heap.size]? = some (freshCell cX kX) := by rw [← hT1]; exact State.heap_pushCell_size _ _
  have d3' : decode c.code (pc + 3) = .ok (.dup, 1) := by rw [hb]; exact d3
  have d4' : decode c.code (pc + 4) = .ok (.ldc_w is, 3) := by rw [hb]; exact d4
  have hstr' : vk_R own is text sa s' := vk_R.warm hW0 hstr
  obtain ⟨U, hsteps, hrun, hend, hW, hsame, ce, hce, hO⟩ := X₁.ctorThrowS hexec htr (own := own) (cls := cls) (names := names) (ic := ic) hown' hcls hnames h (fun x hx => nomatch hx) hfX hkX hcellA (by rw [hhp, hT]; exact Nat.le_refl _) (msg := .ref sa) rfl
    (g := { method := m, pc := pc + 7, locals := ls, stack := .ref sa :: .ref T.heap.size :: .ref T.heap.size :: rest, locked := none }) rfl hsize rfl rfl (rest := rest) rfl
    (by rw [hb]; exact d7) (by rw [hb]; exact d10) hout hRframes (by simp only [List.map_cons, List.sum_cons, hcat]; omega) hlocks
  obtain ⟨f1, f2⟩ := vx_frame hsame
  rw [hhp] at f1 f2
  have hWs : s.WarmedH U.vm := State.WarmedH.trans hW0 hW
  have hcl : s.vm.findClass cls = some ce.cls := by
    have h9 := hO.cls
    rw [hvm] at h9
    exact h9
  have hall : s.sameButNew ({ U with vm := s.vm } : State) locs mc ms := by
    subst hA
    obtain ⟨e1, e2⟩ := hsame
    rw [State.setFrames_setFrames] at e1
    have h2 : (T.setVm s.vm).sameButNew ({ U with vm := s.vm } : State) [] (0 + 1) (0 + 6) := ⟨e1, e2⟩
    have h3 := X.same.trans h2
    rw [List.append_nil] at h3
    exact h3.mono hc hs
  refine ⟨U, ?_, .threw T.heap.size, hrun, hend, Or.inr ⟨T.heap.size, rfl, cls, ce, locs, hx U hWs.alike f1 (fun q hq => f2 q hq (fun z hz => nomatch hz)), hce, hO.vm, hcl, hWs, hall, hf⟩⟩
  refine st1 _ ?_
  show Steps p.tables e below (T1.setTop { method := m, pc := pc + 3, locals := ls, stack := .ref T.heap.size :: rest, locked := none }) _
  jvm_step X₁.here [X₁.here.top, hexec, d3', Value.category]
  exact X₁.ldcStringW hexec (own := own) (text := text) (index := is) (a := sa) hown' hstr'.1 hstr'.2
    (g := { method := m, pc := pc + 4, locals := ls, stack := .ref T.heap.size :: .ref T.heap.size :: rest, locked := none }) rfl d4' _ hsteps
end Ends
section Bodies
variable {l : Launch}
theorem vx_ofW {y : MethodName} {ws ws' : List Cond} {rm : Room} {Pc : Array Value → State → Prop} {Qc : Array Value → State → Outcome → State → Prop} {XC : String → State → State → Prop} {mc ms : Nat} {free : Addr → Prop} {cc : ByteArray} {maxL : Nat} {ret : Option FieldType}
    (hy : plainName y.cls = true) (hw : ws = Cond.code y cc maxL ret :: ws')
    (body : ∀ p e s m args below meth c s₁, BodyLoose p l y (headSpec ws rm) cc maxL ret e s m args below meth c s₁ → c.maxLocals = maxL → (∀ x ∈ c.exceptionTable.toList, False) → Pc args s →
      W p l e (headSpec ws rm).room s m args below meth c s.heap [] 0 0 (vx_MQ below Qc XC args s mc ms free) (entryFrame m args maxL)) : vx_Met l y ws rm Pc Qc XC mc ms free := by
  refine MetFree.of_bodyS (code := cc) (maxLocals := maxL) (ret := ret) hy ?_ ?_
  · intro args s m h hn
    obtain ⟨meth, c, h1, h2, h3, h4, h5, h6, -, -⟩ := Cond.code_spec hn (atoms_spec (ws := ws) h _ (by rw [hw]; exact List.mem_cons_self))
    exact ⟨meth, c, h1, h2, h3, h4, h5, h6⟩
  · intro p e s m args below meth c s₁ B hml hP _
    have hh0 : s₁.heap = s.heap := by rw [B.state]; rfl
    have ht : ∀ x ∈ c.exceptionTable.toList, False := by
      obtain ⟨meth9, c9, h1, h2, -, -, -, -, h7, -⟩ := Cond.code_spec B.named (atoms_spec (ws := ws) B.pre _ (by rw [hw]; exact List.mem_cons_self))
      cases Option.some.inj (h1.symm.trans B.method)
      cases Option.some.inj (h2.symm.trans (Stand.of_body B).code)
      intro x hx
      rw [Array.isEmpty_iff.mp h7] at hx
      cases hx
    obtain ⟨t, a1, o, b1, b2, b3⟩ := body p e s m args below meth c s₁ B hml ht hP s₁ hh0 (Stand.of_body B)
    exact ⟨t, o, a1, b1, b2, b3⟩
/-- the table of a body with handlers -/
theorem vx_table {p : Program} {x y : MethodName} {S : Spec} {cc bytes : ByteArray} {maxL maxL' : Nat} {ret ret' : Option FieldType} {e : Env} {s s₁ : State} {m : MethodId} {args : Array Value} {below : List Frame} {meth : Method} {c : Code} {hh : List (Nat × Nat × Nat × Nat)}
    (B : BodyLoose p l y S cc maxL ret e s m args below meth c s₁) (h : (Cond.codeWith y bytes maxL' ret' hh).before args s = true) : c.exceptionTable.toList = tableOf hh := by
  obtain ⟨m9, meth9, c9, hn9, h1, h2, -, -, h6, -⟩ := Cond.codeWith_spec h
  cases Option.some.inj (hn9.symm.trans B.named)
  cases Option.some.inj (h1.symm.trans B.method)
  cases Option.some.inj (h2.symm.trans (Stand.of_body B).code)
  rw [← h6, table_eq]
end Bodies
end VXA
/-! ===== END ===== -/
/-! ===== BEGIN a static call of a method with an exception table ===== -/
section VXS
variable {p : Program} {l : Launch} {e : Env} {R : Room} {s : State} {m : MethodId} {args : Array Value} {below : List Frame} {meth : Method} {c : Code} {T : State} {H : Heap} {locs : List Loc} {cells slots : Nat}
abbrev vx_CSW (R : Room) (s : State) (args : Array Value) (own : String) (index : Nat) (y : MethodName) (bytes : ByteArray) (maxL : Nat) (ret : Option FieldType) (hh : List (Nat × Nat × Nat × Nat)) (ws : List Cond) (rm : Room) (mc ms n : Nat) : Prop :=
  (rm.cells = mc ∧ rm.slots = ms ∧ rm.frames + 1 ≤ R.frames ∧ 8 + (maxL + 11) + rm.locals ≤ R.locals ∧ (∀ w ∈ ws, ∀ (a' : Array Value) (U : State), s.WarmedH U.vm → w.before a' U = true) ∧ Cond.codeWith y bytes maxL ret hh ∈ ws) ∧
  (Cond.codeWith y bytes maxL ret hh).before args s = true ∧ (Cond.initialized y.cls).before args s = true ∧ (y.cls ≠ "java/lang/invoke/MethodHandle" ∧ y.cls ≠ "java/lang/invoke/VarHandle") ∧
  (∀ sig, parseMethodDescriptor y.desc = some sig → n = sig.parameters.length) ∧ (Cond.methodLink own index y).before args s = true ∧ (Cond.static y).before args s = true
theorem vx_cwSW {own : String} {index maxL mc ms : Nat} {y : MethodName} {bytes : ByteArray} {ret : Option FieldType} {hh : List (Nat × Nat × Nat × Nat)} {Ts ws ws' : List Cond} {rm : Room} (n : Nat) (ht : ∀ w ∈ Ts, w.before args s = true) (hT : GoodIn Ts (va_wsS own index y ws)) (hw : ws = Cond.codeWith y bytes maxL ret hh :: ws') (hrc : rm.cells = mc) (hrs : rm.slots = ms)
    (hd : y.cls ≠ "java/lang/invoke/MethodHandle" ∧ y.cls ≠ "java/lang/invoke/VarHandle" ∧ (parseMethodDescriptor y.desc).map (fun d => d.parameters.length) = some n) (hR : rm.frames + 1 ≤ R.frames ∧ 8 + (maxL + 11) + rm.locals ≤ R.locals) :
    vx_CSW R s args own index y bytes maxL ret hh ws rm mc ms n := by
  have ok : ∀ w ∈ va_wsS own index y ws, w.before args s = true := fun w h => ht w (hT w h).1
  have hG : GoodIn Ts ws := fun w h => hT w (by unfold va_wsS; exact List.mem_append_right _ h)
  have hc : Cond.codeWith y bytes maxL ret hh ∈ ws := by rw [hw]; exact List.mem_cons_self
  refine ⟨⟨hrc, hrs, hR.1, hR.2, pay_in ht hG, hc⟩, ht _ (hG _ hc).1, ok _ (by simp [va_wsS]), ⟨hd.1, hd.2.1⟩, fun sig h => ?_, ok _ (by simp [va_wsS]), ok _ (by simp [va_wsS])⟩
  have h2 := hd.2.2
  rw [h] at h2
  exact (Option.some.inj h2).symm
theorem vx_callSW (X : Stand p l e R s m args below meth c T locs cells slots) (hexec : p.tables.exec = Jvm.exec) {own : String} {index : Nat} {y : MethodName} {bytes : ByteArray} {maxL : Nat} {ret : Option FieldType} {hh : List (Nat × Nat × Nat × Nat)}
    (hown : s.vm.findClass own = some m.cls) (hlink : (Cond.methodLink own index y).before args s = true) (hstat : (Cond.static y).before args s = true) (hinit : (Cond.initialized y.cls).before args s = true)
    (hcode : (Cond.codeWith y bytes maxL ret hh).before args s = true) (hy : y.cls ≠ "java/lang/invoke/MethodHandle" ∧ y.cls ≠ "java/lang/invoke/VarHandle")
    {W9 : Nat} {Pre : Pt → Array Value → Prop} {Post : Pt → Array Value → Option Value → Pt → Prop} (hK : Back l R p e below s args y 3 W9 Pre Post)
    {g : JFrame} (hg : g.method = m) (hsize : g.locals.size = c.maxLocals) {argsL rest : List Value} (hlen : ∀ sig, parseMethodDescriptor y.desc = some sig → argsL.length = sig.parameters.length)
    (hstack : g.stack = argsL.reverse ++ rest) (hW : 2 * g.monitorRoom + (rest.map fun v => v.category).sum ≤ W9) (hdg : decode c.code g.pc = .ok (.invokestatic index, 3))
    (hpre : ∀ vm₁, s.WarmedH vm₁ → Pre ⟨T.setVm vm₁, locs, cells, slots⟩ argsL.toArray) :
    ∃ (v : Option Value) (vm₁ : Vm) (B : Pt), s.WarmedH vm₁ ∧ Stand p l e R s m args below meth c B.U B.locs B.cells B.slots ∧ Post ⟨T.setVm vm₁, locs, cells, slots⟩ argsL.toArray v B ∧
      ∀ target, Steps p.tables e below (B.U.setTop { g with pc := g.pc + 3, stack := v.toList ++ rest }) target → Steps p.tables e below (T.setTop g) target := by
  obtain ⟨mk, methM, cM, hnamed, hmethM, -, -, -, -, -, -, hsigM⟩ := Cond.codeWith_spec hcode
  have hstatic : methM.isStatic = true := Cond.static_spec hnamed hmethM hstat
  obtain ⟨kP, hkP, -⟩ := className_of_methodNamed hnamed
  have hinitP : kP.init = .initialized := Cond.initialized_spec (findClass_of_methodNamed hnamed) hkP hinit
  obtain ⟨vm₁, X₁, hstep₁⟩ := X.invokestatic hexec hown hlink hnamed hmethM hstatic hkP hinitP hy (g := g) hg (argsL := argsL) (rest := rest) (hlen _ hsigM) hstack hdg
  obtain ⟨v, B, X', hpost, hsteps⟩ := hK m meth c ⟨T.setVm vm₁, locs, cells, slots⟩ { g with stack := rest } (.invokestatic index) mk argsL.toArray X₁ hg hsize hdg hW (X₁.named hnamed) (hpre vm₁ X₁.warmed)
  exact ⟨v, vm₁, B, X₁.warmed, X', hpost, fun target h => hstep₁ _ fun acts => by rw [doInvoke_state]; exact hsteps.trans h⟩
theorem vx_runSW {y : MethodName} {bytes cc : ByteArray} {maxL nL mc ms n index : Nat} {ret : Option FieldType} {hh : List (Nat × Nat × Nat × Nat)} {ws : List Cond} {rm : Room} {Pc : Array Value → State → Prop} {Qc : Array Value → State → Outcome → State → Prop} {free : Addr → Prop} {Ts : List Cond} {own : String} {As rest : List Value} {g : JFrame}
    (S : CallFix p m c cc nL s args Ts own) (hM : Met l y ws rm Pc Qc mc ms free) (cw : vx_CSW R s args own index y bytes maxL ret hh ws rm mc ms n) (hp : PreS s H Pc As)
    (hg : g.method = m) (hn : As.length = n) (hsize : g.locals.size = nL) (hstack : g.stack = As.reverse ++ rest) (hW : 2 * g.monitorRoom + (rest.map fun v => v.category).sum ≤ 8) (hdg : decode cc g.pc = .ok (.invokestatic index, 3)) (hf : cells + mc ≤ R.cells ∧ slots + ms ≤ R.slots) :
    va_Run p l e R s m args below meth c H locs cells slots mc ms g rest (Qc As.toArray) (free) := by
  obtain ⟨⟨hrc, hrs, hfr, hlo, hws, hcw⟩, hcode, hini, hy, hlen, hl, hstt⟩ := cw
  have hK : Back l R p e below s args y 3 8 (PreOf R mc ms Pc) (PostOf Qc mc ms free) := va_backW (hh := hh) (bytes := bytes) (maxL := maxL) (ret := ret) hM hp.1 hrc hrs hfr hlo hws hcw (fun a' U hW => word_at hW (Or.inl (by first | rfl | simp [Cond.onTables, Cond.keeps, Cond.steady])) hini)
  obtain ⟨hx, hb, hml, ho, -⟩ := S
  intro T hT X
  obtain ⟨v, vm₁, ⟨U', l2, c2, s2⟩, hW₁, X', ⟨g', mk, t, L, e1, e2, hq, h1, hL, h2, h3⟩, st⟩ := vx_callSW X hx (hh := hh) (bytes := bytes) (maxL := maxL) (ret := ret) ho hl hstt hini hcode hy hK hg (hsize.trans hml.symm) (argsL := As) (rest := rest) (fun sig h => hn.trans (hlen sig h)) hstack hW (by rw [hb]; exact hdg)
    (fun vm₁ hW₁ => ⟨hf.1, hf.2, hp.2 (T.setVm vm₁) hT hW₁⟩)
  dsimp only [Pt.U, Pt.locs, Pt.cells, Pt.slots] at X' e1 e2 h1 h2 h3 st
  subst h1; subst h2; subst h3
  exact ⟨v, (T.setVm vm₁).calling g' mk As.toArray, t, U', L, hT, X', hL, e1, e2, hq, st⟩
/-- not caught here, past rows that name other classes: it goes on to the caller -/
theorem vx_outP {p : Program} {l : Launch} {e : Env} {R : Room} {s : State} {m : MethodId} {args : Array Value} {below : List Frame} {meth : Method} {c : Code} {H : Heap} {locs : List Loc} {cells slots : Nat} {free : Addr → Prop} {ls : Array Slot} {rest : List Value} {Qc : Array Value → State → Outcome → State → Prop} {XC : String → State → State → Prop}
    {pc : Nat} {own E : String} {ce : Cell} {q : Addr} {mc ms : Nat} (hown : s.vm.findClass own = some m.cls) (hlocks : meth.locks = false)
    (hpass : ∀ z ∈ c.exceptionTable.toList, covers z pc = false ∨ (z.catchType ≠ 0 ∧ ∃ nm : String, (Cond.classLink own z.catchType nm).before args s = true ∧ va_Nc E nm s)) (hcell : H[q]? = some ce) (hv : ce.vm = .none) (hcl : s.vm.findClass E = some ce.cls)
    (hx : ∀ t : State, t.heap = H → s.vm.Alike t.vm → XC E s t) (hf : ∀ z ∈ locs, free z.base) (hc : cells ≤ mc) (hs : slots ≤ ms) :
    vx_W p l e R s m args below meth c H locs cells slots (vx_MQ below Qc XC args s mc ms free) (F0 m pc ls rest) q := by
  intro T hT X
  have hpl : e.platform.magicAccessors = ({} : Platform).magicAccessors := by rw [X.admits.platform]
  obtain ⟨vm', hW', X', st⟩ := X.outThrough hlocks q (g := F0 m pc ls rest) rfl rfl rfl (cell := ce) (by rw [hT]; exact hcell) (by rw [hv]; rfl)
    (by obtain ⟨k9, h9, -⟩ := Vm.findClass_spec hcl; exact ⟨k9, h9⟩) (fun z hz => by
      rcases hpass z hz with h | ⟨hz0, nm, hl1, hn1⟩
      · exact Or.inl h
      · obtain ⟨c6, hc6, hcl6⟩ := Cond.classLink_spec hown hl1 e.platform hpl
        obtain ⟨a8, b8, h1, h2, h3⟩ := hn1
        cases Option.some.inj (h1.symm.trans hcl)
        cases Option.some.inj (h2.symm.trans hc6)
        exact Or.inr ⟨hz0, _, hcl6, h3⟩)
  obtain ⟨g₀, hfr⟩ := X'.frames_eq
  have hcell9 : ((T.setVm vm').setFrames (.throwing q :: below)).heap[q]? = some ce := by
    show T.heap[q]? = some ce
    rw [hT]; exact hcell
  have hend : Ended ((T.setVm vm').setFrames (.throwing q :: below)) below (.threw q) := State.frames_setFrames _ (State.cur_lt_of_frames hfr)
  refine ⟨(T.setVm vm').setFrames (.throwing q :: below), ?_, .threw q, X'.here.running, hend, Or.inr ⟨q, rfl, E, ce, locs, hx _ hT (X'.ends _).1.alike, hcell9, hv, hcl, (X'.ends _).1, (X'.ends _).2.mono hc hs, hf⟩⟩
  rw [X.pushThrowing_eq]
  exact st
/-- a thing of a world lies in the heap -/
theorem vx_lt {D : va_G} {cl : List vw_C} {ws : va_W} {H1 : Heap} (h : va_P D cl ws H1) {k : Nat} {q : Nat × va_E} (hk : ws[k]? = some q) : q.1 < H1.size := (h k q hk).lt
end VXS
/-! ===== END ===== -/
/-! ===== BEGIN methods with a table of their own: called by a name, returning or throwing ===== -/
section VXH
/-! vx_backW, vx_callVX, vx_callSX, vx_callVW, vx_runVW, vx_runVX, vx_runSX, vx_ofWH follow the same proofs as their sisters above (Free/Laws.lean, Shelf42/LK1.lean); vx_outP calls Shelf42/NT130.lean (outThrough). -/
section
variable {l : Launch} {R : Room} {p : Program} {e : Env} {below : List Frame} {s : State} {sargs : Array Value} {y : MethodName} {len W9 : Nat}
theorem vx_backW {ws : List Cond} {rm : Room} {Pc : Array Value → State → Prop} {Qc : Array Value → State → Outcome → State → Prop} {XC : String → State → State → Prop} {mc ms : Nat} {free : Addr → Prop} {bytes : ByteArray} {maxL : Nat} {ret : Option FieldType} {hh : List (Nat × Nat × Nat × Nat)}
    (hM : vx_Met l y ws rm Pc Qc XC mc ms free) (hblind : FrameBlind Pc) (hrc : rm.cells = mc) (hrs : rm.slots = ms)
    (hframes : rm.frames + 1 ≤ R.frames) (hlocals : W9 + (maxL + 11) + rm.locals ≤ R.locals)
    (hws : ∀ w ∈ ws, ∀ a' U, s.WarmedH U.vm → w.before a' U = true) (hcode : Cond.codeWith y bytes maxL ret hh ∈ ws) (hinit : ∀ a' U, s.WarmedH U.vm → (Cond.initialized y.cls).before a' U = true) :
    vx_Back l R p e below s sargs y len W9 (PreOf R mc ms Pc) (PostOf Qc mc ms free) (vx_Post XC mc ms free) := by
  intro m meth c A g ig mk a X hg hsize hdg hW hn hp
  have h1 : (headSpec ws rm).pre.before a A.U = true := atoms_intro fun w hw => hws w hw _ _ X.warmed
  have h2 : (Cond.codeWith y bytes maxL ret hh).before a A.U = true := hws _ hcode _ _ X.warmed
  have h3 : (Cond.initialized y.cls).before a A.U = true := hinit _ _ X.warmed
  have h4 : A.cells + (headSpec ws rm).room.cells ≤ R.cells := by rw [show (headSpec ws rm).room.cells = mc from hrc]; exact hp.1
  have h5 : A.slots + (headSpec ws rm).room.slots ≤ R.slots := by rw [show (headSpec ws rm).room.slots = ms from hrs]; exact hp.2.1
  have hPc : Pc a (A.U.calling g mk a) := hblind _ _ _ _ hp.2.2
  obtain ⟨U, Ls, c0, s0⟩ := A
  dsimp only [Pt.U, Pt.locs, Pt.cells, Pt.slots] at h1 h2 h3 h4 h5 X hn hPc ⊢
  obtain ⟨m9, methY, cY, hn9, hmY, hcY, -, hlY, -⟩ := Cond.codeWith_spec h2
  cases Option.some.inj (hn9.symm.trans hn)
  obtain ⟨kY, hkY, -⟩ := className_of_methodNamed hn
  have hinitY : kY.init = .initialized := Cond.initialized_spec (findClass_of_methodNamed hn) hkY h3
  have h : At U g.method c below := by rw [hg]; exact X.here
  have hlocals9 : W9 + (maxL + 11) + (headSpec ws rm).room.locals ≤ R.locals := hlocals
  have happ : (headSpec ws rm).appliesLoose y e.platform (U.calling g mk a) = true :=
    Spec.appliesLoose_calling (g := g) h hdg hn hkY hinitY
      (X.room_calling (g := g) (R' := (headSpec ws rm).room) hsize hmY hcY hframes (by rw [hlY]; omega) h4 h5) h1
  obtain ⟨mid, hmid⟩ := h.above
  have hfr : (U.setTop g).frames = (.java g :: mid) ++ below := by rw [State.frames_setTop' g h.top, hmid]; rfl
  obtain ⟨o, s₂, hsteps, -, hend, hq⟩ := Steps.callFree hM p X.admits X.cas X.clock (acts := []) hfr happ hPc trivial
  have hq' : vx_Q Qc XC mc ms free a (U.calling g mk a) o s₂ := hq
  rw [State.frames_setTop' g h.top] at hend
  obtain ⟨g₀, hg0⟩ := Option.isSome_iff_exists.mp h.top
  obtain ⟨r, hr⟩ := State.topJava?_eq_some.mp hg0
  have hr' : (({ U with heap := s₂.heap, slotsUsed := s₂.slotsUsed } : State).setVm s₂.vm).frames = .java g₀ :: r := hr
  rcases hq' with ⟨hqc, L, hfe, hL⟩ | ⟨q, rfl, E, ce, L, hx, hce, hcv, hcl, hW₂, hsm, hL⟩
  · obtain ⟨⟨v, rfl⟩, hW₂, e2, q2, q3, q4, q5, q6⟩ := id hfe
    have e3 : s₂ = ({ (U.calling g mk a).setFrames s₂.frames with heap := s₂.heap, slotsUsed := s₂.slotsUsed } : State).setVm s₂.vm := by
      have : s₂ = ({ s₂ with vm := (U.calling g mk a).vm } : State).setVm s₂.vm := rfl
      rw [e2] at this
      exact this
    obtain ⟨c₂, i₂, len₂, hc₂, hd₂, hf₂⟩ := hend
    have hW' : U.WarmedH s₂.vm := hW₂
    have hcc : c₂ = c := by
      have h1 : s₂.code? g.method = U.code? g.method := by
        rw [State.code?_eq, State.code?_eq, hW'.alike.method?]
      exact Option.some.inj (hc₂.symm.trans (h1.trans h.code))
    subst hcc
    have hlen : len₂ = len := by rw [hdg] at hd₂; cases hd₂; rfl
    subst hlen
    have hs₂ : s₂ = (({ U with heap := s₂.heap, slotsUsed := s₂.slotsUsed } : State).setVm s₂.vm).setTop { g with pc := g.pc + len₂, stack := v.toList ++ g.stack } := by
      refine e3.trans ?_
      rw [hf₂, State.calling_eq h.top, State.setFrames_setFrames, State.setTop_of_frames _ hr', hr]
      rfl
    have hsame : U.sameButNew ({ U with heap := s₂.heap, slotsUsed := s₂.slotsUsed } : State) L mc ms := by
      refine ⟨?_, q2, q3, q4, q5, q6⟩
      obtain ⟨t, ht, -⟩ := State.frames_cons hr
      show ({ U with heap := s₂.heap, slotsUsed := s₂.slotsUsed } : State) = { U.setFrames U.frames with heap := s₂.heap, slotsUsed := s₂.slotsUsed }
      rw [State.setFrames_self ht]
    subst hg
    refine Or.inl ⟨v, ⟨(({ U with heap := s₂.heap, slotsUsed := s₂.slotsUsed } : State).setVm s₂.vm), Ls ++ L, c0 + mc, s0 + ms⟩,
      ⟨X.admits, X.cas, X.clock, X.frames, X.room, X.hears, X.method, X.code, (X.here.setHeapUsed s₂.heap s₂.slotsUsed).setVm hW'.alike, X.tail, State.WarmedH.trans X.warmed hW', X.limits, X.bytes, X.same.trans (hsame.setVm s.vm)⟩,
      ⟨g, mk, s₂, L, rfl, rfl, hqc, rfl, hL, rfl, rfl⟩, ?_⟩
    show Steps p.tables e below _ ((({ U with heap := s₂.heap, slotsUsed := s₂.slotsUsed } : State).setVm s₂.vm).setTop { g with pc := g.pc + len₂, stack := v.toList ++ g.stack })
    rw [← hs₂]
    exact hsteps
  · obtain ⟨e2, q2, q3, q4, q5, q6⟩ := id hsm
    have e3 : s₂ = ({ (U.calling g mk a).setFrames s₂.frames with heap := s₂.heap, slotsUsed := s₂.slotsUsed } : State).setVm s₂.vm := by
      have : s₂ = ({ s₂ with vm := (U.calling g mk a).vm } : State).setVm s₂.vm := rfl
      rw [e2] at this
      exact this
    have hf₂ : s₂.frames = .throwing q :: .java g :: U.frames.tail := hend
    have hW' : U.WarmedH s₂.vm := hW₂
    have hs₂ : s₂ = ((({ U with heap := s₂.heap, slotsUsed := s₂.slotsUsed } : State).setVm s₂.vm).setTop g).pushFrame (.throwing q) := by
      refine e3.trans ?_
      rw [hf₂, State.calling_eq h.top, State.setFrames_setFrames, State.pushFrame, State.frames_setTop _ hr', State.setTop_of_frames _ hr', State.setFrames_setFrames, hr]
      rfl
    have hsame : U.sameButNew ({ U with heap := s₂.heap, slotsUsed := s₂.slotsUsed } : State) L mc ms := by
      refine ⟨?_, q2, q3, q4, q5, q6⟩
      obtain ⟨t, ht, -⟩ := State.frames_cons hr
      show ({ U with heap := s₂.heap, slotsUsed := s₂.slotsUsed } : State) = { U.setFrames U.frames with heap := s₂.heap, slotsUsed := s₂.slotsUsed }
      rw [State.setFrames_self ht]
    subst hg
    refine Or.inr ⟨q, ⟨(({ U with heap := s₂.heap, slotsUsed := s₂.slotsUsed } : State).setVm s₂.vm), Ls ++ L, c0 + mc, s0 + ms⟩,
      ⟨X.admits, X.cas, X.clock, X.frames, X.room, X.hears, X.method, X.code, (X.here.setHeapUsed s₂.heap s₂.slotsUsed).setVm hW'.alike, X.tail, State.WarmedH.trans X.warmed hW', X.limits, X.bytes, X.same.trans (hsame.setVm s.vm)⟩,
      ⟨g, mk, s₂, L, E, ce, rfl, rfl, hx, hce, hcv, hcl, rfl, hL, rfl, rfl⟩, ?_⟩
    show Steps p.tables e below _ (((({ U with heap := s₂.heap, slotsUsed := s₂.slotsUsed } : State).setVm s₂.vm).setTop g).pushFrame (.throwing q))
    rw [← hs₂]
    exact hsteps
end
variable {p : Program} {l : Launch} {e : Env} {R : Room} {s : State} {m : MethodId} {args : Array Value} {below : List Frame} {meth : Method} {c : Code} {T : State} {H : Heap} {locs : List Loc} {cells slots : Nat}
theorem vx_callVX (X : Stand p l e R s m args below meth c T locs cells slots) (hexec : p.tables.exec = Jvm.exec) {own C : String} {index : Nat} {y : MethodName} {bytes : ByteArray} {maxL : Nat} {ret : Option FieldType} {hh : List (Nat × Nat × Nat × Nat)}
    (hown : s.vm.findClass own = some m.cls) (hlink : (Cond.methodLink own index y).before args s = true) (hinst : (Cond.instanceMethod y).before args s = true) (hsel : (Cond.selects C y y).before args s = true)
    (hcode : (Cond.codeWith y bytes maxL ret hh).before args s = true) (hy : y.cls ≠ "java/lang/invoke/MethodHandle" ∧ y.cls ≠ "java/lang/invoke/VarHandle")
    {W9 : Nat} {Pre : Pt → Array Value → Prop} {Post : Pt → Array Value → Option Value → Pt → Prop} {PostX : Pt → Array Value → Addr → Pt → Prop} (hK : vx_Back l R p e below s args y 3 W9 Pre Post PostX)
    {b : Addr} {cellB : Cell} (hcell : T.heap[b]? = some cellB) (hobj : cellB.vm.isStatics = false) (hcls : s.vm.findClass C = some cellB.cls)
    {g : JFrame} (hg : g.method = m) (hsize : g.locals.size = c.maxLocals) {argsL rest : List Value} (hlen : ∀ sig, parseMethodDescriptor y.desc = some sig → argsL.length = sig.parameters.length)
    (hstack : g.stack = argsL.reverse ++ .ref b :: rest) (hW : 2 * g.monitorRoom + (rest.map fun v => v.category).sum ≤ W9) (hdg : decode c.code g.pc = .ok (.invokevirtual index, 3))
    (hpre : ∀ vm₁, s.WarmedH vm₁ → Pre ⟨T.setVm vm₁, locs, cells, slots⟩ (Value.ref b :: argsL).toArray) :
    (∃ (v : Option Value) (vm₁ : Vm) (B : Pt), s.WarmedH vm₁ ∧ Stand p l e R s m args below meth c B.U B.locs B.cells B.slots ∧ Post ⟨T.setVm vm₁, locs, cells, slots⟩ (Value.ref b :: argsL).toArray v B ∧
      ∀ target, Steps p.tables e below (B.U.setTop { g with pc := g.pc + 3, stack := v.toList ++ rest }) target → Steps p.tables e below (T.setTop g) target) ∨
    (∃ (q : Addr) (vm₁ : Vm) (B : Pt), s.WarmedH vm₁ ∧ Stand p l e R s m args below meth c B.U B.locs B.cells B.slots ∧ PostX ⟨T.setVm vm₁, locs, cells, slots⟩ (Value.ref b :: argsL).toArray q B ∧
      Steps p.tables e below (T.setTop g) ((B.U.setTop { g with stack := rest }).pushFrame (.throwing q))) := by
  obtain ⟨mk, methM, hnamed, hmethM, hstM, habM⟩ := Cond.instanceMethod_spec hinst
  obtain ⟨m8, methM', cM, hn8, hmethM', -, -, -, -, -, -, hsigM⟩ := Cond.codeWith_spec hcode
  cases Option.some.inj (hn8.symm.trans hnamed)
  cases hmethM.symm.trans hmethM'
  obtain ⟨c2, r2, m2, q1, q2, q3, q4, kP, hkP, hkPi⟩ := Cond.selects_spec hsel
  cases hcls.symm.trans q1
  cases (State.methodFound?_of_named hnamed hy).symm.trans q2
  cases hnamed.symm.trans q3
  have hselP : selectMethod e.platform s.vm cellB.cls mk = .method mk := by rw [Launch.admits_selectMethod X.admits]; exact q4
  obtain ⟨vm₁, X₁, hstep₁⟩ := X.invokevirtual hexec hown hlink hnamed hmethM hstM hkP hkPi hy (a := b) (cell := cellB) hcell
    (fun z h => by rw [h] at hobj; cases hobj) hselP hmethM habM hkP hkPi (g := g) hg (argsL := argsL) (rest := rest) (hlen _ hsigM) hstack hdg
  rcases hK m meth c ⟨T.setVm vm₁, locs, cells, slots⟩ { g with stack := rest } (.invokevirtual index) mk (Value.ref b :: argsL).toArray X₁ hg hsize hdg hW (X₁.named hnamed) (hpre vm₁ X₁.warmed) with ⟨v, B, X', hpost, hsteps⟩ | ⟨q, B, X', hpost, hsteps⟩
  · exact Or.inl ⟨v, vm₁, B, X₁.warmed, X', hpost, fun target h => hstep₁ _ fun acts => by rw [doInvoke_state]; exact hsteps.trans h⟩
  · exact Or.inr ⟨q, vm₁, B, X₁.warmed, X', hpost, hstep₁ _ fun acts => by rw [doInvoke_state]; exact hsteps⟩
theorem vx_callSX (X : Stand p l e R s m args below meth c T locs cells slots) (hexec : p.tables.exec = Jvm.exec) {own : String} {index : Nat} {y : MethodName} {bytes : ByteArray} {maxL : Nat} {ret : Option FieldType} {hh : List (Nat × Nat × Nat × Nat)}
    (hown : s.vm.findClass own = some m.cls) (hlink : (Cond.methodLink own index y).before args s = true) (hstat : (Cond.static y).before args s = true) (hinit : (Cond.initialized y.cls).before args s = true)
    (hcode : (Cond.codeWith y bytes maxL ret hh).before args s = true) (hy : y.cls ≠ "java/lang/invoke/MethodHandle" ∧ y.cls ≠ "java/lang/invoke/VarHandle")
    {W9 : Nat} {Pre : Pt → Array Value → Prop} {Post : Pt → Array Value → Option Value → Pt → Prop} {PostX : Pt → Array Value → Addr → Pt → Prop} (hK : vx_Back l R p e below s args y 3 W9 Pre Post PostX)
    {g : JFrame} (hg : g.method = m) (hsize : g.locals.size = c.maxLocals) {argsL rest : List Value} (hlen : ∀ sig, parseMethodDescriptor y.desc = some sig → argsL.length = sig.parameters.length)
    (hstack : g.stack = argsL.reverse ++ rest) (hW : 2 * g.monitorRoom + (rest.map fun v => v.category).sum ≤ W9) (hdg : decode c.code g.pc = .ok (.invokestatic index, 3))
    (hpre : ∀ vm₁, s.WarmedH vm₁ → Pre ⟨T.setVm vm₁, locs, cells, slots⟩ argsL.toArray) :
    (∃ (v : Option Value) (vm₁ : Vm) (B : Pt), s.WarmedH vm₁ ∧ Stand p l e R s m args below meth c B.U B.locs B.cells B.slots ∧ Post ⟨T.setVm vm₁, locs, cells, slots⟩ argsL.toArray v B ∧
      ∀ target, Steps p.tables e below (B.U.setTop { g with pc := g.pc + 3, stack := v.toList ++ rest }) target → Steps p.tables e below (T.setTop g) target) ∨
    (∃ (q : Addr) (vm₁ : Vm) (B : Pt), s.WarmedH vm₁ ∧ Stand p l e R s m args below meth c B.U B.locs B.cells B.slots ∧ PostX ⟨T.setVm vm₁, locs, cells, slots⟩ argsL.toArray q B ∧
      Steps p.tables e below (T.setTop g) ((B.U.setTop { g with stack := rest }).pushFrame (.throwing q))) := by
  obtain ⟨mk, methM, cM, hnamed, hmethM, -, -, -, -, -, -, hsigM⟩ := Cond.codeWith_spec hcode
  have hstatic : methM.isStatic = true := Cond.static_spec hnamed hmethM hstat
  obtain ⟨kP, hkP, -⟩ := className_of_methodNamed hnamed
  have hinitP : kP.init = .initialized := Cond.initialized_spec (findClass_of_methodNamed hnamed) hkP hinit
  obtain ⟨vm₁, X₁, hstep₁⟩ := X.invokestatic hexec hown hlink hnamed hmethM hstatic hkP hinitP hy (g := g) hg (argsL := argsL) (rest := rest) (hlen _ hsigM) hstack hdg
  rcases hK m meth c ⟨T.setVm vm₁, locs, cells, slots⟩ { g with stack := rest } (.invokestatic index) mk argsL.toArray X₁ hg hsize hdg hW (X₁.named hnamed) (hpre vm₁ X₁.warmed) with ⟨v, B, X', hpost, hsteps⟩ | ⟨q, B, X', hpost, hsteps⟩
  · exact Or.inl ⟨v, vm₁, B, X₁.warmed, X', hpost, fun target h => hstep₁ _ fun acts => by rw [doInvoke_state]; exact hsteps.trans h⟩
  · exact Or.inr ⟨q, vm₁, B, X₁.warmed, X', hpost, hstep₁ _ fun acts => by rw [doInvoke_state]; exact hsteps⟩
theorem vx_callVW (X : Stand p l e R s m args below meth c T locs cells slots) (hexec : p.tables.exec = Jvm.exec) {own C : String} {index : Nat} {y : MethodName} {bytes : ByteArray} {maxL : Nat} {ret : Option FieldType} {hh : List (Nat × Nat × Nat × Nat)}
    (hown : s.vm.findClass own = some m.cls) (hlink : (Cond.methodLink own index y).before args s = true) (hinst : (Cond.instanceMethod y).before args s = true) (hsel : (Cond.selects C y y).before args s = true)
    (hcode : (Cond.codeWith y bytes maxL ret hh).before args s = true) (hy : y.cls ≠ "java/lang/invoke/MethodHandle" ∧ y.cls ≠ "java/lang/invoke/VarHandle")
    {W9 : Nat} {Pre : Pt → Array Value → Prop} {Post : Pt → Array Value → Option Value → Pt → Prop} (hK : Back l R p e below s args y 3 W9 Pre Post)
    {b : Addr} {cellB : Cell} (hcell : T.heap[b]? = some cellB) (hobj : cellB.vm.isStatics = false) (hcls : s.vm.findClass C = some cellB.cls)
    {g : JFrame} (hg : g.method = m) (hsize : g.locals.size = c.maxLocals) {argsL rest : List Value} (hlen : ∀ sig, parseMethodDescriptor y.desc = some sig → argsL.length = sig.parameters.length)
    (hstack : g.stack = argsL.reverse ++ .ref b :: rest) (hW : 2 * g.monitorRoom + (rest.map fun v => v.category).sum ≤ W9) (hdg : decode c.code g.pc = .ok (.invokevirtual index, 3))
    (hpre : ∀ vm₁, s.WarmedH vm₁ → Pre ⟨T.setVm vm₁, locs, cells, slots⟩ (Value.ref b :: argsL).toArray) :
    ∃ (v : Option Value) (vm₁ : Vm) (B : Pt), s.WarmedH vm₁ ∧ Stand p l e R s m args below meth c B.U B.locs B.cells B.slots ∧ Post ⟨T.setVm vm₁, locs, cells, slots⟩ (Value.ref b :: argsL).toArray v B ∧
      ∀ target, Steps p.tables e below (B.U.setTop { g with pc := g.pc + 3, stack := v.toList ++ rest }) target → Steps p.tables e below (T.setTop g) target := by
  obtain ⟨mk, methM, hnamed, hmethM, hstM, habM⟩ := Cond.instanceMethod_spec hinst
  obtain ⟨m8, methM', cM, hn8, hmethM', -, -, -, -, -, -, hsigM⟩ := Cond.codeWith_spec hcode
  cases Option.some.inj (hn8.symm.trans hnamed)
  cases hmethM.symm.trans hmethM'
  obtain ⟨c2, r2, m2, q1, q2, q3, q4, kP, hkP, hkPi⟩ := Cond.selects_spec hsel
  cases hcls.symm.trans q1
  cases (State.methodFound?_of_named hnamed hy).symm.trans q2
  cases hnamed.symm.trans q3
  have hselP : selectMethod e.platform s.vm cellB.cls mk = .method mk := by rw [Launch.admits_selectMethod X.admits]; exact q4
  obtain ⟨vm₁, X₁, hstep₁⟩ := X.invokevirtual hexec hown hlink hnamed hmethM hstM hkP hkPi hy (a := b) (cell := cellB) hcell
    (fun z h => by rw [h] at hobj; cases hobj) hselP hmethM habM hkP hkPi (g := g) hg (argsL := argsL) (rest := rest) (hlen _ hsigM) hstack hdg
  obtain ⟨v, B, X', hpost, hsteps⟩ := hK m meth c ⟨T.setVm vm₁, locs, cells, slots⟩ { g with stack := rest } (.invokevirtual index) mk (Value.ref b :: argsL).toArray X₁ hg hsize hdg hW (X₁.named hnamed) (hpre vm₁ X₁.warmed)
  exact ⟨v, vm₁, B, X₁.warmed, X', hpost, fun target h => hstep₁ _ fun acts => by rw [doInvoke_state]; exact hsteps.trans h⟩
abbrev vx_CVW (R : Room) (s : State) (args : Array Value) (own C : String) (index : Nat) (y : MethodName) (bytes : ByteArray) (maxL : Nat) (ret : Option FieldType) (hh : List (Nat × Nat × Nat × Nat)) (ws : List Cond) (rm : Room) (mc ms n : Nat) : Prop :=
  (rm.cells = mc ∧ rm.slots = ms ∧ rm.frames + 1 ≤ R.frames ∧ 8 + (maxL + 11) + rm.locals ≤ R.locals ∧ (∀ w ∈ ws, ∀ (a' : Array Value) (U : State), s.WarmedH U.vm → w.before a' U = true) ∧ Cond.codeWith y bytes maxL ret hh ∈ ws) ∧
  (Cond.codeWith y bytes maxL ret hh).before args s = true ∧ (Cond.initialized y.cls).before args s = true ∧ (y.cls ≠ "java/lang/invoke/MethodHandle" ∧ y.cls ≠ "java/lang/invoke/VarHandle") ∧
  (∀ sig, parseMethodDescriptor y.desc = some sig → n = sig.parameters.length) ∧ (Cond.methodLink own index y).before args s = true ∧ (Cond.instanceMethod y).before args s = true ∧ (Cond.selects C y y).before args s = true
theorem vx_cwVW {own C : String} {index maxL mc ms : Nat} {y : MethodName} {bytes : ByteArray} {ret : Option FieldType} {hh : List (Nat × Nat × Nat × Nat)} {Ts ws ws' : List Cond} {rm : Room} (n : Nat) (ht : ∀ w ∈ Ts, w.before args s = true) (hT : GoodIn Ts (wsV own index C y ws)) (hw : ws = Cond.codeWith y bytes maxL ret hh :: ws') (hrc : rm.cells = mc) (hrs : rm.slots = ms)
    (hd : y.cls = C ∧ y.cls ≠ "java/lang/invoke/MethodHandle" ∧ y.cls ≠ "java/lang/invoke/VarHandle" ∧ (parseMethodDescriptor y.desc).map (fun d => d.parameters.length) = some n) (hR : rm.frames + 1 ≤ R.frames ∧ 8 + (maxL + 11) + rm.locals ≤ R.locals) :
    vx_CVW R s args own C index y bytes maxL ret hh ws rm mc ms n := by
  obtain ⟨hC, hd⟩ := hd
  subst hC
  have ok : ∀ w ∈ wsV own index y.cls y ws, w.before args s = true := fun w h => ht w (hT w h).1
  have hG : GoodIn Ts ws := fun w h => hT w (by unfold wsV; exact List.mem_append_right _ h)
  have hc : Cond.codeWith y bytes maxL ret hh ∈ ws := by rw [hw]; exact List.mem_cons_self
  refine ⟨⟨hrc, hrs, hR.1, hR.2, pay_in ht hG, hc⟩, ht _ (hG _ hc).1, ok _ (by simp [wsV]), ⟨hd.1, hd.2.1⟩, fun sig h => ?_, ok _ (by simp [wsV]), ok _ (by simp [wsV]), ok _ (by simp [wsV])⟩
  have h2 := hd.2.2
  rw [h] at h2
  exact (Option.some.inj h2).symm
theorem vx_runVW {y : MethodName} {bytes cc : ByteArray} {maxL nL mc ms n index : Nat} {ret : Option FieldType} {hh : List (Nat × Nat × Nat × Nat)} {ws : List Cond} {rm : Room} {Pc : Array Value → State → Prop} {Qc : Array Value → State → Outcome → State → Prop} {free : Addr → Prop} {Ts : List Cond} {own C : String} {b : Addr} {As rest : List Value} {g : JFrame}
    (S : CallFix p m c cc nL s args Ts own) (hM : Met l y ws rm Pc Qc mc ms free) (cw : vx_CVW R s args own C index y bytes maxL ret hh ws rm mc ms n) (hp : PreV s H C b Pc As)
    (hg : g.method = m) (hn : As.length = n) (hsize : g.locals.size = nL) (hstack : g.stack = As.reverse ++ .ref b :: rest) (hW : 2 * g.monitorRoom + (rest.map fun v => v.category).sum ≤ 8) (hdg : decode cc g.pc = .ok (.invokevirtual index, 3)) (hf : cells + mc ≤ R.cells ∧ slots + ms ≤ R.slots) :
    va_Run p l e R s m args below meth c H locs cells slots mc ms g rest (Qc (Value.ref b :: As).toArray) free := by
  obtain ⟨⟨hrc, hrs, hfr, hlo, hws, hcw⟩, hcode, hini, hy, hlen, hl, hin, hse⟩ := cw
  have hK : Back l R p e below s args y 3 8 (PreOf R mc ms Pc) (PostOf Qc mc ms free) := va_backW (hh := hh) (bytes := bytes) (maxL := maxL) (ret := ret) hM hp.1 hrc hrs hfr hlo hws hcw (fun a' U hW => word_at hW (Or.inl (by first | rfl | simp [Cond.onTables, Cond.keeps, Cond.steady])) hini)
  obtain ⟨hx, hb, hml, ho, -⟩ := S
  obtain ⟨-, ⟨cellB, hcB, hoB, hclB⟩, hPc⟩ := hp
  intro T hT X
  obtain ⟨v, vm₁, ⟨U', l2, c2, s2⟩, hW₁, X', ⟨g', mk, t, L, e1, e2, hq, h1, hL, h2, h3⟩, st⟩ := vx_callVW X hx (C := C) (hh := hh) (bytes := bytes) (maxL := maxL) (ret := ret) ho hl hin hse hcode hy hK (by rw [hT]; exact hcB) hoB hclB hg (hsize.trans hml.symm) (argsL := As) (rest := rest) (fun sig h => hn.trans (hlen sig h)) hstack hW (by rw [hb]; exact hdg)
    (fun vm₁ hW₁ => ⟨hf.1, hf.2, hPc (T.setVm vm₁) hT hW₁⟩)
  dsimp only [Pt.U, Pt.locs, Pt.cells, Pt.slots] at X' e1 e2 h1 h2 h3 st
  subst h1; subst h2; subst h3
  exact ⟨v, (T.setVm vm₁).calling g' mk (Value.ref b :: As).toArray, t, U', L, hT, X', hL, e1, e2, hq, st⟩
section
variable {y : MethodName} {bytes cc : ByteArray} {maxL nL mc ms n index : Nat} {ret : Option FieldType} {ws : List Cond} {rm : Room} {Pc : Array Value → State → Prop} {Qc : Array Value → State → Outcome → State → Prop} {XC : String → State → State → Prop} {free : Addr → Prop} {Ts : List Cond} {own C : String} {b : Addr} {As rest : List Value} {g : JFrame}
theorem vx_runVX {hh : List (Nat × Nat × Nat × Nat)} (S : CallFix p m c cc nL s args Ts own) (hM : vx_Met l y ws rm Pc Qc XC mc ms free) (cw : vx_CVW R s args own C index y bytes maxL ret hh ws rm mc ms n) (hp : PreV s H C b Pc As)
    (hg : g.method = m) (hn : As.length = n) (hsize : g.locals.size = nL) (hstack : g.stack = As.reverse ++ .ref b :: rest) (hW : 2 * g.monitorRoom + (rest.map fun v => v.category).sum ≤ 8) (hdg : decode cc g.pc = .ok (.invokevirtual index, 3)) (hf : cells + mc ≤ R.cells ∧ slots + ms ≤ R.slots) :
    vx_Run p l e R s m args below meth c H locs cells slots mc ms g rest (Qc (Value.ref b :: As).toArray) XC free := by
  obtain ⟨⟨hrc, hrs, hfr, hlo, hws, hcw⟩, hcode, hini, hy, hlen, hl, hin, hse⟩ := cw
  have hK : vx_Back l R p e below s args y 3 8 (PreOf R mc ms Pc) (PostOf Qc mc ms free) (vx_Post XC mc ms free) := vx_backW (hh := hh) (bytes := bytes) (maxL := maxL) (ret := ret) hM hp.1 hrc hrs hfr hlo hws hcw (fun a' U hW => word_at hW (Or.inl (by first | rfl | simp [Cond.onTables, Cond.keeps, Cond.steady])) hini)
  obtain ⟨hx, hb, hml, ho, -⟩ := S
  obtain ⟨-, ⟨cellB, hcB, hoB, hclB⟩, hPc⟩ := hp
  intro T hT X
  rcases vx_callVX X hx (C := C) (hh := hh) (bytes := bytes) (maxL := maxL) (ret := ret) ho hl hin hse hcode hy hK (by rw [hT]; exact hcB) hoB hclB hg (hsize.trans hml.symm) (argsL := As) (rest := rest) (fun sig h => hn.trans (hlen sig h)) hstack hW (by rw [hb]; exact hdg)
    (fun vm₁ hW₁ => ⟨hf.1, hf.2, hPc (T.setVm vm₁) hT hW₁⟩) with ⟨v, vm₁, ⟨U', l2, c2, s2⟩, hW₁, X', ⟨g', mk, t, L, e1, e2, hq, h1, hL, h2, h3⟩, st⟩ | ⟨q, vm₁, ⟨U', l2, c2, s2⟩, hW₁, X', ⟨g', mk, t, L, E, ce, e1, e2, hq, hce, hcv, hcl, h1, hL, h2, h3⟩, st⟩
  · dsimp only [Pt.U, Pt.locs, Pt.cells, Pt.slots] at X' e1 e2 h1 h2 h3 st
    subst h1; subst h2; subst h3
    exact Or.inl ⟨v, (T.setVm vm₁).calling g' mk (Value.ref b :: As).toArray, t, U', L, hT, X', hL, e1, e2, hq, st⟩
  · dsimp only [Pt.U, Pt.locs, Pt.cells, Pt.slots] at X' e1 e2 h1 h2 h3 st hcl
    subst h1; subst h2; subst h3
    exact Or.inr ⟨q, (T.setVm vm₁).calling g' mk (Value.ref b :: As).toArray, t, U', L, E, ce, hT, X', hL, e1, e2, hq, hce, hcv, vx_cls hW₁ hcl, st⟩
theorem vx_runSX {hh : List (Nat × Nat × Nat × Nat)} (S : CallFix p m c cc nL s args Ts own) (hM : vx_Met l y ws rm Pc Qc XC mc ms free) (cw : vx_CSW R s args own index y bytes maxL ret hh ws rm mc ms n) (hp : PreS s H Pc As)
    (hg : g.method = m) (hn : As.length = n) (hsize : g.locals.size = nL) (hstack : g.stack = As.reverse ++ rest) (hW : 2 * g.monitorRoom + (rest.map fun v => v.category).sum ≤ 8) (hdg : decode cc g.pc = .ok (.invokestatic index, 3)) (hf : cells + mc ≤ R.cells ∧ slots + ms ≤ R.slots) :
    vx_Run p l e R s m args below meth c H locs cells slots mc ms g rest (Qc As.toArray) XC free := by
  obtain ⟨⟨hrc, hrs, hfr, hlo, hws, hcw⟩, hcode, hini, hy, hlen, hl, hstt⟩ := cw
  have hK : vx_Back l R p e below s args y 3 8 (PreOf R mc ms Pc) (PostOf Qc mc ms free) (vx_Post XC mc ms free) := vx_backW (hh := hh) (bytes := bytes) (maxL := maxL) (ret := ret) hM hp.1 hrc hrs hfr hlo hws hcw (fun a' U hW => word_at hW (Or.inl (by first | rfl | simp [Cond.onTables, Cond.keeps, Cond.steady])) hini)
  obtain ⟨hx, hb, hml, ho, -⟩ := S
  intro T hT X
  rcases vx_callSX X hx (hh := hh) (bytes := bytes) (maxL := maxL) (ret := ret) ho hl hstt hini hcode hy hK hg (hsize.trans hml.symm) (argsL := As) (rest := rest) (fun sig h => hn.trans (hlen sig h)) hstack hW (by rw [hb]; exact hdg)
    (fun vm₁ hW₁ => ⟨hf.1, hf.2, hp.2 (T.setVm vm₁) hT hW₁⟩) with ⟨v, vm₁, ⟨U', l2, c2, s2⟩, hW₁, X', ⟨g', mk, t, L, e1, e2, hq, h1, hL, h2, h3⟩, st⟩ | ⟨q, vm₁, ⟨U', l2, c2, s2⟩, hW₁, X', ⟨g', mk, t, L, E, ce, e1, e2, hq, hce, hcv, hcl, h1, hL, h2, h3⟩, st⟩
  · dsimp only [Pt.U, Pt.locs, Pt.cells, Pt.slots] at X' e1 e2 h1 h2 h3 st
    subst h1; subst h2; subst h3
    exact Or.inl ⟨v, (T.setVm vm₁).calling g' mk As.toArray, t, U', L, hT, X', hL, e1, e2, hq, st⟩
  · dsimp only [Pt.U, Pt.locs, Pt.cells, Pt.slots] at X' e1 e2 h1 h2 h3 st hcl
    subst h1; subst h2; subst h3
    exact Or.inr ⟨q, (T.setVm vm₁).calling g' mk As.toArray, t, U', L, E, ce, hT, X', hL, e1, e2, hq, hce, hcv, vx_cls hW₁ hcl, st⟩
end
end VXH
theorem vx_ofWH {l : Launch} {y : MethodName} {ws ws' : List Cond} {rm : Room} {Pc : Array Value → State → Prop} {Qc : Array Value → State → Outcome → State → Prop} {XC : String → State → State → Prop} {mc ms : Nat} {free : Addr → Prop} {cc : ByteArray} {maxL : Nat} {ret : Option FieldType} {hh : List (Nat × Nat × Nat × Nat)}
    (hy : plainName y.cls = true) (hw : ws = Cond.codeWith y cc maxL ret hh :: ws')
    (body : ∀ p e s m args below meth c s₁, BodyLoose p l y (headSpec ws rm) cc maxL ret e s m args below meth c s₁ → c.maxLocals = maxL → Pc args s →
      W p l e (headSpec ws rm).room s m args below meth c s.heap [] 0 0 (vx_MQ below Qc XC args s mc ms free) (entryFrame m args maxL)) : vx_Met l y ws rm Pc Qc XC mc ms free := by
  refine MetFree.of_bodyS (code := cc) (maxLocals := maxL) (ret := ret) hy ?_ ?_
  · intro args s m h hn
    obtain ⟨m9, meth, c, hn9, h1, h2, h3, h4, -, h5, h6, -⟩ := Cond.codeWith_spec (atoms_spec (ws := ws) h _ (by rw [hw]; exact List.mem_cons_self))
    cases hn.symm.trans hn9
    exact ⟨meth, c, h1, h2, h3, h4, h5, h6⟩
  · intro p e s m args below meth c s₁ B hml hP _
    have hh0 : s₁.heap = s.heap := by rw [B.state]; rfl
    obtain ⟨t, a1, o, b1, b2, b3⟩ := body p e s m args below meth c s₁ B hml hP s₁ hh0 (Stand.of_body B)
    exact ⟨t, o, a1, b1, b2, b3⟩
/-! ===== END ===== -/
end
section
def RX0 : String := "Trigonyard$Counting"
def TX0 : u_T := fun k => match k with
  | _ => ("", "", "", false)
def tyX0 : Nat → FieldType := fun k => match k with
  | _ => .int
theorem nmX0 : ∀ a, a < 0 → ∀ b, b < 0 → a ≠ b → (TX0 a).2.1 ≠ (TX0 b).2.1 := by decide +kernel
theorem tyX0_ok : ∀ k, k < 0 → parseFieldDescriptor (TX0 k).2.2.1 = some (tyX0 k) := by decide +kernel
abbrev cX0_asLongest : ByteArray := prog_2_method_2_code
def yX0_asLongest : MethodName := ⟨RX0, "asLongest", "(I)I"⟩
abbrev cX0_asLeg : ByteArray := prog_2_method_3_code
def yX0_asLeg : MethodName := ⟨RX0, "asLeg", "(I)I"⟩
abbrev cX0_productOverPrimes : ByteArray := prog_2_method_4_code
def yX0_productOverPrimes : MethodName := ⟨RX0, "productOverPrimes", "(IZ)I"⟩
def RX1 : String := "Trigonyard$Numbers"
def TX1 : u_T := fun k => match k with
  | _ => ("", "", "", false)
def tyX1 : Nat → FieldType := fun k => match k with
  | _ => .int
theorem nmX1 : ∀ a, a < 0 → ∀ b, b < 0 → a ≠ b → (TX1 a).2.1 ≠ (TX1 b).2.1 := by decide +kernel
theorem tyX1_ok : ∀ k, k < 0 → parseFieldDescriptor (TX1 k).2.2.1 = some (tyX1 k) := by decide +kernel
abbrev cX1_high : ByteArray := prog_3_method_2_code
def yX1_high : MethodName := ⟨RX1, "high", "(JJ)J"⟩
abbrev cX1_low : ByteArray := prog_3_method_3_code
def yX1_low : MethodName := ⟨RX1, "low", "(JJ)J"⟩
abbrev cX1_digits : ByteArray := prog_3_method_4_code
def yX1_digits : MethodName := ⟨RX1, "digits", "(J)I"⟩
abbrev cX1_commonDivisor : ByteArray := prog_3_method_5_code
def yX1_commonDivisor : MethodName := ⟨RX1, "commonDivisor", "(JJ)J"⟩
abbrev cX1_wholeQuotient : ByteArray := prog_3_method_6_code
def yX1_wholeQuotient : MethodName := ⟨RX1, "wholeQuotient", "(JJ)J"⟩
abbrev cX1_wholeRoot : ByteArray := prog_3_method_7_code
def yX1_wholeRoot : MethodName := ⟨RX1, "wholeRoot", "(J)J"⟩
abbrev cX1_isSquare : ByteArray := prog_3_method_8_code
def yX1_isSquare : MethodName := ⟨RX1, "isSquare", "(J)Z"⟩
abbrev cX1_nearestRoot : ByteArray := prog_3_method_9_code
def yX1_nearestRoot : MethodName := ⟨RX1, "nearestRoot", "(J)D"⟩
abbrev cX1_nearestHypot : ByteArray := prog_3_method_10_code
def yX1_nearestHypot : MethodName := ⟨RX1, "nearestHypot", "(II)D"⟩
abbrev cX1_isWhole : ByteArray := prog_3_method_11_code
def yX1_isWhole : MethodName := ⟨RX1, "isWhole", "(D)Z"⟩
def RX2 : String := "Trigonyard$Primitives"
def TX2 : u_T := fun k => match k with
  | 0 => ("Trigonyard$Primitives", "keys", "[I", true)
  | _ => ("Trigonyard$Primitives", "count", "I", false)
def tyX2 : Nat → FieldType := fun k => match k with
  | 0 => .array .int
  | _ => .int
theorem nmX2 : ∀ a, a < 2 → ∀ b, b < 2 → a ≠ b → (TX2 a).2.1 ≠ (TX2 b).2.1 := by decide +kernel
theorem tyX2_ok : ∀ k, k < 2 → parseFieldDescriptor (TX2 k).2.2.1 = some (tyX2 k) := by decide +kernel
abbrev cX2_init : ByteArray := prog_4_method_1_code
def yX2_init : MethodName := ⟨RX2, "<init>", "()V"⟩
abbrev cX2_fill : ByteArray := prog_4_method_2_code
def yX2_fill : MethodName := ⟨RX2, "fill", "(CI)V"⟩
abbrev cX2_length : ByteArray := prog_4_method_3_code
def yX2_length : MethodName := ⟨RX2, "length", "(II)I"⟩
abbrev cX2_areEachOnce : ByteArray := prog_4_method_4_code
def yX2_areEachOnce : MethodName := ⟨RX2, "areEachOnce", "()Z"⟩
abbrev cX2_areThoseOf : ByteArray := prog_4_method_5_code
def yX2_areThoseOf : MethodName := ⟨RX2, "areThoseOf", "(LTrigonyard$Primitives;)Z"⟩
abbrev cX2_add : ByteArray := prog_4_method_6_code
def yX2_add : MethodName := ⟨RX2, "add", "(III)V"⟩
abbrev cX2_fillByNumbers : ByteArray := prog_4_method_7_code
def yX2_fillByNumbers : MethodName := ⟨RX2, "fillByNumbers", "(I)V"⟩
abbrev cX2_fillBySteps : ByteArray := prog_4_method_8_code
def yX2_fillBySteps : MethodName := ⟨RX2, "fillBySteps", "(I)V"⟩
abbrev cX2_addStepsOf : ByteArray := prog_4_method_9_code
def yX2_addStepsOf : MethodName := ⟨RX2, "addStepsOf", "(II)V"⟩
abbrev cX2_addStep : ByteArray := prog_4_method_10_code
def yX2_addStep : MethodName := ⟨RX2, "addStep", "(CIIII)V"⟩
abbrev cX2_fillByHypot : ByteArray := prog_4_method_11_code
def yX2_fillByHypot : MethodName := ⟨RX2, "fillByHypot", "(I)V"⟩
abbrev cX2_addByHypot : ByteArray := prog_4_method_12_code
def yX2_addByHypot : MethodName := ⟨RX2, "addByHypot", "(II)V"⟩
def RX3 : String := "Trigonyard$Steps"
def TX3 : u_T := fun k => match k with
  | _ => ("", "", "", false)
def tyX3 : Nat → FieldType := fun k => match k with
  | _ => .int
theorem nmX3 : ∀ a, a < 0 → ∀ b, b < 0 → a ≠ b → (TX3 a).2.1 ≠ (TX3 b).2.1 := by decide +kernel
theorem tyX3_ok : ∀ k, k < 0 → parseFieldDescriptor (TX3 k).2.2.1 = some (tyX3 k) := by decide +kernel
abbrev cX3_signedOdd : ByteArray := prog_5_method_2_code
def yX3_signedOdd : MethodName := ⟨RX3, "signedOdd", "(CI)I"⟩
abbrev cX3_signedEven : ByteArray := prog_5_method_3_code
def yX3_signedEven : MethodName := ⟨RX3, "signedEven", "(CI)I"⟩
abbrev cX3_oddLeg : ByteArray := prog_5_method_4_code
def yX3_oddLeg : MethodName := ⟨RX3, "oddLeg", "(CIII)I"⟩
abbrev cX3_evenLeg : ByteArray := prog_5_method_5_code
def yX3_evenLeg : MethodName := ⟨RX3, "evenLeg", "(CIII)I"⟩
abbrev cX3_longest : ByteArray := prog_5_method_6_code
def yX3_longest : MethodName := ⟨RX3, "longest", "(CIII)I"⟩
abbrev cX3_backOdd : ByteArray := prog_5_method_7_code
def yX3_backOdd : MethodName := ⟨RX3, "backOdd", "(III)I"⟩
abbrev cX3_backEven : ByteArray := prog_5_method_8_code
def yX3_backEven : MethodName := ⟨RX3, "backEven", "(III)I"⟩
abbrev cX3_backLongest : ByteArray := prog_5_method_9_code
def yX3_backLongest : MethodName := ⟨RX3, "backLongest", "(III)I"⟩
abbrev cX3_stepsFromFirst : ByteArray := prog_5_method_10_code
def yX3_stepsFromFirst : MethodName := ⟨RX3, "stepsFromFirst", "(III)I"⟩
def RX4 : String := "Trigonyard$Theorem"
def TX4 : u_T := fun k => match k with
  | _ => ("", "", "", false)
def tyX4 : Nat → FieldType := fun k => match k with
  | _ => .int
theorem nmX4 : ∀ a, a < 0 → ∀ b, b < 0 → a ≠ b → (TX4 a).2.1 ≠ (TX4 b).2.1 := by decide +kernel
theorem tyX4_ok : ∀ k, k < 0 → parseFieldDescriptor (TX4 k).2.2.1 = some (tyX4 k) := by decide +kernel
abbrev cX4_ofRoot : ByteArray := prog_6_method_2_code
def yX4_ofRoot : MethodName := ⟨RX4, "ofRoot", "(J)Z"⟩
abbrev cX4_ofHypot : ByteArray := prog_6_method_3_code
def yX4_ofHypot : MethodName := ⟨RX4, "ofHypot", "(II)Z"⟩
abbrev cX4_ofTriangle : ByteArray := prog_6_method_4_code
def yX4_ofTriangle : MethodName := ⟨RX4, "ofTriangle", "(LTrigonyard$Triangle;)Z"⟩
abbrev cX4_ofCounts : ByteArray := prog_6_method_5_code
def yX4_ofCounts : MethodName := ⟨RX4, "ofCounts", "(I)Z"⟩
abbrev cX4_ofSharpness : ByteArray := prog_6_method_6_code
def yX4_ofSharpness : MethodName := ⟨RX4, "ofSharpness", "(LTrigonyard$Triangle;)Z"⟩
abbrev cX4_ofS : ByteArray := prog_6_method_7_code
def yX4_ofS : MethodName := ⟨RX4, "ofS", "(LTrigonyard$Triangle;)Z"⟩
abbrev cX4_isSIfSquaresAreTaken : ByteArray := prog_6_method_8_code
def yX4_isSIfSquaresAreTaken : MethodName := ⟨RX4, "isSIfSquaresAreTaken", "(LTrigonyard$Triangle;)Z"⟩
abbrev cX4_isSBelowSides : ByteArray := prog_6_method_9_code
def yX4_isSBelowSides : MethodName := ⟨RX4, "isSBelowSides", "(LTrigonyard$Triangle;)Z"⟩
abbrev cX4_ofRight : ByteArray := prog_6_method_10_code
def yX4_ofRight : MethodName := ⟨RX4, "ofRight", "(LTrigonyard$Triangle;)Z"⟩
abbrev cX4_ofPrimitive : ByteArray := prog_6_method_11_code
def yX4_ofPrimitive : MethodName := ⟨RX4, "ofPrimitive", "(LTrigonyard$Triangle;)Z"⟩
abbrev cX4_isByNumber : ByteArray := prog_6_method_12_code
def yX4_isByNumber : MethodName := ⟨RX4, "isByNumber", "(LTrigonyard$Triangle;I)Z"⟩
def RX5 : String := "Trigonyard$Triangle"
def TX5 : u_T := fun k => match k with
  | 0 => ("Trigonyard$Triangle", "a", "I", true)
  | 1 => ("Trigonyard$Triangle", "b", "I", true)
  | 2 => ("Trigonyard$Triangle", "c", "I", true)
  | 3 => ("Trigonyard$Triangle", "highS", "J", true)
  | _ => ("Trigonyard$Triangle", "lowS", "J", true)
def tyX5 : Nat → FieldType := fun k => match k with
  | 0 => .int
  | 1 => .int
  | 2 => .int
  | 3 => .long
  | _ => .long
theorem nmX5 : ∀ a, a < 5 → ∀ b, b < 5 → a ≠ b → (TX5 a).2.1 ≠ (TX5 b).2.1 := by decide +kernel
theorem tyX5_ok : ∀ k, k < 5 → parseFieldDescriptor (TX5 k).2.2.1 = some (tyX5 k) := by decide +kernel
abbrev cX5_init : ByteArray := prog_7_method_1_code
def yX5_init : MethodName := ⟨RX5, "<init>", "(III)V"⟩
abbrev cX5_outerFactor : ByteArray := prog_7_method_2_code
def yX5_outerFactor : MethodName := ⟨RX5, "outerFactor", "(JJJ)J"⟩
abbrev cX5_innerFactor : ByteArray := prog_7_method_3_code
def yX5_innerFactor : MethodName := ⟨RX5, "innerFactor", "(JJJ)J"⟩
abbrev cX5_length : ByteArray := prog_7_method_4_code
def yX5_length : MethodName := ⟨RX5, "length", "(I)I"⟩
abbrev cX5_around : ByteArray := prog_7_method_5_code
def yX5_around : MethodName := ⟨RX5, "around", "()I"⟩
abbrev cX5_commonDivisor : ByteArray := prog_7_method_6_code
def yX5_commonDivisor : MethodName := ⟨RX5, "commonDivisor", "()I"⟩
abbrev cX5_code : ByteArray := prog_7_method_7_code
def yX5_code : MethodName := ⟨RX5, "code", "()J"⟩
abbrev cX5_squaresBeside : ByteArray := prog_7_method_8_code
def yX5_squaresBeside : MethodName := ⟨RX5, "squaresBeside", "(I)J"⟩
abbrev cX5_sharpness : ByteArray := prog_7_method_9_code
def yX5_sharpness : MethodName := ⟨RX5, "sharpness", "()I"⟩
abbrev cX5_degreesOpposite : ByteArray := prog_7_method_10_code
def yX5_degreesOpposite : MethodName := ⟨RX5, "degreesOpposite", "(I)I"⟩
abbrev cX5_hasLeg : ByteArray := prog_7_method_11_code
def yX5_hasLeg : MethodName := ⟨RX5, "hasLeg", "(I)Z"⟩
abbrev cX5_otherLeg : ByteArray := prog_7_method_12_code
def yX5_otherLeg : MethodName := ⟨RX5, "otherLeg", "(I)I"⟩
abbrev cX5_isPrimitive : ByteArray := prog_7_method_13_code
def yX5_isPrimitive : MethodName := ⟨RX5, "isPrimitive", "()Z"⟩
abbrev cX5_oddLeg : ByteArray := prog_7_method_14_code
def yX5_oddLeg : MethodName := ⟨RX5, "oddLeg", "()I"⟩
abbrev cX5_evenLeg : ByteArray := prog_7_method_15_code
def yX5_evenLeg : MethodName := ⟨RX5, "evenLeg", "()I"⟩
abbrev cX5_wrappedS : ByteArray := prog_7_method_16_code
def yX5_wrappedS : MethodName := ⟨RX5, "wrappedS", "()J"⟩
abbrev cX5_digitsOfS : ByteArray := prog_7_method_17_code
def yX5_digitsOfS : MethodName := ⟨RX5, "digitsOfS", "()I"⟩
abbrev cX5_comparedByArea : ByteArray := prog_7_method_18_code
def yX5_comparedByArea : MethodName := ⟨RX5, "comparedByArea", "(LTrigonyard$Triangle;)I"⟩
abbrev cX5_wholeRootOfS : ByteArray := prog_7_method_19_code
def yX5_wholeRootOfS : MethodName := ⟨RX5, "wholeRootOfS", "()J"⟩
abbrev cX5_wholeArea : ByteArray := prog_7_method_20_code
def yX5_wholeArea : MethodName := ⟨RX5, "wholeArea", "()J"⟩
abbrev cX5_innerRadius : ByteArray := prog_7_method_21_code
def yX5_innerRadius : MethodName := ⟨RX5, "innerRadius", "()J"⟩
abbrev cX5_outerDiameter : ByteArray := prog_7_method_22_code
def yX5_outerDiameter : MethodName := ⟨RX5, "outerDiameter", "()J"⟩
def RX6 : String := "Trigonyard"
def TX6 : u_T := fun k => match k with
  | 0 => ("Trigonyard", "triangles", "[LTrigonyard$Triangle;", true)
  | 1 => ("Trigonyard", "found", "LTrigonyard$Primitives;", true)
  | 2 => ("Trigonyard", "trialOne", "LTrigonyard$Primitives;", true)
  | 3 => ("Trigonyard", "trialTwo", "LTrigonyard$Primitives;", true)
  | 4 => ("Trigonyard", "order", "[I", true)
  | _ => ("Trigonyard", "ordered", "I", false)
def tyX6 : Nat → FieldType := fun k => match k with
  | 0 => .array (.object "Trigonyard$Triangle")
  | 1 => .object "Trigonyard$Primitives"
  | 2 => .object "Trigonyard$Primitives"
  | 3 => .object "Trigonyard$Primitives"
  | 4 => .array .int
  | _ => .int
theorem nmX6 : ∀ a, a < 6 → ∀ b, b < 6 → a ≠ b → (TX6 a).2.1 ≠ (TX6 b).2.1 := by decide +kernel
theorem tyX6_ok : ∀ k, k < 6 → parseFieldDescriptor (TX6 k).2.2.1 = some (tyX6 k) := by decide +kernel
abbrev cX6_init : ByteArray := prog_1_method_1_code
def yX6_init : MethodName := ⟨RX6, "<init>", "()V"⟩
abbrev cX6_put : ByteArray := prog_1_method_2_code
def yX6_put : MethodName := ⟨RX6, "put", "(IIII)I"⟩
abbrev cX6_take : ByteArray := prog_1_method_3_code
def yX6_take : MethodName := ⟨RX6, "take", "(I)I"⟩
abbrev cX6_isHeld : ByteArray := prog_1_method_4_code
def yX6_isHeld : MethodName := ⟨RX6, "isHeld", "(I)Z"⟩
abbrev cX6_side : ByteArray := prog_1_method_5_code
def yX6_side : MethodName := ⟨RX6, "side", "(II)I"⟩
abbrev cX6_copy : ByteArray := prog_1_method_6_code
def yX6_copy : MethodName := ⟨RX6, "copy", "(II)I"⟩
abbrev cX6_scale : ByteArray := prog_1_method_7_code
def yX6_scale : MethodName := ⟨RX6, "scale", "(II)I"⟩
abbrev cX6_reduce : ByteArray := prog_1_method_8_code
def yX6_reduce : MethodName := ⟨RX6, "reduce", "(I)I"⟩
abbrev cX6_join : ByteArray := prog_1_method_9_code
def yX6_join : MethodName := ⟨RX6, "join", "(III)I"⟩
abbrev cX6_kind : ByteArray := prog_1_method_10_code
def yX6_kind : MethodName := ⟨RX6, "kind", "(I)I"⟩
abbrev cX6_angle : ByteArray := prog_1_method_11_code
def yX6_angle : MethodName := ⟨RX6, "angle", "(II)I"⟩
abbrev cX6_areaIsWhole : ByteArray := prog_1_method_12_code
def yX6_areaIsWhole : MethodName := ⟨RX6, "areaIsWhole", "(I)Z"⟩
abbrev cX6_area : ByteArray := prog_1_method_13_code
def yX6_area : MethodName := ⟨RX6, "area", "(I)J"⟩
abbrev cX6_circle : ByteArray := prog_1_method_14_code
def yX6_circle : MethodName := ⟨RX6, "circle", "(IC)J"⟩
abbrev cX6_compareAreas : ByteArray := prog_1_method_15_code
def yX6_compareAreas : MethodName := ⟨RX6, "compareAreas", "(II)I"⟩
abbrev cX6_product : ByteArray := prog_1_method_16_code
def yX6_product : MethodName := ⟨RX6, "product", "(I)J"⟩
abbrev cX6_bits : ByteArray := prog_1_method_17_code
def yX6_bits : MethodName := ⟨RX6, "bits", "(I)I"⟩
abbrev cX6_hypot : ByteArray := prog_1_method_18_code
def yX6_hypot : MethodName := ⟨RX6, "hypot", "(III)D"⟩
abbrev cX6_root : ByteArray := prog_1_method_19_code
def yX6_root : MethodName := ⟨RX6, "root", "(J)D"⟩
abbrev cX6_shape : ByteArray := prog_1_method_20_code
def yX6_shape : MethodName := ⟨RX6, "shape", "(I)F"⟩
abbrev cX6_mean : ByteArray := prog_1_method_21_code
def yX6_mean : MethodName := ⟨RX6, "mean", "()D"⟩
abbrev cX6_euclid : ByteArray := prog_1_method_22_code
def yX6_euclid : MethodName := ⟨RX6, "euclid", "(III)I"⟩
abbrev cX6_step : ByteArray := prog_1_method_23_code
def yX6_step : MethodName := ⟨RX6, "step", "(IC)I"⟩
abbrev cX6_depth : ByteArray := prog_1_method_24_code
def yX6_depth : MethodName := ⟨RX6, "depth", "(I)I"⟩
abbrev cX6_generator : ByteArray := prog_1_method_25_code
def yX6_generator : MethodName := ⟨RX6, "generator", "(IC)I"⟩
abbrev cX6_list : ByteArray := prog_1_method_26_code
def yX6_list : MethodName := ⟨RX6, "list", "(CI)I"⟩
abbrev cX6_listed : ByteArray := prog_1_method_27_code
def yX6_listed : MethodName := ⟨RX6, "listed", "(II)I"⟩
abbrev cX6_counts : ByteArray := prog_1_method_28_code
def yX6_counts : MethodName := ⟨RX6, "counts", "(CI)I"⟩
abbrev cX6_sort : ByteArray := prog_1_method_29_code
def yX6_sort : MethodName := ⟨RX6, "sort", "(C)I"⟩
abbrev cX6_sorted : ByteArray := prog_1_method_30_code
def yX6_sorted : MethodName := ⟨RX6, "sorted", "(I)I"⟩
abbrev cX6_checksum : ByteArray := prog_1_method_31_code
def yX6_checksum : MethodName := ⟨RX6, "checksum", "()J"⟩
abbrev cX6_isTrue : ByteArray := prog_1_method_32_code
def yX6_isTrue : MethodName := ⟨RX6, "isTrue", "(I)Z"⟩
abbrev cX6_rootIsTrue : ByteArray := prog_1_method_33_code
def yX6_rootIsTrue : MethodName := ⟨RX6, "rootIsTrue", "(J)Z"⟩
abbrev cX6_hypotIsTrue : ByteArray := prog_1_method_34_code
def yX6_hypotIsTrue : MethodName := ⟨RX6, "hypotIsTrue", "(II)Z"⟩
abbrev cX6_listIsTrue : ByteArray := prog_1_method_35_code
def yX6_listIsTrue : MethodName := ⟨RX6, "listIsTrue", "(I)Z"⟩
abbrev cX6_countIsTrue : ByteArray := prog_1_method_36_code
def yX6_countIsTrue : MethodName := ⟨RX6, "countIsTrue", "(I)Z"⟩
abbrev cX6_isPlace : ByteArray := prog_1_method_37_code
def yX6_isPlace : MethodName := ⟨RX6, "isPlace", "(I)Z"⟩
abbrev cX6_isSide : ByteArray := prog_1_method_38_code
def yX6_isSide : MethodName := ⟨RX6, "isSide", "(I)Z"⟩
abbrev cX6_requirePlace : ByteArray := prog_1_method_39_code
def yX6_requirePlace : MethodName := ⟨RX6, "requirePlace", "(I)V"⟩
abbrev cX6_requireSide : ByteArray := prog_1_method_40_code
def yX6_requireSide : MethodName := ⟨RX6, "requireSide", "(I)V"⟩
abbrev cX6_requireNumber : ByteArray := prog_1_method_41_code
def yX6_requireNumber : MethodName := ⟨RX6, "requireNumber", "(J)V"⟩
abbrev cX6_requireBound : ByteArray := prog_1_method_42_code
def yX6_requireBound : MethodName := ⟨RX6, "requireBound", "(I)V"⟩
abbrev cX6_requireLength : ByteArray := prog_1_method_43_code
def yX6_requireLength : MethodName := ⟨RX6, "requireLength", "(I)V"⟩
abbrev cX6_triangleAt : ByteArray := prog_1_method_44_code
def yX6_triangleAt : MethodName := ⟨RX6, "triangleAt", "(I)LTrigonyard$Triangle;"⟩
abbrev cX6_heldAt : ByteArray := prog_1_method_45_code
def yX6_heldAt : MethodName := ⟨RX6, "heldAt", "(I)LTrigonyard$Triangle;"⟩
abbrev cX6_primitiveAt : ByteArray := prog_1_method_46_code
def yX6_primitiveAt : MethodName := ⟨RX6, "primitiveAt", "(I)LTrigonyard$Triangle;"⟩
abbrev cX6_hold : ByteArray := prog_1_method_47_code
def yX6_hold : MethodName := ⟨RX6, "hold", "(ILTrigonyard$Triangle;)V"⟩
abbrev cX6_holdIfShortEnough : ByteArray := prog_1_method_48_code
def yX6_holdIfShortEnough : MethodName := ⟨RX6, "holdIfShortEnough", "(IIII)I"⟩
abbrev cX6_countHeld : ByteArray := prog_1_method_49_code
def yX6_countHeld : MethodName := ⟨RX6, "countHeld", "()I"⟩
abbrev cX6_putInOrder : ByteArray := prog_1_method_50_code
def yX6_putInOrder : MethodName := ⟨RX6, "putInOrder", "(IC)V"⟩
abbrev cX6_isLess : ByteArray := prog_1_method_51_code
def yX6_isLess : MethodName := ⟨RX6, "isLess", "(IIC)Z"⟩
def RX7 : String := "TrigonyardModel"
def TX7 : u_T := fun k => match k with
  | 0 => ("TrigonyardModel", "shortest", "[I", true)
  | 1 => ("TrigonyardModel", "middle", "[I", true)
  | 2 => ("TrigonyardModel", "longest", "[I", true)
  | 3 => ("TrigonyardModel", "listShortest", "[I", true)
  | 4 => ("TrigonyardModel", "listMiddle", "[I", true)
  | 5 => ("TrigonyardModel", "listLongest", "[I", true)
  | 6 => ("TrigonyardModel", "order", "[I", true)
  | 7 => ("TrigonyardModel", "listMany", "I", false)
  | 8 => ("TrigonyardModel", "ordered", "I", false)
  | 9 => ("TrigonyardModel", "thrown", "I", false)
  | 10 => ("TrigonyardModel", "high", "J", false)
  | 11 => ("TrigonyardModel", "low", "J", false)
  | 12 => ("TrigonyardModel", "rootFound", "J", false)
  | _ => ("TrigonyardModel", "isSquare", "Z", false)
def tyX7 : Nat → FieldType := fun k => match k with
  | 0 => .array .int
  | 1 => .array .int
  | 2 => .array .int
  | 3 => .array .int
  | 4 => .array .int
  | 5 => .array .int
  | 6 => .array .int
  | 7 => .int
  | 8 => .int
  | 9 => .int
  | 10 => .long
  | 11 => .long
  | 12 => .long
  | _ => .boolean
theorem nmX7 : ∀ a, a < 14 → ∀ b, b < 14 → a ≠ b → (TX7 a).2.1 ≠ (TX7 b).2.1 := by decide +kernel
theorem tyX7_ok : ∀ k, k < 14 → parseFieldDescriptor (TX7 k).2.2.1 = some (tyX7 k) := by decide +kernel
abbrev cX7_init : ByteArray := prog_9_method_1_code
def yX7_init : MethodName := ⟨RX7, "<init>", "()V"⟩
abbrev cX7_thrown : ByteArray := prog_9_method_2_code
def yX7_thrown : MethodName := ⟨RX7, "thrown", "()I"⟩
abbrev cX7_isWrong : ByteArray := prog_9_method_3_code
def yX7_isWrong : MethodName := ⟨RX7, "isWrong", "(I)Z"⟩
abbrev cX7_isBetween : ByteArray := prog_9_method_4_code
def yX7_isBetween : MethodName := ⟨RX7, "isBetween", "(JJJ)Z"⟩
abbrev cX7_isPlace : ByteArray := prog_9_method_5_code
def yX7_isPlace : MethodName := ⟨RX7, "isPlace", "(I)Z"⟩
abbrev cX7_isThere : ByteArray := prog_9_method_6_code
def yX7_isThere : MethodName := ⟨RX7, "isThere", "(I)Z"⟩
abbrev cX7_missing : ByteArray := prog_9_method_7_code
def yX7_missing : MethodName := ⟨RX7, "missing", "(II)I"⟩
abbrev cX7_many : ByteArray := prog_9_method_8_code
def yX7_many : MethodName := ⟨RX7, "many", "()I"⟩
abbrev cX7_sideOf : ByteArray := prog_9_method_9_code
def yX7_sideOf : MethodName := ⟨RX7, "sideOf", "(II)I"⟩
abbrev cX7_least : ByteArray := prog_9_method_10_code
def yX7_least : MethodName := ⟨RX7, "least", "(II)I"⟩
abbrev cX7_most : ByteArray := prog_9_method_11_code
def yX7_most : MethodName := ⟨RX7, "most", "(II)I"⟩
abbrev cX7_hold : ByteArray := prog_9_method_12_code
def yX7_hold : MethodName := ⟨RX7, "hold", "(IIII)V"⟩
abbrev cX7_divisor : ByteArray := prog_9_method_13_code
def yX7_divisor : MethodName := ⟨RX7, "divisor", "(II)I"⟩
abbrev cX7_put : ByteArray := prog_9_method_14_code
def yX7_put : MethodName := ⟨RX7, "put", "(IIII)I"⟩
abbrev cX7_take : ByteArray := prog_9_method_15_code
def yX7_take : MethodName := ⟨RX7, "take", "(I)I"⟩
abbrev cX7_isHeld : ByteArray := prog_9_method_16_code
def yX7_isHeld : MethodName := ⟨RX7, "isHeld", "(I)Z"⟩
abbrev cX7_side : ByteArray := prog_9_method_17_code
def yX7_side : MethodName := ⟨RX7, "side", "(II)I"⟩
abbrev cX7_copy : ByteArray := prog_9_method_18_code
def yX7_copy : MethodName := ⟨RX7, "copy", "(II)I"⟩
abbrev cX7_scale : ByteArray := prog_9_method_19_code
def yX7_scale : MethodName := ⟨RX7, "scale", "(II)I"⟩
abbrev cX7_reduce : ByteArray := prog_9_method_20_code
def yX7_reduce : MethodName := ⟨RX7, "reduce", "(I)I"⟩
abbrev cX7_leg : ByteArray := prog_9_method_21_code
def yX7_leg : MethodName := ⟨RX7, "leg", "(II)I"⟩
abbrev cX7_wide : ByteArray := prog_9_method_22_code
def yX7_wide : MethodName := ⟨RX7, "wide", "(II)I"⟩
abbrev cX7_join : ByteArray := prog_9_method_23_code
def yX7_join : MethodName := ⟨RX7, "join", "(III)I"⟩
abbrev cX7_squared : ByteArray := prog_9_method_24_code
def yX7_squared : MethodName := ⟨RX7, "squared", "(J)J"⟩
abbrev cX7_kindOf : ByteArray := prog_9_method_25_code
def yX7_kindOf : MethodName := ⟨RX7, "kindOf", "(I)I"⟩
abbrev cX7_kind : ByteArray := prog_9_method_26_code
def yX7_kind : MethodName := ⟨RX7, "kind", "(I)I"⟩
abbrev cX7_angle : ByteArray := prog_9_method_27_code
def yX7_angle : MethodName := ⟨RX7, "angle", "(II)I"⟩
abbrev cX7_around : ByteArray := prog_9_method_28_code
def yX7_around : MethodName := ⟨RX7, "around", "(I)I"⟩
abbrev cX7_makeS : ByteArray := prog_9_method_29_code
def yX7_makeS : MethodName := ⟨RX7, "makeS", "(I)V"⟩
abbrev cX7_findRoot : ByteArray := prog_9_method_30_code
def yX7_findRoot : MethodName := ⟨RX7, "findRoot", "(I)V"⟩
abbrev cX7_hasArea : ByteArray := prog_9_method_31_code
def yX7_hasArea : MethodName := ⟨RX7, "hasArea", "(I)Z"⟩
abbrev cX7_areaIsWhole : ByteArray := prog_9_method_32_code
def yX7_areaIsWhole : MethodName := ⟨RX7, "areaIsWhole", "(I)Z"⟩
abbrev cX7_area : ByteArray := prog_9_method_33_code
def yX7_area : MethodName := ⟨RX7, "area", "(I)J"⟩
abbrev cX7_ratio : ByteArray := prog_9_method_34_code
def yX7_ratio : MethodName := ⟨RX7, "ratio", "(IZJ)J"⟩
abbrev cX7_round : ByteArray := prog_9_method_35_code
def yX7_round : MethodName := ⟨RX7, "round", "(IC)J"⟩
abbrev cX7_circle : ByteArray := prog_9_method_36_code
def yX7_circle : MethodName := ⟨RX7, "circle", "(IC)J"⟩
abbrev cX7_compared : ByteArray := prog_9_method_37_code
def yX7_compared : MethodName := ⟨RX7, "compared", "(II)I"⟩
abbrev cX7_compareAreas : ByteArray := prog_9_method_38_code
def yX7_compareAreas : MethodName := ⟨RX7, "compareAreas", "(II)I"⟩
abbrev cX7_product : ByteArray := prog_9_method_39_code
def yX7_product : MethodName := ⟨RX7, "product", "(I)J"⟩
abbrev cX7_bits : ByteArray := prog_9_method_40_code
def yX7_bits : MethodName := ⟨RX7, "bits", "(I)I"⟩
abbrev cX7_rootOf : ByteArray := prog_9_method_41_code
def yX7_rootOf : MethodName := ⟨RX7, "rootOf", "(J)D"⟩
abbrev cX7_hypot : ByteArray := prog_9_method_42_code
def yX7_hypot : MethodName := ⟨RX7, "hypot", "(III)D"⟩
abbrev cX7_root : ByteArray := prog_9_method_43_code
def yX7_root : MethodName := ⟨RX7, "root", "(J)D"⟩
abbrev cX7_shape : ByteArray := prog_9_method_44_code
def yX7_shape : MethodName := ⟨RX7, "shape", "(I)F"⟩
abbrev cX7_mean : ByteArray := prog_9_method_45_code
def yX7_mean : MethodName := ⟨RX7, "mean", "()D"⟩
abbrev cX7_euclid : ByteArray := prog_9_method_46_code
def yX7_euclid : MethodName := ⟨RX7, "euclid", "(III)I"⟩
abbrev cX7_isPrimitive : ByteArray := prog_9_method_47_code
def yX7_isPrimitive : MethodName := ⟨RX7, "isPrimitive", "(I)Z"⟩
abbrev cX7_odd : ByteArray := prog_9_method_48_code
def yX7_odd : MethodName := ⟨RX7, "odd", "(I)I"⟩
abbrev cX7_even : ByteArray := prog_9_method_49_code
def yX7_even : MethodName := ⟨RX7, "even", "(I)I"⟩
abbrev cX7_positive : ByteArray := prog_9_method_50_code
def yX7_positive : MethodName := ⟨RX7, "positive", "(I)I"⟩
abbrev cX7_stepped : ByteArray := prog_9_method_51_code
def yX7_stepped : MethodName := ⟨RX7, "stepped", "(IIICI)I"⟩
abbrev cX7_canStep : ByteArray := prog_9_method_52_code
def yX7_canStep : MethodName := ⟨RX7, "canStep", "(IC)Z"⟩
abbrev cX7_step : ByteArray := prog_9_method_53_code
def yX7_step : MethodName := ⟨RX7, "step", "(IC)I"⟩
abbrev cX7_depth : ByteArray := prog_9_method_54_code
def yX7_depth : MethodName := ⟨RX7, "depth", "(I)I"⟩
abbrev cX7_generator : ByteArray := prog_9_method_55_code
def yX7_generator : MethodName := ⟨RX7, "generator", "(IC)I"⟩
abbrev cX7_list : ByteArray := prog_9_method_56_code
def yX7_list : MethodName := ⟨RX7, "list", "(CI)I"⟩
abbrev cX7_listed : ByteArray := prog_9_method_57_code
def yX7_listed : MethodName := ⟨RX7, "listed", "(II)I"⟩
abbrev cX7_counts : ByteArray := prog_9_method_58_code
def yX7_counts : MethodName := ⟨RX7, "counts", "(CI)I"⟩
abbrev cX7_isBehind : ByteArray := prog_9_method_59_code
def yX7_isBehind : MethodName := ⟨RX7, "isBehind", "(IIC)Z"⟩
abbrev cX7_sort : ByteArray := prog_9_method_60_code
def yX7_sort : MethodName := ⟨RX7, "sort", "(C)I"⟩
abbrev cX7_sorted : ByteArray := prog_9_method_61_code
def yX7_sorted : MethodName := ⟨RX7, "sorted", "(I)I"⟩
abbrev cX7_checksum : ByteArray := prog_9_method_62_code
def yX7_checksum : MethodName := ⟨RX7, "checksum", "()J"⟩
abbrev cX7_isTrue : ByteArray := prog_9_method_63_code
def yX7_isTrue : MethodName := ⟨RX7, "isTrue", "(I)Z"⟩
abbrev cX7_rootIsTrue : ByteArray := prog_9_method_64_code
def yX7_rootIsTrue : MethodName := ⟨RX7, "rootIsTrue", "(J)Z"⟩
abbrev cX7_hypotIsTrue : ByteArray := prog_9_method_65_code
def yX7_hypotIsTrue : MethodName := ⟨RX7, "hypotIsTrue", "(II)Z"⟩
abbrev cX7_listIsTrue : ByteArray := prog_9_method_66_code
def yX7_listIsTrue : MethodName := ⟨RX7, "listIsTrue", "(I)Z"⟩
abbrev cX7_countIsTrue : ByteArray := prog_9_method_67_code
def yX7_countIsTrue : MethodName := ⟨RX7, "countIsTrue", "(I)Z"⟩
def RJx145de : String := "java/io/Serializable"
def TJx145de : u_T := fun k => match k with
  | _ => ("", "", "", false)
def tyJx145de : Nat → FieldType := fun k => match k with
  | _ => .int
theorem nmJx145de : ∀ a, a < 0 → ∀ b, b < 0 → a ≠ b → (TJx145de a).2.1 ≠ (TJx145de b).2.1 := by decide +kernel
theorem tyJx145de_ok : ∀ k, k < 0 → parseFieldDescriptor (TJx145de k).2.2.1 = some (tyJx145de k) := by decide +kernel
def RJ13 : String := "java/lang/Long"
def TJ13 : u_T := fun k => match k with
  | _ => ("", "", "", false)
def tyJ13 : Nat → FieldType := fun k => match k with
  | _ => .int
theorem nmJ13 : ∀ a, a < 0 → ∀ b, b < 0 → a ≠ b → (TJ13 a).2.1 ≠ (TJ13 b).2.1 := by decide +kernel
theorem tyJ13_ok : ∀ k, k < 0 → parseFieldDescriptor (TJ13 k).2.2.1 = some (tyJ13 k) := by decide +kernel
abbrev cJ13_compare_74951 : ByteArray := prog_15_method_42_code
def yJ13_compare_74951 : MethodName := ⟨RJ13, "compare", "(JJ)I"⟩
def RJ9 : String := "java/lang/Math"
def TJ9 : u_T := fun k => match k with
  | _ => ("", "", "", false)
def tyJ9 : Nat → FieldType := fun k => match k with
  | _ => .int
theorem nmJ9 : ∀ a, a < 0 → ∀ b, b < 0 → a ≠ b → (TJ9 a).2.1 ≠ (TJ9 b).2.1 := by decide +kernel
theorem tyJ9_ok : ∀ k, k < 0 → parseFieldDescriptor (TJ9 k).2.2.1 = some (tyJ9 k) := by decide +kernel
abbrev cJ9_abs_0f7a4 : ByteArray := prog_16_method_59_code
def yJ9_abs_0f7a4 : MethodName := ⟨RJ9, "abs", "(I)I"⟩
abbrev cJ9_abs_067f4 : ByteArray := prog_16_method_61_code
def yJ9_abs_067f4 : MethodName := ⟨RJ9, "abs", "(J)J"⟩
abbrev cJ9_max_7cf53 : ByteArray := prog_16_method_65_code
def yJ9_max_7cf53 : MethodName := ⟨RJ9, "max", "(II)I"⟩
abbrev cJ9_min_7cf53 : ByteArray := prog_16_method_69_code
def yJ9_min_7cf53 : MethodName := ⟨RJ9, "min", "(II)I"⟩
def RJ0 : String := "java/lang/String"
def TJ0 : u_T := fun k => match k with
  | _ => ("", "", "", false)
def tyJ0 : Nat → FieldType := fun k => match k with
  | _ => .int
theorem nmJ0 : ∀ a, a < 0 → ∀ b, b < 0 → a ≠ b → (TJ0 a).2.1 ≠ (TJ0 b).2.1 := by decide +kernel
theorem tyJ0_ok : ∀ k, k < 0 → parseFieldDescriptor (TJ0 k).2.2.1 = some (tyJ0 k) := by decide +kernel
def RL : String := "TrigonyardLaw"
abbrev cL_put : ByteArray := method_3_code
def yL_put : MethodName := ⟨RL, "put", "(LTrigonyard;IIII[J)I"⟩
abbrev cL_take : ByteArray := method_4_code
def yL_take : MethodName := ⟨RL, "take", "(LTrigonyard;I[J)I"⟩
abbrev cL_isHeld : ByteArray := method_5_code
def yL_isHeld : MethodName := ⟨RL, "isHeld", "(LTrigonyard;I[J)I"⟩
abbrev cL_side : ByteArray := method_6_code
def yL_side : MethodName := ⟨RL, "side", "(LTrigonyard;II[J)I"⟩
abbrev cL_copy : ByteArray := method_7_code
def yL_copy : MethodName := ⟨RL, "copy", "(LTrigonyard;II[J)I"⟩
abbrev cL_scale : ByteArray := method_8_code
def yL_scale : MethodName := ⟨RL, "scale", "(LTrigonyard;II[J)I"⟩
abbrev cL_reduce : ByteArray := method_9_code
def yL_reduce : MethodName := ⟨RL, "reduce", "(LTrigonyard;I[J)I"⟩
abbrev cL_join : ByteArray := method_10_code
def yL_join : MethodName := ⟨RL, "join", "(LTrigonyard;III[J)I"⟩
abbrev cL_kind : ByteArray := method_11_code
def yL_kind : MethodName := ⟨RL, "kind", "(LTrigonyard;I[J)I"⟩
abbrev cL_angle : ByteArray := method_12_code
def yL_angle : MethodName := ⟨RL, "angle", "(LTrigonyard;II[J)I"⟩
abbrev cL_areaIsWhole : ByteArray := method_13_code
def yL_areaIsWhole : MethodName := ⟨RL, "areaIsWhole", "(LTrigonyard;I[J)I"⟩
abbrev cL_area : ByteArray := method_14_code
def yL_area : MethodName := ⟨RL, "area", "(LTrigonyard;I[J)I"⟩
abbrev cL_circle : ByteArray := method_15_code
def yL_circle : MethodName := ⟨RL, "circle", "(LTrigonyard;IC[J)I"⟩
abbrev cL_compareAreas : ByteArray := method_16_code
def yL_compareAreas : MethodName := ⟨RL, "compareAreas", "(LTrigonyard;II[J)I"⟩
abbrev cL_product : ByteArray := method_17_code
def yL_product : MethodName := ⟨RL, "product", "(LTrigonyard;I[J)I"⟩
abbrev cL_bits : ByteArray := method_18_code
def yL_bits : MethodName := ⟨RL, "bits", "(LTrigonyard;I[J)I"⟩
abbrev cL_hypot : ByteArray := method_19_code
def yL_hypot : MethodName := ⟨RL, "hypot", "(LTrigonyard;III[D)I"⟩
abbrev cL_root : ByteArray := method_20_code
def yL_root : MethodName := ⟨RL, "root", "(LTrigonyard;J[D)I"⟩
abbrev cL_shape : ByteArray := method_21_code
def yL_shape : MethodName := ⟨RL, "shape", "(LTrigonyard;I[D)I"⟩
abbrev cL_euclid : ByteArray := method_22_code
def yL_euclid : MethodName := ⟨RL, "euclid", "(LTrigonyard;III[J)I"⟩
abbrev cL_step : ByteArray := method_23_code
def yL_step : MethodName := ⟨RL, "step", "(LTrigonyard;IC[J)I"⟩
abbrev cL_depth : ByteArray := method_24_code
def yL_depth : MethodName := ⟨RL, "depth", "(LTrigonyard;I[J)I"⟩
abbrev cL_generator : ByteArray := method_25_code
def yL_generator : MethodName := ⟨RL, "generator", "(LTrigonyard;IC[J)I"⟩
abbrev cL_list : ByteArray := method_26_code
def yL_list : MethodName := ⟨RL, "list", "(LTrigonyard;CI[J)I"⟩
abbrev cL_listed : ByteArray := method_27_code
def yL_listed : MethodName := ⟨RL, "listed", "(LTrigonyard;II[J)I"⟩
abbrev cL_counts : ByteArray := method_28_code
def yL_counts : MethodName := ⟨RL, "counts", "(LTrigonyard;CI[J)I"⟩
abbrev cL_sort : ByteArray := method_29_code
def yL_sort : MethodName := ⟨RL, "sort", "(LTrigonyard;C[J)I"⟩
abbrev cL_sorted : ByteArray := method_30_code
def yL_sorted : MethodName := ⟨RL, "sorted", "(LTrigonyard;I[J)I"⟩
abbrev cL_isTrue : ByteArray := method_31_code
def yL_isTrue : MethodName := ⟨RL, "isTrue", "(LTrigonyard;I[J)I"⟩
abbrev cL_rootIsTrue : ByteArray := method_32_code
def yL_rootIsTrue : MethodName := ⟨RL, "rootIsTrue", "(LTrigonyard;J[J)I"⟩
abbrev cL_hypotIsTrue : ByteArray := method_33_code
def yL_hypotIsTrue : MethodName := ⟨RL, "hypotIsTrue", "(LTrigonyard;II[J)I"⟩
abbrev cL_listIsTrue : ByteArray := method_34_code
def yL_listIsTrue : MethodName := ⟨RL, "listIsTrue", "(LTrigonyard;I[J)I"⟩
abbrev cL_countIsTrue : ByteArray := method_35_code
def yL_countIsTrue : MethodName := ⟨RL, "countIsTrue", "(LTrigonyard;I[J)I"⟩
abbrev cL_law : ByteArray := code
def yL_law : MethodName := ⟨RL, "law", "([I)Z"⟩
end
section
theorem dX0_asLongest_0 : decode cX0_asLongest 0 = .ok (.iconst 0, 1) := by decide +kernel
theorem dX0_asLongest_1 : decode cX0_asLongest 1 = .ok (.istore_n 1, 1) := by decide +kernel
theorem dX0_asLongest_2 : decode cX0_asLongest 2 = .ok (.iconst 1, 1) := by decide +kernel
theorem dX0_asLongest_3 : decode cX0_asLongest 3 = .ok (.istore_n 2, 1) := by decide +kernel
theorem dX0_asLongest_4 : decode cX0_asLongest 4 = .ok (.iload_n 0, 1) := by decide +kernel
theorem dX0_asLongest_5 : decode cX0_asLongest 5 = .ok (.iconst 1, 1) := by decide +kernel
theorem dX0_asLongest_6 : decode cX0_asLongest 6 = .ok (.isub, 1) := by decide +kernel
theorem dX0_asLongest_7 : decode cX0_asLongest 7 = .ok (.istore_n 3, 1) := by decide +kernel
theorem dX0_asLongest_8 : decode cX0_asLongest 8 = .ok (.iconst 0, 1) := by decide +kernel
theorem dX0_asLongest_9 : decode cX0_asLongest 9 = .ok (.istore 4, 2) := by decide +kernel
theorem dX0_asLongest_11 : decode cX0_asLongest 11 = .ok (.iload 4, 2) := by decide +kernel
theorem dX0_asLongest_13 : decode cX0_asLongest 13 = .ok (.iload_n 0, 1) := by decide +kernel
theorem dX0_asLongest_14 : decode cX0_asLongest 14 = .ok (.if_icmp .ge 54, 3) := by decide +kernel
theorem dX0_asLongest_17 : decode cX0_asLongest 17 = .ok (.iload_n 2, 1) := by decide +kernel
theorem dX0_asLongest_18 : decode cX0_asLongest 18 = .ok (.iload_n 3, 1) := by decide +kernel
theorem dX0_asLongest_19 : decode cX0_asLongest 19 = .ok (.if_icmp .ge 49, 3) := by decide +kernel
theorem dX0_asLongest_22 : decode cX0_asLongest 22 = .ok (.iload_n 2, 1) := by decide +kernel
theorem dX0_asLongest_23 : decode cX0_asLongest 23 = .ok (.iload_n 2, 1) := by decide +kernel
theorem dX0_asLongest_24 : decode cX0_asLongest 24 = .ok (.imul, 1) := by decide +kernel
theorem dX0_asLongest_25 : decode cX0_asLongest 25 = .ok (.iload_n 3, 1) := by decide +kernel
theorem dX0_asLongest_26 : decode cX0_asLongest 26 = .ok (.iload_n 3, 1) := by decide +kernel
theorem dX0_asLongest_27 : decode cX0_asLongest 27 = .ok (.imul, 1) := by decide +kernel
theorem dX0_asLongest_28 : decode cX0_asLongest 28 = .ok (.iadd, 1) := by decide +kernel
theorem dX0_asLongest_29 : decode cX0_asLongest 29 = .ok (.iload_n 0, 1) := by decide +kernel
theorem dX0_asLongest_30 : decode cX0_asLongest 30 = .ok (.iload_n 0, 1) := by decide +kernel
theorem dX0_asLongest_31 : decode cX0_asLongest 31 = .ok (.imul, 1) := by decide +kernel
theorem dX0_asLongest_32 : decode cX0_asLongest 32 = .ok (.isub, 1) := by decide +kernel
theorem dX0_asLongest_33 : decode cX0_asLongest 33 = .ok (.istore 5, 2) := by decide +kernel
theorem dX0_asLongest_35 : decode cX0_asLongest 35 = .ok (.iload_n 1, 1) := by decide +kernel
theorem dX0_asLongest_36 : decode cX0_asLongest 36 = .ok (.iload 5, 2) := by decide +kernel
theorem dX0_asLongest_38 : decode cX0_asLongest 38 = .ok (.ifCond .ne 7, 3) := by decide +kernel
theorem dX0_asLongest_41 : decode cX0_asLongest 41 = .ok (.iconst 1, 1) := by decide +kernel
theorem dX0_asLongest_42 : decode cX0_asLongest 42 = .ok (.goto 4, 3) := by decide +kernel
theorem dX0_asLongest_45 : decode cX0_asLongest 45 = .ok (.iconst 0, 1) := by decide +kernel
theorem dX0_asLongest_46 : decode cX0_asLongest 46 = .ok (.iadd, 1) := by decide +kernel
theorem dX0_asLongest_47 : decode cX0_asLongest 47 = .ok (.istore_n 1, 1) := by decide +kernel
theorem dX0_asLongest_48 : decode cX0_asLongest 48 = .ok (.iload 5, 2) := by decide +kernel
theorem dX0_asLongest_50 : decode cX0_asLongest 50 = .ok (.ifCond .gt 9, 3) := by decide +kernel
theorem dX0_asLongest_53 : decode cX0_asLongest 53 = .ok (.iinc 2 1, 3) := by decide +kernel
theorem dX0_asLongest_56 : decode cX0_asLongest 56 = .ok (.goto 6, 3) := by decide +kernel
theorem dX0_asLongest_59 : decode cX0_asLongest 59 = .ok (.iinc 3 (-1), 3) := by decide +kernel
theorem dX0_asLongest_62 : decode cX0_asLongest 62 = .ok (.iinc 4 1, 3) := by decide +kernel
theorem dX0_asLongest_65 : decode cX0_asLongest 65 = .ok (.goto (-54), 3) := by decide +kernel
theorem dX0_asLongest_68 : decode cX0_asLongest 68 = .ok (.iload_n 1, 1) := by decide +kernel
theorem dX0_asLongest_69 : decode cX0_asLongest 69 = .ok (.ireturn, 1) := by decide +kernel
theorem dX0_asLeg_0 : decode cX0_asLeg 0 = .ok (.iconst 0, 1) := by decide +kernel
theorem dX0_asLeg_1 : decode cX0_asLeg 1 = .ok (.istore_n 1, 1) := by decide +kernel
theorem dX0_asLeg_2 : decode cX0_asLeg 2 = .ok (.iconst 1, 1) := by decide +kernel
theorem dX0_asLeg_3 : decode cX0_asLeg 3 = .ok (.istore_n 2, 1) := by decide +kernel
theorem dX0_asLeg_4 : decode cX0_asLeg 4 = .ok (.iload_n 2, 1) := by decide +kernel
theorem dX0_asLeg_5 : decode cX0_asLeg 5 = .ok (.iload_n 0, 1) := by decide +kernel
theorem dX0_asLeg_6 : decode cX0_asLeg 6 = .ok (.if_icmp .ge 35, 3) := by decide +kernel
theorem dX0_asLeg_9 : decode cX0_asLeg 9 = .ok (.iload_n 0, 1) := by decide +kernel
theorem dX0_asLeg_10 : decode cX0_asLeg 10 = .ok (.iload_n 0, 1) := by decide +kernel
theorem dX0_asLeg_11 : decode cX0_asLeg 11 = .ok (.imul, 1) := by decide +kernel
theorem dX0_asLeg_12 : decode cX0_asLeg 12 = .ok (.i2l, 1) := by decide +kernel
theorem dX0_asLeg_13 : decode cX0_asLeg 13 = .ok (.iload_n 2, 1) := by decide +kernel
theorem dX0_asLeg_14 : decode cX0_asLeg 14 = .ok (.i2l, 1) := by decide +kernel
theorem dX0_asLeg_15 : decode cX0_asLeg 15 = .ok (.invokestatic 7, 3) := by decide +kernel
theorem dX0_asLeg_18 : decode cX0_asLeg 18 = .ok (.l2i, 1) := by decide +kernel
theorem dX0_asLeg_19 : decode cX0_asLeg 19 = .ok (.istore_n 3, 1) := by decide +kernel
theorem dX0_asLeg_20 : decode cX0_asLeg 20 = .ok (.iload_n 3, 1) := by decide +kernel
theorem dX0_asLeg_21 : decode cX0_asLeg 21 = .ok (.ifCond .le 14, 3) := by decide +kernel
theorem dX0_asLeg_24 : decode cX0_asLeg 24 = .ok (.iload_n 3, 1) := by decide +kernel
theorem dX0_asLeg_25 : decode cX0_asLeg 25 = .ok (.iload_n 2, 1) := by decide +kernel
theorem dX0_asLeg_26 : decode cX0_asLeg 26 = .ok (.isub, 1) := by decide +kernel
theorem dX0_asLeg_27 : decode cX0_asLeg 27 = .ok (.iconst 2, 1) := by decide +kernel
theorem dX0_asLeg_28 : decode cX0_asLeg 28 = .ok (.irem, 1) := by decide +kernel
theorem dX0_asLeg_29 : decode cX0_asLeg 29 = .ok (.ifCond .ne 6, 3) := by decide +kernel
theorem dX0_asLeg_32 : decode cX0_asLeg 32 = .ok (.iinc 1 1, 3) := by decide +kernel
theorem dX0_asLeg_35 : decode cX0_asLeg 35 = .ok (.iinc 2 1, 3) := by decide +kernel
theorem dX0_asLeg_38 : decode cX0_asLeg 38 = .ok (.goto (-34), 3) := by decide +kernel
theorem dX0_asLeg_41 : decode cX0_asLeg 41 = .ok (.iload_n 1, 1) := by decide +kernel
theorem dX0_asLeg_42 : decode cX0_asLeg 42 = .ok (.ireturn, 1) := by decide +kernel
theorem dX0_productOverPrimes_0 : decode cX0_productOverPrimes 0 = .ok (.iconst 1, 1) := by decide +kernel
theorem dX0_productOverPrimes_1 : decode cX0_productOverPrimes 1 = .ok (.istore_n 2, 1) := by decide +kernel
theorem dX0_productOverPrimes_2 : decode cX0_productOverPrimes 2 = .ok (.iload_n 0, 1) := by decide +kernel
theorem dX0_productOverPrimes_3 : decode cX0_productOverPrimes 3 = .ok (.istore_n 3, 1) := by decide +kernel
theorem dX0_productOverPrimes_4 : decode cX0_productOverPrimes 4 = .ok (.iconst 2, 1) := by decide +kernel
theorem dX0_productOverPrimes_5 : decode cX0_productOverPrimes 5 = .ok (.istore 4, 2) := by decide +kernel
theorem dX0_productOverPrimes_7 : decode cX0_productOverPrimes 7 = .ok (.iload 4, 2) := by decide +kernel
theorem dX0_productOverPrimes_9 : decode cX0_productOverPrimes 9 = .ok (.iload_n 0, 1) := by decide +kernel
theorem dX0_productOverPrimes_10 : decode cX0_productOverPrimes 10 = .ok (.if_icmp .gt 63, 3) := by decide +kernel
theorem dX0_productOverPrimes_13 : decode cX0_productOverPrimes 13 = .ok (.iload_n 3, 1) := by decide +kernel
theorem dX0_productOverPrimes_14 : decode cX0_productOverPrimes 14 = .ok (.iconst 1, 1) := by decide +kernel
theorem dX0_productOverPrimes_15 : decode cX0_productOverPrimes 15 = .ok (.if_icmp .le 58, 3) := by decide +kernel
theorem dX0_productOverPrimes_18 : decode cX0_productOverPrimes 18 = .ok (.iconst 0, 1) := by decide +kernel
theorem dX0_productOverPrimes_19 : decode cX0_productOverPrimes 19 = .ok (.istore 5, 2) := by decide +kernel
theorem dX0_productOverPrimes_21 : decode cX0_productOverPrimes 21 = .ok (.iload 5, 2) := by decide +kernel
theorem dX0_productOverPrimes_23 : decode cX0_productOverPrimes 23 = .ok (.bipush 32, 2) := by decide +kernel
theorem dX0_productOverPrimes_25 : decode cX0_productOverPrimes 25 = .ok (.if_icmp .ge 21, 3) := by decide +kernel
theorem dX0_productOverPrimes_28 : decode cX0_productOverPrimes 28 = .ok (.iload_n 3, 1) := by decide +kernel
theorem dX0_productOverPrimes_29 : decode cX0_productOverPrimes 29 = .ok (.iload 4, 2) := by decide +kernel
theorem dX0_productOverPrimes_31 : decode cX0_productOverPrimes 31 = .ok (.irem, 1) := by decide +kernel
theorem dX0_productOverPrimes_32 : decode cX0_productOverPrimes 32 = .ok (.ifCond .ne 14, 3) := by decide +kernel
theorem dX0_productOverPrimes_35 : decode cX0_productOverPrimes 35 = .ok (.iload_n 3, 1) := by decide +kernel
theorem dX0_productOverPrimes_36 : decode cX0_productOverPrimes 36 = .ok (.iload 4, 2) := by decide +kernel
theorem dX0_productOverPrimes_38 : decode cX0_productOverPrimes 38 = .ok (.idiv, 1) := by decide +kernel
theorem dX0_productOverPrimes_39 : decode cX0_productOverPrimes 39 = .ok (.istore_n 3, 1) := by decide +kernel
theorem dX0_productOverPrimes_40 : decode cX0_productOverPrimes 40 = .ok (.iinc 5 1, 3) := by decide +kernel
theorem dX0_productOverPrimes_43 : decode cX0_productOverPrimes 43 = .ok (.goto (-22), 3) := by decide +kernel
theorem dX0_productOverPrimes_46 : decode cX0_productOverPrimes 46 = .ok (.iload_n 1, 1) := by decide +kernel
theorem dX0_productOverPrimes_47 : decode cX0_productOverPrimes 47 = .ok (.ifCond .eq 11, 3) := by decide +kernel
theorem dX0_productOverPrimes_50 : decode cX0_productOverPrimes 50 = .ok (.iload 4, 2) := by decide +kernel
theorem dX0_productOverPrimes_52 : decode cX0_productOverPrimes 52 = .ok (.iconst 4, 1) := by decide +kernel
theorem dX0_productOverPrimes_53 : decode cX0_productOverPrimes 53 = .ok (.irem, 1) := by decide +kernel
theorem dX0_productOverPrimes_54 : decode cX0_productOverPrimes 54 = .ok (.iconst 1, 1) := by decide +kernel
theorem dX0_productOverPrimes_55 : decode cX0_productOverPrimes 55 = .ok (.if_icmp .ne 12, 3) := by decide +kernel
theorem dX0_productOverPrimes_58 : decode cX0_productOverPrimes 58 = .ok (.iload_n 2, 1) := by decide +kernel
theorem dX0_productOverPrimes_59 : decode cX0_productOverPrimes 59 = .ok (.iconst 2, 1) := by decide +kernel
theorem dX0_productOverPrimes_60 : decode cX0_productOverPrimes 60 = .ok (.iload 5, 2) := by decide +kernel
theorem dX0_productOverPrimes_62 : decode cX0_productOverPrimes 62 = .ok (.imul, 1) := by decide +kernel
theorem dX0_productOverPrimes_63 : decode cX0_productOverPrimes 63 = .ok (.iconst 1, 1) := by decide +kernel
theorem dX0_productOverPrimes_64 : decode cX0_productOverPrimes 64 = .ok (.iadd, 1) := by decide +kernel
theorem dX0_productOverPrimes_65 : decode cX0_productOverPrimes 65 = .ok (.imul, 1) := by decide +kernel
theorem dX0_productOverPrimes_66 : decode cX0_productOverPrimes 66 = .ok (.istore_n 2, 1) := by decide +kernel
theorem dX0_productOverPrimes_67 : decode cX0_productOverPrimes 67 = .ok (.iinc 4 1, 3) := by decide +kernel
theorem dX0_productOverPrimes_70 : decode cX0_productOverPrimes 70 = .ok (.goto (-63), 3) := by decide +kernel
theorem dX0_productOverPrimes_73 : decode cX0_productOverPrimes 73 = .ok (.iload_n 2, 1) := by decide +kernel
theorem dX0_productOverPrimes_74 : decode cX0_productOverPrimes 74 = .ok (.ireturn, 1) := by decide +kernel
theorem dX1_high_0 : decode cX1_high 0 = .ok (.lload_n 0, 1) := by decide +kernel
theorem dX1_high_1 : decode cX1_high 1 = .ok (.bipush 18, 2) := by decide +kernel
theorem dX1_high_3 : decode cX1_high 3 = .ok (.lshr, 1) := by decide +kernel
theorem dX1_high_4 : decode cX1_high 4 = .ok (.lload_n 2, 1) := by decide +kernel
theorem dX1_high_5 : decode cX1_high 5 = .ok (.lmul, 1) := by decide +kernel
theorem dX1_high_6 : decode cX1_high 6 = .ok (.lload_n 0, 1) := by decide +kernel
theorem dX1_high_7 : decode cX1_high 7 = .ok (.ldc2_w 9, 3) := by decide +kernel
theorem dX1_high_10 : decode cX1_high 10 = .ok (.land, 1) := by decide +kernel
theorem dX1_high_11 : decode cX1_high 11 = .ok (.lload_n 2, 1) := by decide +kernel
theorem dX1_high_12 : decode cX1_high 12 = .ok (.lmul, 1) := by decide +kernel
theorem dX1_high_13 : decode cX1_high 13 = .ok (.bipush 18, 2) := by decide +kernel
theorem dX1_high_15 : decode cX1_high 15 = .ok (.lshr, 1) := by decide +kernel
theorem dX1_high_16 : decode cX1_high 16 = .ok (.ladd, 1) := by decide +kernel
theorem dX1_high_17 : decode cX1_high 17 = .ok (.lreturn, 1) := by decide +kernel
theorem dX1_low_0 : decode cX1_low 0 = .ok (.lload_n 0, 1) := by decide +kernel
theorem dX1_low_1 : decode cX1_low 1 = .ok (.lload_n 2, 1) := by decide +kernel
theorem dX1_low_2 : decode cX1_low 2 = .ok (.lmul, 1) := by decide +kernel
theorem dX1_low_3 : decode cX1_low 3 = .ok (.ldc2_w 9, 3) := by decide +kernel
theorem dX1_low_6 : decode cX1_low 6 = .ok (.land, 1) := by decide +kernel
theorem dX1_low_7 : decode cX1_low 7 = .ok (.lreturn, 1) := by decide +kernel
theorem dX1_digits_0 : decode cX1_digits 0 = .ok (.iconst 0, 1) := by decide +kernel
theorem dX1_digits_1 : decode cX1_digits 1 = .ok (.istore_n 2, 1) := by decide +kernel
theorem dX1_digits_2 : decode cX1_digits 2 = .ok (.lload_n 0, 1) := by decide +kernel
theorem dX1_digits_3 : decode cX1_digits 3 = .ok (.lstore_n 3, 1) := by decide +kernel
theorem dX1_digits_4 : decode cX1_digits 4 = .ok (.lload_n 3, 1) := by decide +kernel
theorem dX1_digits_5 : decode cX1_digits 5 = .ok (.lconst 0, 1) := by decide +kernel
theorem dX1_digits_6 : decode cX1_digits 6 = .ok (.lcmp, 1) := by decide +kernel
theorem dX1_digits_7 : decode cX1_digits 7 = .ok (.ifCond .le 19, 3) := by decide +kernel
theorem dX1_digits_10 : decode cX1_digits 10 = .ok (.iload_n 2, 1) := by decide +kernel
theorem dX1_digits_11 : decode cX1_digits 11 = .ok (.bipush 64, 2) := by decide +kernel
theorem dX1_digits_13 : decode cX1_digits 13 = .ok (.if_icmp .ge 13, 3) := by decide +kernel
theorem dX1_digits_16 : decode cX1_digits 16 = .ok (.iinc 2 1, 3) := by decide +kernel
theorem dX1_digits_19 : decode cX1_digits 19 = .ok (.lload_n 3, 1) := by decide +kernel
theorem dX1_digits_20 : decode cX1_digits 20 = .ok (.iconst 1, 1) := by decide +kernel
theorem dX1_digits_21 : decode cX1_digits 21 = .ok (.lshr, 1) := by decide +kernel
theorem dX1_digits_22 : decode cX1_digits 22 = .ok (.lstore_n 3, 1) := by decide +kernel
theorem dX1_digits_23 : decode cX1_digits 23 = .ok (.goto (-19), 3) := by decide +kernel
theorem dX1_digits_26 : decode cX1_digits 26 = .ok (.iload_n 2, 1) := by decide +kernel
theorem dX1_digits_27 : decode cX1_digits 27 = .ok (.ireturn, 1) := by decide +kernel
theorem dX1_commonDivisor_0 : decode cX1_commonDivisor 0 = .ok (.lload_n 0, 1) := by decide +kernel
theorem dX1_commonDivisor_1 : decode cX1_commonDivisor 1 = .ok (.lstore 4, 2) := by decide +kernel
theorem dX1_commonDivisor_3 : decode cX1_commonDivisor 3 = .ok (.lload_n 2, 1) := by decide +kernel
theorem dX1_commonDivisor_4 : decode cX1_commonDivisor 4 = .ok (.lstore 6, 2) := by decide +kernel
theorem dX1_commonDivisor_6 : decode cX1_commonDivisor 6 = .ok (.iconst 0, 1) := by decide +kernel
theorem dX1_commonDivisor_7 : decode cX1_commonDivisor 7 = .ok (.istore 8, 2) := by decide +kernel
theorem dX1_commonDivisor_9 : decode cX1_commonDivisor 9 = .ok (.iload 8, 2) := by decide +kernel
theorem dX1_commonDivisor_11 : decode cX1_commonDivisor 11 = .ok (.bipush 100, 2) := by decide +kernel
theorem dX1_commonDivisor_13 : decode cX1_commonDivisor 13 = .ok (.if_icmp .ge 31, 3) := by decide +kernel
theorem dX1_commonDivisor_16 : decode cX1_commonDivisor 16 = .ok (.lload 6, 2) := by decide +kernel
theorem dX1_commonDivisor_18 : decode cX1_commonDivisor 18 = .ok (.lconst 0, 1) := by decide +kernel
theorem dX1_commonDivisor_19 : decode cX1_commonDivisor 19 = .ok (.lcmp, 1) := by decide +kernel
theorem dX1_commonDivisor_20 : decode cX1_commonDivisor 20 = .ok (.ifCond .eq 24, 3) := by decide +kernel
theorem dX1_commonDivisor_23 : decode cX1_commonDivisor 23 = .ok (.lload 4, 2) := by decide +kernel
theorem dX1_commonDivisor_25 : decode cX1_commonDivisor 25 = .ok (.lload 6, 2) := by decide +kernel
theorem dX1_commonDivisor_27 : decode cX1_commonDivisor 27 = .ok (.lrem, 1) := by decide +kernel
theorem dX1_commonDivisor_28 : decode cX1_commonDivisor 28 = .ok (.lstore 9, 2) := by decide +kernel
theorem dX1_commonDivisor_30 : decode cX1_commonDivisor 30 = .ok (.lload 6, 2) := by decide +kernel
theorem dX1_commonDivisor_32 : decode cX1_commonDivisor 32 = .ok (.lstore 4, 2) := by decide +kernel
theorem dX1_commonDivisor_34 : decode cX1_commonDivisor 34 = .ok (.lload 9, 2) := by decide +kernel
theorem dX1_commonDivisor_36 : decode cX1_commonDivisor 36 = .ok (.lstore 6, 2) := by decide +kernel
theorem dX1_commonDivisor_38 : decode cX1_commonDivisor 38 = .ok (.iinc 8 1, 3) := by decide +kernel
theorem dX1_commonDivisor_41 : decode cX1_commonDivisor 41 = .ok (.goto (-32), 3) := by decide +kernel
theorem dX1_commonDivisor_44 : decode cX1_commonDivisor 44 = .ok (.lload 4, 2) := by decide +kernel
theorem dX1_commonDivisor_46 : decode cX1_commonDivisor 46 = .ok (.lreturn, 1) := by decide +kernel
theorem dX1_wholeQuotient_0 : decode cX1_wholeQuotient 0 = .ok (.lload_n 2, 1) := by decide +kernel
theorem dX1_wholeQuotient_1 : decode cX1_wholeQuotient 1 = .ok (.lconst 0, 1) := by decide +kernel
theorem dX1_wholeQuotient_2 : decode cX1_wholeQuotient 2 = .ok (.lcmp, 1) := by decide +kernel
theorem dX1_wholeQuotient_3 : decode cX1_wholeQuotient 3 = .ok (.ifCond .le 17, 3) := by decide +kernel
theorem dX1_wholeQuotient_6 : decode cX1_wholeQuotient 6 = .ok (.lload_n 0, 1) := by decide +kernel
theorem dX1_wholeQuotient_7 : decode cX1_wholeQuotient 7 = .ok (.lload_n 2, 1) := by decide +kernel
theorem dX1_wholeQuotient_8 : decode cX1_wholeQuotient 8 = .ok (.lrem, 1) := by decide +kernel
theorem dX1_wholeQuotient_9 : decode cX1_wholeQuotient 9 = .ok (.lconst 0, 1) := by decide +kernel
theorem dX1_wholeQuotient_10 : decode cX1_wholeQuotient 10 = .ok (.lcmp, 1) := by decide +kernel
theorem dX1_wholeQuotient_11 : decode cX1_wholeQuotient 11 = .ok (.ifCond .ne 9, 3) := by decide +kernel
theorem dX1_wholeQuotient_14 : decode cX1_wholeQuotient 14 = .ok (.lload_n 0, 1) := by decide +kernel
theorem dX1_wholeQuotient_15 : decode cX1_wholeQuotient 15 = .ok (.lload_n 2, 1) := by decide +kernel
theorem dX1_wholeQuotient_16 : decode cX1_wholeQuotient 16 = .ok (.ldiv, 1) := by decide +kernel
theorem dX1_wholeQuotient_17 : decode cX1_wholeQuotient 17 = .ok (.goto 4, 3) := by decide +kernel
theorem dX1_wholeQuotient_20 : decode cX1_wholeQuotient 20 = .ok (.lconst 0, 1) := by decide +kernel
theorem dX1_wholeQuotient_21 : decode cX1_wholeQuotient 21 = .ok (.lreturn, 1) := by decide +kernel
theorem dX1_wholeRoot_0 : decode cX1_wholeRoot 0 = .ok (.lconst 0, 1) := by decide +kernel
theorem dX1_wholeRoot_1 : decode cX1_wholeRoot 1 = .ok (.lstore_n 2, 1) := by decide +kernel
theorem dX1_wholeRoot_2 : decode cX1_wholeRoot 2 = .ok (.ldc2_w 11, 3) := by decide +kernel
theorem dX1_wholeRoot_5 : decode cX1_wholeRoot 5 = .ok (.lstore 4, 2) := by decide +kernel
theorem dX1_wholeRoot_7 : decode cX1_wholeRoot 7 = .ok (.lload 4, 2) := by decide +kernel
theorem dX1_wholeRoot_9 : decode cX1_wholeRoot 9 = .ok (.lconst 0, 1) := by decide +kernel
theorem dX1_wholeRoot_10 : decode cX1_wholeRoot 10 = .ok (.lcmp, 1) := by decide +kernel
theorem dX1_wholeRoot_11 : decode cX1_wholeRoot 11 = .ok (.ifCond .le 31, 3) := by decide +kernel
theorem dX1_wholeRoot_14 : decode cX1_wholeRoot 14 = .ok (.lload_n 2, 1) := by decide +kernel
theorem dX1_wholeRoot_15 : decode cX1_wholeRoot 15 = .ok (.lload 4, 2) := by decide +kernel
theorem dX1_wholeRoot_17 : decode cX1_wholeRoot 17 = .ok (.ladd, 1) := by decide +kernel
theorem dX1_wholeRoot_18 : decode cX1_wholeRoot 18 = .ok (.lstore 6, 2) := by decide +kernel
theorem dX1_wholeRoot_20 : decode cX1_wholeRoot 20 = .ok (.lload 6, 2) := by decide +kernel
theorem dX1_wholeRoot_22 : decode cX1_wholeRoot 22 = .ok (.lload 6, 2) := by decide +kernel
theorem dX1_wholeRoot_24 : decode cX1_wholeRoot 24 = .ok (.lmul, 1) := by decide +kernel
theorem dX1_wholeRoot_25 : decode cX1_wholeRoot 25 = .ok (.lload_n 0, 1) := by decide +kernel
theorem dX1_wholeRoot_26 : decode cX1_wholeRoot 26 = .ok (.lcmp, 1) := by decide +kernel
theorem dX1_wholeRoot_27 : decode cX1_wholeRoot 27 = .ok (.ifCond .gt 6, 3) := by decide +kernel
theorem dX1_wholeRoot_30 : decode cX1_wholeRoot 30 = .ok (.lload 6, 2) := by decide +kernel
theorem dX1_wholeRoot_32 : decode cX1_wholeRoot 32 = .ok (.lstore_n 2, 1) := by decide +kernel
theorem dX1_wholeRoot_33 : decode cX1_wholeRoot 33 = .ok (.lload 4, 2) := by decide +kernel
theorem dX1_wholeRoot_35 : decode cX1_wholeRoot 35 = .ok (.iconst 1, 1) := by decide +kernel
theorem dX1_wholeRoot_36 : decode cX1_wholeRoot 36 = .ok (.lshr, 1) := by decide +kernel
theorem dX1_wholeRoot_37 : decode cX1_wholeRoot 37 = .ok (.lstore 4, 2) := by decide +kernel
theorem dX1_wholeRoot_39 : decode cX1_wholeRoot 39 = .ok (.goto (-32), 3) := by decide +kernel
theorem dX1_wholeRoot_42 : decode cX1_wholeRoot 42 = .ok (.lload_n 2, 1) := by decide +kernel
theorem dX1_wholeRoot_43 : decode cX1_wholeRoot 43 = .ok (.lreturn, 1) := by decide +kernel
theorem dX1_isSquare_0 : decode cX1_isSquare 0 = .ok (.lload_n 0, 1) := by decide +kernel
theorem dX1_isSquare_1 : decode cX1_isSquare 1 = .ok (.invokestatic 13, 3) := by decide +kernel
theorem dX1_isSquare_4 : decode cX1_isSquare 4 = .ok (.lstore_n 2, 1) := by decide +kernel
theorem dX1_isSquare_5 : decode cX1_isSquare 5 = .ok (.lload_n 2, 1) := by decide +kernel
theorem dX1_isSquare_6 : decode cX1_isSquare 6 = .ok (.lload_n 2, 1) := by decide +kernel
theorem dX1_isSquare_7 : decode cX1_isSquare 7 = .ok (.lmul, 1) := by decide +kernel
theorem dX1_isSquare_8 : decode cX1_isSquare 8 = .ok (.lload_n 0, 1) := by decide +kernel
theorem dX1_isSquare_9 : decode cX1_isSquare 9 = .ok (.lcmp, 1) := by decide +kernel
theorem dX1_isSquare_10 : decode cX1_isSquare 10 = .ok (.ifCond .ne 7, 3) := by decide +kernel
theorem dX1_isSquare_13 : decode cX1_isSquare 13 = .ok (.iconst 1, 1) := by decide +kernel
theorem dX1_isSquare_14 : decode cX1_isSquare 14 = .ok (.goto 4, 3) := by decide +kernel
theorem dX1_isSquare_17 : decode cX1_isSquare 17 = .ok (.iconst 0, 1) := by decide +kernel
theorem dX1_isSquare_18 : decode cX1_isSquare 18 = .ok (.ireturn, 1) := by decide +kernel
theorem dX1_nearestRoot_0 : decode cX1_nearestRoot 0 = .ok (.lconst 0, 1) := by decide +kernel
theorem dX1_nearestRoot_1 : decode cX1_nearestRoot 1 = .ok (.lstore_n 2, 1) := by decide +kernel
theorem dX1_nearestRoot_2 : decode cX1_nearestRoot 2 = .ok (.lconst 0, 1) := by decide +kernel
theorem dX1_nearestRoot_3 : decode cX1_nearestRoot 3 = .ok (.lstore 4, 2) := by decide +kernel
theorem dX1_nearestRoot_5 : decode cX1_nearestRoot 5 = .ok (.iconst 0, 1) := by decide +kernel
theorem dX1_nearestRoot_6 : decode cX1_nearestRoot 6 = .ok (.istore 6, 2) := by decide +kernel
theorem dX1_nearestRoot_8 : decode cX1_nearestRoot 8 = .ok (.bipush 16, 2) := by decide +kernel
theorem dX1_nearestRoot_10 : decode cX1_nearestRoot 10 = .ok (.istore 7, 2) := by decide +kernel
theorem dX1_nearestRoot_12 : decode cX1_nearestRoot 12 = .ok (.iload 7, 2) := by decide +kernel
theorem dX1_nearestRoot_14 : decode cX1_nearestRoot 14 = .ok (.bipush (-64), 2) := by decide +kernel
theorem dX1_nearestRoot_16 : decode cX1_nearestRoot 16 = .ok (.if_icmp .le 94, 3) := by decide +kernel
theorem dX1_nearestRoot_19 : decode cX1_nearestRoot 19 = .ok (.lload_n 2, 1) := by decide +kernel
theorem dX1_nearestRoot_20 : decode cX1_nearestRoot 20 = .ok (.bipush 53, 2) := by decide +kernel
theorem dX1_nearestRoot_22 : decode cX1_nearestRoot 22 = .ok (.lshr, 1) := by decide +kernel
theorem dX1_nearestRoot_23 : decode cX1_nearestRoot 23 = .ok (.lconst 0, 1) := by decide +kernel
theorem dX1_nearestRoot_24 : decode cX1_nearestRoot 24 = .ok (.lcmp, 1) := by decide +kernel
theorem dX1_nearestRoot_25 : decode cX1_nearestRoot 25 = .ok (.ifCond .ne 85, 3) := by decide +kernel
theorem dX1_nearestRoot_28 : decode cX1_nearestRoot 28 = .ok (.ldc2_w 17, 3) := by decide +kernel
theorem dX1_nearestRoot_31 : decode cX1_nearestRoot 31 = .ok (.lload 4, 2) := by decide +kernel
theorem dX1_nearestRoot_33 : decode cX1_nearestRoot 33 = .ok (.lmul, 1) := by decide +kernel
theorem dX1_nearestRoot_34 : decode cX1_nearestRoot 34 = .ok (.iload 7, 2) := by decide +kernel
theorem dX1_nearestRoot_36 : decode cX1_nearestRoot 36 = .ok (.ifCond .ge 7, 3) := by decide +kernel
theorem dX1_nearestRoot_39 : decode cX1_nearestRoot 39 = .ok (.lconst 0, 1) := by decide +kernel
theorem dX1_nearestRoot_40 : decode cX1_nearestRoot 40 = .ok (.goto 13, 3) := by decide +kernel
theorem dX1_nearestRoot_43 : decode cX1_nearestRoot 43 = .ok (.lload_n 0, 1) := by decide +kernel
theorem dX1_nearestRoot_44 : decode cX1_nearestRoot 44 = .ok (.iconst 2, 1) := by decide +kernel
theorem dX1_nearestRoot_45 : decode cX1_nearestRoot 45 = .ok (.iload 7, 2) := by decide +kernel
theorem dX1_nearestRoot_47 : decode cX1_nearestRoot 47 = .ok (.imul, 1) := by decide +kernel
theorem dX1_nearestRoot_48 : decode cX1_nearestRoot 48 = .ok (.lshr, 1) := by decide +kernel
theorem dX1_nearestRoot_49 : decode cX1_nearestRoot 49 = .ok (.ldc2_w 19, 3) := by decide +kernel
theorem dX1_nearestRoot_52 : decode cX1_nearestRoot 52 = .ok (.land, 1) := by decide +kernel
theorem dX1_nearestRoot_53 : decode cX1_nearestRoot 53 = .ok (.ladd, 1) := by decide +kernel
theorem dX1_nearestRoot_54 : decode cX1_nearestRoot 54 = .ok (.lstore 4, 2) := by decide +kernel
theorem dX1_nearestRoot_56 : decode cX1_nearestRoot 56 = .ok (.ldc2_w 21, 3) := by decide +kernel
theorem dX1_nearestRoot_59 : decode cX1_nearestRoot 59 = .ok (.lload_n 2, 1) := by decide +kernel
theorem dX1_nearestRoot_60 : decode cX1_nearestRoot 60 = .ok (.lmul, 1) := by decide +kernel
theorem dX1_nearestRoot_61 : decode cX1_nearestRoot 61 = .ok (.lstore_n 2, 1) := by decide +kernel
theorem dX1_nearestRoot_62 : decode cX1_nearestRoot 62 = .ok (.lload 4, 2) := by decide +kernel
theorem dX1_nearestRoot_64 : decode cX1_nearestRoot 64 = .ok (.ldc2_w 21, 3) := by decide +kernel
theorem dX1_nearestRoot_67 : decode cX1_nearestRoot 67 = .ok (.lload_n 2, 1) := by decide +kernel
theorem dX1_nearestRoot_68 : decode cX1_nearestRoot 68 = .ok (.lmul, 1) := by decide +kernel
theorem dX1_nearestRoot_69 : decode cX1_nearestRoot 69 = .ok (.lcmp, 1) := by decide +kernel
theorem dX1_nearestRoot_70 : decode cX1_nearestRoot 70 = .ok (.ifCond .le 19, 3) := by decide +kernel
theorem dX1_nearestRoot_73 : decode cX1_nearestRoot 73 = .ok (.lload 4, 2) := by decide +kernel
theorem dX1_nearestRoot_75 : decode cX1_nearestRoot 75 = .ok (.ldc2_w 21, 3) := by decide +kernel
theorem dX1_nearestRoot_78 : decode cX1_nearestRoot 78 = .ok (.lload_n 2, 1) := by decide +kernel
theorem dX1_nearestRoot_79 : decode cX1_nearestRoot 79 = .ok (.lmul, 1) := by decide +kernel
theorem dX1_nearestRoot_80 : decode cX1_nearestRoot 80 = .ok (.lconst 1, 1) := by decide +kernel
theorem dX1_nearestRoot_81 : decode cX1_nearestRoot 81 = .ok (.ladd, 1) := by decide +kernel
theorem dX1_nearestRoot_82 : decode cX1_nearestRoot 82 = .ok (.lsub, 1) := by decide +kernel
theorem dX1_nearestRoot_83 : decode cX1_nearestRoot 83 = .ok (.lstore 4, 2) := by decide +kernel
theorem dX1_nearestRoot_85 : decode cX1_nearestRoot 85 = .ok (.lload_n 2, 1) := by decide +kernel
theorem dX1_nearestRoot_86 : decode cX1_nearestRoot 86 = .ok (.lconst 1, 1) := by decide +kernel
theorem dX1_nearestRoot_87 : decode cX1_nearestRoot 87 = .ok (.ladd, 1) := by decide +kernel
theorem dX1_nearestRoot_88 : decode cX1_nearestRoot 88 = .ok (.lstore_n 2, 1) := by decide +kernel
theorem dX1_nearestRoot_89 : decode cX1_nearestRoot 89 = .ok (.iload 6, 2) := by decide +kernel
theorem dX1_nearestRoot_91 : decode cX1_nearestRoot 91 = .ok (.iload 7, 2) := by decide +kernel
theorem dX1_nearestRoot_93 : decode cX1_nearestRoot 93 = .ok (.ifCond .ge 7, 3) := by decide +kernel
theorem dX1_nearestRoot_96 : decode cX1_nearestRoot 96 = .ok (.iconst 1, 1) := by decide +kernel
theorem dX1_nearestRoot_97 : decode cX1_nearestRoot 97 = .ok (.goto 4, 3) := by decide +kernel
theorem dX1_nearestRoot_100 : decode cX1_nearestRoot 100 = .ok (.iconst 0, 1) := by decide +kernel
theorem dX1_nearestRoot_101 : decode cX1_nearestRoot 101 = .ok (.iadd, 1) := by decide +kernel
theorem dX1_nearestRoot_102 : decode cX1_nearestRoot 102 = .ok (.istore 6, 2) := by decide +kernel
theorem dX1_nearestRoot_104 : decode cX1_nearestRoot 104 = .ok (.iinc 7 (-1), 3) := by decide +kernel
theorem dX1_nearestRoot_107 : decode cX1_nearestRoot 107 = .ok (.goto (-95), 3) := by decide +kernel
theorem dX1_nearestRoot_110 : decode cX1_nearestRoot 110 = .ok (.lload_n 2, 1) := by decide +kernel
theorem dX1_nearestRoot_111 : decode cX1_nearestRoot 111 = .ok (.lconst 0, 1) := by decide +kernel
theorem dX1_nearestRoot_112 : decode cX1_nearestRoot 112 = .ok (.lcmp, 1) := by decide +kernel
theorem dX1_nearestRoot_113 : decode cX1_nearestRoot 113 = .ok (.ifCond .ne 5, 3) := by decide +kernel
theorem dX1_nearestRoot_116 : decode cX1_nearestRoot 116 = .ok (.dconst 0, 1) := by decide +kernel
theorem dX1_nearestRoot_117 : decode cX1_nearestRoot 117 = .ok (.dreturn, 1) := by decide +kernel
theorem dX1_nearestRoot_118 : decode cX1_nearestRoot 118 = .ok (.lload_n 2, 1) := by decide +kernel
theorem dX1_nearestRoot_119 : decode cX1_nearestRoot 119 = .ok (.lconst 1, 1) := by decide +kernel
theorem dX1_nearestRoot_120 : decode cX1_nearestRoot 120 = .ok (.ladd, 1) := by decide +kernel
theorem dX1_nearestRoot_121 : decode cX1_nearestRoot 121 = .ok (.iconst 1, 1) := by decide +kernel
theorem dX1_nearestRoot_122 : decode cX1_nearestRoot 122 = .ok (.lshr, 1) := by decide +kernel
theorem dX1_nearestRoot_123 : decode cX1_nearestRoot 123 = .ok (.l2d, 1) := by decide +kernel
theorem dX1_nearestRoot_124 : decode cX1_nearestRoot 124 = .ok (.lconst 1, 1) := by decide +kernel
theorem dX1_nearestRoot_125 : decode cX1_nearestRoot 125 = .ok (.iload 6, 2) := by decide +kernel
theorem dX1_nearestRoot_127 : decode cX1_nearestRoot 127 = .ok (.iconst 1, 1) := by decide +kernel
theorem dX1_nearestRoot_128 : decode cX1_nearestRoot 128 = .ok (.isub, 1) := by decide +kernel
theorem dX1_nearestRoot_129 : decode cX1_nearestRoot 129 = .ok (.lshl, 1) := by decide +kernel
theorem dX1_nearestRoot_130 : decode cX1_nearestRoot 130 = .ok (.l2d, 1) := by decide +kernel
theorem dX1_nearestRoot_131 : decode cX1_nearestRoot 131 = .ok (.ddiv, 1) := by decide +kernel
theorem dX1_nearestRoot_132 : decode cX1_nearestRoot 132 = .ok (.dreturn, 1) := by decide +kernel
theorem dX1_nearestHypot_0 : decode cX1_nearestHypot 0 = .ok (.iload_n 0, 1) := by decide +kernel
theorem dX1_nearestHypot_1 : decode cX1_nearestHypot 1 = .ok (.iload_n 1, 1) := by decide +kernel
theorem dX1_nearestHypot_2 : decode cX1_nearestHypot 2 = .ok (.invokestatic 23, 3) := by decide +kernel
theorem dX1_nearestHypot_5 : decode cX1_nearestHypot 5 = .ok (.i2d, 1) := by decide +kernel
theorem dX1_nearestHypot_6 : decode cX1_nearestHypot 6 = .ok (.dstore_n 2, 1) := by decide +kernel
theorem dX1_nearestHypot_7 : decode cX1_nearestHypot 7 = .ok (.iload_n 0, 1) := by decide +kernel
theorem dX1_nearestHypot_8 : decode cX1_nearestHypot 8 = .ok (.iload_n 1, 1) := by decide +kernel
theorem dX1_nearestHypot_9 : decode cX1_nearestHypot 9 = .ok (.invokestatic 29, 3) := by decide +kernel
theorem dX1_nearestHypot_12 : decode cX1_nearestHypot 12 = .ok (.i2d, 1) := by decide +kernel
theorem dX1_nearestHypot_13 : decode cX1_nearestHypot 13 = .ok (.dstore 4, 2) := by decide +kernel
theorem dX1_nearestHypot_15 : decode cX1_nearestHypot 15 = .ok (.dload_n 2, 1) := by decide +kernel
theorem dX1_nearestHypot_16 : decode cX1_nearestHypot 16 = .ok (.dload 4, 2) := by decide +kernel
theorem dX1_nearestHypot_18 : decode cX1_nearestHypot 18 = .ok (.dsub, 1) := by decide +kernel
theorem dX1_nearestHypot_19 : decode cX1_nearestHypot 19 = .ok (.dstore 6, 2) := by decide +kernel
theorem dX1_nearestHypot_21 : decode cX1_nearestHypot 21 = .ok (.dload 6, 2) := by decide +kernel
theorem dX1_nearestHypot_23 : decode cX1_nearestHypot 23 = .ok (.dload 4, 2) := by decide +kernel
theorem dX1_nearestHypot_25 : decode cX1_nearestHypot 25 = .ok (.dcmp .l, 1) := by decide +kernel
theorem dX1_nearestHypot_26 : decode cX1_nearestHypot 26 = .ok (.ifCond .le 15, 3) := by decide +kernel
theorem dX1_nearestHypot_29 : decode cX1_nearestHypot 29 = .ok (.dload_n 2, 1) := by decide +kernel
theorem dX1_nearestHypot_30 : decode cX1_nearestHypot 30 = .ok (.dload_n 2, 1) := by decide +kernel
theorem dX1_nearestHypot_31 : decode cX1_nearestHypot 31 = .ok (.dmul, 1) := by decide +kernel
theorem dX1_nearestHypot_32 : decode cX1_nearestHypot 32 = .ok (.dload 4, 2) := by decide +kernel
theorem dX1_nearestHypot_34 : decode cX1_nearestHypot 34 = .ok (.dload 4, 2) := by decide +kernel
theorem dX1_nearestHypot_36 : decode cX1_nearestHypot 36 = .ok (.dmul, 1) := by decide +kernel
theorem dX1_nearestHypot_37 : decode cX1_nearestHypot 37 = .ok (.dadd, 1) := by decide +kernel
theorem dX1_nearestHypot_38 : decode cX1_nearestHypot 38 = .ok (.goto 17, 3) := by decide +kernel
theorem dX1_nearestHypot_41 : decode cX1_nearestHypot 41 = .ok (.dload 6, 2) := by decide +kernel
theorem dX1_nearestHypot_43 : decode cX1_nearestHypot 43 = .ok (.dload 6, 2) := by decide +kernel
theorem dX1_nearestHypot_45 : decode cX1_nearestHypot 45 = .ok (.dmul, 1) := by decide +kernel
theorem dX1_nearestHypot_46 : decode cX1_nearestHypot 46 = .ok (.ldc2_w 32, 3) := by decide +kernel
theorem dX1_nearestHypot_49 : decode cX1_nearestHypot 49 = .ok (.dload_n 2, 1) := by decide +kernel
theorem dX1_nearestHypot_50 : decode cX1_nearestHypot 50 = .ok (.dmul, 1) := by decide +kernel
theorem dX1_nearestHypot_51 : decode cX1_nearestHypot 51 = .ok (.dload 4, 2) := by decide +kernel
theorem dX1_nearestHypot_53 : decode cX1_nearestHypot 53 = .ok (.dmul, 1) := by decide +kernel
theorem dX1_nearestHypot_54 : decode cX1_nearestHypot 54 = .ok (.dadd, 1) := by decide +kernel
theorem dX1_nearestHypot_55 : decode cX1_nearestHypot 55 = .ok (.dstore 8, 2) := by decide +kernel
theorem dX1_nearestHypot_57 : decode cX1_nearestHypot 57 = .ok (.dload 8, 2) := by decide +kernel
theorem dX1_nearestHypot_59 : decode cX1_nearestHypot 59 = .ok (.d2l, 1) := by decide +kernel
theorem dX1_nearestHypot_60 : decode cX1_nearestHypot 60 = .ok (.invokestatic 34, 3) := by decide +kernel
theorem dX1_nearestHypot_63 : decode cX1_nearestHypot 63 = .ok (.dreturn, 1) := by decide +kernel
theorem dX1_isWhole_0 : decode cX1_isWhole 0 = .ok (.dload_n 0, 1) := by decide +kernel
theorem dX1_isWhole_1 : decode cX1_isWhole 1 = .ok (.dload_n 0, 1) := by decide +kernel
theorem dX1_isWhole_2 : decode cX1_isWhole 2 = .ok (.d2l, 1) := by decide +kernel
theorem dX1_isWhole_3 : decode cX1_isWhole 3 = .ok (.l2d, 1) := by decide +kernel
theorem dX1_isWhole_4 : decode cX1_isWhole 4 = .ok (.dcmp .l, 1) := by decide +kernel
theorem dX1_isWhole_5 : decode cX1_isWhole 5 = .ok (.ifCond .ne 7, 3) := by decide +kernel
theorem dX1_isWhole_8 : decode cX1_isWhole 8 = .ok (.iconst 1, 1) := by decide +kernel
theorem dX1_isWhole_9 : decode cX1_isWhole 9 = .ok (.goto 4, 3) := by decide +kernel
theorem dX1_isWhole_12 : decode cX1_isWhole 12 = .ok (.iconst 0, 1) := by decide +kernel
theorem dX1_isWhole_13 : decode cX1_isWhole 13 = .ok (.ireturn, 1) := by decide +kernel
theorem dX2_init_0 : decode cX2_init 0 = .ok (.aload_n 0, 1) := by decide +kernel
theorem dX2_init_1 : decode cX2_init 1 = .ok (.invokespecial 5, 3) := by decide +kernel
theorem dX2_init_4 : decode cX2_init 4 = .ok (.aload_n 0, 1) := by decide +kernel
theorem dX2_init_5 : decode cX2_init 5 = .ok (.bipush 64, 2) := by decide +kernel
theorem dX2_init_7 : decode cX2_init 7 = .ok (.newarray .int, 2) := by decide +kernel
theorem dX2_init_9 : decode cX2_init 9 = .ok (.putfield 11, 3) := by decide +kernel
theorem dX2_init_12 : decode cX2_init 12 = .ok (.aload_n 0, 1) := by decide +kernel
theorem dX2_init_13 : decode cX2_init 13 = .ok (.iconst 0, 1) := by decide +kernel
theorem dX2_init_14 : decode cX2_init 14 = .ok (.putfield 15, 3) := by decide +kernel
theorem dX2_init_17 : decode cX2_init 17 = .ok (.return_, 1) := by decide +kernel
theorem dX2_fill_0 : decode cX2_fill 0 = .ok (.aload_n 0, 1) := by decide +kernel
theorem dX2_fill_1 : decode cX2_fill 1 = .ok (.iconst 0, 1) := by decide +kernel
theorem dX2_fill_2 : decode cX2_fill 2 = .ok (.putfield 15, 3) := by decide +kernel
theorem dX2_fill_5 : decode cX2_fill 5 = .ok (.iload_n 1, 1) := by decide +kernel
theorem dX2_fill_6 : decode cX2_fill 6 = .ok (.bipush 101, 2) := by decide +kernel
theorem dX2_fill_8 : decode cX2_fill 8 = .ok (.if_icmp .ne 11, 3) := by decide +kernel
theorem dX2_fill_11 : decode cX2_fill 11 = .ok (.aload_n 0, 1) := by decide +kernel
theorem dX2_fill_12 : decode cX2_fill 12 = .ok (.iload_n 2, 1) := by decide +kernel
theorem dX2_fill_13 : decode cX2_fill 13 = .ok (.invokevirtual 19, 3) := by decide +kernel
theorem dX2_fill_16 : decode cX2_fill 16 = .ok (.goto 22, 3) := by decide +kernel
theorem dX2_fill_19 : decode cX2_fill 19 = .ok (.iload_n 1, 1) := by decide +kernel
theorem dX2_fill_20 : decode cX2_fill 20 = .ok (.bipush 116, 2) := by decide +kernel
theorem dX2_fill_22 : decode cX2_fill 22 = .ok (.if_icmp .ne 11, 3) := by decide +kernel
theorem dX2_fill_25 : decode cX2_fill 25 = .ok (.aload_n 0, 1) := by decide +kernel
theorem dX2_fill_26 : decode cX2_fill 26 = .ok (.iload_n 2, 1) := by decide +kernel
theorem dX2_fill_27 : decode cX2_fill 27 = .ok (.invokevirtual 23, 3) := by decide +kernel
theorem dX2_fill_30 : decode cX2_fill 30 = .ok (.goto 8, 3) := by decide +kernel
theorem dX2_fill_33 : decode cX2_fill 33 = .ok (.aload_n 0, 1) := by decide +kernel
theorem dX2_fill_34 : decode cX2_fill 34 = .ok (.iload_n 2, 1) := by decide +kernel
theorem dX2_fill_35 : decode cX2_fill 35 = .ok (.invokevirtual 26, 3) := by decide +kernel
theorem dX2_fill_38 : decode cX2_fill 38 = .ok (.return_, 1) := by decide +kernel
theorem dX2_length_0 : decode cX2_length 0 = .ok (.iload_n 1, 1) := by decide +kernel
theorem dX2_length_1 : decode cX2_length 1 = .ok (.ifCond .lt 17, 3) := by decide +kernel
theorem dX2_length_4 : decode cX2_length 4 = .ok (.iload_n 1, 1) := by decide +kernel
theorem dX2_length_5 : decode cX2_length 5 = .ok (.aload_n 0, 1) := by decide +kernel
theorem dX2_length_6 : decode cX2_length 6 = .ok (.getfield 15, 3) := by decide +kernel
theorem dX2_length_9 : decode cX2_length 9 = .ok (.if_icmp .ge 9, 3) := by decide +kernel
theorem dX2_length_12 : decode cX2_length 12 = .ok (.iload_n 1, 1) := by decide +kernel
theorem dX2_length_13 : decode cX2_length 13 = .ok (.bipush 64, 2) := by decide +kernel
theorem dX2_length_15 : decode cX2_length 15 = .ok (.if_icmp .lt 5, 3) := by decide +kernel
theorem dX2_length_18 : decode cX2_length 18 = .ok (.iconst 0, 1) := by decide +kernel
theorem dX2_length_19 : decode cX2_length 19 = .ok (.ireturn, 1) := by decide +kernel
theorem dX2_length_20 : decode cX2_length 20 = .ok (.aload_n 0, 1) := by decide +kernel
theorem dX2_length_21 : decode cX2_length 21 = .ok (.getfield 11, 3) := by decide +kernel
theorem dX2_length_24 : decode cX2_length 24 = .ok (.iload_n 1, 1) := by decide +kernel
theorem dX2_length_25 : decode cX2_length 25 = .ok (.iaload, 1) := by decide +kernel
theorem dX2_length_26 : decode cX2_length 26 = .ok (.istore_n 3, 1) := by decide +kernel
theorem dX2_length_27 : decode cX2_length 27 = .ok (.iload_n 2, 1) := by decide +kernel
theorem dX2_length_28 : decode cX2_length 28 = .ok (.ifCond .ne 12, 3) := by decide +kernel
theorem dX2_length_31 : decode cX2_length 31 = .ok (.iload_n 3, 1) := by decide +kernel
theorem dX2_length_32 : decode cX2_length 32 = .ok (.bipush 9, 2) := by decide +kernel
theorem dX2_length_34 : decode cX2_length 34 = .ok (.ishr, 1) := by decide +kernel
theorem dX2_length_35 : decode cX2_length 35 = .ok (.sipush 511, 3) := by decide +kernel
theorem dX2_length_38 : decode cX2_length 38 = .ok (.iand, 1) := by decide +kernel
theorem dX2_length_39 : decode cX2_length 39 = .ok (.ireturn, 1) := by decide +kernel
theorem dX2_length_40 : decode cX2_length 40 = .ok (.iload_n 2, 1) := by decide +kernel
theorem dX2_length_41 : decode cX2_length 41 = .ok (.iconst 1, 1) := by decide +kernel
theorem dX2_length_42 : decode cX2_length 42 = .ok (.if_icmp .ne 11, 3) := by decide +kernel
theorem dX2_length_45 : decode cX2_length 45 = .ok (.iload_n 3, 1) := by decide +kernel
theorem dX2_length_46 : decode cX2_length 46 = .ok (.sipush 511, 3) := by decide +kernel
theorem dX2_length_49 : decode cX2_length 49 = .ok (.iand, 1) := by decide +kernel
theorem dX2_length_50 : decode cX2_length 50 = .ok (.goto 7, 3) := by decide +kernel
theorem dX2_length_53 : decode cX2_length 53 = .ok (.iload_n 3, 1) := by decide +kernel
theorem dX2_length_54 : decode cX2_length 54 = .ok (.bipush 18, 2) := by decide +kernel
theorem dX2_length_56 : decode cX2_length 56 = .ok (.ishr, 1) := by decide +kernel
theorem dX2_length_57 : decode cX2_length 57 = .ok (.ireturn, 1) := by decide +kernel
theorem dX2_areEachOnce_0 : decode cX2_areEachOnce 0 = .ok (.iconst 1, 1) := by decide +kernel
theorem dX2_areEachOnce_1 : decode cX2_areEachOnce 1 = .ok (.istore_n 1, 1) := by decide +kernel
theorem dX2_areEachOnce_2 : decode cX2_areEachOnce 2 = .ok (.iload_n 1, 1) := by decide +kernel
theorem dX2_areEachOnce_3 : decode cX2_areEachOnce 3 = .ok (.aload_n 0, 1) := by decide +kernel
theorem dX2_areEachOnce_4 : decode cX2_areEachOnce 4 = .ok (.getfield 15, 3) := by decide +kernel
theorem dX2_areEachOnce_7 : decode cX2_areEachOnce 7 = .ok (.if_icmp .ge 34, 3) := by decide +kernel
theorem dX2_areEachOnce_10 : decode cX2_areEachOnce 10 = .ok (.iload_n 1, 1) := by decide +kernel
theorem dX2_areEachOnce_11 : decode cX2_areEachOnce 11 = .ok (.bipush 64, 2) := by decide +kernel
theorem dX2_areEachOnce_13 : decode cX2_areEachOnce 13 = .ok (.if_icmp .ge 28, 3) := by decide +kernel
theorem dX2_areEachOnce_16 : decode cX2_areEachOnce 16 = .ok (.aload_n 0, 1) := by decide +kernel
theorem dX2_areEachOnce_17 : decode cX2_areEachOnce 17 = .ok (.getfield 11, 3) := by decide +kernel
theorem dX2_areEachOnce_20 : decode cX2_areEachOnce 20 = .ok (.iload_n 1, 1) := by decide +kernel
theorem dX2_areEachOnce_21 : decode cX2_areEachOnce 21 = .ok (.iconst 1, 1) := by decide +kernel
theorem dX2_areEachOnce_22 : decode cX2_areEachOnce 22 = .ok (.isub, 1) := by decide +kernel
theorem dX2_areEachOnce_23 : decode cX2_areEachOnce 23 = .ok (.iaload, 1) := by decide +kernel
theorem dX2_areEachOnce_24 : decode cX2_areEachOnce 24 = .ok (.aload_n 0, 1) := by decide +kernel
theorem dX2_areEachOnce_25 : decode cX2_areEachOnce 25 = .ok (.getfield 11, 3) := by decide +kernel
theorem dX2_areEachOnce_28 : decode cX2_areEachOnce 28 = .ok (.iload_n 1, 1) := by decide +kernel
theorem dX2_areEachOnce_29 : decode cX2_areEachOnce 29 = .ok (.iaload, 1) := by decide +kernel
theorem dX2_areEachOnce_30 : decode cX2_areEachOnce 30 = .ok (.if_icmp .lt 5, 3) := by decide +kernel
theorem dX2_areEachOnce_33 : decode cX2_areEachOnce 33 = .ok (.iconst 0, 1) := by decide +kernel
theorem dX2_areEachOnce_34 : decode cX2_areEachOnce 34 = .ok (.ireturn, 1) := by decide +kernel
theorem dX2_areEachOnce_35 : decode cX2_areEachOnce 35 = .ok (.iinc 1 1, 3) := by decide +kernel
theorem dX2_areEachOnce_38 : decode cX2_areEachOnce 38 = .ok (.goto (-36), 3) := by decide +kernel
theorem dX2_areEachOnce_41 : decode cX2_areEachOnce 41 = .ok (.iconst 1, 1) := by decide +kernel
theorem dX2_areEachOnce_42 : decode cX2_areEachOnce 42 = .ok (.ireturn, 1) := by decide +kernel
theorem dX2_areThoseOf_0 : decode cX2_areThoseOf 0 = .ok (.aload_n 0, 1) := by decide +kernel
theorem dX2_areThoseOf_1 : decode cX2_areThoseOf 1 = .ok (.getfield 15, 3) := by decide +kernel
theorem dX2_areThoseOf_4 : decode cX2_areThoseOf 4 = .ok (.aload_n 1, 1) := by decide +kernel
theorem dX2_areThoseOf_5 : decode cX2_areThoseOf 5 = .ok (.getfield 15, 3) := by decide +kernel
theorem dX2_areThoseOf_8 : decode cX2_areThoseOf 8 = .ok (.if_icmp .eq 5, 3) := by decide +kernel
theorem dX2_areThoseOf_11 : decode cX2_areThoseOf 11 = .ok (.iconst 0, 1) := by decide +kernel
theorem dX2_areThoseOf_12 : decode cX2_areThoseOf 12 = .ok (.ireturn, 1) := by decide +kernel
theorem dX2_areThoseOf_13 : decode cX2_areThoseOf 13 = .ok (.iconst 0, 1) := by decide +kernel
theorem dX2_areThoseOf_14 : decode cX2_areThoseOf 14 = .ok (.istore_n 2, 1) := by decide +kernel
theorem dX2_areThoseOf_15 : decode cX2_areThoseOf 15 = .ok (.iload_n 2, 1) := by decide +kernel
theorem dX2_areThoseOf_16 : decode cX2_areThoseOf 16 = .ok (.aload_n 0, 1) := by decide +kernel
theorem dX2_areThoseOf_17 : decode cX2_areThoseOf 17 = .ok (.getfield 15, 3) := by decide +kernel
theorem dX2_areThoseOf_20 : decode cX2_areThoseOf 20 = .ok (.if_icmp .ge 32, 3) := by decide +kernel
theorem dX2_areThoseOf_23 : decode cX2_areThoseOf 23 = .ok (.iload_n 2, 1) := by decide +kernel
theorem dX2_areThoseOf_24 : decode cX2_areThoseOf 24 = .ok (.bipush 64, 2) := by decide +kernel
theorem dX2_areThoseOf_26 : decode cX2_areThoseOf 26 = .ok (.if_icmp .ge 26, 3) := by decide +kernel
theorem dX2_areThoseOf_29 : decode cX2_areThoseOf 29 = .ok (.aload_n 0, 1) := by decide +kernel
theorem dX2_areThoseOf_30 : decode cX2_areThoseOf 30 = .ok (.getfield 11, 3) := by decide +kernel
theorem dX2_areThoseOf_33 : decode cX2_areThoseOf 33 = .ok (.iload_n 2, 1) := by decide +kernel
theorem dX2_areThoseOf_34 : decode cX2_areThoseOf 34 = .ok (.iaload, 1) := by decide +kernel
theorem dX2_areThoseOf_35 : decode cX2_areThoseOf 35 = .ok (.aload_n 1, 1) := by decide +kernel
theorem dX2_areThoseOf_36 : decode cX2_areThoseOf 36 = .ok (.getfield 11, 3) := by decide +kernel
theorem dX2_areThoseOf_39 : decode cX2_areThoseOf 39 = .ok (.iload_n 2, 1) := by decide +kernel
theorem dX2_areThoseOf_40 : decode cX2_areThoseOf 40 = .ok (.iaload, 1) := by decide +kernel
theorem dX2_areThoseOf_41 : decode cX2_areThoseOf 41 = .ok (.if_icmp .eq 5, 3) := by decide +kernel
theorem dX2_areThoseOf_44 : decode cX2_areThoseOf 44 = .ok (.iconst 0, 1) := by decide +kernel
theorem dX2_areThoseOf_45 : decode cX2_areThoseOf 45 = .ok (.ireturn, 1) := by decide +kernel
theorem dX2_areThoseOf_46 : decode cX2_areThoseOf 46 = .ok (.iinc 2 1, 3) := by decide +kernel
theorem dX2_areThoseOf_49 : decode cX2_areThoseOf 49 = .ok (.goto (-34), 3) := by decide +kernel
theorem dX2_areThoseOf_52 : decode cX2_areThoseOf 52 = .ok (.iconst 1, 1) := by decide +kernel
theorem dX2_areThoseOf_53 : decode cX2_areThoseOf 53 = .ok (.ireturn, 1) := by decide +kernel
theorem dX2_add_0 : decode cX2_add 0 = .ok (.iload_n 1, 1) := by decide +kernel
theorem dX2_add_1 : decode cX2_add 1 = .ok (.iload_n 2, 1) := by decide +kernel
theorem dX2_add_2 : decode cX2_add 2 = .ok (.invokestatic 29, 3) := by decide +kernel
theorem dX2_add_5 : decode cX2_add 5 = .ok (.bipush 9, 2) := by decide +kernel
theorem dX2_add_7 : decode cX2_add 7 = .ok (.ishl, 1) := by decide +kernel
theorem dX2_add_8 : decode cX2_add 8 = .ok (.iload_n 1, 1) := by decide +kernel
theorem dX2_add_9 : decode cX2_add 9 = .ok (.iload_n 2, 1) := by decide +kernel
theorem dX2_add_10 : decode cX2_add 10 = .ok (.invokestatic 35, 3) := by decide +kernel
theorem dX2_add_13 : decode cX2_add 13 = .ok (.ior, 1) := by decide +kernel
theorem dX2_add_14 : decode cX2_add 14 = .ok (.istore 4, 2) := by decide +kernel
theorem dX2_add_16 : decode cX2_add 16 = .ok (.iload_n 3, 1) := by decide +kernel
theorem dX2_add_17 : decode cX2_add 17 = .ok (.bipush 18, 2) := by decide +kernel
theorem dX2_add_19 : decode cX2_add 19 = .ok (.ishl, 1) := by decide +kernel
theorem dX2_add_20 : decode cX2_add 20 = .ok (.iload 4, 2) := by decide +kernel
theorem dX2_add_22 : decode cX2_add 22 = .ok (.ior, 1) := by decide +kernel
theorem dX2_add_23 : decode cX2_add 23 = .ok (.istore 5, 2) := by decide +kernel
theorem dX2_add_25 : decode cX2_add 25 = .ok (.aload_n 0, 1) := by decide +kernel
theorem dX2_add_26 : decode cX2_add 26 = .ok (.getfield 15, 3) := by decide +kernel
theorem dX2_add_29 : decode cX2_add 29 = .ok (.istore 6, 2) := by decide +kernel
theorem dX2_add_31 : decode cX2_add 31 = .ok (.iload 6, 2) := by decide +kernel
theorem dX2_add_33 : decode cX2_add 33 = .ok (.ifCond .le 46, 3) := by decide +kernel
theorem dX2_add_36 : decode cX2_add 36 = .ok (.iload 6, 2) := by decide +kernel
theorem dX2_add_38 : decode cX2_add 38 = .ok (.bipush 64, 2) := by decide +kernel
theorem dX2_add_40 : decode cX2_add 40 = .ok (.if_icmp .ge 39, 3) := by decide +kernel
theorem dX2_add_43 : decode cX2_add 43 = .ok (.aload_n 0, 1) := by decide +kernel
theorem dX2_add_44 : decode cX2_add 44 = .ok (.getfield 11, 3) := by decide +kernel
theorem dX2_add_47 : decode cX2_add 47 = .ok (.iload 6, 2) := by decide +kernel
theorem dX2_add_49 : decode cX2_add 49 = .ok (.iconst 1, 1) := by decide +kernel
theorem dX2_add_50 : decode cX2_add 50 = .ok (.isub, 1) := by decide +kernel
theorem dX2_add_51 : decode cX2_add 51 = .ok (.iaload, 1) := by decide +kernel
theorem dX2_add_52 : decode cX2_add 52 = .ok (.iload 5, 2) := by decide +kernel
theorem dX2_add_54 : decode cX2_add 54 = .ok (.if_icmp .le 25, 3) := by decide +kernel
theorem dX2_add_57 : decode cX2_add 57 = .ok (.aload_n 0, 1) := by decide +kernel
theorem dX2_add_58 : decode cX2_add 58 = .ok (.getfield 11, 3) := by decide +kernel
theorem dX2_add_61 : decode cX2_add 61 = .ok (.iload 6, 2) := by decide +kernel
theorem dX2_add_63 : decode cX2_add 63 = .ok (.aload_n 0, 1) := by decide +kernel
theorem dX2_add_64 : decode cX2_add 64 = .ok (.getfield 11, 3) := by decide +kernel
theorem dX2_add_67 : decode cX2_add 67 = .ok (.iload 6, 2) := by decide +kernel
theorem dX2_add_69 : decode cX2_add 69 = .ok (.iconst 1, 1) := by decide +kernel
theorem dX2_add_70 : decode cX2_add 70 = .ok (.isub, 1) := by decide +kernel
theorem dX2_add_71 : decode cX2_add 71 = .ok (.iaload, 1) := by decide +kernel
theorem dX2_add_72 : decode cX2_add 72 = .ok (.iastore, 1) := by decide +kernel
theorem dX2_add_73 : decode cX2_add 73 = .ok (.iinc 6 (-1), 3) := by decide +kernel
theorem dX2_add_76 : decode cX2_add 76 = .ok (.goto (-45), 3) := by decide +kernel
theorem dX2_add_79 : decode cX2_add 79 = .ok (.iload 6, 2) := by decide +kernel
theorem dX2_add_81 : decode cX2_add 81 = .ok (.ifCond .lt 29, 3) := by decide +kernel
theorem dX2_add_84 : decode cX2_add 84 = .ok (.iload 6, 2) := by decide +kernel
theorem dX2_add_86 : decode cX2_add 86 = .ok (.bipush 64, 2) := by decide +kernel
theorem dX2_add_88 : decode cX2_add 88 = .ok (.if_icmp .ge 22, 3) := by decide +kernel
theorem dX2_add_91 : decode cX2_add 91 = .ok (.aload_n 0, 1) := by decide +kernel
theorem dX2_add_92 : decode cX2_add 92 = .ok (.getfield 11, 3) := by decide +kernel
theorem dX2_add_95 : decode cX2_add 95 = .ok (.iload 6, 2) := by decide +kernel
theorem dX2_add_97 : decode cX2_add 97 = .ok (.iload 5, 2) := by decide +kernel
theorem dX2_add_99 : decode cX2_add 99 = .ok (.iastore, 1) := by decide +kernel
theorem dX2_add_100 : decode cX2_add 100 = .ok (.aload_n 0, 1) := by decide +kernel
theorem dX2_add_101 : decode cX2_add 101 = .ok (.dup, 1) := by decide +kernel
theorem dX2_add_102 : decode cX2_add 102 = .ok (.getfield 15, 3) := by decide +kernel
theorem dX2_add_105 : decode cX2_add 105 = .ok (.iconst 1, 1) := by decide +kernel
theorem dX2_add_106 : decode cX2_add 106 = .ok (.iadd, 1) := by decide +kernel
theorem dX2_add_107 : decode cX2_add 107 = .ok (.putfield 15, 3) := by decide +kernel
theorem dX2_add_110 : decode cX2_add 110 = .ok (.return_, 1) := by decide +kernel
theorem dX2_fillByNumbers_0 : decode cX2_fillByNumbers 0 = .ok (.iconst 2, 1) := by decide +kernel
theorem dX2_fillByNumbers_1 : decode cX2_fillByNumbers 1 = .ok (.istore_n 2, 1) := by decide +kernel
theorem dX2_fillByNumbers_2 : decode cX2_fillByNumbers 2 = .ok (.iload_n 2, 1) := by decide +kernel
theorem dX2_fillByNumbers_3 : decode cX2_fillByNumbers 3 = .ok (.iload_n 2, 1) := by decide +kernel
theorem dX2_fillByNumbers_4 : decode cX2_fillByNumbers 4 = .ok (.imul, 1) := by decide +kernel
theorem dX2_fillByNumbers_5 : decode cX2_fillByNumbers 5 = .ok (.iload_n 1, 1) := by decide +kernel
theorem dX2_fillByNumbers_6 : decode cX2_fillByNumbers 6 = .ok (.if_icmp .gt 84, 3) := by decide +kernel
theorem dX2_fillByNumbers_9 : decode cX2_fillByNumbers 9 = .ok (.iload_n 2, 1) := by decide +kernel
theorem dX2_fillByNumbers_10 : decode cX2_fillByNumbers 10 = .ok (.sipush 255, 3) := by decide +kernel
theorem dX2_fillByNumbers_13 : decode cX2_fillByNumbers 13 = .ok (.if_icmp .gt 77, 3) := by decide +kernel
theorem dX2_fillByNumbers_16 : decode cX2_fillByNumbers 16 = .ok (.iconst 1, 1) := by decide +kernel
theorem dX2_fillByNumbers_17 : decode cX2_fillByNumbers 17 = .ok (.istore_n 3, 1) := by decide +kernel
theorem dX2_fillByNumbers_18 : decode cX2_fillByNumbers 18 = .ok (.iload_n 3, 1) := by decide +kernel
theorem dX2_fillByNumbers_19 : decode cX2_fillByNumbers 19 = .ok (.iload_n 2, 1) := by decide +kernel
theorem dX2_fillByNumbers_20 : decode cX2_fillByNumbers 20 = .ok (.if_icmp .ge 64, 3) := by decide +kernel
theorem dX2_fillByNumbers_23 : decode cX2_fillByNumbers 23 = .ok (.iload_n 2, 1) := by decide +kernel
theorem dX2_fillByNumbers_24 : decode cX2_fillByNumbers 24 = .ok (.iload_n 2, 1) := by decide +kernel
theorem dX2_fillByNumbers_25 : decode cX2_fillByNumbers 25 = .ok (.imul, 1) := by decide +kernel
theorem dX2_fillByNumbers_26 : decode cX2_fillByNumbers 26 = .ok (.iload_n 3, 1) := by decide +kernel
theorem dX2_fillByNumbers_27 : decode cX2_fillByNumbers 27 = .ok (.iload_n 3, 1) := by decide +kernel
theorem dX2_fillByNumbers_28 : decode cX2_fillByNumbers 28 = .ok (.imul, 1) := by decide +kernel
theorem dX2_fillByNumbers_29 : decode cX2_fillByNumbers 29 = .ok (.iadd, 1) := by decide +kernel
theorem dX2_fillByNumbers_30 : decode cX2_fillByNumbers 30 = .ok (.iload_n 1, 1) := by decide +kernel
theorem dX2_fillByNumbers_31 : decode cX2_fillByNumbers 31 = .ok (.if_icmp .gt 53, 3) := by decide +kernel
theorem dX2_fillByNumbers_34 : decode cX2_fillByNumbers 34 = .ok (.iload_n 2, 1) := by decide +kernel
theorem dX2_fillByNumbers_35 : decode cX2_fillByNumbers 35 = .ok (.iload_n 3, 1) := by decide +kernel
theorem dX2_fillByNumbers_36 : decode cX2_fillByNumbers 36 = .ok (.iadd, 1) := by decide +kernel
theorem dX2_fillByNumbers_37 : decode cX2_fillByNumbers 37 = .ok (.iconst 2, 1) := by decide +kernel
theorem dX2_fillByNumbers_38 : decode cX2_fillByNumbers 38 = .ok (.irem, 1) := by decide +kernel
theorem dX2_fillByNumbers_39 : decode cX2_fillByNumbers 39 = .ok (.iconst 1, 1) := by decide +kernel
theorem dX2_fillByNumbers_40 : decode cX2_fillByNumbers 40 = .ok (.if_icmp .ne 38, 3) := by decide +kernel
theorem dX2_fillByNumbers_43 : decode cX2_fillByNumbers 43 = .ok (.iload_n 2, 1) := by decide +kernel
theorem dX2_fillByNumbers_44 : decode cX2_fillByNumbers 44 = .ok (.i2l, 1) := by decide +kernel
theorem dX2_fillByNumbers_45 : decode cX2_fillByNumbers 45 = .ok (.iload_n 3, 1) := by decide +kernel
theorem dX2_fillByNumbers_46 : decode cX2_fillByNumbers 46 = .ok (.i2l, 1) := by decide +kernel
theorem dX2_fillByNumbers_47 : decode cX2_fillByNumbers 47 = .ok (.invokestatic 38, 3) := by decide +kernel
theorem dX2_fillByNumbers_50 : decode cX2_fillByNumbers 50 = .ok (.lconst 1, 1) := by decide +kernel
theorem dX2_fillByNumbers_51 : decode cX2_fillByNumbers 51 = .ok (.lcmp, 1) := by decide +kernel
theorem dX2_fillByNumbers_52 : decode cX2_fillByNumbers 52 = .ok (.ifCond .ne 26, 3) := by decide +kernel
theorem dX2_fillByNumbers_55 : decode cX2_fillByNumbers 55 = .ok (.aload_n 0, 1) := by decide +kernel
theorem dX2_fillByNumbers_56 : decode cX2_fillByNumbers 56 = .ok (.iload_n 2, 1) := by decide +kernel
theorem dX2_fillByNumbers_57 : decode cX2_fillByNumbers 57 = .ok (.iload_n 2, 1) := by decide +kernel
theorem dX2_fillByNumbers_58 : decode cX2_fillByNumbers 58 = .ok (.imul, 1) := by decide +kernel
theorem dX2_fillByNumbers_59 : decode cX2_fillByNumbers 59 = .ok (.iload_n 3, 1) := by decide +kernel
theorem dX2_fillByNumbers_60 : decode cX2_fillByNumbers 60 = .ok (.iload_n 3, 1) := by decide +kernel
theorem dX2_fillByNumbers_61 : decode cX2_fillByNumbers 61 = .ok (.imul, 1) := by decide +kernel
theorem dX2_fillByNumbers_62 : decode cX2_fillByNumbers 62 = .ok (.isub, 1) := by decide +kernel
theorem dX2_fillByNumbers_63 : decode cX2_fillByNumbers 63 = .ok (.iconst 2, 1) := by decide +kernel
theorem dX2_fillByNumbers_64 : decode cX2_fillByNumbers 64 = .ok (.iload_n 2, 1) := by decide +kernel
theorem dX2_fillByNumbers_65 : decode cX2_fillByNumbers 65 = .ok (.imul, 1) := by decide +kernel
theorem dX2_fillByNumbers_66 : decode cX2_fillByNumbers 66 = .ok (.iload_n 3, 1) := by decide +kernel
theorem dX2_fillByNumbers_67 : decode cX2_fillByNumbers 67 = .ok (.imul, 1) := by decide +kernel
theorem dX2_fillByNumbers_68 : decode cX2_fillByNumbers 68 = .ok (.iload_n 2, 1) := by decide +kernel
theorem dX2_fillByNumbers_69 : decode cX2_fillByNumbers 69 = .ok (.iload_n 2, 1) := by decide +kernel
theorem dX2_fillByNumbers_70 : decode cX2_fillByNumbers 70 = .ok (.imul, 1) := by decide +kernel
theorem dX2_fillByNumbers_71 : decode cX2_fillByNumbers 71 = .ok (.iload_n 3, 1) := by decide +kernel
theorem dX2_fillByNumbers_72 : decode cX2_fillByNumbers 72 = .ok (.iload_n 3, 1) := by decide +kernel
theorem dX2_fillByNumbers_73 : decode cX2_fillByNumbers 73 = .ok (.imul, 1) := by decide +kernel
theorem dX2_fillByNumbers_74 : decode cX2_fillByNumbers 74 = .ok (.iadd, 1) := by decide +kernel
theorem dX2_fillByNumbers_75 : decode cX2_fillByNumbers 75 = .ok (.invokevirtual 44, 3) := by decide +kernel
theorem dX2_fillByNumbers_78 : decode cX2_fillByNumbers 78 = .ok (.iinc 3 1, 3) := by decide +kernel
theorem dX2_fillByNumbers_81 : decode cX2_fillByNumbers 81 = .ok (.goto (-63), 3) := by decide +kernel
theorem dX2_fillByNumbers_84 : decode cX2_fillByNumbers 84 = .ok (.iinc 2 1, 3) := by decide +kernel
theorem dX2_fillByNumbers_87 : decode cX2_fillByNumbers 87 = .ok (.goto (-85), 3) := by decide +kernel
theorem dX2_fillByNumbers_90 : decode cX2_fillByNumbers 90 = .ok (.return_, 1) := by decide +kernel
theorem dX2_fillBySteps_0 : decode cX2_fillBySteps 0 = .ok (.iload_n 1, 1) := by decide +kernel
theorem dX2_fillBySteps_1 : decode cX2_fillBySteps 1 = .ok (.iconst 5, 1) := by decide +kernel
theorem dX2_fillBySteps_2 : decode cX2_fillBySteps 2 = .ok (.if_icmp .ge 4, 3) := by decide +kernel
theorem dX2_fillBySteps_5 : decode cX2_fillBySteps 5 = .ok (.return_, 1) := by decide +kernel
theorem dX2_fillBySteps_6 : decode cX2_fillBySteps 6 = .ok (.aload_n 0, 1) := by decide +kernel
theorem dX2_fillBySteps_7 : decode cX2_fillBySteps 7 = .ok (.iconst 3, 1) := by decide +kernel
theorem dX2_fillBySteps_8 : decode cX2_fillBySteps 8 = .ok (.iconst 4, 1) := by decide +kernel
theorem dX2_fillBySteps_9 : decode cX2_fillBySteps 9 = .ok (.iconst 5, 1) := by decide +kernel
theorem dX2_fillBySteps_10 : decode cX2_fillBySteps 10 = .ok (.invokevirtual 44, 3) := by decide +kernel
theorem dX2_fillBySteps_13 : decode cX2_fillBySteps 13 = .ok (.iconst 0, 1) := by decide +kernel
theorem dX2_fillBySteps_14 : decode cX2_fillBySteps 14 = .ok (.istore_n 2, 1) := by decide +kernel
theorem dX2_fillBySteps_15 : decode cX2_fillBySteps 15 = .ok (.iload_n 2, 1) := by decide +kernel
theorem dX2_fillBySteps_16 : decode cX2_fillBySteps 16 = .ok (.aload_n 0, 1) := by decide +kernel
theorem dX2_fillBySteps_17 : decode cX2_fillBySteps 17 = .ok (.getfield 15, 3) := by decide +kernel
theorem dX2_fillBySteps_20 : decode cX2_fillBySteps 20 = .ok (.if_icmp .ge 21, 3) := by decide +kernel
theorem dX2_fillBySteps_23 : decode cX2_fillBySteps 23 = .ok (.iload_n 2, 1) := by decide +kernel
theorem dX2_fillBySteps_24 : decode cX2_fillBySteps 24 = .ok (.bipush 64, 2) := by decide +kernel
theorem dX2_fillBySteps_26 : decode cX2_fillBySteps 26 = .ok (.if_icmp .ge 15, 3) := by decide +kernel
theorem dX2_fillBySteps_29 : decode cX2_fillBySteps 29 = .ok (.aload_n 0, 1) := by decide +kernel
theorem dX2_fillBySteps_30 : decode cX2_fillBySteps 30 = .ok (.iload_n 2, 1) := by decide +kernel
theorem dX2_fillBySteps_31 : decode cX2_fillBySteps 31 = .ok (.iload_n 1, 1) := by decide +kernel
theorem dX2_fillBySteps_32 : decode cX2_fillBySteps 32 = .ok (.invokevirtual 50, 3) := by decide +kernel
theorem dX2_fillBySteps_35 : decode cX2_fillBySteps 35 = .ok (.iinc 2 1, 3) := by decide +kernel
theorem dX2_fillBySteps_38 : decode cX2_fillBySteps 38 = .ok (.goto (-23), 3) := by decide +kernel
theorem dX2_fillBySteps_41 : decode cX2_fillBySteps 41 = .ok (.return_, 1) := by decide +kernel
theorem dX2_addStepsOf_0 : decode cX2_addStepsOf 0 = .ok (.aload_n 0, 1) := by decide +kernel
theorem dX2_addStepsOf_1 : decode cX2_addStepsOf 1 = .ok (.iload_n 1, 1) := by decide +kernel
theorem dX2_addStepsOf_2 : decode cX2_addStepsOf 2 = .ok (.iconst 0, 1) := by decide +kernel
theorem dX2_addStepsOf_3 : decode cX2_addStepsOf 3 = .ok (.invokevirtual 54, 3) := by decide +kernel
theorem dX2_addStepsOf_6 : decode cX2_addStepsOf 6 = .ok (.istore_n 3, 1) := by decide +kernel
theorem dX2_addStepsOf_7 : decode cX2_addStepsOf 7 = .ok (.aload_n 0, 1) := by decide +kernel
theorem dX2_addStepsOf_8 : decode cX2_addStepsOf 8 = .ok (.iload_n 1, 1) := by decide +kernel
theorem dX2_addStepsOf_9 : decode cX2_addStepsOf 9 = .ok (.iconst 1, 1) := by decide +kernel
theorem dX2_addStepsOf_10 : decode cX2_addStepsOf 10 = .ok (.invokevirtual 54, 3) := by decide +kernel
theorem dX2_addStepsOf_13 : decode cX2_addStepsOf 13 = .ok (.istore 4, 2) := by decide +kernel
theorem dX2_addStepsOf_15 : decode cX2_addStepsOf 15 = .ok (.aload_n 0, 1) := by decide +kernel
theorem dX2_addStepsOf_16 : decode cX2_addStepsOf 16 = .ok (.iload_n 1, 1) := by decide +kernel
theorem dX2_addStepsOf_17 : decode cX2_addStepsOf 17 = .ok (.iconst 2, 1) := by decide +kernel
theorem dX2_addStepsOf_18 : decode cX2_addStepsOf 18 = .ok (.invokevirtual 54, 3) := by decide +kernel
theorem dX2_addStepsOf_21 : decode cX2_addStepsOf 21 = .ok (.istore 5, 2) := by decide +kernel
theorem dX2_addStepsOf_23 : decode cX2_addStepsOf 23 = .ok (.iload_n 3, 1) := by decide +kernel
theorem dX2_addStepsOf_24 : decode cX2_addStepsOf 24 = .ok (.iconst 1, 1) := by decide +kernel
theorem dX2_addStepsOf_25 : decode cX2_addStepsOf 25 = .ok (.iand, 1) := by decide +kernel
theorem dX2_addStepsOf_26 : decode cX2_addStepsOf 26 = .ok (.iconst 1, 1) := by decide +kernel
theorem dX2_addStepsOf_27 : decode cX2_addStepsOf 27 = .ok (.if_icmp .ne 7, 3) := by decide +kernel
theorem dX2_addStepsOf_30 : decode cX2_addStepsOf 30 = .ok (.iload_n 3, 1) := by decide +kernel
theorem dX2_addStepsOf_31 : decode cX2_addStepsOf 31 = .ok (.goto 5, 3) := by decide +kernel
theorem dX2_addStepsOf_34 : decode cX2_addStepsOf 34 = .ok (.iload 4, 2) := by decide +kernel
theorem dX2_addStepsOf_36 : decode cX2_addStepsOf 36 = .ok (.istore 6, 2) := by decide +kernel
theorem dX2_addStepsOf_38 : decode cX2_addStepsOf 38 = .ok (.iload_n 3, 1) := by decide +kernel
theorem dX2_addStepsOf_39 : decode cX2_addStepsOf 39 = .ok (.iconst 1, 1) := by decide +kernel
theorem dX2_addStepsOf_40 : decode cX2_addStepsOf 40 = .ok (.iand, 1) := by decide +kernel
theorem dX2_addStepsOf_41 : decode cX2_addStepsOf 41 = .ok (.iconst 1, 1) := by decide +kernel
theorem dX2_addStepsOf_42 : decode cX2_addStepsOf 42 = .ok (.if_icmp .ne 8, 3) := by decide +kernel
theorem dX2_addStepsOf_45 : decode cX2_addStepsOf 45 = .ok (.iload 4, 2) := by decide +kernel
theorem dX2_addStepsOf_47 : decode cX2_addStepsOf 47 = .ok (.goto 4, 3) := by decide +kernel
theorem dX2_addStepsOf_50 : decode cX2_addStepsOf 50 = .ok (.iload_n 3, 1) := by decide +kernel
theorem dX2_addStepsOf_51 : decode cX2_addStepsOf 51 = .ok (.istore 7, 2) := by decide +kernel
theorem dX2_addStepsOf_53 : decode cX2_addStepsOf 53 = .ok (.aload_n 0, 1) := by decide +kernel
theorem dX2_addStepsOf_54 : decode cX2_addStepsOf 54 = .ok (.bipush 97, 2) := by decide +kernel
theorem dX2_addStepsOf_56 : decode cX2_addStepsOf 56 = .ok (.iload 6, 2) := by decide +kernel
theorem dX2_addStepsOf_58 : decode cX2_addStepsOf 58 = .ok (.iload 7, 2) := by decide +kernel
theorem dX2_addStepsOf_60 : decode cX2_addStepsOf 60 = .ok (.iload 5, 2) := by decide +kernel
theorem dX2_addStepsOf_62 : decode cX2_addStepsOf 62 = .ok (.iload_n 2, 1) := by decide +kernel
theorem dX2_addStepsOf_63 : decode cX2_addStepsOf 63 = .ok (.invokevirtual 57, 3) := by decide +kernel
theorem dX2_addStepsOf_66 : decode cX2_addStepsOf 66 = .ok (.aload_n 0, 1) := by decide +kernel
theorem dX2_addStepsOf_67 : decode cX2_addStepsOf 67 = .ok (.bipush 98, 2) := by decide +kernel
theorem dX2_addStepsOf_69 : decode cX2_addStepsOf 69 = .ok (.iload 6, 2) := by decide +kernel
theorem dX2_addStepsOf_71 : decode cX2_addStepsOf 71 = .ok (.iload 7, 2) := by decide +kernel
theorem dX2_addStepsOf_73 : decode cX2_addStepsOf 73 = .ok (.iload 5, 2) := by decide +kernel
theorem dX2_addStepsOf_75 : decode cX2_addStepsOf 75 = .ok (.iload_n 2, 1) := by decide +kernel
theorem dX2_addStepsOf_76 : decode cX2_addStepsOf 76 = .ok (.invokevirtual 57, 3) := by decide +kernel
theorem dX2_addStepsOf_79 : decode cX2_addStepsOf 79 = .ok (.aload_n 0, 1) := by decide +kernel
theorem dX2_addStepsOf_80 : decode cX2_addStepsOf 80 = .ok (.bipush 99, 2) := by decide +kernel
theorem dX2_addStepsOf_82 : decode cX2_addStepsOf 82 = .ok (.iload 6, 2) := by decide +kernel
theorem dX2_addStepsOf_84 : decode cX2_addStepsOf 84 = .ok (.iload 7, 2) := by decide +kernel
theorem dX2_addStepsOf_86 : decode cX2_addStepsOf 86 = .ok (.iload 5, 2) := by decide +kernel
theorem dX2_addStepsOf_88 : decode cX2_addStepsOf 88 = .ok (.iload_n 2, 1) := by decide +kernel
theorem dX2_addStepsOf_89 : decode cX2_addStepsOf 89 = .ok (.invokevirtual 57, 3) := by decide +kernel
theorem dX2_addStepsOf_92 : decode cX2_addStepsOf 92 = .ok (.return_, 1) := by decide +kernel
theorem dX2_addStep_0 : decode cX2_addStep 0 = .ok (.iload_n 1, 1) := by decide +kernel
theorem dX2_addStep_1 : decode cX2_addStep 1 = .ok (.iload_n 2, 1) := by decide +kernel
theorem dX2_addStep_2 : decode cX2_addStep 2 = .ok (.iload_n 3, 1) := by decide +kernel
theorem dX2_addStep_3 : decode cX2_addStep 3 = .ok (.iload 4, 2) := by decide +kernel
theorem dX2_addStep_5 : decode cX2_addStep 5 = .ok (.invokestatic 61, 3) := by decide +kernel
theorem dX2_addStep_8 : decode cX2_addStep 8 = .ok (.istore 6, 2) := by decide +kernel
theorem dX2_addStep_10 : decode cX2_addStep 10 = .ok (.iload 6, 2) := by decide +kernel
theorem dX2_addStep_12 : decode cX2_addStep 12 = .ok (.iload 5, 2) := by decide +kernel
theorem dX2_addStep_14 : decode cX2_addStep 14 = .ok (.if_icmp .gt 25, 3) := by decide +kernel
theorem dX2_addStep_17 : decode cX2_addStep 17 = .ok (.aload_n 0, 1) := by decide +kernel
theorem dX2_addStep_18 : decode cX2_addStep 18 = .ok (.iload_n 1, 1) := by decide +kernel
theorem dX2_addStep_19 : decode cX2_addStep 19 = .ok (.iload_n 2, 1) := by decide +kernel
theorem dX2_addStep_20 : decode cX2_addStep 20 = .ok (.iload_n 3, 1) := by decide +kernel
theorem dX2_addStep_21 : decode cX2_addStep 21 = .ok (.iload 4, 2) := by decide +kernel
theorem dX2_addStep_23 : decode cX2_addStep 23 = .ok (.invokestatic 65, 3) := by decide +kernel
theorem dX2_addStep_26 : decode cX2_addStep 26 = .ok (.iload_n 1, 1) := by decide +kernel
theorem dX2_addStep_27 : decode cX2_addStep 27 = .ok (.iload_n 2, 1) := by decide +kernel
theorem dX2_addStep_28 : decode cX2_addStep 28 = .ok (.iload_n 3, 1) := by decide +kernel
theorem dX2_addStep_29 : decode cX2_addStep 29 = .ok (.iload 4, 2) := by decide +kernel
theorem dX2_addStep_31 : decode cX2_addStep 31 = .ok (.invokestatic 68, 3) := by decide +kernel
theorem dX2_addStep_34 : decode cX2_addStep 34 = .ok (.iload 6, 2) := by decide +kernel
theorem dX2_addStep_36 : decode cX2_addStep 36 = .ok (.invokevirtual 44, 3) := by decide +kernel
theorem dX2_addStep_39 : decode cX2_addStep 39 = .ok (.return_, 1) := by decide +kernel
theorem dX2_fillByHypot_0 : decode cX2_fillByHypot 0 = .ok (.iconst 1, 1) := by decide +kernel
theorem dX2_fillByHypot_1 : decode cX2_fillByHypot 1 = .ok (.istore_n 2, 1) := by decide +kernel
theorem dX2_fillByHypot_2 : decode cX2_fillByHypot 2 = .ok (.iload_n 2, 1) := by decide +kernel
theorem dX2_fillByHypot_3 : decode cX2_fillByHypot 3 = .ok (.iload_n 1, 1) := by decide +kernel
theorem dX2_fillByHypot_4 : decode cX2_fillByHypot 4 = .ok (.if_icmp .ge 15, 3) := by decide +kernel
theorem dX2_fillByHypot_7 : decode cX2_fillByHypot 7 = .ok (.aload_n 0, 1) := by decide +kernel
theorem dX2_fillByHypot_8 : decode cX2_fillByHypot 8 = .ok (.iload_n 2, 1) := by decide +kernel
theorem dX2_fillByHypot_9 : decode cX2_fillByHypot 9 = .ok (.iload_n 1, 1) := by decide +kernel
theorem dX2_fillByHypot_10 : decode cX2_fillByHypot 10 = .ok (.invokevirtual 71, 3) := by decide +kernel
theorem dX2_fillByHypot_13 : decode cX2_fillByHypot 13 = .ok (.iinc 2 2, 3) := by decide +kernel
theorem dX2_fillByHypot_16 : decode cX2_fillByHypot 16 = .ok (.goto (-14), 3) := by decide +kernel
theorem dX2_fillByHypot_19 : decode cX2_fillByHypot 19 = .ok (.return_, 1) := by decide +kernel
theorem dX2_addByHypot_0 : decode cX2_addByHypot 0 = .ok (.iload_n 1, 1) := by decide +kernel
theorem dX2_addByHypot_1 : decode cX2_addByHypot 1 = .ok (.istore_n 3, 1) := by decide +kernel
theorem dX2_addByHypot_2 : decode cX2_addByHypot 2 = .ok (.iconst 2, 1) := by decide +kernel
theorem dX2_addByHypot_3 : decode cX2_addByHypot 3 = .ok (.istore 4, 2) := by decide +kernel
theorem dX2_addByHypot_5 : decode cX2_addByHypot 5 = .ok (.iload 4, 2) := by decide +kernel
theorem dX2_addByHypot_7 : decode cX2_addByHypot 7 = .ok (.iload_n 2, 1) := by decide +kernel
theorem dX2_addByHypot_8 : decode cX2_addByHypot 8 = .ok (.if_icmp .ge 86, 3) := by decide +kernel
theorem dX2_addByHypot_11 : decode cX2_addByHypot 11 = .ok (.iload_n 1, 1) := by decide +kernel
theorem dX2_addByHypot_12 : decode cX2_addByHypot 12 = .ok (.iload_n 1, 1) := by decide +kernel
theorem dX2_addByHypot_13 : decode cX2_addByHypot 13 = .ok (.imul, 1) := by decide +kernel
theorem dX2_addByHypot_14 : decode cX2_addByHypot 14 = .ok (.iload 4, 2) := by decide +kernel
theorem dX2_addByHypot_16 : decode cX2_addByHypot 16 = .ok (.iload 4, 2) := by decide +kernel
theorem dX2_addByHypot_18 : decode cX2_addByHypot 18 = .ok (.imul, 1) := by decide +kernel
theorem dX2_addByHypot_19 : decode cX2_addByHypot 19 = .ok (.iadd, 1) := by decide +kernel
theorem dX2_addByHypot_20 : decode cX2_addByHypot 20 = .ok (.istore 5, 2) := by decide +kernel
theorem dX2_addByHypot_22 : decode cX2_addByHypot 22 = .ok (.iload_n 3, 1) := by decide +kernel
theorem dX2_addByHypot_23 : decode cX2_addByHypot 23 = .ok (.iload_n 2, 1) := by decide +kernel
theorem dX2_addByHypot_24 : decode cX2_addByHypot 24 = .ok (.if_icmp .gt 17, 3) := by decide +kernel
theorem dX2_addByHypot_27 : decode cX2_addByHypot 27 = .ok (.iload_n 3, 1) := by decide +kernel
theorem dX2_addByHypot_28 : decode cX2_addByHypot 28 = .ok (.iload_n 3, 1) := by decide +kernel
theorem dX2_addByHypot_29 : decode cX2_addByHypot 29 = .ok (.imul, 1) := by decide +kernel
theorem dX2_addByHypot_30 : decode cX2_addByHypot 30 = .ok (.iload 5, 2) := by decide +kernel
theorem dX2_addByHypot_32 : decode cX2_addByHypot 32 = .ok (.if_icmp .ge 9, 3) := by decide +kernel
theorem dX2_addByHypot_35 : decode cX2_addByHypot 35 = .ok (.iinc 3 1, 3) := by decide +kernel
theorem dX2_addByHypot_38 : decode cX2_addByHypot 38 = .ok (.goto (-16), 3) := by decide +kernel
theorem dX2_addByHypot_41 : decode cX2_addByHypot 41 = .ok (.iload_n 3, 1) := by decide +kernel
theorem dX2_addByHypot_42 : decode cX2_addByHypot 42 = .ok (.iload_n 2, 1) := by decide +kernel
theorem dX2_addByHypot_43 : decode cX2_addByHypot 43 = .ok (.if_icmp .le 4, 3) := by decide +kernel
theorem dX2_addByHypot_46 : decode cX2_addByHypot 46 = .ok (.return_, 1) := by decide +kernel
theorem dX2_addByHypot_47 : decode cX2_addByHypot 47 = .ok (.iload_n 3, 1) := by decide +kernel
theorem dX2_addByHypot_48 : decode cX2_addByHypot 48 = .ok (.iload_n 3, 1) := by decide +kernel
theorem dX2_addByHypot_49 : decode cX2_addByHypot 49 = .ok (.imul, 1) := by decide +kernel
theorem dX2_addByHypot_50 : decode cX2_addByHypot 50 = .ok (.iload 5, 2) := by decide +kernel
theorem dX2_addByHypot_52 : decode cX2_addByHypot 52 = .ok (.if_icmp .ne 36, 3) := by decide +kernel
theorem dX2_addByHypot_55 : decode cX2_addByHypot 55 = .ok (.iload_n 1, 1) := by decide +kernel
theorem dX2_addByHypot_56 : decode cX2_addByHypot 56 = .ok (.iload 4, 2) := by decide +kernel
theorem dX2_addByHypot_58 : decode cX2_addByHypot 58 = .ok (.invokestatic 74, 3) := by decide +kernel
theorem dX2_addByHypot_61 : decode cX2_addByHypot 61 = .ok (.iload_n 3, 1) := by decide +kernel
theorem dX2_addByHypot_62 : decode cX2_addByHypot 62 = .ok (.i2d, 1) := by decide +kernel
theorem dX2_addByHypot_63 : decode cX2_addByHypot 63 = .ok (.dcmp .l, 1) := by decide +kernel
theorem dX2_addByHypot_64 : decode cX2_addByHypot 64 = .ok (.ifCond .ne 24, 3) := by decide +kernel
theorem dX2_addByHypot_67 : decode cX2_addByHypot 67 = .ok (.iload_n 1, 1) := by decide +kernel
theorem dX2_addByHypot_68 : decode cX2_addByHypot 68 = .ok (.i2l, 1) := by decide +kernel
theorem dX2_addByHypot_69 : decode cX2_addByHypot 69 = .ok (.iload 4, 2) := by decide +kernel
theorem dX2_addByHypot_71 : decode cX2_addByHypot 71 = .ok (.i2l, 1) := by decide +kernel
theorem dX2_addByHypot_72 : decode cX2_addByHypot 72 = .ok (.invokestatic 38, 3) := by decide +kernel
theorem dX2_addByHypot_75 : decode cX2_addByHypot 75 = .ok (.lconst 1, 1) := by decide +kernel
theorem dX2_addByHypot_76 : decode cX2_addByHypot 76 = .ok (.lcmp, 1) := by decide +kernel
theorem dX2_addByHypot_77 : decode cX2_addByHypot 77 = .ok (.ifCond .ne 11, 3) := by decide +kernel
theorem dX2_addByHypot_80 : decode cX2_addByHypot 80 = .ok (.aload_n 0, 1) := by decide +kernel
theorem dX2_addByHypot_81 : decode cX2_addByHypot 81 = .ok (.iload_n 1, 1) := by decide +kernel
theorem dX2_addByHypot_82 : decode cX2_addByHypot 82 = .ok (.iload 4, 2) := by decide +kernel
theorem dX2_addByHypot_84 : decode cX2_addByHypot 84 = .ok (.iload_n 3, 1) := by decide +kernel
theorem dX2_addByHypot_85 : decode cX2_addByHypot 85 = .ok (.invokevirtual 44, 3) := by decide +kernel
theorem dX2_addByHypot_88 : decode cX2_addByHypot 88 = .ok (.iinc 4 2, 3) := by decide +kernel
theorem dX2_addByHypot_91 : decode cX2_addByHypot 91 = .ok (.goto (-86), 3) := by decide +kernel
theorem dX2_addByHypot_94 : decode cX2_addByHypot 94 = .ok (.return_, 1) := by decide +kernel
theorem dX3_signedOdd_0 : decode cX3_signedOdd 0 = .ok (.iload_n 0, 1) := by decide +kernel
theorem dX3_signedOdd_1 : decode cX3_signedOdd 1 = .ok (.bipush 99, 2) := by decide +kernel
theorem dX3_signedOdd_3 : decode cX3_signedOdd 3 = .ok (.if_icmp .ne 8, 3) := by decide +kernel
theorem dX3_signedOdd_6 : decode cX3_signedOdd 6 = .ok (.iload_n 1, 1) := by decide +kernel
theorem dX3_signedOdd_7 : decode cX3_signedOdd 7 = .ok (.ineg, 1) := by decide +kernel
theorem dX3_signedOdd_8 : decode cX3_signedOdd 8 = .ok (.goto 4, 3) := by decide +kernel
theorem dX3_signedOdd_11 : decode cX3_signedOdd 11 = .ok (.iload_n 1, 1) := by decide +kernel
theorem dX3_signedOdd_12 : decode cX3_signedOdd 12 = .ok (.ireturn, 1) := by decide +kernel
theorem dX3_signedEven_0 : decode cX3_signedEven 0 = .ok (.iload_n 0, 1) := by decide +kernel
theorem dX3_signedEven_1 : decode cX3_signedEven 1 = .ok (.bipush 97, 2) := by decide +kernel
theorem dX3_signedEven_3 : decode cX3_signedEven 3 = .ok (.if_icmp .ne 8, 3) := by decide +kernel
theorem dX3_signedEven_6 : decode cX3_signedEven 6 = .ok (.iload_n 1, 1) := by decide +kernel
theorem dX3_signedEven_7 : decode cX3_signedEven 7 = .ok (.ineg, 1) := by decide +kernel
theorem dX3_signedEven_8 : decode cX3_signedEven 8 = .ok (.goto 4, 3) := by decide +kernel
theorem dX3_signedEven_11 : decode cX3_signedEven 11 = .ok (.iload_n 1, 1) := by decide +kernel
theorem dX3_signedEven_12 : decode cX3_signedEven 12 = .ok (.ireturn, 1) := by decide +kernel
theorem dX3_oddLeg_0 : decode cX3_oddLeg 0 = .ok (.iload_n 0, 1) := by decide +kernel
theorem dX3_oddLeg_1 : decode cX3_oddLeg 1 = .ok (.iload_n 1, 1) := by decide +kernel
theorem dX3_oddLeg_2 : decode cX3_oddLeg 2 = .ok (.invokestatic 7, 3) := by decide +kernel
theorem dX3_oddLeg_5 : decode cX3_oddLeg 5 = .ok (.iconst 2, 1) := by decide +kernel
theorem dX3_oddLeg_6 : decode cX3_oddLeg 6 = .ok (.iload_n 0, 1) := by decide +kernel
theorem dX3_oddLeg_7 : decode cX3_oddLeg 7 = .ok (.iload_n 2, 1) := by decide +kernel
theorem dX3_oddLeg_8 : decode cX3_oddLeg 8 = .ok (.invokestatic 13, 3) := by decide +kernel
theorem dX3_oddLeg_11 : decode cX3_oddLeg 11 = .ok (.imul, 1) := by decide +kernel
theorem dX3_oddLeg_12 : decode cX3_oddLeg 12 = .ok (.iadd, 1) := by decide +kernel
theorem dX3_oddLeg_13 : decode cX3_oddLeg 13 = .ok (.iconst 2, 1) := by decide +kernel
theorem dX3_oddLeg_14 : decode cX3_oddLeg 14 = .ok (.iload_n 3, 1) := by decide +kernel
theorem dX3_oddLeg_15 : decode cX3_oddLeg 15 = .ok (.imul, 1) := by decide +kernel
theorem dX3_oddLeg_16 : decode cX3_oddLeg 16 = .ok (.iadd, 1) := by decide +kernel
theorem dX3_oddLeg_17 : decode cX3_oddLeg 17 = .ok (.ireturn, 1) := by decide +kernel
theorem dX3_evenLeg_0 : decode cX3_evenLeg 0 = .ok (.iconst 2, 1) := by decide +kernel
theorem dX3_evenLeg_1 : decode cX3_evenLeg 1 = .ok (.iload_n 0, 1) := by decide +kernel
theorem dX3_evenLeg_2 : decode cX3_evenLeg 2 = .ok (.iload_n 1, 1) := by decide +kernel
theorem dX3_evenLeg_3 : decode cX3_evenLeg 3 = .ok (.invokestatic 7, 3) := by decide +kernel
theorem dX3_evenLeg_6 : decode cX3_evenLeg 6 = .ok (.imul, 1) := by decide +kernel
theorem dX3_evenLeg_7 : decode cX3_evenLeg 7 = .ok (.iload_n 0, 1) := by decide +kernel
theorem dX3_evenLeg_8 : decode cX3_evenLeg 8 = .ok (.iload_n 2, 1) := by decide +kernel
theorem dX3_evenLeg_9 : decode cX3_evenLeg 9 = .ok (.invokestatic 13, 3) := by decide +kernel
theorem dX3_evenLeg_12 : decode cX3_evenLeg 12 = .ok (.iadd, 1) := by decide +kernel
theorem dX3_evenLeg_13 : decode cX3_evenLeg 13 = .ok (.iconst 2, 1) := by decide +kernel
theorem dX3_evenLeg_14 : decode cX3_evenLeg 14 = .ok (.iload_n 3, 1) := by decide +kernel
theorem dX3_evenLeg_15 : decode cX3_evenLeg 15 = .ok (.imul, 1) := by decide +kernel
theorem dX3_evenLeg_16 : decode cX3_evenLeg 16 = .ok (.iadd, 1) := by decide +kernel
theorem dX3_evenLeg_17 : decode cX3_evenLeg 17 = .ok (.ireturn, 1) := by decide +kernel
theorem dX3_longest_0 : decode cX3_longest 0 = .ok (.iconst 2, 1) := by decide +kernel
theorem dX3_longest_1 : decode cX3_longest 1 = .ok (.iload_n 0, 1) := by decide +kernel
theorem dX3_longest_2 : decode cX3_longest 2 = .ok (.iload_n 1, 1) := by decide +kernel
theorem dX3_longest_3 : decode cX3_longest 3 = .ok (.invokestatic 7, 3) := by decide +kernel
theorem dX3_longest_6 : decode cX3_longest 6 = .ok (.imul, 1) := by decide +kernel
theorem dX3_longest_7 : decode cX3_longest 7 = .ok (.iconst 2, 1) := by decide +kernel
theorem dX3_longest_8 : decode cX3_longest 8 = .ok (.iload_n 0, 1) := by decide +kernel
theorem dX3_longest_9 : decode cX3_longest 9 = .ok (.iload_n 2, 1) := by decide +kernel
theorem dX3_longest_10 : decode cX3_longest 10 = .ok (.invokestatic 13, 3) := by decide +kernel
theorem dX3_longest_13 : decode cX3_longest 13 = .ok (.imul, 1) := by decide +kernel
theorem dX3_longest_14 : decode cX3_longest 14 = .ok (.iadd, 1) := by decide +kernel
theorem dX3_longest_15 : decode cX3_longest 15 = .ok (.iconst 3, 1) := by decide +kernel
theorem dX3_longest_16 : decode cX3_longest 16 = .ok (.iload_n 3, 1) := by decide +kernel
theorem dX3_longest_17 : decode cX3_longest 17 = .ok (.imul, 1) := by decide +kernel
theorem dX3_longest_18 : decode cX3_longest 18 = .ok (.iadd, 1) := by decide +kernel
theorem dX3_longest_19 : decode cX3_longest 19 = .ok (.ireturn, 1) := by decide +kernel
theorem dX3_backOdd_0 : decode cX3_backOdd 0 = .ok (.iload_n 0, 1) := by decide +kernel
theorem dX3_backOdd_1 : decode cX3_backOdd 1 = .ok (.iconst 2, 1) := by decide +kernel
theorem dX3_backOdd_2 : decode cX3_backOdd 2 = .ok (.iload_n 1, 1) := by decide +kernel
theorem dX3_backOdd_3 : decode cX3_backOdd 3 = .ok (.imul, 1) := by decide +kernel
theorem dX3_backOdd_4 : decode cX3_backOdd 4 = .ok (.iadd, 1) := by decide +kernel
theorem dX3_backOdd_5 : decode cX3_backOdd 5 = .ok (.iconst 2, 1) := by decide +kernel
theorem dX3_backOdd_6 : decode cX3_backOdd 6 = .ok (.iload_n 2, 1) := by decide +kernel
theorem dX3_backOdd_7 : decode cX3_backOdd 7 = .ok (.imul, 1) := by decide +kernel
theorem dX3_backOdd_8 : decode cX3_backOdd 8 = .ok (.isub, 1) := by decide +kernel
theorem dX3_backOdd_9 : decode cX3_backOdd 9 = .ok (.ireturn, 1) := by decide +kernel
theorem dX3_backEven_0 : decode cX3_backEven 0 = .ok (.iconst 2, 1) := by decide +kernel
theorem dX3_backEven_1 : decode cX3_backEven 1 = .ok (.iload_n 0, 1) := by decide +kernel
theorem dX3_backEven_2 : decode cX3_backEven 2 = .ok (.imul, 1) := by decide +kernel
theorem dX3_backEven_3 : decode cX3_backEven 3 = .ok (.iload_n 1, 1) := by decide +kernel
theorem dX3_backEven_4 : decode cX3_backEven 4 = .ok (.iadd, 1) := by decide +kernel
theorem dX3_backEven_5 : decode cX3_backEven 5 = .ok (.iconst 2, 1) := by decide +kernel
theorem dX3_backEven_6 : decode cX3_backEven 6 = .ok (.iload_n 2, 1) := by decide +kernel
theorem dX3_backEven_7 : decode cX3_backEven 7 = .ok (.imul, 1) := by decide +kernel
theorem dX3_backEven_8 : decode cX3_backEven 8 = .ok (.isub, 1) := by decide +kernel
theorem dX3_backEven_9 : decode cX3_backEven 9 = .ok (.ireturn, 1) := by decide +kernel
theorem dX3_backLongest_0 : decode cX3_backLongest 0 = .ok (.iconst 3, 1) := by decide +kernel
theorem dX3_backLongest_1 : decode cX3_backLongest 1 = .ok (.iload_n 2, 1) := by decide +kernel
theorem dX3_backLongest_2 : decode cX3_backLongest 2 = .ok (.imul, 1) := by decide +kernel
theorem dX3_backLongest_3 : decode cX3_backLongest 3 = .ok (.iconst 2, 1) := by decide +kernel
theorem dX3_backLongest_4 : decode cX3_backLongest 4 = .ok (.iload_n 0, 1) := by decide +kernel
theorem dX3_backLongest_5 : decode cX3_backLongest 5 = .ok (.imul, 1) := by decide +kernel
theorem dX3_backLongest_6 : decode cX3_backLongest 6 = .ok (.isub, 1) := by decide +kernel
theorem dX3_backLongest_7 : decode cX3_backLongest 7 = .ok (.iconst 2, 1) := by decide +kernel
theorem dX3_backLongest_8 : decode cX3_backLongest 8 = .ok (.iload_n 1, 1) := by decide +kernel
theorem dX3_backLongest_9 : decode cX3_backLongest 9 = .ok (.imul, 1) := by decide +kernel
theorem dX3_backLongest_10 : decode cX3_backLongest 10 = .ok (.isub, 1) := by decide +kernel
theorem dX3_backLongest_11 : decode cX3_backLongest 11 = .ok (.ireturn, 1) := by decide +kernel
theorem dX3_stepsFromFirst_0 : decode cX3_stepsFromFirst 0 = .ok (.iload_n 0, 1) := by decide +kernel
theorem dX3_stepsFromFirst_1 : decode cX3_stepsFromFirst 1 = .ok (.istore_n 3, 1) := by decide +kernel
theorem dX3_stepsFromFirst_2 : decode cX3_stepsFromFirst 2 = .ok (.iload_n 1, 1) := by decide +kernel
theorem dX3_stepsFromFirst_3 : decode cX3_stepsFromFirst 3 = .ok (.istore 4, 2) := by decide +kernel
theorem dX3_stepsFromFirst_5 : decode cX3_stepsFromFirst 5 = .ok (.iload_n 2, 1) := by decide +kernel
theorem dX3_stepsFromFirst_6 : decode cX3_stepsFromFirst 6 = .ok (.istore 5, 2) := by decide +kernel
theorem dX3_stepsFromFirst_8 : decode cX3_stepsFromFirst 8 = .ok (.iconst 0, 1) := by decide +kernel
theorem dX3_stepsFromFirst_9 : decode cX3_stepsFromFirst 9 = .ok (.istore 6, 2) := by decide +kernel
theorem dX3_stepsFromFirst_11 : decode cX3_stepsFromFirst 11 = .ok (.iload 6, 2) := by decide +kernel
theorem dX3_stepsFromFirst_13 : decode cX3_stepsFromFirst 13 = .ok (.sipush 1000, 3) := by decide +kernel
theorem dX3_stepsFromFirst_16 : decode cX3_stepsFromFirst 16 = .ok (.if_icmp .ge 80, 3) := by decide +kernel
theorem dX3_stepsFromFirst_19 : decode cX3_stepsFromFirst 19 = .ok (.iload 5, 2) := by decide +kernel
theorem dX3_stepsFromFirst_21 : decode cX3_stepsFromFirst 21 = .ok (.iconst 5, 1) := by decide +kernel
theorem dX3_stepsFromFirst_22 : decode cX3_stepsFromFirst 22 = .ok (.if_icmp .le 74, 3) := by decide +kernel
theorem dX3_stepsFromFirst_25 : decode cX3_stepsFromFirst 25 = .ok (.iload_n 3, 1) := by decide +kernel
theorem dX3_stepsFromFirst_26 : decode cX3_stepsFromFirst 26 = .ok (.iload 4, 2) := by decide +kernel
theorem dX3_stepsFromFirst_28 : decode cX3_stepsFromFirst 28 = .ok (.iload 5, 2) := by decide +kernel
theorem dX3_stepsFromFirst_30 : decode cX3_stepsFromFirst 30 = .ok (.invokestatic 16, 3) := by decide +kernel
theorem dX3_stepsFromFirst_33 : decode cX3_stepsFromFirst 33 = .ok (.istore 7, 2) := by decide +kernel
theorem dX3_stepsFromFirst_35 : decode cX3_stepsFromFirst 35 = .ok (.iload_n 3, 1) := by decide +kernel
theorem dX3_stepsFromFirst_36 : decode cX3_stepsFromFirst 36 = .ok (.iload 4, 2) := by decide +kernel
theorem dX3_stepsFromFirst_38 : decode cX3_stepsFromFirst 38 = .ok (.iload 5, 2) := by decide +kernel
theorem dX3_stepsFromFirst_40 : decode cX3_stepsFromFirst 40 = .ok (.invokestatic 20, 3) := by decide +kernel
theorem dX3_stepsFromFirst_43 : decode cX3_stepsFromFirst 43 = .ok (.istore 8, 2) := by decide +kernel
theorem dX3_stepsFromFirst_45 : decode cX3_stepsFromFirst 45 = .ok (.iload 7, 2) := by decide +kernel
theorem dX3_stepsFromFirst_47 : decode cX3_stepsFromFirst 47 = .ok (.ifCond .eq 18, 3) := by decide +kernel
theorem dX3_stepsFromFirst_50 : decode cX3_stepsFromFirst 50 = .ok (.iload 8, 2) := by decide +kernel
theorem dX3_stepsFromFirst_52 : decode cX3_stepsFromFirst 52 = .ok (.ifCond .eq 13, 3) := by decide +kernel
theorem dX3_stepsFromFirst_55 : decode cX3_stepsFromFirst 55 = .ok (.iload 7, 2) := by decide +kernel
theorem dX3_stepsFromFirst_57 : decode cX3_stepsFromFirst 57 = .ok (.ifCond .ge 10, 3) := by decide +kernel
theorem dX3_stepsFromFirst_60 : decode cX3_stepsFromFirst 60 = .ok (.iload 8, 2) := by decide +kernel
theorem dX3_stepsFromFirst_62 : decode cX3_stepsFromFirst 62 = .ok (.ifCond .ge 5, 3) := by decide +kernel
theorem dX3_stepsFromFirst_65 : decode cX3_stepsFromFirst 65 = .ok (.iconst (-1), 1) := by decide +kernel
theorem dX3_stepsFromFirst_66 : decode cX3_stepsFromFirst 66 = .ok (.ireturn, 1) := by decide +kernel
theorem dX3_stepsFromFirst_67 : decode cX3_stepsFromFirst 67 = .ok (.iload_n 3, 1) := by decide +kernel
theorem dX3_stepsFromFirst_68 : decode cX3_stepsFromFirst 68 = .ok (.iload 4, 2) := by decide +kernel
theorem dX3_stepsFromFirst_70 : decode cX3_stepsFromFirst 70 = .ok (.iload 5, 2) := by decide +kernel
theorem dX3_stepsFromFirst_72 : decode cX3_stepsFromFirst 72 = .ok (.invokestatic 23, 3) := by decide +kernel
theorem dX3_stepsFromFirst_75 : decode cX3_stepsFromFirst 75 = .ok (.istore 5, 2) := by decide +kernel
theorem dX3_stepsFromFirst_77 : decode cX3_stepsFromFirst 77 = .ok (.iload 7, 2) := by decide +kernel
theorem dX3_stepsFromFirst_79 : decode cX3_stepsFromFirst 79 = .ok (.invokestatic 26, 3) := by decide +kernel
theorem dX3_stepsFromFirst_82 : decode cX3_stepsFromFirst 82 = .ok (.istore_n 3, 1) := by decide +kernel
theorem dX3_stepsFromFirst_83 : decode cX3_stepsFromFirst 83 = .ok (.iload 8, 2) := by decide +kernel
theorem dX3_stepsFromFirst_85 : decode cX3_stepsFromFirst 85 = .ok (.invokestatic 26, 3) := by decide +kernel
theorem dX3_stepsFromFirst_88 : decode cX3_stepsFromFirst 88 = .ok (.istore 4, 2) := by decide +kernel
theorem dX3_stepsFromFirst_90 : decode cX3_stepsFromFirst 90 = .ok (.iinc 6 1, 3) := by decide +kernel
theorem dX3_stepsFromFirst_93 : decode cX3_stepsFromFirst 93 = .ok (.goto (-82), 3) := by decide +kernel
theorem dX3_stepsFromFirst_96 : decode cX3_stepsFromFirst 96 = .ok (.iload_n 3, 1) := by decide +kernel
theorem dX3_stepsFromFirst_97 : decode cX3_stepsFromFirst 97 = .ok (.iconst 3, 1) := by decide +kernel
theorem dX3_stepsFromFirst_98 : decode cX3_stepsFromFirst 98 = .ok (.if_icmp .ne 20, 3) := by decide +kernel
theorem dX3_stepsFromFirst_101 : decode cX3_stepsFromFirst 101 = .ok (.iload 4, 2) := by decide +kernel
theorem dX3_stepsFromFirst_103 : decode cX3_stepsFromFirst 103 = .ok (.iconst 4, 1) := by decide +kernel
theorem dX3_stepsFromFirst_104 : decode cX3_stepsFromFirst 104 = .ok (.if_icmp .ne 14, 3) := by decide +kernel
theorem dX3_stepsFromFirst_107 : decode cX3_stepsFromFirst 107 = .ok (.iload 5, 2) := by decide +kernel
theorem dX3_stepsFromFirst_109 : decode cX3_stepsFromFirst 109 = .ok (.iconst 5, 1) := by decide +kernel
theorem dX3_stepsFromFirst_110 : decode cX3_stepsFromFirst 110 = .ok (.if_icmp .ne 8, 3) := by decide +kernel
theorem dX3_stepsFromFirst_113 : decode cX3_stepsFromFirst 113 = .ok (.iload 6, 2) := by decide +kernel
theorem dX3_stepsFromFirst_115 : decode cX3_stepsFromFirst 115 = .ok (.goto 4, 3) := by decide +kernel
theorem dX3_stepsFromFirst_118 : decode cX3_stepsFromFirst 118 = .ok (.iconst (-1), 1) := by decide +kernel
theorem dX3_stepsFromFirst_119 : decode cX3_stepsFromFirst 119 = .ok (.ireturn, 1) := by decide +kernel
theorem dJ9_abs_0f7a4_0 : decode cJ9_abs_0f7a4 0 = .ok (.iload_n 0, 1) := by decide +kernel
theorem dJ9_abs_0f7a4_1 : decode cJ9_abs_0f7a4 1 = .ok (.ifCond .ge 8, 3) := by decide +kernel
theorem dJ9_abs_0f7a4_4 : decode cJ9_abs_0f7a4 4 = .ok (.iload_n 0, 1) := by decide +kernel
theorem dJ9_abs_0f7a4_5 : decode cJ9_abs_0f7a4 5 = .ok (.ineg, 1) := by decide +kernel
theorem dJ9_abs_0f7a4_6 : decode cJ9_abs_0f7a4 6 = .ok (.goto 4, 3) := by decide +kernel
theorem dJ9_abs_0f7a4_9 : decode cJ9_abs_0f7a4 9 = .ok (.iload_n 0, 1) := by decide +kernel
theorem dJ9_abs_0f7a4_10 : decode cJ9_abs_0f7a4 10 = .ok (.ireturn, 1) := by decide +kernel
theorem dJ9_abs_067f4_0 : decode cJ9_abs_067f4 0 = .ok (.lload_n 0, 1) := by decide +kernel
theorem dJ9_abs_067f4_1 : decode cJ9_abs_067f4 1 = .ok (.lconst 0, 1) := by decide +kernel
theorem dJ9_abs_067f4_2 : decode cJ9_abs_067f4 2 = .ok (.lcmp, 1) := by decide +kernel
theorem dJ9_abs_067f4_3 : decode cJ9_abs_067f4 3 = .ok (.ifCond .ge 8, 3) := by decide +kernel
theorem dJ9_abs_067f4_6 : decode cJ9_abs_067f4 6 = .ok (.lload_n 0, 1) := by decide +kernel
theorem dJ9_abs_067f4_7 : decode cJ9_abs_067f4 7 = .ok (.lneg, 1) := by decide +kernel
theorem dJ9_abs_067f4_8 : decode cJ9_abs_067f4 8 = .ok (.goto 4, 3) := by decide +kernel
theorem dJ9_abs_067f4_11 : decode cJ9_abs_067f4 11 = .ok (.lload_n 0, 1) := by decide +kernel
theorem dJ9_abs_067f4_12 : decode cJ9_abs_067f4 12 = .ok (.lreturn, 1) := by decide +kernel
theorem dJ9_max_7cf53_0 : decode cJ9_max_7cf53 0 = .ok (.iload_n 0, 1) := by decide +kernel
theorem dJ9_max_7cf53_1 : decode cJ9_max_7cf53 1 = .ok (.iload_n 1, 1) := by decide +kernel
theorem dJ9_max_7cf53_2 : decode cJ9_max_7cf53 2 = .ok (.if_icmp .lt 7, 3) := by decide +kernel
theorem dJ9_max_7cf53_5 : decode cJ9_max_7cf53 5 = .ok (.iload_n 0, 1) := by decide +kernel
theorem dJ9_max_7cf53_6 : decode cJ9_max_7cf53 6 = .ok (.goto 4, 3) := by decide +kernel
theorem dJ9_max_7cf53_9 : decode cJ9_max_7cf53 9 = .ok (.iload_n 1, 1) := by decide +kernel
theorem dJ9_max_7cf53_10 : decode cJ9_max_7cf53 10 = .ok (.ireturn, 1) := by decide +kernel
theorem dJ9_min_7cf53_0 : decode cJ9_min_7cf53 0 = .ok (.iload_n 0, 1) := by decide +kernel
theorem dJ9_min_7cf53_1 : decode cJ9_min_7cf53 1 = .ok (.iload_n 1, 1) := by decide +kernel
theorem dJ9_min_7cf53_2 : decode cJ9_min_7cf53 2 = .ok (.if_icmp .gt 7, 3) := by decide +kernel
theorem dJ9_min_7cf53_5 : decode cJ9_min_7cf53 5 = .ok (.iload_n 0, 1) := by decide +kernel
theorem dJ9_min_7cf53_6 : decode cJ9_min_7cf53 6 = .ok (.goto 4, 3) := by decide +kernel
theorem dJ9_min_7cf53_9 : decode cJ9_min_7cf53 9 = .ok (.iload_n 1, 1) := by decide +kernel
theorem dJ9_min_7cf53_10 : decode cJ9_min_7cf53 10 = .ok (.ireturn, 1) := by decide +kernel
theorem dJ13_compare_74951_0 : decode cJ13_compare_74951 0 = .ok (.lload_n 0, 1) := by decide +kernel
theorem dJ13_compare_74951_1 : decode cJ13_compare_74951 1 = .ok (.lload_n 2, 1) := by decide +kernel
theorem dJ13_compare_74951_2 : decode cJ13_compare_74951 2 = .ok (.lcmp, 1) := by decide +kernel
theorem dJ13_compare_74951_3 : decode cJ13_compare_74951 3 = .ok (.ifCond .ge 7, 3) := by decide +kernel
theorem dJ13_compare_74951_6 : decode cJ13_compare_74951 6 = .ok (.iconst (-1), 1) := by decide +kernel
theorem dJ13_compare_74951_7 : decode cJ13_compare_74951 7 = .ok (.goto 14, 3) := by decide +kernel
theorem dJ13_compare_74951_10 : decode cJ13_compare_74951 10 = .ok (.lload_n 0, 1) := by decide +kernel
theorem dJ13_compare_74951_11 : decode cJ13_compare_74951 11 = .ok (.lload_n 2, 1) := by decide +kernel
theorem dJ13_compare_74951_12 : decode cJ13_compare_74951 12 = .ok (.lcmp, 1) := by decide +kernel
theorem dJ13_compare_74951_13 : decode cJ13_compare_74951 13 = .ok (.ifCond .ne 7, 3) := by decide +kernel
theorem dJ13_compare_74951_16 : decode cJ13_compare_74951 16 = .ok (.iconst 0, 1) := by decide +kernel
theorem dJ13_compare_74951_17 : decode cJ13_compare_74951 17 = .ok (.goto 4, 3) := by decide +kernel
theorem dJ13_compare_74951_20 : decode cJ13_compare_74951 20 = .ok (.iconst 1, 1) := by decide +kernel
theorem dJ13_compare_74951_21 : decode cJ13_compare_74951 21 = .ok (.ireturn, 1) := by decide +kernel
end
section
theorem dX4_ofRoot_0 : decode cX4_ofRoot 0 = .ok (.lload_n 0, 1) := by decide +kernel
theorem dX4_ofRoot_1 : decode cX4_ofRoot 1 = .ok (.invokestatic 9, 3) := by decide +kernel
theorem dX4_ofRoot_4 : decode cX4_ofRoot 4 = .ok (.lstore_n 2, 1) := by decide +kernel
theorem dX4_ofRoot_5 : decode cX4_ofRoot 5 = .ok (.lload_n 0, 1) := by decide +kernel
theorem dX4_ofRoot_6 : decode cX4_ofRoot 6 = .ok (.invokestatic 15, 3) := by decide +kernel
theorem dX4_ofRoot_9 : decode cX4_ofRoot 9 = .ok (.dstore 4, 2) := by decide +kernel
theorem dX4_ofRoot_11 : decode cX4_ofRoot 11 = .ok (.lload_n 2, 1) := by decide +kernel
theorem dX4_ofRoot_12 : decode cX4_ofRoot 12 = .ok (.lload_n 2, 1) := by decide +kernel
theorem dX4_ofRoot_13 : decode cX4_ofRoot 13 = .ok (.lmul, 1) := by decide +kernel
theorem dX4_ofRoot_14 : decode cX4_ofRoot 14 = .ok (.lload_n 0, 1) := by decide +kernel
theorem dX4_ofRoot_15 : decode cX4_ofRoot 15 = .ok (.lcmp, 1) := by decide +kernel
theorem dX4_ofRoot_16 : decode cX4_ofRoot 16 = .ok (.ifCond .gt 19, 3) := by decide +kernel
theorem dX4_ofRoot_19 : decode cX4_ofRoot 19 = .ok (.lload_n 2, 1) := by decide +kernel
theorem dX4_ofRoot_20 : decode cX4_ofRoot 20 = .ok (.lconst 1, 1) := by decide +kernel
theorem dX4_ofRoot_21 : decode cX4_ofRoot 21 = .ok (.ladd, 1) := by decide +kernel
theorem dX4_ofRoot_22 : decode cX4_ofRoot 22 = .ok (.lload_n 2, 1) := by decide +kernel
theorem dX4_ofRoot_23 : decode cX4_ofRoot 23 = .ok (.lconst 1, 1) := by decide +kernel
theorem dX4_ofRoot_24 : decode cX4_ofRoot 24 = .ok (.ladd, 1) := by decide +kernel
theorem dX4_ofRoot_25 : decode cX4_ofRoot 25 = .ok (.lmul, 1) := by decide +kernel
theorem dX4_ofRoot_26 : decode cX4_ofRoot 26 = .ok (.lload_n 0, 1) := by decide +kernel
theorem dX4_ofRoot_27 : decode cX4_ofRoot 27 = .ok (.lcmp, 1) := by decide +kernel
theorem dX4_ofRoot_28 : decode cX4_ofRoot 28 = .ok (.ifCond .le 7, 3) := by decide +kernel
theorem dX4_ofRoot_31 : decode cX4_ofRoot 31 = .ok (.iconst 1, 1) := by decide +kernel
theorem dX4_ofRoot_32 : decode cX4_ofRoot 32 = .ok (.goto 4, 3) := by decide +kernel
theorem dX4_ofRoot_35 : decode cX4_ofRoot 35 = .ok (.iconst 0, 1) := by decide +kernel
theorem dX4_ofRoot_36 : decode cX4_ofRoot 36 = .ok (.istore 6, 2) := by decide +kernel
theorem dX4_ofRoot_38 : decode cX4_ofRoot 38 = .ok (.dload 4, 2) := by decide +kernel
theorem dX4_ofRoot_40 : decode cX4_ofRoot 40 = .ok (.invokestatic 19, 3) := by decide +kernel
theorem dX4_ofRoot_43 : decode cX4_ofRoot 43 = .ok (.lload_n 2, 1) := by decide +kernel
theorem dX4_ofRoot_44 : decode cX4_ofRoot 44 = .ok (.lload_n 2, 1) := by decide +kernel
theorem dX4_ofRoot_45 : decode cX4_ofRoot 45 = .ok (.lmul, 1) := by decide +kernel
theorem dX4_ofRoot_46 : decode cX4_ofRoot 46 = .ok (.lload_n 0, 1) := by decide +kernel
theorem dX4_ofRoot_47 : decode cX4_ofRoot 47 = .ok (.lcmp, 1) := by decide +kernel
theorem dX4_ofRoot_48 : decode cX4_ofRoot 48 = .ok (.ifCond .ne 7, 3) := by decide +kernel
theorem dX4_ofRoot_51 : decode cX4_ofRoot 51 = .ok (.iconst 1, 1) := by decide +kernel
theorem dX4_ofRoot_52 : decode cX4_ofRoot 52 = .ok (.goto 4, 3) := by decide +kernel
theorem dX4_ofRoot_55 : decode cX4_ofRoot 55 = .ok (.iconst 0, 1) := by decide +kernel
theorem dX4_ofRoot_56 : decode cX4_ofRoot 56 = .ok (.if_icmp .ne 7, 3) := by decide +kernel
theorem dX4_ofRoot_59 : decode cX4_ofRoot 59 = .ok (.iconst 1, 1) := by decide +kernel
theorem dX4_ofRoot_60 : decode cX4_ofRoot 60 = .ok (.goto 4, 3) := by decide +kernel
theorem dX4_ofRoot_63 : decode cX4_ofRoot 63 = .ok (.iconst 0, 1) := by decide +kernel
theorem dX4_ofRoot_64 : decode cX4_ofRoot 64 = .ok (.istore 7, 2) := by decide +kernel
theorem dX4_ofRoot_66 : decode cX4_ofRoot 66 = .ok (.iload 6, 2) := by decide +kernel
theorem dX4_ofRoot_68 : decode cX4_ofRoot 68 = .ok (.ifCond .eq 20, 3) := by decide +kernel
theorem dX4_ofRoot_71 : decode cX4_ofRoot 71 = .ok (.iload 7, 2) := by decide +kernel
theorem dX4_ofRoot_73 : decode cX4_ofRoot 73 = .ok (.ifCond .eq 15, 3) := by decide +kernel
theorem dX4_ofRoot_76 : decode cX4_ofRoot 76 = .ok (.dload 4, 2) := by decide +kernel
theorem dX4_ofRoot_78 : decode cX4_ofRoot 78 = .ok (.d2l, 1) := by decide +kernel
theorem dX4_ofRoot_79 : decode cX4_ofRoot 79 = .ok (.lload_n 2, 1) := by decide +kernel
theorem dX4_ofRoot_80 : decode cX4_ofRoot 80 = .ok (.lcmp, 1) := by decide +kernel
theorem dX4_ofRoot_81 : decode cX4_ofRoot 81 = .ok (.ifCond .ne 7, 3) := by decide +kernel
theorem dX4_ofRoot_84 : decode cX4_ofRoot 84 = .ok (.iconst 1, 1) := by decide +kernel
theorem dX4_ofRoot_85 : decode cX4_ofRoot 85 = .ok (.goto 4, 3) := by decide +kernel
theorem dX4_ofRoot_88 : decode cX4_ofRoot 88 = .ok (.iconst 0, 1) := by decide +kernel
theorem dX4_ofRoot_89 : decode cX4_ofRoot 89 = .ok (.ireturn, 1) := by decide +kernel
theorem dX4_ofHypot_0 : decode cX4_ofHypot 0 = .ok (.iload_n 0, 1) := by decide +kernel
theorem dX4_ofHypot_1 : decode cX4_ofHypot 1 = .ok (.i2l, 1) := by decide +kernel
theorem dX4_ofHypot_2 : decode cX4_ofHypot 2 = .ok (.iload_n 0, 1) := by decide +kernel
theorem dX4_ofHypot_3 : decode cX4_ofHypot 3 = .ok (.i2l, 1) := by decide +kernel
theorem dX4_ofHypot_4 : decode cX4_ofHypot 4 = .ok (.lmul, 1) := by decide +kernel
theorem dX4_ofHypot_5 : decode cX4_ofHypot 5 = .ok (.iload_n 1, 1) := by decide +kernel
theorem dX4_ofHypot_6 : decode cX4_ofHypot 6 = .ok (.i2l, 1) := by decide +kernel
theorem dX4_ofHypot_7 : decode cX4_ofHypot 7 = .ok (.iload_n 1, 1) := by decide +kernel
theorem dX4_ofHypot_8 : decode cX4_ofHypot 8 = .ok (.i2l, 1) := by decide +kernel
theorem dX4_ofHypot_9 : decode cX4_ofHypot 9 = .ok (.lmul, 1) := by decide +kernel
theorem dX4_ofHypot_10 : decode cX4_ofHypot 10 = .ok (.ladd, 1) := by decide +kernel
theorem dX4_ofHypot_11 : decode cX4_ofHypot 11 = .ok (.lstore_n 2, 1) := by decide +kernel
theorem dX4_ofHypot_12 : decode cX4_ofHypot 12 = .ok (.iload_n 0, 1) := by decide +kernel
theorem dX4_ofHypot_13 : decode cX4_ofHypot 13 = .ok (.iload_n 1, 1) := by decide +kernel
theorem dX4_ofHypot_14 : decode cX4_ofHypot 14 = .ok (.invokestatic 23, 3) := by decide +kernel
theorem dX4_ofHypot_17 : decode cX4_ofHypot 17 = .ok (.dstore 4, 2) := by decide +kernel
theorem dX4_ofHypot_19 : decode cX4_ofHypot 19 = .ok (.dload 4, 2) := by decide +kernel
theorem dX4_ofHypot_21 : decode cX4_ofHypot 21 = .ok (.lload_n 2, 1) := by decide +kernel
theorem dX4_ofHypot_22 : decode cX4_ofHypot 22 = .ok (.invokestatic 15, 3) := by decide +kernel
theorem dX4_ofHypot_25 : decode cX4_ofHypot 25 = .ok (.dcmp .l, 1) := by decide +kernel
theorem dX4_ofHypot_26 : decode cX4_ofHypot 26 = .ok (.ifCond .ne 30, 3) := by decide +kernel
theorem dX4_ofHypot_29 : decode cX4_ofHypot 29 = .ok (.dload 4, 2) := by decide +kernel
theorem dX4_ofHypot_31 : decode cX4_ofHypot 31 = .ok (.iload_n 1, 1) := by decide +kernel
theorem dX4_ofHypot_32 : decode cX4_ofHypot 32 = .ok (.iload_n 0, 1) := by decide +kernel
theorem dX4_ofHypot_33 : decode cX4_ofHypot 33 = .ok (.invokestatic 23, 3) := by decide +kernel
theorem dX4_ofHypot_36 : decode cX4_ofHypot 36 = .ok (.dcmp .l, 1) := by decide +kernel
theorem dX4_ofHypot_37 : decode cX4_ofHypot 37 = .ok (.ifCond .ne 19, 3) := by decide +kernel
theorem dX4_ofHypot_40 : decode cX4_ofHypot 40 = .ok (.dload 4, 2) := by decide +kernel
theorem dX4_ofHypot_42 : decode cX4_ofHypot 42 = .ok (.invokestatic 19, 3) := by decide +kernel
theorem dX4_ofHypot_45 : decode cX4_ofHypot 45 = .ok (.lload_n 2, 1) := by decide +kernel
theorem dX4_ofHypot_46 : decode cX4_ofHypot 46 = .ok (.invokestatic 27, 3) := by decide +kernel
theorem dX4_ofHypot_49 : decode cX4_ofHypot 49 = .ok (.if_icmp .ne 7, 3) := by decide +kernel
theorem dX4_ofHypot_52 : decode cX4_ofHypot 52 = .ok (.iconst 1, 1) := by decide +kernel
theorem dX4_ofHypot_53 : decode cX4_ofHypot 53 = .ok (.goto 4, 3) := by decide +kernel
theorem dX4_ofHypot_56 : decode cX4_ofHypot 56 = .ok (.iconst 0, 1) := by decide +kernel
theorem dX4_ofHypot_57 : decode cX4_ofHypot 57 = .ok (.ireturn, 1) := by decide +kernel
theorem dX4_ofTriangle_0 : decode cX4_ofTriangle 0 = .ok (.aload_n 0, 1) := by decide +kernel
theorem dX4_ofTriangle_1 : decode cX4_ofTriangle 1 = .ok (.getfield 31, 3) := by decide +kernel
theorem dX4_ofTriangle_4 : decode cX4_ofTriangle 4 = .ok (.aload_n 0, 1) := by decide +kernel
theorem dX4_ofTriangle_5 : decode cX4_ofTriangle 5 = .ok (.getfield 37, 3) := by decide +kernel
theorem dX4_ofTriangle_8 : decode cX4_ofTriangle 8 = .ok (.invokestatic 40, 3) := by decide +kernel
theorem dX4_ofTriangle_11 : decode cX4_ofTriangle 11 = .ok (.ifCond .eq 49, 3) := by decide +kernel
theorem dX4_ofTriangle_14 : decode cX4_ofTriangle 14 = .ok (.aload_n 0, 1) := by decide +kernel
theorem dX4_ofTriangle_15 : decode cX4_ofTriangle 15 = .ok (.getfield 31, 3) := by decide +kernel
theorem dX4_ofTriangle_18 : decode cX4_ofTriangle 18 = .ok (.aload_n 0, 1) := by decide +kernel
theorem dX4_ofTriangle_19 : decode cX4_ofTriangle 19 = .ok (.getfield 46, 3) := by decide +kernel
theorem dX4_ofTriangle_22 : decode cX4_ofTriangle 22 = .ok (.invokestatic 40, 3) := by decide +kernel
theorem dX4_ofTriangle_25 : decode cX4_ofTriangle 25 = .ok (.ifCond .eq 35, 3) := by decide +kernel
theorem dX4_ofTriangle_28 : decode cX4_ofTriangle 28 = .ok (.aload_n 0, 1) := by decide +kernel
theorem dX4_ofTriangle_29 : decode cX4_ofTriangle 29 = .ok (.getfield 37, 3) := by decide +kernel
theorem dX4_ofTriangle_32 : decode cX4_ofTriangle 32 = .ok (.aload_n 0, 1) := by decide +kernel
theorem dX4_ofTriangle_33 : decode cX4_ofTriangle 33 = .ok (.getfield 46, 3) := by decide +kernel
theorem dX4_ofTriangle_36 : decode cX4_ofTriangle 36 = .ok (.invokestatic 40, 3) := by decide +kernel
theorem dX4_ofTriangle_39 : decode cX4_ofTriangle 39 = .ok (.ifCond .eq 21, 3) := by decide +kernel
theorem dX4_ofTriangle_42 : decode cX4_ofTriangle 42 = .ok (.aload_n 0, 1) := by decide +kernel
theorem dX4_ofTriangle_43 : decode cX4_ofTriangle 43 = .ok (.invokestatic 49, 3) := by decide +kernel
theorem dX4_ofTriangle_46 : decode cX4_ofTriangle 46 = .ok (.ifCond .eq 14, 3) := by decide +kernel
theorem dX4_ofTriangle_49 : decode cX4_ofTriangle 49 = .ok (.aload_n 0, 1) := by decide +kernel
theorem dX4_ofTriangle_50 : decode cX4_ofTriangle 50 = .ok (.invokestatic 53, 3) := by decide +kernel
theorem dX4_ofTriangle_53 : decode cX4_ofTriangle 53 = .ok (.ifCond .eq 7, 3) := by decide +kernel
theorem dX4_ofTriangle_56 : decode cX4_ofTriangle 56 = .ok (.iconst 1, 1) := by decide +kernel
theorem dX4_ofTriangle_57 : decode cX4_ofTriangle 57 = .ok (.goto 4, 3) := by decide +kernel
theorem dX4_ofTriangle_60 : decode cX4_ofTriangle 60 = .ok (.iconst 0, 1) := by decide +kernel
theorem dX4_ofTriangle_61 : decode cX4_ofTriangle 61 = .ok (.istore_n 1, 1) := by decide +kernel
theorem dX4_ofTriangle_62 : decode cX4_ofTriangle 62 = .ok (.iload_n 1, 1) := by decide +kernel
theorem dX4_ofTriangle_63 : decode cX4_ofTriangle 63 = .ok (.ifCond .eq 10, 3) := by decide +kernel
theorem dX4_ofTriangle_66 : decode cX4_ofTriangle 66 = .ok (.aload_n 0, 1) := by decide +kernel
theorem dX4_ofTriangle_67 : decode cX4_ofTriangle 67 = .ok (.invokevirtual 56, 3) := by decide +kernel
theorem dX4_ofTriangle_70 : decode cX4_ofTriangle 70 = .ok (.ifCond .eq 5, 3) := by decide +kernel
theorem dX4_ofTriangle_73 : decode cX4_ofTriangle 73 = .ok (.iload_n 1, 1) := by decide +kernel
theorem dX4_ofTriangle_74 : decode cX4_ofTriangle 74 = .ok (.ireturn, 1) := by decide +kernel
theorem dX4_ofTriangle_75 : decode cX4_ofTriangle 75 = .ok (.aload_n 0, 1) := by decide +kernel
theorem dX4_ofTriangle_76 : decode cX4_ofTriangle 76 = .ok (.invokestatic 60, 3) := by decide +kernel
theorem dX4_ofTriangle_79 : decode cX4_ofTriangle 79 = .ok (.ifCond .eq 21, 3) := by decide +kernel
theorem dX4_ofTriangle_82 : decode cX4_ofTriangle 82 = .ok (.aload_n 0, 1) := by decide +kernel
theorem dX4_ofTriangle_83 : decode cX4_ofTriangle 83 = .ok (.invokevirtual 63, 3) := by decide +kernel
theorem dX4_ofTriangle_86 : decode cX4_ofTriangle 86 = .ok (.ifCond .eq 10, 3) := by decide +kernel
theorem dX4_ofTriangle_89 : decode cX4_ofTriangle 89 = .ok (.aload_n 0, 1) := by decide +kernel
theorem dX4_ofTriangle_90 : decode cX4_ofTriangle 90 = .ok (.invokestatic 67, 3) := by decide +kernel
theorem dX4_ofTriangle_93 : decode cX4_ofTriangle 93 = .ok (.ifCond .eq 7, 3) := by decide +kernel
theorem dX4_ofTriangle_96 : decode cX4_ofTriangle 96 = .ok (.iconst 1, 1) := by decide +kernel
theorem dX4_ofTriangle_97 : decode cX4_ofTriangle 97 = .ok (.goto 4, 3) := by decide +kernel
theorem dX4_ofTriangle_100 : decode cX4_ofTriangle 100 = .ok (.iconst 0, 1) := by decide +kernel
theorem dX4_ofTriangle_101 : decode cX4_ofTriangle 101 = .ok (.ireturn, 1) := by decide +kernel
theorem dX4_ofCounts_0 : decode cX4_ofCounts 0 = .ok (.iload_n 0, 1) := by decide +kernel
theorem dX4_ofCounts_1 : decode cX4_ofCounts 1 = .ok (.iconst 1, 1) := by decide +kernel
theorem dX4_ofCounts_2 : decode cX4_ofCounts 2 = .ok (.invokestatic 70, 3) := by decide +kernel
theorem dX4_ofCounts_5 : decode cX4_ofCounts 5 = .ok (.istore_n 1, 1) := by decide +kernel
theorem dX4_ofCounts_6 : decode cX4_ofCounts 6 = .ok (.iload_n 0, 1) := by decide +kernel
theorem dX4_ofCounts_7 : decode cX4_ofCounts 7 = .ok (.iconst 2, 1) := by decide +kernel
theorem dX4_ofCounts_8 : decode cX4_ofCounts 8 = .ok (.irem, 1) := by decide +kernel
theorem dX4_ofCounts_9 : decode cX4_ofCounts 9 = .ok (.ifCond .ne 9, 3) := by decide +kernel
theorem dX4_ofCounts_12 : decode cX4_ofCounts 12 = .ok (.iload_n 0, 1) := by decide +kernel
theorem dX4_ofCounts_13 : decode cX4_ofCounts 13 = .ok (.iconst 2, 1) := by decide +kernel
theorem dX4_ofCounts_14 : decode cX4_ofCounts 14 = .ok (.idiv, 1) := by decide +kernel
theorem dX4_ofCounts_15 : decode cX4_ofCounts 15 = .ok (.goto 4, 3) := by decide +kernel
theorem dX4_ofCounts_18 : decode cX4_ofCounts 18 = .ok (.iload_n 0, 1) := by decide +kernel
theorem dX4_ofCounts_19 : decode cX4_ofCounts 19 = .ok (.iconst 0, 1) := by decide +kernel
theorem dX4_ofCounts_20 : decode cX4_ofCounts 20 = .ok (.invokestatic 70, 3) := by decide +kernel
theorem dX4_ofCounts_23 : decode cX4_ofCounts 23 = .ok (.istore_n 2, 1) := by decide +kernel
theorem dX4_ofCounts_24 : decode cX4_ofCounts 24 = .ok (.iload_n 0, 1) := by decide +kernel
theorem dX4_ofCounts_25 : decode cX4_ofCounts 25 = .ok (.invokestatic 76, 3) := by decide +kernel
theorem dX4_ofCounts_28 : decode cX4_ofCounts 28 = .ok (.iload_n 1, 1) := by decide +kernel
theorem dX4_ofCounts_29 : decode cX4_ofCounts 29 = .ok (.iconst 1, 1) := by decide +kernel
theorem dX4_ofCounts_30 : decode cX4_ofCounts 30 = .ok (.isub, 1) := by decide +kernel
theorem dX4_ofCounts_31 : decode cX4_ofCounts 31 = .ok (.iconst 2, 1) := by decide +kernel
theorem dX4_ofCounts_32 : decode cX4_ofCounts 32 = .ok (.idiv, 1) := by decide +kernel
theorem dX4_ofCounts_33 : decode cX4_ofCounts 33 = .ok (.if_icmp .ne 19, 3) := by decide +kernel
theorem dX4_ofCounts_36 : decode cX4_ofCounts 36 = .ok (.iload_n 0, 1) := by decide +kernel
theorem dX4_ofCounts_37 : decode cX4_ofCounts 37 = .ok (.invokestatic 80, 3) := by decide +kernel
theorem dX4_ofCounts_40 : decode cX4_ofCounts 40 = .ok (.iload_n 2, 1) := by decide +kernel
theorem dX4_ofCounts_41 : decode cX4_ofCounts 41 = .ok (.iconst 1, 1) := by decide +kernel
theorem dX4_ofCounts_42 : decode cX4_ofCounts 42 = .ok (.isub, 1) := by decide +kernel
theorem dX4_ofCounts_43 : decode cX4_ofCounts 43 = .ok (.iconst 2, 1) := by decide +kernel
theorem dX4_ofCounts_44 : decode cX4_ofCounts 44 = .ok (.idiv, 1) := by decide +kernel
theorem dX4_ofCounts_45 : decode cX4_ofCounts 45 = .ok (.if_icmp .ne 7, 3) := by decide +kernel
theorem dX4_ofCounts_48 : decode cX4_ofCounts 48 = .ok (.iconst 1, 1) := by decide +kernel
theorem dX4_ofCounts_49 : decode cX4_ofCounts 49 = .ok (.goto 4, 3) := by decide +kernel
theorem dX4_ofCounts_52 : decode cX4_ofCounts 52 = .ok (.iconst 0, 1) := by decide +kernel
theorem dX4_ofCounts_53 : decode cX4_ofCounts 53 = .ok (.ireturn, 1) := by decide +kernel
theorem dX4_ofSharpness_0 : decode cX4_ofSharpness 0 = .ok (.aload_n 0, 1) := by decide +kernel
theorem dX4_ofSharpness_1 : decode cX4_ofSharpness 1 = .ok (.getfield 31, 3) := by decide +kernel
theorem dX4_ofSharpness_4 : decode cX4_ofSharpness 4 = .ok (.aload_n 0, 1) := by decide +kernel
theorem dX4_ofSharpness_5 : decode cX4_ofSharpness 5 = .ok (.getfield 37, 3) := by decide +kernel
theorem dX4_ofSharpness_8 : decode cX4_ofSharpness 8 = .ok (.invokestatic 23, 3) := by decide +kernel
theorem dX4_ofSharpness_11 : decode cX4_ofSharpness 11 = .ok (.dstore_n 1, 1) := by decide +kernel
theorem dX4_ofSharpness_12 : decode cX4_ofSharpness 12 = .ok (.dload_n 1, 1) := by decide +kernel
theorem dX4_ofSharpness_13 : decode cX4_ofSharpness 13 = .ok (.aload_n 0, 1) := by decide +kernel
theorem dX4_ofSharpness_14 : decode cX4_ofSharpness 14 = .ok (.getfield 46, 3) := by decide +kernel
theorem dX4_ofSharpness_17 : decode cX4_ofSharpness 17 = .ok (.i2d, 1) := by decide +kernel
theorem dX4_ofSharpness_18 : decode cX4_ofSharpness 18 = .ok (.dcmp .g, 1) := by decide +kernel
theorem dX4_ofSharpness_19 : decode cX4_ofSharpness 19 = .ok (.ifCond .ge 17, 3) := by decide +kernel
theorem dX4_ofSharpness_22 : decode cX4_ofSharpness 22 = .ok (.aload_n 0, 1) := by decide +kernel
theorem dX4_ofSharpness_23 : decode cX4_ofSharpness 23 = .ok (.invokevirtual 56, 3) := by decide +kernel
theorem dX4_ofSharpness_26 : decode cX4_ofSharpness 26 = .ok (.iconst (-1), 1) := by decide +kernel
theorem dX4_ofSharpness_27 : decode cX4_ofSharpness 27 = .ok (.if_icmp .ne 7, 3) := by decide +kernel
theorem dX4_ofSharpness_30 : decode cX4_ofSharpness 30 = .ok (.iconst 1, 1) := by decide +kernel
theorem dX4_ofSharpness_31 : decode cX4_ofSharpness 31 = .ok (.goto 4, 3) := by decide +kernel
theorem dX4_ofSharpness_34 : decode cX4_ofSharpness 34 = .ok (.iconst 0, 1) := by decide +kernel
theorem dX4_ofSharpness_35 : decode cX4_ofSharpness 35 = .ok (.ireturn, 1) := by decide +kernel
theorem dX4_ofSharpness_36 : decode cX4_ofSharpness 36 = .ok (.dload_n 1, 1) := by decide +kernel
theorem dX4_ofSharpness_37 : decode cX4_ofSharpness 37 = .ok (.aload_n 0, 1) := by decide +kernel
theorem dX4_ofSharpness_38 : decode cX4_ofSharpness 38 = .ok (.getfield 46, 3) := by decide +kernel
theorem dX4_ofSharpness_41 : decode cX4_ofSharpness 41 = .ok (.i2d, 1) := by decide +kernel
theorem dX4_ofSharpness_42 : decode cX4_ofSharpness 42 = .ok (.dcmp .l, 1) := by decide +kernel
theorem dX4_ofSharpness_43 : decode cX4_ofSharpness 43 = .ok (.ifCond .le 19, 3) := by decide +kernel
theorem dX4_ofSharpness_46 : decode cX4_ofSharpness 46 = .ok (.aload_n 0, 1) := by decide +kernel
theorem dX4_ofSharpness_47 : decode cX4_ofSharpness 47 = .ok (.invokevirtual 56, 3) := by decide +kernel
theorem dX4_ofSharpness_50 : decode cX4_ofSharpness 50 = .ok (.iconst 1, 1) := by decide +kernel
theorem dX4_ofSharpness_51 : decode cX4_ofSharpness 51 = .ok (.if_icmp .ne 7, 3) := by decide +kernel
theorem dX4_ofSharpness_54 : decode cX4_ofSharpness 54 = .ok (.iconst 1, 1) := by decide +kernel
theorem dX4_ofSharpness_55 : decode cX4_ofSharpness 55 = .ok (.goto 19, 3) := by decide +kernel
theorem dX4_ofSharpness_58 : decode cX4_ofSharpness 58 = .ok (.iconst 0, 1) := by decide +kernel
theorem dX4_ofSharpness_59 : decode cX4_ofSharpness 59 = .ok (.goto 15, 3) := by decide +kernel
theorem dX4_ofSharpness_62 : decode cX4_ofSharpness 62 = .ok (.aload_n 0, 1) := by decide +kernel
theorem dX4_ofSharpness_63 : decode cX4_ofSharpness 63 = .ok (.invokevirtual 56, 3) := by decide +kernel
theorem dX4_ofSharpness_66 : decode cX4_ofSharpness 66 = .ok (.ifCond .ne 7, 3) := by decide +kernel
theorem dX4_ofSharpness_69 : decode cX4_ofSharpness 69 = .ok (.iconst 1, 1) := by decide +kernel
theorem dX4_ofSharpness_70 : decode cX4_ofSharpness 70 = .ok (.goto 4, 3) := by decide +kernel
theorem dX4_ofSharpness_73 : decode cX4_ofSharpness 73 = .ok (.iconst 0, 1) := by decide +kernel
theorem dX4_ofSharpness_74 : decode cX4_ofSharpness 74 = .ok (.ireturn, 1) := by decide +kernel
theorem dX4_ofS_0 : decode cX4_ofS 0 = .ok (.aload_n 0, 1) := by decide +kernel
theorem dX4_ofS_1 : decode cX4_ofS 1 = .ok (.invokevirtual 83, 3) := by decide +kernel
theorem dX4_ofS_4 : decode cX4_ofS 4 = .ok (.lstore_n 1, 1) := by decide +kernel
theorem dX4_ofS_5 : decode cX4_ofS 5 = .ok (.lload_n 1, 1) := by decide +kernel
theorem dX4_ofS_6 : decode cX4_ofS 6 = .ok (.lconst 0, 1) := by decide +kernel
theorem dX4_ofS_7 : decode cX4_ofS 7 = .ok (.lcmp, 1) := by decide +kernel
theorem dX4_ofS_8 : decode cX4_ofS 8 = .ok (.ifCond .eq 36, 3) := by decide +kernel
theorem dX4_ofS_11 : decode cX4_ofS 11 = .ok (.aload_n 0, 1) := by decide +kernel
theorem dX4_ofS_12 : decode cX4_ofS 12 = .ok (.invokevirtual 87, 3) := by decide +kernel
theorem dX4_ofS_15 : decode cX4_ofS 15 = .ok (.iconst 2, 1) := by decide +kernel
theorem dX4_ofS_16 : decode cX4_ofS 16 = .ok (.irem, 1) := by decide +kernel
theorem dX4_ofS_17 : decode cX4_ofS 17 = .ok (.ifCond .ne 31, 3) := by decide +kernel
theorem dX4_ofS_20 : decode cX4_ofS 20 = .ok (.lload_n 1, 1) := by decide +kernel
theorem dX4_ofS_21 : decode cX4_ofS 21 = .ok (.ldc2_w 90, 3) := by decide +kernel
theorem dX4_ofS_24 : decode cX4_ofS 24 = .ok (.lrem, 1) := by decide +kernel
theorem dX4_ofS_25 : decode cX4_ofS 25 = .ok (.lconst 0, 1) := by decide +kernel
theorem dX4_ofS_26 : decode cX4_ofS 26 = .ok (.lcmp, 1) := by decide +kernel
theorem dX4_ofS_27 : decode cX4_ofS 27 = .ok (.ifCond .ne 21, 3) := by decide +kernel
theorem dX4_ofS_30 : decode cX4_ofS 30 = .ok (.lload_n 1, 1) := by decide +kernel
theorem dX4_ofS_31 : decode cX4_ofS 31 = .ok (.ldc2_w 90, 3) := by decide +kernel
theorem dX4_ofS_34 : decode cX4_ofS 34 = .ok (.ldiv, 1) := by decide +kernel
theorem dX4_ofS_35 : decode cX4_ofS 35 = .ok (.ldc2_w 92, 3) := by decide +kernel
theorem dX4_ofS_38 : decode cX4_ofS 38 = .ok (.lrem, 1) := by decide +kernel
theorem dX4_ofS_39 : decode cX4_ofS 39 = .ok (.lconst 0, 1) := by decide +kernel
theorem dX4_ofS_40 : decode cX4_ofS 40 = .ok (.lcmp, 1) := by decide +kernel
theorem dX4_ofS_41 : decode cX4_ofS 41 = .ok (.ifCond .ne 7, 3) := by decide +kernel
theorem dX4_ofS_44 : decode cX4_ofS 44 = .ok (.iconst 1, 1) := by decide +kernel
theorem dX4_ofS_45 : decode cX4_ofS 45 = .ok (.goto 4, 3) := by decide +kernel
theorem dX4_ofS_48 : decode cX4_ofS 48 = .ok (.iconst 0, 1) := by decide +kernel
theorem dX4_ofS_49 : decode cX4_ofS 49 = .ok (.istore_n 3, 1) := by decide +kernel
theorem dX4_ofS_50 : decode cX4_ofS 50 = .ok (.aload_n 0, 1) := by decide +kernel
theorem dX4_ofS_51 : decode cX4_ofS 51 = .ok (.getfield 94, 3) := by decide +kernel
theorem dX4_ofS_54 : decode cX4_ofS 54 = .ok (.lconst 0, 1) := by decide +kernel
theorem dX4_ofS_55 : decode cX4_ofS 55 = .ok (.lcmp, 1) := by decide +kernel
theorem dX4_ofS_56 : decode cX4_ofS 56 = .ok (.ifCond .gt 12, 3) := by decide +kernel
theorem dX4_ofS_59 : decode cX4_ofS 59 = .ok (.aload_n 0, 1) := by decide +kernel
theorem dX4_ofS_60 : decode cX4_ofS 60 = .ok (.getfield 98, 3) := by decide +kernel
theorem dX4_ofS_63 : decode cX4_ofS 63 = .ok (.lconst 0, 1) := by decide +kernel
theorem dX4_ofS_64 : decode cX4_ofS 64 = .ok (.lcmp, 1) := by decide +kernel
theorem dX4_ofS_65 : decode cX4_ofS 65 = .ok (.ifCond .le 25, 3) := by decide +kernel
theorem dX4_ofS_68 : decode cX4_ofS 68 = .ok (.aload_n 0, 1) := by decide +kernel
theorem dX4_ofS_69 : decode cX4_ofS 69 = .ok (.invokestatic 101, 3) := by decide +kernel
theorem dX4_ofS_72 : decode cX4_ofS 72 = .ok (.ifCond .eq 18, 3) := by decide +kernel
theorem dX4_ofS_75 : decode cX4_ofS 75 = .ok (.aload_n 0, 1) := by decide +kernel
theorem dX4_ofS_76 : decode cX4_ofS 76 = .ok (.invokestatic 104, 3) := by decide +kernel
theorem dX4_ofS_79 : decode cX4_ofS 79 = .ok (.ifCond .eq 11, 3) := by decide +kernel
theorem dX4_ofS_82 : decode cX4_ofS 82 = .ok (.iload_n 3, 1) := by decide +kernel
theorem dX4_ofS_83 : decode cX4_ofS 83 = .ok (.ifCond .eq 7, 3) := by decide +kernel
theorem dX4_ofS_86 : decode cX4_ofS 86 = .ok (.iconst 1, 1) := by decide +kernel
theorem dX4_ofS_87 : decode cX4_ofS 87 = .ok (.goto 4, 3) := by decide +kernel
theorem dX4_ofS_90 : decode cX4_ofS 90 = .ok (.iconst 0, 1) := by decide +kernel
theorem dX4_ofS_91 : decode cX4_ofS 91 = .ok (.ireturn, 1) := by decide +kernel
theorem dX4_isSIfSquaresAreTaken_0 : decode cX4_isSIfSquaresAreTaken 0 = .ok (.ldc2_w 107, 3) := by decide +kernel
theorem dX4_isSIfSquaresAreTaken_3 : decode cX4_isSIfSquaresAreTaken 3 = .ok (.aload_n 0, 1) := by decide +kernel
theorem dX4_isSIfSquaresAreTaken_4 : decode cX4_isSIfSquaresAreTaken 4 = .ok (.getfield 31, 3) := by decide +kernel
theorem dX4_isSIfSquaresAreTaken_7 : decode cX4_isSIfSquaresAreTaken 7 = .ok (.i2l, 1) := by decide +kernel
theorem dX4_isSIfSquaresAreTaken_8 : decode cX4_isSIfSquaresAreTaken 8 = .ok (.lmul, 1) := by decide +kernel
theorem dX4_isSIfSquaresAreTaken_9 : decode cX4_isSIfSquaresAreTaken 9 = .ok (.aload_n 0, 1) := by decide +kernel
theorem dX4_isSIfSquaresAreTaken_10 : decode cX4_isSIfSquaresAreTaken 10 = .ok (.getfield 37, 3) := by decide +kernel
theorem dX4_isSIfSquaresAreTaken_13 : decode cX4_isSIfSquaresAreTaken 13 = .ok (.i2l, 1) := by decide +kernel
theorem dX4_isSIfSquaresAreTaken_14 : decode cX4_isSIfSquaresAreTaken 14 = .ok (.lmul, 1) := by decide +kernel
theorem dX4_isSIfSquaresAreTaken_15 : decode cX4_isSIfSquaresAreTaken 15 = .ok (.lstore_n 1, 1) := by decide +kernel
theorem dX4_isSIfSquaresAreTaken_16 : decode cX4_isSIfSquaresAreTaken 16 = .ok (.aload_n 0, 1) := by decide +kernel
theorem dX4_isSIfSquaresAreTaken_17 : decode cX4_isSIfSquaresAreTaken 17 = .ok (.iconst 2, 1) := by decide +kernel
theorem dX4_isSIfSquaresAreTaken_18 : decode cX4_isSIfSquaresAreTaken 18 = .ok (.invokevirtual 109, 3) := by decide +kernel
theorem dX4_isSIfSquaresAreTaken_21 : decode cX4_isSIfSquaresAreTaken 21 = .ok (.invokestatic 113, 3) := by decide +kernel
theorem dX4_isSIfSquaresAreTaken_24 : decode cX4_isSIfSquaresAreTaken 24 = .ok (.lstore_n 3, 1) := by decide +kernel
theorem dX4_isSIfSquaresAreTaken_25 : decode cX4_isSIfSquaresAreTaken 25 = .ok (.aload_n 0, 1) := by decide +kernel
theorem dX4_isSIfSquaresAreTaken_26 : decode cX4_isSIfSquaresAreTaken 26 = .ok (.getfield 98, 3) := by decide +kernel
theorem dX4_isSIfSquaresAreTaken_29 : decode cX4_isSIfSquaresAreTaken 29 = .ok (.lload_n 3, 1) := by decide +kernel
theorem dX4_isSIfSquaresAreTaken_30 : decode cX4_isSIfSquaresAreTaken 30 = .ok (.lload_n 3, 1) := by decide +kernel
theorem dX4_isSIfSquaresAreTaken_31 : decode cX4_isSIfSquaresAreTaken 31 = .ok (.invokestatic 118, 3) := by decide +kernel
theorem dX4_isSIfSquaresAreTaken_34 : decode cX4_isSIfSquaresAreTaken 34 = .ok (.ladd, 1) := by decide +kernel
theorem dX4_isSIfSquaresAreTaken_35 : decode cX4_isSIfSquaresAreTaken 35 = .ok (.lstore 5, 2) := by decide +kernel
theorem dX4_isSIfSquaresAreTaken_37 : decode cX4_isSIfSquaresAreTaken 37 = .ok (.aload_n 0, 1) := by decide +kernel
theorem dX4_isSIfSquaresAreTaken_38 : decode cX4_isSIfSquaresAreTaken 38 = .ok (.getfield 94, 3) := by decide +kernel
theorem dX4_isSIfSquaresAreTaken_41 : decode cX4_isSIfSquaresAreTaken 41 = .ok (.lload_n 3, 1) := by decide +kernel
theorem dX4_isSIfSquaresAreTaken_42 : decode cX4_isSIfSquaresAreTaken 42 = .ok (.lload_n 3, 1) := by decide +kernel
theorem dX4_isSIfSquaresAreTaken_43 : decode cX4_isSIfSquaresAreTaken 43 = .ok (.invokestatic 122, 3) := by decide +kernel
theorem dX4_isSIfSquaresAreTaken_46 : decode cX4_isSIfSquaresAreTaken 46 = .ok (.ladd, 1) := by decide +kernel
theorem dX4_isSIfSquaresAreTaken_47 : decode cX4_isSIfSquaresAreTaken 47 = .ok (.lload 5, 2) := by decide +kernel
theorem dX4_isSIfSquaresAreTaken_49 : decode cX4_isSIfSquaresAreTaken 49 = .ok (.bipush 18, 2) := by decide +kernel
theorem dX4_isSIfSquaresAreTaken_51 : decode cX4_isSIfSquaresAreTaken 51 = .ok (.lshr, 1) := by decide +kernel
theorem dX4_isSIfSquaresAreTaken_52 : decode cX4_isSIfSquaresAreTaken 52 = .ok (.ladd, 1) := by decide +kernel
theorem dX4_isSIfSquaresAreTaken_53 : decode cX4_isSIfSquaresAreTaken 53 = .ok (.lstore 7, 2) := by decide +kernel
theorem dX4_isSIfSquaresAreTaken_55 : decode cX4_isSIfSquaresAreTaken 55 = .ok (.lload 7, 2) := by decide +kernel
theorem dX4_isSIfSquaresAreTaken_57 : decode cX4_isSIfSquaresAreTaken 57 = .ok (.lload_n 1, 1) := by decide +kernel
theorem dX4_isSIfSquaresAreTaken_58 : decode cX4_isSIfSquaresAreTaken 58 = .ok (.lload_n 1, 1) := by decide +kernel
theorem dX4_isSIfSquaresAreTaken_59 : decode cX4_isSIfSquaresAreTaken 59 = .ok (.invokestatic 122, 3) := by decide +kernel
theorem dX4_isSIfSquaresAreTaken_62 : decode cX4_isSIfSquaresAreTaken 62 = .ok (.lcmp, 1) := by decide +kernel
theorem dX4_isSIfSquaresAreTaken_63 : decode cX4_isSIfSquaresAreTaken 63 = .ok (.ifCond .ne 22, 3) := by decide +kernel
theorem dX4_isSIfSquaresAreTaken_66 : decode cX4_isSIfSquaresAreTaken 66 = .ok (.lload 5, 2) := by decide +kernel
theorem dX4_isSIfSquaresAreTaken_68 : decode cX4_isSIfSquaresAreTaken 68 = .ok (.ldc2_w 125, 3) := by decide +kernel
theorem dX4_isSIfSquaresAreTaken_71 : decode cX4_isSIfSquaresAreTaken 71 = .ok (.land, 1) := by decide +kernel
theorem dX4_isSIfSquaresAreTaken_72 : decode cX4_isSIfSquaresAreTaken 72 = .ok (.lload_n 1, 1) := by decide +kernel
theorem dX4_isSIfSquaresAreTaken_73 : decode cX4_isSIfSquaresAreTaken 73 = .ok (.lload_n 1, 1) := by decide +kernel
theorem dX4_isSIfSquaresAreTaken_74 : decode cX4_isSIfSquaresAreTaken 74 = .ok (.invokestatic 118, 3) := by decide +kernel
theorem dX4_isSIfSquaresAreTaken_77 : decode cX4_isSIfSquaresAreTaken 77 = .ok (.lcmp, 1) := by decide +kernel
theorem dX4_isSIfSquaresAreTaken_78 : decode cX4_isSIfSquaresAreTaken 78 = .ok (.ifCond .ne 7, 3) := by decide +kernel
theorem dX4_isSIfSquaresAreTaken_81 : decode cX4_isSIfSquaresAreTaken 81 = .ok (.iconst 1, 1) := by decide +kernel
theorem dX4_isSIfSquaresAreTaken_82 : decode cX4_isSIfSquaresAreTaken 82 = .ok (.goto 4, 3) := by decide +kernel
theorem dX4_isSIfSquaresAreTaken_85 : decode cX4_isSIfSquaresAreTaken 85 = .ok (.iconst 0, 1) := by decide +kernel
theorem dX4_isSIfSquaresAreTaken_86 : decode cX4_isSIfSquaresAreTaken 86 = .ok (.ireturn, 1) := by decide +kernel
theorem dX4_isSBelowSides_0 : decode cX4_isSBelowSides 0 = .ok (.aload_n 0, 1) := by decide +kernel
theorem dX4_isSBelowSides_1 : decode cX4_isSBelowSides 1 = .ok (.getfield 31, 3) := by decide +kernel
theorem dX4_isSBelowSides_4 : decode cX4_isSBelowSides 4 = .ok (.i2l, 1) := by decide +kernel
theorem dX4_isSBelowSides_5 : decode cX4_isSBelowSides 5 = .ok (.aload_n 0, 1) := by decide +kernel
theorem dX4_isSBelowSides_6 : decode cX4_isSBelowSides 6 = .ok (.getfield 37, 3) := by decide +kernel
theorem dX4_isSBelowSides_9 : decode cX4_isSBelowSides 9 = .ok (.i2l, 1) := by decide +kernel
theorem dX4_isSBelowSides_10 : decode cX4_isSBelowSides 10 = .ok (.lmul, 1) := by decide +kernel
theorem dX4_isSBelowSides_11 : decode cX4_isSBelowSides 11 = .ok (.aload_n 0, 1) := by decide +kernel
theorem dX4_isSBelowSides_12 : decode cX4_isSBelowSides 12 = .ok (.getfield 46, 3) := by decide +kernel
theorem dX4_isSBelowSides_15 : decode cX4_isSBelowSides 15 = .ok (.i2l, 1) := by decide +kernel
theorem dX4_isSBelowSides_16 : decode cX4_isSBelowSides 16 = .ok (.lmul, 1) := by decide +kernel
theorem dX4_isSBelowSides_17 : decode cX4_isSBelowSides 17 = .ok (.lstore_n 1, 1) := by decide +kernel
theorem dX4_isSBelowSides_18 : decode cX4_isSBelowSides 18 = .ok (.lload_n 1, 1) := by decide +kernel
theorem dX4_isSBelowSides_19 : decode cX4_isSBelowSides 19 = .ok (.aload_n 0, 1) := by decide +kernel
theorem dX4_isSBelowSides_20 : decode cX4_isSBelowSides 20 = .ok (.invokevirtual 87, 3) := by decide +kernel
theorem dX4_isSBelowSides_23 : decode cX4_isSBelowSides 23 = .ok (.i2l, 1) := by decide +kernel
theorem dX4_isSBelowSides_24 : decode cX4_isSBelowSides 24 = .ok (.invokestatic 122, 3) := by decide +kernel
theorem dX4_isSBelowSides_27 : decode cX4_isSBelowSides 27 = .ok (.lstore_n 3, 1) := by decide +kernel
theorem dX4_isSBelowSides_28 : decode cX4_isSBelowSides 28 = .ok (.lload_n 1, 1) := by decide +kernel
theorem dX4_isSBelowSides_29 : decode cX4_isSBelowSides 29 = .ok (.aload_n 0, 1) := by decide +kernel
theorem dX4_isSBelowSides_30 : decode cX4_isSBelowSides 30 = .ok (.invokevirtual 87, 3) := by decide +kernel
theorem dX4_isSBelowSides_33 : decode cX4_isSBelowSides 33 = .ok (.i2l, 1) := by decide +kernel
theorem dX4_isSBelowSides_34 : decode cX4_isSBelowSides 34 = .ok (.invokestatic 118, 3) := by decide +kernel
theorem dX4_isSBelowSides_37 : decode cX4_isSBelowSides 37 = .ok (.lstore 5, 2) := by decide +kernel
theorem dX4_isSBelowSides_39 : decode cX4_isSBelowSides 39 = .ok (.aload_n 0, 1) := by decide +kernel
theorem dX4_isSBelowSides_40 : decode cX4_isSBelowSides 40 = .ok (.getfield 94, 3) := by decide +kernel
theorem dX4_isSBelowSides_43 : decode cX4_isSBelowSides 43 = .ok (.lload_n 3, 1) := by decide +kernel
theorem dX4_isSBelowSides_44 : decode cX4_isSBelowSides 44 = .ok (.lcmp, 1) := by decide +kernel
theorem dX4_isSBelowSides_45 : decode cX4_isSBelowSides 45 = .ok (.ifCond .ne 17, 3) := by decide +kernel
theorem dX4_isSBelowSides_48 : decode cX4_isSBelowSides 48 = .ok (.aload_n 0, 1) := by decide +kernel
theorem dX4_isSBelowSides_49 : decode cX4_isSBelowSides 49 = .ok (.getfield 98, 3) := by decide +kernel
theorem dX4_isSBelowSides_52 : decode cX4_isSBelowSides 52 = .ok (.lload 5, 2) := by decide +kernel
theorem dX4_isSBelowSides_54 : decode cX4_isSBelowSides 54 = .ok (.lcmp, 1) := by decide +kernel
theorem dX4_isSBelowSides_55 : decode cX4_isSBelowSides 55 = .ok (.ifCond .ne 7, 3) := by decide +kernel
theorem dX4_isSBelowSides_58 : decode cX4_isSBelowSides 58 = .ok (.iconst 1, 1) := by decide +kernel
theorem dX4_isSBelowSides_59 : decode cX4_isSBelowSides 59 = .ok (.goto 4, 3) := by decide +kernel
theorem dX4_isSBelowSides_62 : decode cX4_isSBelowSides 62 = .ok (.iconst 0, 1) := by decide +kernel
theorem dX4_isSBelowSides_63 : decode cX4_isSBelowSides 63 = .ok (.istore 7, 2) := by decide +kernel
theorem dX4_isSBelowSides_65 : decode cX4_isSBelowSides 65 = .ok (.aload_n 0, 1) := by decide +kernel
theorem dX4_isSBelowSides_66 : decode cX4_isSBelowSides 66 = .ok (.getfield 94, 3) := by decide +kernel
theorem dX4_isSBelowSides_69 : decode cX4_isSBelowSides 69 = .ok (.lload_n 3, 1) := by decide +kernel
theorem dX4_isSBelowSides_70 : decode cX4_isSBelowSides 70 = .ok (.lcmp, 1) := by decide +kernel
theorem dX4_isSBelowSides_71 : decode cX4_isSBelowSides 71 = .ok (.ifCond .lt 22, 3) := by decide +kernel
theorem dX4_isSBelowSides_74 : decode cX4_isSBelowSides 74 = .ok (.aload_n 0, 1) := by decide +kernel
theorem dX4_isSBelowSides_75 : decode cX4_isSBelowSides 75 = .ok (.getfield 94, 3) := by decide +kernel
theorem dX4_isSBelowSides_78 : decode cX4_isSBelowSides 78 = .ok (.lload_n 3, 1) := by decide +kernel
theorem dX4_isSBelowSides_79 : decode cX4_isSBelowSides 79 = .ok (.lcmp, 1) := by decide +kernel
theorem dX4_isSBelowSides_80 : decode cX4_isSBelowSides 80 = .ok (.ifCond .ne 17, 3) := by decide +kernel
theorem dX4_isSBelowSides_83 : decode cX4_isSBelowSides 83 = .ok (.aload_n 0, 1) := by decide +kernel
theorem dX4_isSBelowSides_84 : decode cX4_isSBelowSides 84 = .ok (.getfield 98, 3) := by decide +kernel
theorem dX4_isSBelowSides_87 : decode cX4_isSBelowSides 87 = .ok (.lload 5, 2) := by decide +kernel
theorem dX4_isSBelowSides_89 : decode cX4_isSBelowSides 89 = .ok (.lcmp, 1) := by decide +kernel
theorem dX4_isSBelowSides_90 : decode cX4_isSBelowSides 90 = .ok (.ifCond .ge 7, 3) := by decide +kernel
theorem dX4_isSBelowSides_93 : decode cX4_isSBelowSides 93 = .ok (.iconst 1, 1) := by decide +kernel
theorem dX4_isSBelowSides_94 : decode cX4_isSBelowSides 94 = .ok (.goto 4, 3) := by decide +kernel
theorem dX4_isSBelowSides_97 : decode cX4_isSBelowSides 97 = .ok (.iconst 0, 1) := by decide +kernel
theorem dX4_isSBelowSides_98 : decode cX4_isSBelowSides 98 = .ok (.istore 8, 2) := by decide +kernel
theorem dX4_isSBelowSides_100 : decode cX4_isSBelowSides 100 = .ok (.aload_n 0, 1) := by decide +kernel
theorem dX4_isSBelowSides_101 : decode cX4_isSBelowSides 101 = .ok (.getfield 31, 3) := by decide +kernel
theorem dX4_isSBelowSides_104 : decode cX4_isSBelowSides 104 = .ok (.aload_n 0, 1) := by decide +kernel
theorem dX4_isSBelowSides_105 : decode cX4_isSBelowSides 105 = .ok (.getfield 46, 3) := by decide +kernel
theorem dX4_isSBelowSides_108 : decode cX4_isSBelowSides 108 = .ok (.if_icmp .ne 8, 3) := by decide +kernel
theorem dX4_isSBelowSides_111 : decode cX4_isSBelowSides 111 = .ok (.iload 7, 2) := by decide +kernel
theorem dX4_isSBelowSides_113 : decode cX4_isSBelowSides 113 = .ok (.goto 5, 3) := by decide +kernel
theorem dX4_isSBelowSides_116 : decode cX4_isSBelowSides 116 = .ok (.iload 8, 2) := by decide +kernel
theorem dX4_isSBelowSides_118 : decode cX4_isSBelowSides 118 = .ok (.ireturn, 1) := by decide +kernel
theorem dX4_ofRight_0 : decode cX4_ofRight 0 = .ok (.aload_n 0, 1) := by decide +kernel
theorem dX4_ofRight_1 : decode cX4_ofRight 1 = .ok (.getfield 31, 3) := by decide +kernel
theorem dX4_ofRight_4 : decode cX4_ofRight 4 = .ok (.aload_n 0, 1) := by decide +kernel
theorem dX4_ofRight_5 : decode cX4_ofRight 5 = .ok (.getfield 37, 3) := by decide +kernel
theorem dX4_ofRight_8 : decode cX4_ofRight 8 = .ok (.if_icmp .eq 25, 3) := by decide +kernel
theorem dX4_ofRight_11 : decode cX4_ofRight 11 = .ok (.aload_n 0, 1) := by decide +kernel
theorem dX4_ofRight_12 : decode cX4_ofRight 12 = .ok (.getfield 31, 3) := by decide +kernel
theorem dX4_ofRight_15 : decode cX4_ofRight 15 = .ok (.iconst 2, 1) := by decide +kernel
theorem dX4_ofRight_16 : decode cX4_ofRight 16 = .ok (.irem, 1) := by decide +kernel
theorem dX4_ofRight_17 : decode cX4_ofRight 17 = .ok (.ifCond .eq 12, 3) := by decide +kernel
theorem dX4_ofRight_20 : decode cX4_ofRight 20 = .ok (.aload_n 0, 1) := by decide +kernel
theorem dX4_ofRight_21 : decode cX4_ofRight 21 = .ok (.getfield 37, 3) := by decide +kernel
theorem dX4_ofRight_24 : decode cX4_ofRight 24 = .ok (.iconst 2, 1) := by decide +kernel
theorem dX4_ofRight_25 : decode cX4_ofRight 25 = .ok (.irem, 1) := by decide +kernel
theorem dX4_ofRight_26 : decode cX4_ofRight 26 = .ok (.ifCond .ne 7, 3) := by decide +kernel
theorem dX4_ofRight_29 : decode cX4_ofRight 29 = .ok (.iconst 1, 1) := by decide +kernel
theorem dX4_ofRight_30 : decode cX4_ofRight 30 = .ok (.goto 4, 3) := by decide +kernel
theorem dX4_ofRight_33 : decode cX4_ofRight 33 = .ok (.iconst 0, 1) := by decide +kernel
theorem dX4_ofRight_34 : decode cX4_ofRight 34 = .ok (.istore_n 1, 1) := by decide +kernel
theorem dX4_ofRight_35 : decode cX4_ofRight 35 = .ok (.aload_n 0, 1) := by decide +kernel
theorem dX4_ofRight_36 : decode cX4_ofRight 36 = .ok (.getfield 31, 3) := by decide +kernel
theorem dX4_ofRight_39 : decode cX4_ofRight 39 = .ok (.aload_n 0, 1) := by decide +kernel
theorem dX4_ofRight_40 : decode cX4_ofRight 40 = .ok (.getfield 37, 3) := by decide +kernel
theorem dX4_ofRight_43 : decode cX4_ofRight 43 = .ok (.iadd, 1) := by decide +kernel
theorem dX4_ofRight_44 : decode cX4_ofRight 44 = .ok (.aload_n 0, 1) := by decide +kernel
theorem dX4_ofRight_45 : decode cX4_ofRight 45 = .ok (.getfield 46, 3) := by decide +kernel
theorem dX4_ofRight_48 : decode cX4_ofRight 48 = .ok (.isub, 1) := by decide +kernel
theorem dX4_ofRight_49 : decode cX4_ofRight 49 = .ok (.istore_n 2, 1) := by decide +kernel
theorem dX4_ofRight_50 : decode cX4_ofRight 50 = .ok (.iload_n 1, 1) := by decide +kernel
theorem dX4_ofRight_51 : decode cX4_ofRight 51 = .ok (.ifCond .eq 47, 3) := by decide +kernel
theorem dX4_ofRight_54 : decode cX4_ofRight 54 = .ok (.aload_n 0, 1) := by decide +kernel
theorem dX4_ofRight_55 : decode cX4_ofRight 55 = .ok (.invokevirtual 83, 3) := by decide +kernel
theorem dX4_ofRight_58 : decode cX4_ofRight 58 = .ok (.lconst 0, 1) := by decide +kernel
theorem dX4_ofRight_59 : decode cX4_ofRight 59 = .ok (.lcmp, 1) := by decide +kernel
theorem dX4_ofRight_60 : decode cX4_ofRight 60 = .ok (.ifCond .le 38, 3) := by decide +kernel
theorem dX4_ofRight_63 : decode cX4_ofRight 63 = .ok (.iload_n 2, 1) := by decide +kernel
theorem dX4_ofRight_64 : decode cX4_ofRight 64 = .ok (.iconst 2, 1) := by decide +kernel
theorem dX4_ofRight_65 : decode cX4_ofRight 65 = .ok (.irem, 1) := by decide +kernel
theorem dX4_ofRight_66 : decode cX4_ofRight 66 = .ok (.ifCond .ne 32, 3) := by decide +kernel
theorem dX4_ofRight_69 : decode cX4_ofRight 69 = .ok (.aload_n 0, 1) := by decide +kernel
theorem dX4_ofRight_70 : decode cX4_ofRight 70 = .ok (.invokevirtual 127, 3) := by decide +kernel
theorem dX4_ofRight_73 : decode cX4_ofRight 73 = .ok (.iload_n 2, 1) := by decide +kernel
theorem dX4_ofRight_74 : decode cX4_ofRight 74 = .ok (.iconst 2, 1) := by decide +kernel
theorem dX4_ofRight_75 : decode cX4_ofRight 75 = .ok (.idiv, 1) := by decide +kernel
theorem dX4_ofRight_76 : decode cX4_ofRight 76 = .ok (.i2l, 1) := by decide +kernel
theorem dX4_ofRight_77 : decode cX4_ofRight 77 = .ok (.lcmp, 1) := by decide +kernel
theorem dX4_ofRight_78 : decode cX4_ofRight 78 = .ok (.ifCond .ne 20, 3) := by decide +kernel
theorem dX4_ofRight_81 : decode cX4_ofRight 81 = .ok (.aload_n 0, 1) := by decide +kernel
theorem dX4_ofRight_82 : decode cX4_ofRight 82 = .ok (.invokevirtual 130, 3) := by decide +kernel
theorem dX4_ofRight_85 : decode cX4_ofRight 85 = .ok (.aload_n 0, 1) := by decide +kernel
theorem dX4_ofRight_86 : decode cX4_ofRight 86 = .ok (.getfield 46, 3) := by decide +kernel
theorem dX4_ofRight_89 : decode cX4_ofRight 89 = .ok (.i2l, 1) := by decide +kernel
theorem dX4_ofRight_90 : decode cX4_ofRight 90 = .ok (.lcmp, 1) := by decide +kernel
theorem dX4_ofRight_91 : decode cX4_ofRight 91 = .ok (.ifCond .ne 7, 3) := by decide +kernel
theorem dX4_ofRight_94 : decode cX4_ofRight 94 = .ok (.iconst 1, 1) := by decide +kernel
theorem dX4_ofRight_95 : decode cX4_ofRight 95 = .ok (.goto 4, 3) := by decide +kernel
theorem dX4_ofRight_98 : decode cX4_ofRight 98 = .ok (.iconst 0, 1) := by decide +kernel
theorem dX4_ofRight_99 : decode cX4_ofRight 99 = .ok (.ireturn, 1) := by decide +kernel
theorem dX4_ofPrimitive_0 : decode cX4_ofPrimitive 0 = .ok (.iconst 0, 1) := by decide +kernel
theorem dX4_ofPrimitive_1 : decode cX4_ofPrimitive 1 = .ok (.istore_n 1, 1) := by decide +kernel
theorem dX4_ofPrimitive_2 : decode cX4_ofPrimitive 2 = .ok (.iconst 2, 1) := by decide +kernel
theorem dX4_ofPrimitive_3 : decode cX4_ofPrimitive 3 = .ok (.istore_n 2, 1) := by decide +kernel
theorem dX4_ofPrimitive_4 : decode cX4_ofPrimitive 4 = .ok (.iload_n 2, 1) := by decide +kernel
theorem dX4_ofPrimitive_5 : decode cX4_ofPrimitive 5 = .ok (.sipush 255, 3) := by decide +kernel
theorem dX4_ofPrimitive_8 : decode cX4_ofPrimitive 8 = .ok (.if_icmp .gt 25, 3) := by decide +kernel
theorem dX4_ofPrimitive_11 : decode cX4_ofPrimitive 11 = .ok (.iload_n 1, 1) := by decide +kernel
theorem dX4_ofPrimitive_12 : decode cX4_ofPrimitive 12 = .ok (.aload_n 0, 1) := by decide +kernel
theorem dX4_ofPrimitive_13 : decode cX4_ofPrimitive 13 = .ok (.iload_n 2, 1) := by decide +kernel
theorem dX4_ofPrimitive_14 : decode cX4_ofPrimitive 14 = .ok (.invokestatic 133, 3) := by decide +kernel
theorem dX4_ofPrimitive_17 : decode cX4_ofPrimitive 17 = .ok (.ifCond .eq 7, 3) := by decide +kernel
theorem dX4_ofPrimitive_20 : decode cX4_ofPrimitive 20 = .ok (.iconst 1, 1) := by decide +kernel
theorem dX4_ofPrimitive_21 : decode cX4_ofPrimitive 21 = .ok (.goto 4, 3) := by decide +kernel
theorem dX4_ofPrimitive_24 : decode cX4_ofPrimitive 24 = .ok (.iconst 0, 1) := by decide +kernel
theorem dX4_ofPrimitive_25 : decode cX4_ofPrimitive 25 = .ok (.iadd, 1) := by decide +kernel
theorem dX4_ofPrimitive_26 : decode cX4_ofPrimitive 26 = .ok (.istore_n 1, 1) := by decide +kernel
theorem dX4_ofPrimitive_27 : decode cX4_ofPrimitive 27 = .ok (.iinc 2 1, 3) := by decide +kernel
theorem dX4_ofPrimitive_30 : decode cX4_ofPrimitive 30 = .ok (.goto (-26), 3) := by decide +kernel
theorem dX4_ofPrimitive_33 : decode cX4_ofPrimitive 33 = .ok (.iload_n 1, 1) := by decide +kernel
theorem dX4_ofPrimitive_34 : decode cX4_ofPrimitive 34 = .ok (.iconst 1, 1) := by decide +kernel
theorem dX4_ofPrimitive_35 : decode cX4_ofPrimitive 35 = .ok (.if_icmp .ne 25, 3) := by decide +kernel
theorem dX4_ofPrimitive_38 : decode cX4_ofPrimitive 38 = .ok (.aload_n 0, 1) := by decide +kernel
theorem dX4_ofPrimitive_39 : decode cX4_ofPrimitive 39 = .ok (.invokevirtual 137, 3) := by decide +kernel
theorem dX4_ofPrimitive_42 : decode cX4_ofPrimitive 42 = .ok (.aload_n 0, 1) := by decide +kernel
theorem dX4_ofPrimitive_43 : decode cX4_ofPrimitive 43 = .ok (.invokevirtual 140, 3) := by decide +kernel
theorem dX4_ofPrimitive_46 : decode cX4_ofPrimitive 46 = .ok (.aload_n 0, 1) := by decide +kernel
theorem dX4_ofPrimitive_47 : decode cX4_ofPrimitive 47 = .ok (.getfield 46, 3) := by decide +kernel
theorem dX4_ofPrimitive_50 : decode cX4_ofPrimitive 50 = .ok (.invokestatic 143, 3) := by decide +kernel
theorem dX4_ofPrimitive_53 : decode cX4_ofPrimitive 53 = .ok (.ifCond .lt 7, 3) := by decide +kernel
theorem dX4_ofPrimitive_56 : decode cX4_ofPrimitive 56 = .ok (.iconst 1, 1) := by decide +kernel
theorem dX4_ofPrimitive_57 : decode cX4_ofPrimitive 57 = .ok (.goto 4, 3) := by decide +kernel
theorem dX4_ofPrimitive_60 : decode cX4_ofPrimitive 60 = .ok (.iconst 0, 1) := by decide +kernel
theorem dX4_ofPrimitive_61 : decode cX4_ofPrimitive 61 = .ok (.ireturn, 1) := by decide +kernel
theorem dX4_isByNumber_0 : decode cX4_isByNumber 0 = .ok (.aload_n 0, 1) := by decide +kernel
theorem dX4_isByNumber_1 : decode cX4_isByNumber 1 = .ok (.getfield 46, 3) := by decide +kernel
theorem dX4_isByNumber_4 : decode cX4_isByNumber 4 = .ok (.iload_n 1, 1) := by decide +kernel
theorem dX4_isByNumber_5 : decode cX4_isByNumber 5 = .ok (.iload_n 1, 1) := by decide +kernel
theorem dX4_isByNumber_6 : decode cX4_isByNumber 6 = .ok (.imul, 1) := by decide +kernel
theorem dX4_isByNumber_7 : decode cX4_isByNumber 7 = .ok (.isub, 1) := by decide +kernel
theorem dX4_isByNumber_8 : decode cX4_isByNumber 8 = .ok (.istore_n 2, 1) := by decide +kernel
theorem dX4_isByNumber_9 : decode cX4_isByNumber 9 = .ok (.iload_n 2, 1) := by decide +kernel
theorem dX4_isByNumber_10 : decode cX4_isByNumber 10 = .ok (.iconst 1, 1) := by decide +kernel
theorem dX4_isByNumber_11 : decode cX4_isByNumber 11 = .ok (.if_icmp .lt 11, 3) := by decide +kernel
theorem dX4_isByNumber_14 : decode cX4_isByNumber 14 = .ok (.iload_n 2, 1) := by decide +kernel
theorem dX4_isByNumber_15 : decode cX4_isByNumber 15 = .ok (.i2l, 1) := by decide +kernel
theorem dX4_isByNumber_16 : decode cX4_isByNumber 16 = .ok (.invokestatic 27, 3) := by decide +kernel
theorem dX4_isByNumber_19 : decode cX4_isByNumber 19 = .ok (.ifCond .ne 5, 3) := by decide +kernel
theorem dX4_isByNumber_22 : decode cX4_isByNumber 22 = .ok (.iconst 0, 1) := by decide +kernel
theorem dX4_isByNumber_23 : decode cX4_isByNumber 23 = .ok (.ireturn, 1) := by decide +kernel
theorem dX4_isByNumber_24 : decode cX4_isByNumber 24 = .ok (.iload_n 2, 1) := by decide +kernel
theorem dX4_isByNumber_25 : decode cX4_isByNumber 25 = .ok (.i2l, 1) := by decide +kernel
theorem dX4_isByNumber_26 : decode cX4_isByNumber 26 = .ok (.invokestatic 9, 3) := by decide +kernel
theorem dX4_isByNumber_29 : decode cX4_isByNumber 29 = .ok (.l2i, 1) := by decide +kernel
theorem dX4_isByNumber_30 : decode cX4_isByNumber 30 = .ok (.istore_n 3, 1) := by decide +kernel
theorem dX4_isByNumber_31 : decode cX4_isByNumber 31 = .ok (.iload_n 1, 1) := by decide +kernel
theorem dX4_isByNumber_32 : decode cX4_isByNumber 32 = .ok (.iload_n 3, 1) := by decide +kernel
theorem dX4_isByNumber_33 : decode cX4_isByNumber 33 = .ok (.if_icmp .le 52, 3) := by decide +kernel
theorem dX4_isByNumber_36 : decode cX4_isByNumber 36 = .ok (.iload_n 1, 1) := by decide +kernel
theorem dX4_isByNumber_37 : decode cX4_isByNumber 37 = .ok (.iload_n 3, 1) := by decide +kernel
theorem dX4_isByNumber_38 : decode cX4_isByNumber 38 = .ok (.iadd, 1) := by decide +kernel
theorem dX4_isByNumber_39 : decode cX4_isByNumber 39 = .ok (.iconst 2, 1) := by decide +kernel
theorem dX4_isByNumber_40 : decode cX4_isByNumber 40 = .ok (.irem, 1) := by decide +kernel
theorem dX4_isByNumber_41 : decode cX4_isByNumber 41 = .ok (.iconst 1, 1) := by decide +kernel
theorem dX4_isByNumber_42 : decode cX4_isByNumber 42 = .ok (.if_icmp .ne 43, 3) := by decide +kernel
theorem dX4_isByNumber_45 : decode cX4_isByNumber 45 = .ok (.iload_n 1, 1) := by decide +kernel
theorem dX4_isByNumber_46 : decode cX4_isByNumber 46 = .ok (.i2l, 1) := by decide +kernel
theorem dX4_isByNumber_47 : decode cX4_isByNumber 47 = .ok (.iload_n 3, 1) := by decide +kernel
theorem dX4_isByNumber_48 : decode cX4_isByNumber 48 = .ok (.i2l, 1) := by decide +kernel
theorem dX4_isByNumber_49 : decode cX4_isByNumber 49 = .ok (.invokestatic 149, 3) := by decide +kernel
theorem dX4_isByNumber_52 : decode cX4_isByNumber 52 = .ok (.lconst 1, 1) := by decide +kernel
theorem dX4_isByNumber_53 : decode cX4_isByNumber 53 = .ok (.lcmp, 1) := by decide +kernel
theorem dX4_isByNumber_54 : decode cX4_isByNumber 54 = .ok (.ifCond .ne 31, 3) := by decide +kernel
theorem dX4_isByNumber_57 : decode cX4_isByNumber 57 = .ok (.iload_n 1, 1) := by decide +kernel
theorem dX4_isByNumber_58 : decode cX4_isByNumber 58 = .ok (.iload_n 1, 1) := by decide +kernel
theorem dX4_isByNumber_59 : decode cX4_isByNumber 59 = .ok (.imul, 1) := by decide +kernel
theorem dX4_isByNumber_60 : decode cX4_isByNumber 60 = .ok (.iload_n 2, 1) := by decide +kernel
theorem dX4_isByNumber_61 : decode cX4_isByNumber 61 = .ok (.isub, 1) := by decide +kernel
theorem dX4_isByNumber_62 : decode cX4_isByNumber 62 = .ok (.aload_n 0, 1) := by decide +kernel
theorem dX4_isByNumber_63 : decode cX4_isByNumber 63 = .ok (.invokevirtual 137, 3) := by decide +kernel
theorem dX4_isByNumber_66 : decode cX4_isByNumber 66 = .ok (.if_icmp .ne 19, 3) := by decide +kernel
theorem dX4_isByNumber_69 : decode cX4_isByNumber 69 = .ok (.iconst 2, 1) := by decide +kernel
theorem dX4_isByNumber_70 : decode cX4_isByNumber 70 = .ok (.iload_n 1, 1) := by decide +kernel
theorem dX4_isByNumber_71 : decode cX4_isByNumber 71 = .ok (.imul, 1) := by decide +kernel
theorem dX4_isByNumber_72 : decode cX4_isByNumber 72 = .ok (.iload_n 3, 1) := by decide +kernel
theorem dX4_isByNumber_73 : decode cX4_isByNumber 73 = .ok (.imul, 1) := by decide +kernel
theorem dX4_isByNumber_74 : decode cX4_isByNumber 74 = .ok (.aload_n 0, 1) := by decide +kernel
theorem dX4_isByNumber_75 : decode cX4_isByNumber 75 = .ok (.invokevirtual 140, 3) := by decide +kernel
theorem dX4_isByNumber_78 : decode cX4_isByNumber 78 = .ok (.if_icmp .ne 7, 3) := by decide +kernel
theorem dX4_isByNumber_81 : decode cX4_isByNumber 81 = .ok (.iconst 1, 1) := by decide +kernel
theorem dX4_isByNumber_82 : decode cX4_isByNumber 82 = .ok (.goto 4, 3) := by decide +kernel
theorem dX4_isByNumber_85 : decode cX4_isByNumber 85 = .ok (.iconst 0, 1) := by decide +kernel
theorem dX4_isByNumber_86 : decode cX4_isByNumber 86 = .ok (.ireturn, 1) := by decide +kernel
theorem dX5_init_0 : decode cX5_init 0 = .ok (.aload_n 0, 1) := by decide +kernel
theorem dX5_init_1 : decode cX5_init 1 = .ok (.invokespecial 1, 3) := by decide +kernel
theorem dX5_init_4 : decode cX5_init 4 = .ok (.aload_n 0, 1) := by decide +kernel
theorem dX5_init_5 : decode cX5_init 5 = .ok (.iload_n 1, 1) := by decide +kernel
theorem dX5_init_6 : decode cX5_init 6 = .ok (.iload_n 2, 1) := by decide +kernel
theorem dX5_init_7 : decode cX5_init 7 = .ok (.iload_n 3, 1) := by decide +kernel
theorem dX5_init_8 : decode cX5_init 8 = .ok (.invokestatic 7, 3) := by decide +kernel
theorem dX5_init_11 : decode cX5_init 11 = .ok (.invokestatic 7, 3) := by decide +kernel
theorem dX5_init_14 : decode cX5_init 14 = .ok (.putfield 13, 3) := by decide +kernel
theorem dX5_init_17 : decode cX5_init 17 = .ok (.aload_n 0, 1) := by decide +kernel
theorem dX5_init_18 : decode cX5_init 18 = .ok (.iload_n 1, 1) := by decide +kernel
theorem dX5_init_19 : decode cX5_init 19 = .ok (.iload_n 2, 1) := by decide +kernel
theorem dX5_init_20 : decode cX5_init 20 = .ok (.iload_n 3, 1) := by decide +kernel
theorem dX5_init_21 : decode cX5_init 21 = .ok (.invokestatic 19, 3) := by decide +kernel
theorem dX5_init_24 : decode cX5_init 24 = .ok (.invokestatic 19, 3) := by decide +kernel
theorem dX5_init_27 : decode cX5_init 27 = .ok (.putfield 22, 3) := by decide +kernel
theorem dX5_init_30 : decode cX5_init 30 = .ok (.aload_n 0, 1) := by decide +kernel
theorem dX5_init_31 : decode cX5_init 31 = .ok (.iload_n 1, 1) := by decide +kernel
theorem dX5_init_32 : decode cX5_init 32 = .ok (.iload_n 2, 1) := by decide +kernel
theorem dX5_init_33 : decode cX5_init 33 = .ok (.iadd, 1) := by decide +kernel
theorem dX5_init_34 : decode cX5_init 34 = .ok (.iload_n 3, 1) := by decide +kernel
theorem dX5_init_35 : decode cX5_init 35 = .ok (.iadd, 1) := by decide +kernel
theorem dX5_init_36 : decode cX5_init 36 = .ok (.aload_n 0, 1) := by decide +kernel
theorem dX5_init_37 : decode cX5_init 37 = .ok (.getfield 13, 3) := by decide +kernel
theorem dX5_init_40 : decode cX5_init 40 = .ok (.isub, 1) := by decide +kernel
theorem dX5_init_41 : decode cX5_init 41 = .ok (.aload_n 0, 1) := by decide +kernel
theorem dX5_init_42 : decode cX5_init 42 = .ok (.getfield 22, 3) := by decide +kernel
theorem dX5_init_45 : decode cX5_init 45 = .ok (.isub, 1) := by decide +kernel
theorem dX5_init_46 : decode cX5_init 46 = .ok (.putfield 25, 3) := by decide +kernel
theorem dX5_init_49 : decode cX5_init 49 = .ok (.aload_n 0, 1) := by decide +kernel
theorem dX5_init_50 : decode cX5_init 50 = .ok (.getfield 13, 3) := by decide +kernel
theorem dX5_init_53 : decode cX5_init 53 = .ok (.i2l, 1) := by decide +kernel
theorem dX5_init_54 : decode cX5_init 54 = .ok (.aload_n 0, 1) := by decide +kernel
theorem dX5_init_55 : decode cX5_init 55 = .ok (.getfield 25, 3) := by decide +kernel
theorem dX5_init_58 : decode cX5_init 58 = .ok (.i2l, 1) := by decide +kernel
theorem dX5_init_59 : decode cX5_init 59 = .ok (.aload_n 0, 1) := by decide +kernel
theorem dX5_init_60 : decode cX5_init 60 = .ok (.getfield 22, 3) := by decide +kernel
theorem dX5_init_63 : decode cX5_init 63 = .ok (.i2l, 1) := by decide +kernel
theorem dX5_init_64 : decode cX5_init 64 = .ok (.invokestatic 28, 3) := by decide +kernel
theorem dX5_init_67 : decode cX5_init 67 = .ok (.lstore 4, 2) := by decide +kernel
theorem dX5_init_69 : decode cX5_init 69 = .ok (.aload_n 0, 1) := by decide +kernel
theorem dX5_init_70 : decode cX5_init 70 = .ok (.getfield 13, 3) := by decide +kernel
theorem dX5_init_73 : decode cX5_init 73 = .ok (.i2l, 1) := by decide +kernel
theorem dX5_init_74 : decode cX5_init 74 = .ok (.aload_n 0, 1) := by decide +kernel
theorem dX5_init_75 : decode cX5_init 75 = .ok (.getfield 25, 3) := by decide +kernel
theorem dX5_init_78 : decode cX5_init 78 = .ok (.i2l, 1) := by decide +kernel
theorem dX5_init_79 : decode cX5_init 79 = .ok (.aload_n 0, 1) := by decide +kernel
theorem dX5_init_80 : decode cX5_init 80 = .ok (.getfield 22, 3) := by decide +kernel
theorem dX5_init_83 : decode cX5_init 83 = .ok (.i2l, 1) := by decide +kernel
theorem dX5_init_84 : decode cX5_init 84 = .ok (.invokestatic 32, 3) := by decide +kernel
theorem dX5_init_87 : decode cX5_init 87 = .ok (.lstore 6, 2) := by decide +kernel
theorem dX5_init_89 : decode cX5_init 89 = .ok (.aload_n 0, 1) := by decide +kernel
theorem dX5_init_90 : decode cX5_init 90 = .ok (.lload 4, 2) := by decide +kernel
theorem dX5_init_92 : decode cX5_init 92 = .ok (.lload 6, 2) := by decide +kernel
theorem dX5_init_94 : decode cX5_init 94 = .ok (.invokestatic 35, 3) := by decide +kernel
theorem dX5_init_97 : decode cX5_init 97 = .ok (.putfield 41, 3) := by decide +kernel
theorem dX5_init_100 : decode cX5_init 100 = .ok (.aload_n 0, 1) := by decide +kernel
theorem dX5_init_101 : decode cX5_init 101 = .ok (.lload 4, 2) := by decide +kernel
theorem dX5_init_103 : decode cX5_init 103 = .ok (.lload 6, 2) := by decide +kernel
theorem dX5_init_105 : decode cX5_init 105 = .ok (.invokestatic 45, 3) := by decide +kernel
theorem dX5_init_108 : decode cX5_init 108 = .ok (.putfield 48, 3) := by decide +kernel
theorem dX5_init_111 : decode cX5_init 111 = .ok (.return_, 1) := by decide +kernel
theorem dX5_outerFactor_0 : decode cX5_outerFactor 0 = .ok (.lload_n 0, 1) := by decide +kernel
theorem dX5_outerFactor_1 : decode cX5_outerFactor 1 = .ok (.lload_n 2, 1) := by decide +kernel
theorem dX5_outerFactor_2 : decode cX5_outerFactor 2 = .ok (.ladd, 1) := by decide +kernel
theorem dX5_outerFactor_3 : decode cX5_outerFactor 3 = .ok (.lload 4, 2) := by decide +kernel
theorem dX5_outerFactor_5 : decode cX5_outerFactor 5 = .ok (.ladd, 1) := by decide +kernel
theorem dX5_outerFactor_6 : decode cX5_outerFactor 6 = .ok (.lload_n 0, 1) := by decide +kernel
theorem dX5_outerFactor_7 : decode cX5_outerFactor 7 = .ok (.lload_n 2, 1) := by decide +kernel
theorem dX5_outerFactor_8 : decode cX5_outerFactor 8 = .ok (.ladd, 1) := by decide +kernel
theorem dX5_outerFactor_9 : decode cX5_outerFactor 9 = .ok (.lload 4, 2) := by decide +kernel
theorem dX5_outerFactor_11 : decode cX5_outerFactor 11 = .ok (.lsub, 1) := by decide +kernel
theorem dX5_outerFactor_12 : decode cX5_outerFactor 12 = .ok (.lmul, 1) := by decide +kernel
theorem dX5_outerFactor_13 : decode cX5_outerFactor 13 = .ok (.lreturn, 1) := by decide +kernel
theorem dX5_innerFactor_0 : decode cX5_innerFactor 0 = .ok (.lload_n 2, 1) := by decide +kernel
theorem dX5_innerFactor_1 : decode cX5_innerFactor 1 = .ok (.lload 4, 2) := by decide +kernel
theorem dX5_innerFactor_3 : decode cX5_innerFactor 3 = .ok (.ladd, 1) := by decide +kernel
theorem dX5_innerFactor_4 : decode cX5_innerFactor 4 = .ok (.lload_n 0, 1) := by decide +kernel
theorem dX5_innerFactor_5 : decode cX5_innerFactor 5 = .ok (.lsub, 1) := by decide +kernel
theorem dX5_innerFactor_6 : decode cX5_innerFactor 6 = .ok (.lload_n 0, 1) := by decide +kernel
theorem dX5_innerFactor_7 : decode cX5_innerFactor 7 = .ok (.lload 4, 2) := by decide +kernel
theorem dX5_innerFactor_9 : decode cX5_innerFactor 9 = .ok (.ladd, 1) := by decide +kernel
theorem dX5_innerFactor_10 : decode cX5_innerFactor 10 = .ok (.lload_n 2, 1) := by decide +kernel
theorem dX5_innerFactor_11 : decode cX5_innerFactor 11 = .ok (.lsub, 1) := by decide +kernel
theorem dX5_innerFactor_12 : decode cX5_innerFactor 12 = .ok (.lmul, 1) := by decide +kernel
theorem dX5_innerFactor_13 : decode cX5_innerFactor 13 = .ok (.lreturn, 1) := by decide +kernel
theorem dX5_length_0 : decode cX5_length 0 = .ok (.iload_n 1, 1) := by decide +kernel
theorem dX5_length_1 : decode cX5_length 1 = .ok (.ifCond .ne 8, 3) := by decide +kernel
theorem dX5_length_4 : decode cX5_length 4 = .ok (.aload_n 0, 1) := by decide +kernel
theorem dX5_length_5 : decode cX5_length 5 = .ok (.getfield 13, 3) := by decide +kernel
theorem dX5_length_8 : decode cX5_length 8 = .ok (.ireturn, 1) := by decide +kernel
theorem dX5_length_9 : decode cX5_length 9 = .ok (.iload_n 1, 1) := by decide +kernel
theorem dX5_length_10 : decode cX5_length 10 = .ok (.iconst 1, 1) := by decide +kernel
theorem dX5_length_11 : decode cX5_length 11 = .ok (.if_icmp .ne 10, 3) := by decide +kernel
theorem dX5_length_14 : decode cX5_length 14 = .ok (.aload_n 0, 1) := by decide +kernel
theorem dX5_length_15 : decode cX5_length 15 = .ok (.getfield 25, 3) := by decide +kernel
theorem dX5_length_18 : decode cX5_length 18 = .ok (.goto 7, 3) := by decide +kernel
theorem dX5_length_21 : decode cX5_length 21 = .ok (.aload_n 0, 1) := by decide +kernel
theorem dX5_length_22 : decode cX5_length 22 = .ok (.getfield 22, 3) := by decide +kernel
theorem dX5_length_25 : decode cX5_length 25 = .ok (.ireturn, 1) := by decide +kernel
theorem dX5_around_0 : decode cX5_around 0 = .ok (.aload_n 0, 1) := by decide +kernel
theorem dX5_around_1 : decode cX5_around 1 = .ok (.getfield 13, 3) := by decide +kernel
theorem dX5_around_4 : decode cX5_around 4 = .ok (.aload_n 0, 1) := by decide +kernel
theorem dX5_around_5 : decode cX5_around 5 = .ok (.getfield 25, 3) := by decide +kernel
theorem dX5_around_8 : decode cX5_around 8 = .ok (.iadd, 1) := by decide +kernel
theorem dX5_around_9 : decode cX5_around 9 = .ok (.aload_n 0, 1) := by decide +kernel
theorem dX5_around_10 : decode cX5_around 10 = .ok (.getfield 22, 3) := by decide +kernel
theorem dX5_around_13 : decode cX5_around 13 = .ok (.iadd, 1) := by decide +kernel
theorem dX5_around_14 : decode cX5_around 14 = .ok (.ireturn, 1) := by decide +kernel
theorem dX5_commonDivisor_0 : decode cX5_commonDivisor 0 = .ok (.aload_n 0, 1) := by decide +kernel
theorem dX5_commonDivisor_1 : decode cX5_commonDivisor 1 = .ok (.getfield 13, 3) := by decide +kernel
theorem dX5_commonDivisor_4 : decode cX5_commonDivisor 4 = .ok (.i2l, 1) := by decide +kernel
theorem dX5_commonDivisor_5 : decode cX5_commonDivisor 5 = .ok (.aload_n 0, 1) := by decide +kernel
theorem dX5_commonDivisor_6 : decode cX5_commonDivisor 6 = .ok (.getfield 25, 3) := by decide +kernel
theorem dX5_commonDivisor_9 : decode cX5_commonDivisor 9 = .ok (.i2l, 1) := by decide +kernel
theorem dX5_commonDivisor_10 : decode cX5_commonDivisor 10 = .ok (.invokestatic 51, 3) := by decide +kernel
theorem dX5_commonDivisor_13 : decode cX5_commonDivisor 13 = .ok (.aload_n 0, 1) := by decide +kernel
theorem dX5_commonDivisor_14 : decode cX5_commonDivisor 14 = .ok (.getfield 22, 3) := by decide +kernel
theorem dX5_commonDivisor_17 : decode cX5_commonDivisor 17 = .ok (.i2l, 1) := by decide +kernel
theorem dX5_commonDivisor_18 : decode cX5_commonDivisor 18 = .ok (.invokestatic 51, 3) := by decide +kernel
theorem dX5_commonDivisor_21 : decode cX5_commonDivisor 21 = .ok (.l2i, 1) := by decide +kernel
theorem dX5_commonDivisor_22 : decode cX5_commonDivisor 22 = .ok (.ireturn, 1) := by decide +kernel
theorem dX5_code_0 : decode cX5_code 0 = .ok (.ldc2_w 54, 3) := by decide +kernel
theorem dX5_code_3 : decode cX5_code 3 = .ok (.aload_n 0, 1) := by decide +kernel
theorem dX5_code_4 : decode cX5_code 4 = .ok (.getfield 13, 3) := by decide +kernel
theorem dX5_code_7 : decode cX5_code 7 = .ok (.i2l, 1) := by decide +kernel
theorem dX5_code_8 : decode cX5_code 8 = .ok (.lmul, 1) := by decide +kernel
theorem dX5_code_9 : decode cX5_code 9 = .ok (.ldc2_w 56, 3) := by decide +kernel
theorem dX5_code_12 : decode cX5_code 12 = .ok (.aload_n 0, 1) := by decide +kernel
theorem dX5_code_13 : decode cX5_code 13 = .ok (.getfield 25, 3) := by decide +kernel
theorem dX5_code_16 : decode cX5_code 16 = .ok (.i2l, 1) := by decide +kernel
theorem dX5_code_17 : decode cX5_code 17 = .ok (.lmul, 1) := by decide +kernel
theorem dX5_code_18 : decode cX5_code 18 = .ok (.ladd, 1) := by decide +kernel
theorem dX5_code_19 : decode cX5_code 19 = .ok (.aload_n 0, 1) := by decide +kernel
theorem dX5_code_20 : decode cX5_code 20 = .ok (.getfield 22, 3) := by decide +kernel
theorem dX5_code_23 : decode cX5_code 23 = .ok (.i2l, 1) := by decide +kernel
theorem dX5_code_24 : decode cX5_code 24 = .ok (.ladd, 1) := by decide +kernel
theorem dX5_code_25 : decode cX5_code 25 = .ok (.lreturn, 1) := by decide +kernel
theorem dX5_squaresBeside_0 : decode cX5_squaresBeside 0 = .ok (.aload_n 0, 1) := by decide +kernel
theorem dX5_squaresBeside_1 : decode cX5_squaresBeside 1 = .ok (.iload_n 1, 1) := by decide +kernel
theorem dX5_squaresBeside_2 : decode cX5_squaresBeside 2 = .ok (.invokevirtual 58, 3) := by decide +kernel
theorem dX5_squaresBeside_5 : decode cX5_squaresBeside 5 = .ok (.i2l, 1) := by decide +kernel
theorem dX5_squaresBeside_6 : decode cX5_squaresBeside 6 = .ok (.lstore_n 2, 1) := by decide +kernel
theorem dX5_squaresBeside_7 : decode cX5_squaresBeside 7 = .ok (.aload_n 0, 1) := by decide +kernel
theorem dX5_squaresBeside_8 : decode cX5_squaresBeside 8 = .ok (.getfield 13, 3) := by decide +kernel
theorem dX5_squaresBeside_11 : decode cX5_squaresBeside 11 = .ok (.i2l, 1) := by decide +kernel
theorem dX5_squaresBeside_12 : decode cX5_squaresBeside 12 = .ok (.aload_n 0, 1) := by decide +kernel
theorem dX5_squaresBeside_13 : decode cX5_squaresBeside 13 = .ok (.getfield 13, 3) := by decide +kernel
theorem dX5_squaresBeside_16 : decode cX5_squaresBeside 16 = .ok (.i2l, 1) := by decide +kernel
theorem dX5_squaresBeside_17 : decode cX5_squaresBeside 17 = .ok (.lmul, 1) := by decide +kernel
theorem dX5_squaresBeside_18 : decode cX5_squaresBeside 18 = .ok (.aload_n 0, 1) := by decide +kernel
theorem dX5_squaresBeside_19 : decode cX5_squaresBeside 19 = .ok (.getfield 25, 3) := by decide +kernel
theorem dX5_squaresBeside_22 : decode cX5_squaresBeside 22 = .ok (.i2l, 1) := by decide +kernel
theorem dX5_squaresBeside_23 : decode cX5_squaresBeside 23 = .ok (.aload_n 0, 1) := by decide +kernel
theorem dX5_squaresBeside_24 : decode cX5_squaresBeside 24 = .ok (.getfield 25, 3) := by decide +kernel
theorem dX5_squaresBeside_27 : decode cX5_squaresBeside 27 = .ok (.i2l, 1) := by decide +kernel
theorem dX5_squaresBeside_28 : decode cX5_squaresBeside 28 = .ok (.lmul, 1) := by decide +kernel
theorem dX5_squaresBeside_29 : decode cX5_squaresBeside 29 = .ok (.ladd, 1) := by decide +kernel
theorem dX5_squaresBeside_30 : decode cX5_squaresBeside 30 = .ok (.aload_n 0, 1) := by decide +kernel
theorem dX5_squaresBeside_31 : decode cX5_squaresBeside 31 = .ok (.getfield 22, 3) := by decide +kernel
theorem dX5_squaresBeside_34 : decode cX5_squaresBeside 34 = .ok (.i2l, 1) := by decide +kernel
theorem dX5_squaresBeside_35 : decode cX5_squaresBeside 35 = .ok (.aload_n 0, 1) := by decide +kernel
theorem dX5_squaresBeside_36 : decode cX5_squaresBeside 36 = .ok (.getfield 22, 3) := by decide +kernel
theorem dX5_squaresBeside_39 : decode cX5_squaresBeside 39 = .ok (.i2l, 1) := by decide +kernel
theorem dX5_squaresBeside_40 : decode cX5_squaresBeside 40 = .ok (.lmul, 1) := by decide +kernel
theorem dX5_squaresBeside_41 : decode cX5_squaresBeside 41 = .ok (.ladd, 1) := by decide +kernel
theorem dX5_squaresBeside_42 : decode cX5_squaresBeside 42 = .ok (.ldc2_w 62, 3) := by decide +kernel
theorem dX5_squaresBeside_45 : decode cX5_squaresBeside 45 = .ok (.lload_n 2, 1) := by decide +kernel
theorem dX5_squaresBeside_46 : decode cX5_squaresBeside 46 = .ok (.lmul, 1) := by decide +kernel
theorem dX5_squaresBeside_47 : decode cX5_squaresBeside 47 = .ok (.lload_n 2, 1) := by decide +kernel
theorem dX5_squaresBeside_48 : decode cX5_squaresBeside 48 = .ok (.lmul, 1) := by decide +kernel
theorem dX5_squaresBeside_49 : decode cX5_squaresBeside 49 = .ok (.lsub, 1) := by decide +kernel
theorem dX5_squaresBeside_50 : decode cX5_squaresBeside 50 = .ok (.lreturn, 1) := by decide +kernel
theorem dX5_sharpness_0 : decode cX5_sharpness 0 = .ok (.aload_n 0, 1) := by decide +kernel
theorem dX5_sharpness_1 : decode cX5_sharpness 1 = .ok (.iconst 2, 1) := by decide +kernel
theorem dX5_sharpness_2 : decode cX5_sharpness 2 = .ok (.invokevirtual 64, 3) := by decide +kernel
theorem dX5_sharpness_5 : decode cX5_sharpness 5 = .ok (.lconst 0, 1) := by decide +kernel
theorem dX5_sharpness_6 : decode cX5_sharpness 6 = .ok (.invokestatic 68, 3) := by decide +kernel
theorem dX5_sharpness_9 : decode cX5_sharpness 9 = .ok (.ireturn, 1) := by decide +kernel
theorem dX5_degreesOpposite_0 : decode cX5_degreesOpposite 0 = .ok (.aload_n 0, 1) := by decide +kernel
theorem dX5_degreesOpposite_1 : decode cX5_degreesOpposite 1 = .ok (.iload_n 1, 1) := by decide +kernel
theorem dX5_degreesOpposite_2 : decode cX5_degreesOpposite 2 = .ok (.invokevirtual 64, 3) := by decide +kernel
theorem dX5_degreesOpposite_5 : decode cX5_degreesOpposite 5 = .ok (.lstore_n 2, 1) := by decide +kernel
theorem dX5_degreesOpposite_6 : decode cX5_degreesOpposite 6 = .ok (.aload_n 0, 1) := by decide +kernel
theorem dX5_degreesOpposite_7 : decode cX5_degreesOpposite 7 = .ok (.iload_n 1, 1) := by decide +kernel
theorem dX5_degreesOpposite_8 : decode cX5_degreesOpposite 8 = .ok (.ifCond .ne 7, 3) := by decide +kernel
theorem dX5_degreesOpposite_11 : decode cX5_degreesOpposite 11 = .ok (.iconst 1, 1) := by decide +kernel
theorem dX5_degreesOpposite_12 : decode cX5_degreesOpposite 12 = .ok (.goto 4, 3) := by decide +kernel
theorem dX5_degreesOpposite_15 : decode cX5_degreesOpposite 15 = .ok (.iconst 0, 1) := by decide +kernel
theorem dX5_degreesOpposite_16 : decode cX5_degreesOpposite 16 = .ok (.invokevirtual 58, 3) := by decide +kernel
theorem dX5_degreesOpposite_19 : decode cX5_degreesOpposite 19 = .ok (.i2l, 1) := by decide +kernel
theorem dX5_degreesOpposite_20 : decode cX5_degreesOpposite 20 = .ok (.aload_n 0, 1) := by decide +kernel
theorem dX5_degreesOpposite_21 : decode cX5_degreesOpposite 21 = .ok (.iload_n 1, 1) := by decide +kernel
theorem dX5_degreesOpposite_22 : decode cX5_degreesOpposite 22 = .ok (.iconst 2, 1) := by decide +kernel
theorem dX5_degreesOpposite_23 : decode cX5_degreesOpposite 23 = .ok (.if_icmp .ne 7, 3) := by decide +kernel
theorem dX5_degreesOpposite_26 : decode cX5_degreesOpposite 26 = .ok (.iconst 1, 1) := by decide +kernel
theorem dX5_degreesOpposite_27 : decode cX5_degreesOpposite 27 = .ok (.goto 4, 3) := by decide +kernel
theorem dX5_degreesOpposite_30 : decode cX5_degreesOpposite 30 = .ok (.iconst 2, 1) := by decide +kernel
theorem dX5_degreesOpposite_31 : decode cX5_degreesOpposite 31 = .ok (.invokevirtual 58, 3) := by decide +kernel
theorem dX5_degreesOpposite_34 : decode cX5_degreesOpposite 34 = .ok (.i2l, 1) := by decide +kernel
theorem dX5_degreesOpposite_35 : decode cX5_degreesOpposite 35 = .ok (.lmul, 1) := by decide +kernel
theorem dX5_degreesOpposite_36 : decode cX5_degreesOpposite 36 = .ok (.lstore 4, 2) := by decide +kernel
theorem dX5_degreesOpposite_38 : decode cX5_degreesOpposite 38 = .ok (.lload_n 2, 1) := by decide +kernel
theorem dX5_degreesOpposite_39 : decode cX5_degreesOpposite 39 = .ok (.lconst 0, 1) := by decide +kernel
theorem dX5_degreesOpposite_40 : decode cX5_degreesOpposite 40 = .ok (.lcmp, 1) := by decide +kernel
theorem dX5_degreesOpposite_41 : decode cX5_degreesOpposite 41 = .ok (.ifCond .ne 6, 3) := by decide +kernel
theorem dX5_degreesOpposite_44 : decode cX5_degreesOpposite 44 = .ok (.bipush 90, 2) := by decide +kernel
theorem dX5_degreesOpposite_46 : decode cX5_degreesOpposite 46 = .ok (.ireturn, 1) := by decide +kernel
theorem dX5_degreesOpposite_47 : decode cX5_degreesOpposite 47 = .ok (.lload_n 2, 1) := by decide +kernel
theorem dX5_degreesOpposite_48 : decode cX5_degreesOpposite 48 = .ok (.lload 4, 2) := by decide +kernel
theorem dX5_degreesOpposite_50 : decode cX5_degreesOpposite 50 = .ok (.lcmp, 1) := by decide +kernel
theorem dX5_degreesOpposite_51 : decode cX5_degreesOpposite 51 = .ok (.ifCond .ne 6, 3) := by decide +kernel
theorem dX5_degreesOpposite_54 : decode cX5_degreesOpposite 54 = .ok (.bipush 60, 2) := by decide +kernel
theorem dX5_degreesOpposite_56 : decode cX5_degreesOpposite 56 = .ok (.ireturn, 1) := by decide +kernel
theorem dX5_degreesOpposite_57 : decode cX5_degreesOpposite 57 = .ok (.lload_n 2, 1) := by decide +kernel
theorem dX5_degreesOpposite_58 : decode cX5_degreesOpposite 58 = .ok (.lload 4, 2) := by decide +kernel
theorem dX5_degreesOpposite_60 : decode cX5_degreesOpposite 60 = .ok (.lneg, 1) := by decide +kernel
theorem dX5_degreesOpposite_61 : decode cX5_degreesOpposite 61 = .ok (.lcmp, 1) := by decide +kernel
theorem dX5_degreesOpposite_62 : decode cX5_degreesOpposite 62 = .ok (.ifCond .ne 8, 3) := by decide +kernel
theorem dX5_degreesOpposite_65 : decode cX5_degreesOpposite 65 = .ok (.bipush 120, 2) := by decide +kernel
theorem dX5_degreesOpposite_67 : decode cX5_degreesOpposite 67 = .ok (.goto 4, 3) := by decide +kernel
theorem dX5_degreesOpposite_70 : decode cX5_degreesOpposite 70 = .ok (.iconst 0, 1) := by decide +kernel
theorem dX5_degreesOpposite_71 : decode cX5_degreesOpposite 71 = .ok (.ireturn, 1) := by decide +kernel
theorem dX5_hasLeg_0 : decode cX5_hasLeg 0 = .ok (.aload_n 0, 1) := by decide +kernel
theorem dX5_hasLeg_1 : decode cX5_hasLeg 1 = .ok (.getfield 13, 3) := by decide +kernel
theorem dX5_hasLeg_4 : decode cX5_hasLeg 4 = .ok (.iload_n 1, 1) := by decide +kernel
theorem dX5_hasLeg_5 : decode cX5_hasLeg 5 = .ok (.if_icmp .eq 11, 3) := by decide +kernel
theorem dX5_hasLeg_8 : decode cX5_hasLeg 8 = .ok (.aload_n 0, 1) := by decide +kernel
theorem dX5_hasLeg_9 : decode cX5_hasLeg 9 = .ok (.getfield 25, 3) := by decide +kernel
theorem dX5_hasLeg_12 : decode cX5_hasLeg 12 = .ok (.iload_n 1, 1) := by decide +kernel
theorem dX5_hasLeg_13 : decode cX5_hasLeg 13 = .ok (.if_icmp .ne 7, 3) := by decide +kernel
theorem dX5_hasLeg_16 : decode cX5_hasLeg 16 = .ok (.iconst 1, 1) := by decide +kernel
theorem dX5_hasLeg_17 : decode cX5_hasLeg 17 = .ok (.goto 4, 3) := by decide +kernel
theorem dX5_hasLeg_20 : decode cX5_hasLeg 20 = .ok (.iconst 0, 1) := by decide +kernel
theorem dX5_hasLeg_21 : decode cX5_hasLeg 21 = .ok (.ireturn, 1) := by decide +kernel
theorem dX5_otherLeg_0 : decode cX5_otherLeg 0 = .ok (.aload_n 0, 1) := by decide +kernel
theorem dX5_otherLeg_1 : decode cX5_otherLeg 1 = .ok (.getfield 13, 3) := by decide +kernel
theorem dX5_otherLeg_4 : decode cX5_otherLeg 4 = .ok (.iload_n 1, 1) := by decide +kernel
theorem dX5_otherLeg_5 : decode cX5_otherLeg 5 = .ok (.if_icmp .ne 10, 3) := by decide +kernel
theorem dX5_otherLeg_8 : decode cX5_otherLeg 8 = .ok (.aload_n 0, 1) := by decide +kernel
theorem dX5_otherLeg_9 : decode cX5_otherLeg 9 = .ok (.getfield 25, 3) := by decide +kernel
theorem dX5_otherLeg_12 : decode cX5_otherLeg 12 = .ok (.goto 7, 3) := by decide +kernel
theorem dX5_otherLeg_15 : decode cX5_otherLeg 15 = .ok (.aload_n 0, 1) := by decide +kernel
theorem dX5_otherLeg_16 : decode cX5_otherLeg 16 = .ok (.getfield 13, 3) := by decide +kernel
theorem dX5_otherLeg_19 : decode cX5_otherLeg 19 = .ok (.ireturn, 1) := by decide +kernel
theorem dX5_isPrimitive_0 : decode cX5_isPrimitive 0 = .ok (.aload_n 0, 1) := by decide +kernel
theorem dX5_isPrimitive_1 : decode cX5_isPrimitive 1 = .ok (.invokevirtual 74, 3) := by decide +kernel
theorem dX5_isPrimitive_4 : decode cX5_isPrimitive 4 = .ok (.ifCond .ne 15, 3) := by decide +kernel
theorem dX5_isPrimitive_7 : decode cX5_isPrimitive 7 = .ok (.aload_n 0, 1) := by decide +kernel
theorem dX5_isPrimitive_8 : decode cX5_isPrimitive 8 = .ok (.invokevirtual 78, 3) := by decide +kernel
theorem dX5_isPrimitive_11 : decode cX5_isPrimitive 11 = .ok (.iconst 1, 1) := by decide +kernel
theorem dX5_isPrimitive_12 : decode cX5_isPrimitive 12 = .ok (.if_icmp .ne 7, 3) := by decide +kernel
theorem dX5_isPrimitive_15 : decode cX5_isPrimitive 15 = .ok (.iconst 1, 1) := by decide +kernel
theorem dX5_isPrimitive_16 : decode cX5_isPrimitive 16 = .ok (.goto 4, 3) := by decide +kernel
theorem dX5_isPrimitive_19 : decode cX5_isPrimitive 19 = .ok (.iconst 0, 1) := by decide +kernel
theorem dX5_isPrimitive_20 : decode cX5_isPrimitive 20 = .ok (.ireturn, 1) := by decide +kernel
theorem dX5_oddLeg_0 : decode cX5_oddLeg 0 = .ok (.aload_n 0, 1) := by decide +kernel
theorem dX5_oddLeg_1 : decode cX5_oddLeg 1 = .ok (.getfield 13, 3) := by decide +kernel
theorem dX5_oddLeg_4 : decode cX5_oddLeg 4 = .ok (.iconst 1, 1) := by decide +kernel
theorem dX5_oddLeg_5 : decode cX5_oddLeg 5 = .ok (.iand, 1) := by decide +kernel
theorem dX5_oddLeg_6 : decode cX5_oddLeg 6 = .ok (.iconst 1, 1) := by decide +kernel
theorem dX5_oddLeg_7 : decode cX5_oddLeg 7 = .ok (.if_icmp .ne 10, 3) := by decide +kernel
theorem dX5_oddLeg_10 : decode cX5_oddLeg 10 = .ok (.aload_n 0, 1) := by decide +kernel
theorem dX5_oddLeg_11 : decode cX5_oddLeg 11 = .ok (.getfield 13, 3) := by decide +kernel
theorem dX5_oddLeg_14 : decode cX5_oddLeg 14 = .ok (.goto 7, 3) := by decide +kernel
theorem dX5_oddLeg_17 : decode cX5_oddLeg 17 = .ok (.aload_n 0, 1) := by decide +kernel
theorem dX5_oddLeg_18 : decode cX5_oddLeg 18 = .ok (.getfield 25, 3) := by decide +kernel
theorem dX5_oddLeg_21 : decode cX5_oddLeg 21 = .ok (.ireturn, 1) := by decide +kernel
theorem dX5_evenLeg_0 : decode cX5_evenLeg 0 = .ok (.aload_n 0, 1) := by decide +kernel
theorem dX5_evenLeg_1 : decode cX5_evenLeg 1 = .ok (.getfield 13, 3) := by decide +kernel
theorem dX5_evenLeg_4 : decode cX5_evenLeg 4 = .ok (.iconst 1, 1) := by decide +kernel
theorem dX5_evenLeg_5 : decode cX5_evenLeg 5 = .ok (.iand, 1) := by decide +kernel
theorem dX5_evenLeg_6 : decode cX5_evenLeg 6 = .ok (.iconst 1, 1) := by decide +kernel
theorem dX5_evenLeg_7 : decode cX5_evenLeg 7 = .ok (.if_icmp .ne 10, 3) := by decide +kernel
theorem dX5_evenLeg_10 : decode cX5_evenLeg 10 = .ok (.aload_n 0, 1) := by decide +kernel
theorem dX5_evenLeg_11 : decode cX5_evenLeg 11 = .ok (.getfield 25, 3) := by decide +kernel
theorem dX5_evenLeg_14 : decode cX5_evenLeg 14 = .ok (.goto 7, 3) := by decide +kernel
theorem dX5_evenLeg_17 : decode cX5_evenLeg 17 = .ok (.aload_n 0, 1) := by decide +kernel
theorem dX5_evenLeg_18 : decode cX5_evenLeg 18 = .ok (.getfield 13, 3) := by decide +kernel
theorem dX5_evenLeg_21 : decode cX5_evenLeg 21 = .ok (.ireturn, 1) := by decide +kernel
theorem dX5_wrappedS_0 : decode cX5_wrappedS 0 = .ok (.aload_n 0, 1) := by decide +kernel
theorem dX5_wrappedS_1 : decode cX5_wrappedS 1 = .ok (.getfield 13, 3) := by decide +kernel
theorem dX5_wrappedS_4 : decode cX5_wrappedS 4 = .ok (.i2l, 1) := by decide +kernel
theorem dX5_wrappedS_5 : decode cX5_wrappedS 5 = .ok (.aload_n 0, 1) := by decide +kernel
theorem dX5_wrappedS_6 : decode cX5_wrappedS 6 = .ok (.getfield 25, 3) := by decide +kernel
theorem dX5_wrappedS_9 : decode cX5_wrappedS 9 = .ok (.i2l, 1) := by decide +kernel
theorem dX5_wrappedS_10 : decode cX5_wrappedS 10 = .ok (.aload_n 0, 1) := by decide +kernel
theorem dX5_wrappedS_11 : decode cX5_wrappedS 11 = .ok (.getfield 22, 3) := by decide +kernel
theorem dX5_wrappedS_14 : decode cX5_wrappedS 14 = .ok (.i2l, 1) := by decide +kernel
theorem dX5_wrappedS_15 : decode cX5_wrappedS 15 = .ok (.invokestatic 28, 3) := by decide +kernel
theorem dX5_wrappedS_18 : decode cX5_wrappedS 18 = .ok (.aload_n 0, 1) := by decide +kernel
theorem dX5_wrappedS_19 : decode cX5_wrappedS 19 = .ok (.getfield 13, 3) := by decide +kernel
theorem dX5_wrappedS_22 : decode cX5_wrappedS 22 = .ok (.i2l, 1) := by decide +kernel
theorem dX5_wrappedS_23 : decode cX5_wrappedS 23 = .ok (.aload_n 0, 1) := by decide +kernel
theorem dX5_wrappedS_24 : decode cX5_wrappedS 24 = .ok (.getfield 25, 3) := by decide +kernel
theorem dX5_wrappedS_27 : decode cX5_wrappedS 27 = .ok (.i2l, 1) := by decide +kernel
theorem dX5_wrappedS_28 : decode cX5_wrappedS 28 = .ok (.aload_n 0, 1) := by decide +kernel
theorem dX5_wrappedS_29 : decode cX5_wrappedS 29 = .ok (.getfield 22, 3) := by decide +kernel
theorem dX5_wrappedS_32 : decode cX5_wrappedS 32 = .ok (.i2l, 1) := by decide +kernel
theorem dX5_wrappedS_33 : decode cX5_wrappedS 33 = .ok (.invokestatic 32, 3) := by decide +kernel
theorem dX5_wrappedS_36 : decode cX5_wrappedS 36 = .ok (.lmul, 1) := by decide +kernel
theorem dX5_wrappedS_37 : decode cX5_wrappedS 37 = .ok (.lreturn, 1) := by decide +kernel
theorem dX5_digitsOfS_0 : decode cX5_digitsOfS 0 = .ok (.aload_n 0, 1) := by decide +kernel
theorem dX5_digitsOfS_1 : decode cX5_digitsOfS 1 = .ok (.getfield 41, 3) := by decide +kernel
theorem dX5_digitsOfS_4 : decode cX5_digitsOfS 4 = .ok (.lconst 0, 1) := by decide +kernel
theorem dX5_digitsOfS_5 : decode cX5_digitsOfS 5 = .ok (.lcmp, 1) := by decide +kernel
theorem dX5_digitsOfS_6 : decode cX5_digitsOfS 6 = .ok (.ifCond .ne 13, 3) := by decide +kernel
theorem dX5_digitsOfS_9 : decode cX5_digitsOfS 9 = .ok (.aload_n 0, 1) := by decide +kernel
theorem dX5_digitsOfS_10 : decode cX5_digitsOfS 10 = .ok (.getfield 48, 3) := by decide +kernel
theorem dX5_digitsOfS_13 : decode cX5_digitsOfS 13 = .ok (.invokestatic 80, 3) := by decide +kernel
theorem dX5_digitsOfS_16 : decode cX5_digitsOfS 16 = .ok (.goto 13, 3) := by decide +kernel
theorem dX5_digitsOfS_19 : decode cX5_digitsOfS 19 = .ok (.bipush 18, 2) := by decide +kernel
theorem dX5_digitsOfS_21 : decode cX5_digitsOfS 21 = .ok (.aload_n 0, 1) := by decide +kernel
theorem dX5_digitsOfS_22 : decode cX5_digitsOfS 22 = .ok (.getfield 41, 3) := by decide +kernel
theorem dX5_digitsOfS_25 : decode cX5_digitsOfS 25 = .ok (.invokestatic 80, 3) := by decide +kernel
theorem dX5_digitsOfS_28 : decode cX5_digitsOfS 28 = .ok (.iadd, 1) := by decide +kernel
theorem dX5_digitsOfS_29 : decode cX5_digitsOfS 29 = .ok (.ireturn, 1) := by decide +kernel
theorem dX5_comparedByArea_0 : decode cX5_comparedByArea 0 = .ok (.aload_n 0, 1) := by decide +kernel
theorem dX5_comparedByArea_1 : decode cX5_comparedByArea 1 = .ok (.getfield 41, 3) := by decide +kernel
theorem dX5_comparedByArea_4 : decode cX5_comparedByArea 4 = .ok (.aload_n 1, 1) := by decide +kernel
theorem dX5_comparedByArea_5 : decode cX5_comparedByArea 5 = .ok (.getfield 41, 3) := by decide +kernel
theorem dX5_comparedByArea_8 : decode cX5_comparedByArea 8 = .ok (.lcmp, 1) := by decide +kernel
theorem dX5_comparedByArea_9 : decode cX5_comparedByArea 9 = .ok (.ifCond .ne 17, 3) := by decide +kernel
theorem dX5_comparedByArea_12 : decode cX5_comparedByArea 12 = .ok (.aload_n 0, 1) := by decide +kernel
theorem dX5_comparedByArea_13 : decode cX5_comparedByArea 13 = .ok (.getfield 48, 3) := by decide +kernel
theorem dX5_comparedByArea_16 : decode cX5_comparedByArea 16 = .ok (.aload_n 1, 1) := by decide +kernel
theorem dX5_comparedByArea_17 : decode cX5_comparedByArea 17 = .ok (.getfield 48, 3) := by decide +kernel
theorem dX5_comparedByArea_20 : decode cX5_comparedByArea 20 = .ok (.invokestatic 68, 3) := by decide +kernel
theorem dX5_comparedByArea_23 : decode cX5_comparedByArea 23 = .ok (.goto 14, 3) := by decide +kernel
theorem dX5_comparedByArea_26 : decode cX5_comparedByArea 26 = .ok (.aload_n 0, 1) := by decide +kernel
theorem dX5_comparedByArea_27 : decode cX5_comparedByArea 27 = .ok (.getfield 41, 3) := by decide +kernel
theorem dX5_comparedByArea_30 : decode cX5_comparedByArea 30 = .ok (.aload_n 1, 1) := by decide +kernel
theorem dX5_comparedByArea_31 : decode cX5_comparedByArea 31 = .ok (.getfield 41, 3) := by decide +kernel
theorem dX5_comparedByArea_34 : decode cX5_comparedByArea 34 = .ok (.invokestatic 68, 3) := by decide +kernel
theorem dX5_comparedByArea_37 : decode cX5_comparedByArea 37 = .ok (.ireturn, 1) := by decide +kernel
theorem dX5_wholeRootOfS_0 : decode cX5_wholeRootOfS 0 = .ok (.aload_n 0, 1) := by decide +kernel
theorem dX5_wholeRootOfS_1 : decode cX5_wholeRootOfS 1 = .ok (.getfield 13, 3) := by decide +kernel
theorem dX5_wholeRootOfS_4 : decode cX5_wholeRootOfS 4 = .ok (.i2l, 1) := by decide +kernel
theorem dX5_wholeRootOfS_5 : decode cX5_wholeRootOfS 5 = .ok (.aload_n 0, 1) := by decide +kernel
theorem dX5_wholeRootOfS_6 : decode cX5_wholeRootOfS 6 = .ok (.getfield 25, 3) := by decide +kernel
theorem dX5_wholeRootOfS_9 : decode cX5_wholeRootOfS 9 = .ok (.i2l, 1) := by decide +kernel
theorem dX5_wholeRootOfS_10 : decode cX5_wholeRootOfS 10 = .ok (.aload_n 0, 1) := by decide +kernel
theorem dX5_wholeRootOfS_11 : decode cX5_wholeRootOfS 11 = .ok (.getfield 22, 3) := by decide +kernel
theorem dX5_wholeRootOfS_14 : decode cX5_wholeRootOfS 14 = .ok (.i2l, 1) := by decide +kernel
theorem dX5_wholeRootOfS_15 : decode cX5_wholeRootOfS 15 = .ok (.invokestatic 28, 3) := by decide +kernel
theorem dX5_wholeRootOfS_18 : decode cX5_wholeRootOfS 18 = .ok (.lstore_n 1, 1) := by decide +kernel
theorem dX5_wholeRootOfS_19 : decode cX5_wholeRootOfS 19 = .ok (.aload_n 0, 1) := by decide +kernel
theorem dX5_wholeRootOfS_20 : decode cX5_wholeRootOfS 20 = .ok (.getfield 13, 3) := by decide +kernel
theorem dX5_wholeRootOfS_23 : decode cX5_wholeRootOfS 23 = .ok (.i2l, 1) := by decide +kernel
theorem dX5_wholeRootOfS_24 : decode cX5_wholeRootOfS 24 = .ok (.aload_n 0, 1) := by decide +kernel
theorem dX5_wholeRootOfS_25 : decode cX5_wholeRootOfS 25 = .ok (.getfield 25, 3) := by decide +kernel
theorem dX5_wholeRootOfS_28 : decode cX5_wholeRootOfS 28 = .ok (.i2l, 1) := by decide +kernel
theorem dX5_wholeRootOfS_29 : decode cX5_wholeRootOfS 29 = .ok (.aload_n 0, 1) := by decide +kernel
theorem dX5_wholeRootOfS_30 : decode cX5_wholeRootOfS 30 = .ok (.getfield 22, 3) := by decide +kernel
theorem dX5_wholeRootOfS_33 : decode cX5_wholeRootOfS 33 = .ok (.i2l, 1) := by decide +kernel
theorem dX5_wholeRootOfS_34 : decode cX5_wholeRootOfS 34 = .ok (.invokestatic 32, 3) := by decide +kernel
theorem dX5_wholeRootOfS_37 : decode cX5_wholeRootOfS 37 = .ok (.lstore_n 3, 1) := by decide +kernel
theorem dX5_wholeRootOfS_38 : decode cX5_wholeRootOfS 38 = .ok (.lload_n 1, 1) := by decide +kernel
theorem dX5_wholeRootOfS_39 : decode cX5_wholeRootOfS 39 = .ok (.lload_n 3, 1) := by decide +kernel
theorem dX5_wholeRootOfS_40 : decode cX5_wholeRootOfS 40 = .ok (.invokestatic 51, 3) := by decide +kernel
theorem dX5_wholeRootOfS_43 : decode cX5_wholeRootOfS 43 = .ok (.lstore 5, 2) := by decide +kernel
theorem dX5_wholeRootOfS_45 : decode cX5_wholeRootOfS 45 = .ok (.lload_n 1, 1) := by decide +kernel
theorem dX5_wholeRootOfS_46 : decode cX5_wholeRootOfS 46 = .ok (.lload 5, 2) := by decide +kernel
theorem dX5_wholeRootOfS_48 : decode cX5_wholeRootOfS 48 = .ok (.invokestatic 84, 3) := by decide +kernel
theorem dX5_wholeRootOfS_51 : decode cX5_wholeRootOfS 51 = .ok (.lstore 7, 2) := by decide +kernel
theorem dX5_wholeRootOfS_53 : decode cX5_wholeRootOfS 53 = .ok (.lload_n 3, 1) := by decide +kernel
theorem dX5_wholeRootOfS_54 : decode cX5_wholeRootOfS 54 = .ok (.lload 5, 2) := by decide +kernel
theorem dX5_wholeRootOfS_56 : decode cX5_wholeRootOfS 56 = .ok (.invokestatic 84, 3) := by decide +kernel
theorem dX5_wholeRootOfS_59 : decode cX5_wholeRootOfS 59 = .ok (.lstore 9, 2) := by decide +kernel
theorem dX5_wholeRootOfS_61 : decode cX5_wholeRootOfS 61 = .ok (.lload 7, 2) := by decide +kernel
theorem dX5_wholeRootOfS_63 : decode cX5_wholeRootOfS 63 = .ok (.invokestatic 87, 3) := by decide +kernel
theorem dX5_wholeRootOfS_66 : decode cX5_wholeRootOfS 66 = .ok (.ifCond .eq 11, 3) := by decide +kernel
theorem dX5_wholeRootOfS_69 : decode cX5_wholeRootOfS 69 = .ok (.lload 9, 2) := by decide +kernel
theorem dX5_wholeRootOfS_71 : decode cX5_wholeRootOfS 71 = .ok (.invokestatic 87, 3) := by decide +kernel
theorem dX5_wholeRootOfS_74 : decode cX5_wholeRootOfS 74 = .ok (.ifCond .ne 5, 3) := by decide +kernel
theorem dX5_wholeRootOfS_77 : decode cX5_wholeRootOfS 77 = .ok (.lconst 0, 1) := by decide +kernel
theorem dX5_wholeRootOfS_78 : decode cX5_wholeRootOfS 78 = .ok (.lreturn, 1) := by decide +kernel
theorem dX5_wholeRootOfS_79 : decode cX5_wholeRootOfS 79 = .ok (.lload 5, 2) := by decide +kernel
theorem dX5_wholeRootOfS_81 : decode cX5_wholeRootOfS 81 = .ok (.lload 7, 2) := by decide +kernel
theorem dX5_wholeRootOfS_83 : decode cX5_wholeRootOfS 83 = .ok (.invokestatic 91, 3) := by decide +kernel
theorem dX5_wholeRootOfS_86 : decode cX5_wholeRootOfS 86 = .ok (.lmul, 1) := by decide +kernel
theorem dX5_wholeRootOfS_87 : decode cX5_wholeRootOfS 87 = .ok (.lload 9, 2) := by decide +kernel
theorem dX5_wholeRootOfS_89 : decode cX5_wholeRootOfS 89 = .ok (.invokestatic 91, 3) := by decide +kernel
theorem dX5_wholeRootOfS_92 : decode cX5_wholeRootOfS 92 = .ok (.lmul, 1) := by decide +kernel
theorem dX5_wholeRootOfS_93 : decode cX5_wholeRootOfS 93 = .ok (.lreturn, 1) := by decide +kernel
theorem dX5_wholeArea_0 : decode cX5_wholeArea 0 = .ok (.aload_n 0, 1) := by decide +kernel
theorem dX5_wholeArea_1 : decode cX5_wholeArea 1 = .ok (.invokevirtual 95, 3) := by decide +kernel
theorem dX5_wholeArea_4 : decode cX5_wholeArea 4 = .ok (.ldc2_w 99, 3) := by decide +kernel
theorem dX5_wholeArea_7 : decode cX5_wholeArea 7 = .ok (.invokestatic 84, 3) := by decide +kernel
theorem dX5_wholeArea_10 : decode cX5_wholeArea 10 = .ok (.lreturn, 1) := by decide +kernel
theorem dX5_innerRadius_0 : decode cX5_innerRadius 0 = .ok (.aload_n 0, 1) := by decide +kernel
theorem dX5_innerRadius_1 : decode cX5_innerRadius 1 = .ok (.invokevirtual 95, 3) := by decide +kernel
theorem dX5_innerRadius_4 : decode cX5_innerRadius 4 = .ok (.ldc2_w 62, 3) := by decide +kernel
theorem dX5_innerRadius_7 : decode cX5_innerRadius 7 = .ok (.aload_n 0, 1) := by decide +kernel
theorem dX5_innerRadius_8 : decode cX5_innerRadius 8 = .ok (.invokevirtual 101, 3) := by decide +kernel
theorem dX5_innerRadius_11 : decode cX5_innerRadius 11 = .ok (.i2l, 1) := by decide +kernel
theorem dX5_innerRadius_12 : decode cX5_innerRadius 12 = .ok (.lmul, 1) := by decide +kernel
theorem dX5_innerRadius_13 : decode cX5_innerRadius 13 = .ok (.invokestatic 84, 3) := by decide +kernel
theorem dX5_innerRadius_16 : decode cX5_innerRadius 16 = .ok (.lreturn, 1) := by decide +kernel
theorem dX5_outerDiameter_0 : decode cX5_outerDiameter 0 = .ok (.ldc2_w 62, 3) := by decide +kernel
theorem dX5_outerDiameter_3 : decode cX5_outerDiameter 3 = .ok (.aload_n 0, 1) := by decide +kernel
theorem dX5_outerDiameter_4 : decode cX5_outerDiameter 4 = .ok (.getfield 13, 3) := by decide +kernel
theorem dX5_outerDiameter_7 : decode cX5_outerDiameter 7 = .ok (.i2l, 1) := by decide +kernel
theorem dX5_outerDiameter_8 : decode cX5_outerDiameter 8 = .ok (.lmul, 1) := by decide +kernel
theorem dX5_outerDiameter_9 : decode cX5_outerDiameter 9 = .ok (.aload_n 0, 1) := by decide +kernel
theorem dX5_outerDiameter_10 : decode cX5_outerDiameter 10 = .ok (.getfield 25, 3) := by decide +kernel
theorem dX5_outerDiameter_13 : decode cX5_outerDiameter 13 = .ok (.i2l, 1) := by decide +kernel
theorem dX5_outerDiameter_14 : decode cX5_outerDiameter 14 = .ok (.lmul, 1) := by decide +kernel
theorem dX5_outerDiameter_15 : decode cX5_outerDiameter 15 = .ok (.aload_n 0, 1) := by decide +kernel
theorem dX5_outerDiameter_16 : decode cX5_outerDiameter 16 = .ok (.getfield 22, 3) := by decide +kernel
theorem dX5_outerDiameter_19 : decode cX5_outerDiameter 19 = .ok (.i2l, 1) := by decide +kernel
theorem dX5_outerDiameter_20 : decode cX5_outerDiameter 20 = .ok (.lmul, 1) := by decide +kernel
theorem dX5_outerDiameter_21 : decode cX5_outerDiameter 21 = .ok (.aload_n 0, 1) := by decide +kernel
theorem dX5_outerDiameter_22 : decode cX5_outerDiameter 22 = .ok (.invokevirtual 95, 3) := by decide +kernel
theorem dX5_outerDiameter_25 : decode cX5_outerDiameter 25 = .ok (.invokestatic 84, 3) := by decide +kernel
theorem dX5_outerDiameter_28 : decode cX5_outerDiameter 28 = .ok (.lreturn, 1) := by decide +kernel
end
section
theorem dX6_init_0 : decode cX6_init 0 = .ok (.aload_n 0, 1) := by decide +kernel
theorem dX6_init_1 : decode cX6_init 1 = .ok (.invokespecial 1, 3) := by decide +kernel
theorem dX6_init_4 : decode cX6_init 4 = .ok (.aload_n 0, 1) := by decide +kernel
theorem dX6_init_5 : decode cX6_init 5 = .ok (.bipush 16, 2) := by decide +kernel
theorem dX6_init_7 : decode cX6_init 7 = .ok (.anewarray 9, 3) := by decide +kernel
theorem dX6_init_10 : decode cX6_init 10 = .ok (.putfield 11, 3) := by decide +kernel
theorem dX6_init_13 : decode cX6_init 13 = .ok (.aload_n 0, 1) := by decide +kernel
theorem dX6_init_14 : decode cX6_init 14 = .ok (.new 15, 3) := by decide +kernel
theorem dX6_init_17 : decode cX6_init 17 = .ok (.dup, 1) := by decide +kernel
theorem dX6_init_18 : decode cX6_init 18 = .ok (.invokespecial 17, 3) := by decide +kernel
theorem dX6_init_21 : decode cX6_init 21 = .ok (.putfield 18, 3) := by decide +kernel
theorem dX6_init_24 : decode cX6_init 24 = .ok (.aload_n 0, 1) := by decide +kernel
theorem dX6_init_25 : decode cX6_init 25 = .ok (.new 15, 3) := by decide +kernel
theorem dX6_init_28 : decode cX6_init 28 = .ok (.dup, 1) := by decide +kernel
theorem dX6_init_29 : decode cX6_init 29 = .ok (.invokespecial 17, 3) := by decide +kernel
theorem dX6_init_32 : decode cX6_init 32 = .ok (.putfield 22, 3) := by decide +kernel
theorem dX6_init_35 : decode cX6_init 35 = .ok (.aload_n 0, 1) := by decide +kernel
theorem dX6_init_36 : decode cX6_init 36 = .ok (.new 15, 3) := by decide +kernel
theorem dX6_init_39 : decode cX6_init 39 = .ok (.dup, 1) := by decide +kernel
theorem dX6_init_40 : decode cX6_init 40 = .ok (.invokespecial 17, 3) := by decide +kernel
theorem dX6_init_43 : decode cX6_init 43 = .ok (.putfield 25, 3) := by decide +kernel
theorem dX6_init_46 : decode cX6_init 46 = .ok (.aload_n 0, 1) := by decide +kernel
theorem dX6_init_47 : decode cX6_init 47 = .ok (.bipush 16, 2) := by decide +kernel
theorem dX6_init_49 : decode cX6_init 49 = .ok (.newarray .int, 2) := by decide +kernel
theorem dX6_init_51 : decode cX6_init 51 = .ok (.putfield 28, 3) := by decide +kernel
theorem dX6_init_54 : decode cX6_init 54 = .ok (.aload_n 0, 1) := by decide +kernel
theorem dX6_init_55 : decode cX6_init 55 = .ok (.iconst 0, 1) := by decide +kernel
theorem dX6_init_56 : decode cX6_init 56 = .ok (.putfield 32, 3) := by decide +kernel
theorem dX6_init_59 : decode cX6_init 59 = .ok (.return_, 1) := by decide +kernel
theorem dX6_put_0 : decode cX6_put 0 = .ok (.iload_n 1, 1) := by decide +kernel
theorem dX6_put_1 : decode cX6_put 1 = .ok (.invokestatic 36, 3) := by decide +kernel
theorem dX6_put_4 : decode cX6_put 4 = .ok (.iload_n 2, 1) := by decide +kernel
theorem dX6_put_5 : decode cX6_put 5 = .ok (.invokestatic 40, 3) := by decide +kernel
theorem dX6_put_8 : decode cX6_put 8 = .ok (.ifCond .eq 18, 3) := by decide +kernel
theorem dX6_put_11 : decode cX6_put 11 = .ok (.iload_n 3, 1) := by decide +kernel
theorem dX6_put_12 : decode cX6_put 12 = .ok (.invokestatic 40, 3) := by decide +kernel
theorem dX6_put_15 : decode cX6_put 15 = .ok (.ifCond .eq 11, 3) := by decide +kernel
theorem dX6_put_18 : decode cX6_put 18 = .ok (.iload 4, 2) := by decide +kernel
theorem dX6_put_20 : decode cX6_put 20 = .ok (.invokestatic 40, 3) := by decide +kernel
theorem dX6_put_23 : decode cX6_put 23 = .ok (.ifCond .ne 13, 3) := by decide +kernel
theorem dX6_put_26 : decode cX6_put 26 = .ok (.new 44, 3) := by decide +kernel
theorem dX6_put_29 : decode cX6_put 29 = .ok (.dup, 1) := by decide +kernel
theorem dX6_put_30 : decode cX6_put 30 = .ok (.ldc 46, 2) := by decide +kernel
theorem dX6_put_32 : decode cX6_put 32 = .ok (.invokespecial 48, 3) := by decide +kernel
theorem dX6_put_35 : decode cX6_put 35 = .ok (.athrow, 1) := by decide +kernel
theorem dX6_put_36 : decode cX6_put 36 = .ok (.iload_n 2, 1) := by decide +kernel
theorem dX6_put_37 : decode cX6_put 37 = .ok (.iload_n 3, 1) := by decide +kernel
theorem dX6_put_38 : decode cX6_put 38 = .ok (.iload 4, 2) := by decide +kernel
theorem dX6_put_40 : decode cX6_put 40 = .ok (.iadd, 1) := by decide +kernel
theorem dX6_put_41 : decode cX6_put 41 = .ok (.if_icmp .ge 19, 3) := by decide +kernel
theorem dX6_put_44 : decode cX6_put 44 = .ok (.iload_n 3, 1) := by decide +kernel
theorem dX6_put_45 : decode cX6_put 45 = .ok (.iload_n 2, 1) := by decide +kernel
theorem dX6_put_46 : decode cX6_put 46 = .ok (.iload 4, 2) := by decide +kernel
theorem dX6_put_48 : decode cX6_put 48 = .ok (.iadd, 1) := by decide +kernel
theorem dX6_put_49 : decode cX6_put 49 = .ok (.if_icmp .ge 11, 3) := by decide +kernel
theorem dX6_put_52 : decode cX6_put 52 = .ok (.iload 4, 2) := by decide +kernel
theorem dX6_put_54 : decode cX6_put 54 = .ok (.iload_n 2, 1) := by decide +kernel
theorem dX6_put_55 : decode cX6_put 55 = .ok (.iload_n 3, 1) := by decide +kernel
theorem dX6_put_56 : decode cX6_put 56 = .ok (.iadd, 1) := by decide +kernel
theorem dX6_put_57 : decode cX6_put 57 = .ok (.if_icmp .lt 13, 3) := by decide +kernel
theorem dX6_put_60 : decode cX6_put 60 = .ok (.new 51, 3) := by decide +kernel
theorem dX6_put_63 : decode cX6_put 63 = .ok (.dup, 1) := by decide +kernel
theorem dX6_put_64 : decode cX6_put 64 = .ok (.ldc 53, 2) := by decide +kernel
theorem dX6_put_66 : decode cX6_put 66 = .ok (.invokespecial 55, 3) := by decide +kernel
theorem dX6_put_69 : decode cX6_put 69 = .ok (.athrow, 1) := by decide +kernel
theorem dX6_put_70 : decode cX6_put 70 = .ok (.aload_n 0, 1) := by decide +kernel
theorem dX6_put_71 : decode cX6_put 71 = .ok (.iload_n 1, 1) := by decide +kernel
theorem dX6_put_72 : decode cX6_put 72 = .ok (.new 9, 3) := by decide +kernel
theorem dX6_put_75 : decode cX6_put 75 = .ok (.dup, 1) := by decide +kernel
theorem dX6_put_76 : decode cX6_put 76 = .ok (.iload_n 2, 1) := by decide +kernel
theorem dX6_put_77 : decode cX6_put 77 = .ok (.iload_n 3, 1) := by decide +kernel
theorem dX6_put_78 : decode cX6_put 78 = .ok (.iload 4, 2) := by decide +kernel
theorem dX6_put_80 : decode cX6_put 80 = .ok (.invokespecial 56, 3) := by decide +kernel
theorem dX6_put_83 : decode cX6_put 83 = .ok (.invokevirtual 59, 3) := by decide +kernel
theorem dX6_put_86 : decode cX6_put 86 = .ok (.aload_n 0, 1) := by decide +kernel
theorem dX6_put_87 : decode cX6_put 87 = .ok (.invokevirtual 63, 3) := by decide +kernel
theorem dX6_put_90 : decode cX6_put 90 = .ok (.ireturn, 1) := by decide +kernel
theorem dX6_take_0 : decode cX6_take 0 = .ok (.aload_n 0, 1) := by decide +kernel
theorem dX6_take_1 : decode cX6_take 1 = .ok (.iload_n 1, 1) := by decide +kernel
theorem dX6_take_2 : decode cX6_take 2 = .ok (.invokevirtual 67, 3) := by decide +kernel
theorem dX6_take_5 : decode cX6_take 5 = .ok (.pop, 1) := by decide +kernel
theorem dX6_take_6 : decode cX6_take 6 = .ok (.aload_n 0, 1) := by decide +kernel
theorem dX6_take_7 : decode cX6_take 7 = .ok (.iload_n 1, 1) := by decide +kernel
theorem dX6_take_8 : decode cX6_take 8 = .ok (.aconst_null, 1) := by decide +kernel
theorem dX6_take_9 : decode cX6_take 9 = .ok (.invokevirtual 59, 3) := by decide +kernel
theorem dX6_take_12 : decode cX6_take 12 = .ok (.aload_n 0, 1) := by decide +kernel
theorem dX6_take_13 : decode cX6_take 13 = .ok (.invokevirtual 63, 3) := by decide +kernel
theorem dX6_take_16 : decode cX6_take 16 = .ok (.ireturn, 1) := by decide +kernel
theorem dX6_isHeld_0 : decode cX6_isHeld 0 = .ok (.iload_n 1, 1) := by decide +kernel
theorem dX6_isHeld_1 : decode cX6_isHeld 1 = .ok (.invokestatic 36, 3) := by decide +kernel
theorem dX6_isHeld_4 : decode cX6_isHeld 4 = .ok (.aload_n 0, 1) := by decide +kernel
theorem dX6_isHeld_5 : decode cX6_isHeld 5 = .ok (.iload_n 1, 1) := by decide +kernel
theorem dX6_isHeld_6 : decode cX6_isHeld 6 = .ok (.invokevirtual 71, 3) := by decide +kernel
theorem dX6_isHeld_9 : decode cX6_isHeld 9 = .ok (.ifnull 7, 3) := by decide +kernel
theorem dX6_isHeld_12 : decode cX6_isHeld 12 = .ok (.iconst 1, 1) := by decide +kernel
theorem dX6_isHeld_13 : decode cX6_isHeld 13 = .ok (.goto 4, 3) := by decide +kernel
theorem dX6_isHeld_16 : decode cX6_isHeld 16 = .ok (.iconst 0, 1) := by decide +kernel
theorem dX6_isHeld_17 : decode cX6_isHeld 17 = .ok (.ireturn, 1) := by decide +kernel
theorem dX6_side_0 : decode cX6_side 0 = .ok (.iload_n 1, 1) := by decide +kernel
theorem dX6_side_1 : decode cX6_side 1 = .ok (.invokestatic 36, 3) := by decide +kernel
theorem dX6_side_4 : decode cX6_side 4 = .ok (.iload_n 2, 1) := by decide +kernel
theorem dX6_side_5 : decode cX6_side 5 = .ok (.invokestatic 74, 3) := by decide +kernel
theorem dX6_side_8 : decode cX6_side 8 = .ok (.aload_n 0, 1) := by decide +kernel
theorem dX6_side_9 : decode cX6_side 9 = .ok (.iload_n 1, 1) := by decide +kernel
theorem dX6_side_10 : decode cX6_side 10 = .ok (.invokevirtual 67, 3) := by decide +kernel
theorem dX6_side_13 : decode cX6_side 13 = .ok (.iload_n 2, 1) := by decide +kernel
theorem dX6_side_14 : decode cX6_side 14 = .ok (.invokevirtual 77, 3) := by decide +kernel
theorem dX6_side_17 : decode cX6_side 17 = .ok (.ireturn, 1) := by decide +kernel
theorem dX6_copy_0 : decode cX6_copy 0 = .ok (.iload_n 1, 1) := by decide +kernel
theorem dX6_copy_1 : decode cX6_copy 1 = .ok (.invokestatic 36, 3) := by decide +kernel
theorem dX6_copy_4 : decode cX6_copy 4 = .ok (.iload_n 2, 1) := by decide +kernel
theorem dX6_copy_5 : decode cX6_copy 5 = .ok (.invokestatic 36, 3) := by decide +kernel
theorem dX6_copy_8 : decode cX6_copy 8 = .ok (.aload_n 0, 1) := by decide +kernel
theorem dX6_copy_9 : decode cX6_copy 9 = .ok (.iload_n 2, 1) := by decide +kernel
theorem dX6_copy_10 : decode cX6_copy 10 = .ok (.aload_n 0, 1) := by decide +kernel
theorem dX6_copy_11 : decode cX6_copy 11 = .ok (.iload_n 1, 1) := by decide +kernel
theorem dX6_copy_12 : decode cX6_copy 12 = .ok (.invokevirtual 67, 3) := by decide +kernel
theorem dX6_copy_15 : decode cX6_copy 15 = .ok (.invokevirtual 59, 3) := by decide +kernel
theorem dX6_copy_18 : decode cX6_copy 18 = .ok (.aload_n 0, 1) := by decide +kernel
theorem dX6_copy_19 : decode cX6_copy 19 = .ok (.invokevirtual 63, 3) := by decide +kernel
theorem dX6_copy_22 : decode cX6_copy 22 = .ok (.ireturn, 1) := by decide +kernel
theorem dX6_scale_0 : decode cX6_scale 0 = .ok (.iload_n 1, 1) := by decide +kernel
theorem dX6_scale_1 : decode cX6_scale 1 = .ok (.invokestatic 36, 3) := by decide +kernel
theorem dX6_scale_4 : decode cX6_scale 4 = .ok (.iload_n 2, 1) := by decide +kernel
theorem dX6_scale_5 : decode cX6_scale 5 = .ok (.iconst 1, 1) := by decide +kernel
theorem dX6_scale_6 : decode cX6_scale 6 = .ok (.if_icmp .lt 9, 3) := by decide +kernel
theorem dX6_scale_9 : decode cX6_scale 9 = .ok (.iload_n 2, 1) := by decide +kernel
theorem dX6_scale_10 : decode cX6_scale 10 = .ok (.bipush 64, 2) := by decide +kernel
theorem dX6_scale_12 : decode cX6_scale 12 = .ok (.if_icmp .le 13, 3) := by decide +kernel
theorem dX6_scale_15 : decode cX6_scale 15 = .ok (.new 44, 3) := by decide +kernel
theorem dX6_scale_18 : decode cX6_scale 18 = .ok (.dup, 1) := by decide +kernel
theorem dX6_scale_19 : decode cX6_scale 19 = .ok (.ldc 81, 2) := by decide +kernel
theorem dX6_scale_21 : decode cX6_scale 21 = .ok (.invokespecial 48, 3) := by decide +kernel
theorem dX6_scale_24 : decode cX6_scale 24 = .ok (.athrow, 1) := by decide +kernel
theorem dX6_scale_25 : decode cX6_scale 25 = .ok (.aload_n 0, 1) := by decide +kernel
theorem dX6_scale_26 : decode cX6_scale 26 = .ok (.iload_n 1, 1) := by decide +kernel
theorem dX6_scale_27 : decode cX6_scale 27 = .ok (.invokevirtual 67, 3) := by decide +kernel
theorem dX6_scale_30 : decode cX6_scale 30 = .ok (.astore_n 3, 1) := by decide +kernel
theorem dX6_scale_31 : decode cX6_scale 31 = .ok (.aload_n 0, 1) := by decide +kernel
theorem dX6_scale_32 : decode cX6_scale 32 = .ok (.iload_n 1, 1) := by decide +kernel
theorem dX6_scale_33 : decode cX6_scale 33 = .ok (.iload_n 2, 1) := by decide +kernel
theorem dX6_scale_34 : decode cX6_scale 34 = .ok (.aload_n 3, 1) := by decide +kernel
theorem dX6_scale_35 : decode cX6_scale 35 = .ok (.getfield 83, 3) := by decide +kernel
theorem dX6_scale_38 : decode cX6_scale 38 = .ok (.imul, 1) := by decide +kernel
theorem dX6_scale_39 : decode cX6_scale 39 = .ok (.iload_n 2, 1) := by decide +kernel
theorem dX6_scale_40 : decode cX6_scale 40 = .ok (.aload_n 3, 1) := by decide +kernel
theorem dX6_scale_41 : decode cX6_scale 41 = .ok (.getfield 86, 3) := by decide +kernel
theorem dX6_scale_44 : decode cX6_scale 44 = .ok (.imul, 1) := by decide +kernel
theorem dX6_scale_45 : decode cX6_scale 45 = .ok (.iload_n 2, 1) := by decide +kernel
theorem dX6_scale_46 : decode cX6_scale 46 = .ok (.aload_n 3, 1) := by decide +kernel
theorem dX6_scale_47 : decode cX6_scale 47 = .ok (.getfield 89, 3) := by decide +kernel
theorem dX6_scale_50 : decode cX6_scale 50 = .ok (.imul, 1) := by decide +kernel
theorem dX6_scale_51 : decode cX6_scale 51 = .ok (.invokevirtual 92, 3) := by decide +kernel
theorem dX6_scale_54 : decode cX6_scale 54 = .ok (.ireturn, 1) := by decide +kernel
theorem dX6_reduce_0 : decode cX6_reduce 0 = .ok (.aload_n 0, 1) := by decide +kernel
theorem dX6_reduce_1 : decode cX6_reduce 1 = .ok (.iload_n 1, 1) := by decide +kernel
theorem dX6_reduce_2 : decode cX6_reduce 2 = .ok (.invokevirtual 67, 3) := by decide +kernel
theorem dX6_reduce_5 : decode cX6_reduce 5 = .ok (.astore_n 2, 1) := by decide +kernel
theorem dX6_reduce_6 : decode cX6_reduce 6 = .ok (.aload_n 2, 1) := by decide +kernel
theorem dX6_reduce_7 : decode cX6_reduce 7 = .ok (.invokevirtual 96, 3) := by decide +kernel
theorem dX6_reduce_10 : decode cX6_reduce 10 = .ok (.istore_n 3, 1) := by decide +kernel
theorem dX6_reduce_11 : decode cX6_reduce 11 = .ok (.iload_n 3, 1) := by decide +kernel
theorem dX6_reduce_12 : decode cX6_reduce 12 = .ok (.iconst 1, 1) := by decide +kernel
theorem dX6_reduce_13 : decode cX6_reduce 13 = .ok (.if_icmp .le 33, 3) := by decide +kernel
theorem dX6_reduce_16 : decode cX6_reduce 16 = .ok (.aload_n 0, 1) := by decide +kernel
theorem dX6_reduce_17 : decode cX6_reduce 17 = .ok (.iload_n 1, 1) := by decide +kernel
theorem dX6_reduce_18 : decode cX6_reduce 18 = .ok (.new 9, 3) := by decide +kernel
theorem dX6_reduce_21 : decode cX6_reduce 21 = .ok (.dup, 1) := by decide +kernel
theorem dX6_reduce_22 : decode cX6_reduce 22 = .ok (.aload_n 2, 1) := by decide +kernel
theorem dX6_reduce_23 : decode cX6_reduce 23 = .ok (.getfield 83, 3) := by decide +kernel
theorem dX6_reduce_26 : decode cX6_reduce 26 = .ok (.iload_n 3, 1) := by decide +kernel
theorem dX6_reduce_27 : decode cX6_reduce 27 = .ok (.idiv, 1) := by decide +kernel
theorem dX6_reduce_28 : decode cX6_reduce 28 = .ok (.aload_n 2, 1) := by decide +kernel
theorem dX6_reduce_29 : decode cX6_reduce 29 = .ok (.getfield 86, 3) := by decide +kernel
theorem dX6_reduce_32 : decode cX6_reduce 32 = .ok (.iload_n 3, 1) := by decide +kernel
theorem dX6_reduce_33 : decode cX6_reduce 33 = .ok (.idiv, 1) := by decide +kernel
theorem dX6_reduce_34 : decode cX6_reduce 34 = .ok (.aload_n 2, 1) := by decide +kernel
theorem dX6_reduce_35 : decode cX6_reduce 35 = .ok (.getfield 89, 3) := by decide +kernel
theorem dX6_reduce_38 : decode cX6_reduce 38 = .ok (.iload_n 3, 1) := by decide +kernel
theorem dX6_reduce_39 : decode cX6_reduce 39 = .ok (.idiv, 1) := by decide +kernel
theorem dX6_reduce_40 : decode cX6_reduce 40 = .ok (.invokespecial 56, 3) := by decide +kernel
theorem dX6_reduce_43 : decode cX6_reduce 43 = .ok (.invokevirtual 59, 3) := by decide +kernel
theorem dX6_reduce_46 : decode cX6_reduce 46 = .ok (.iload_n 3, 1) := by decide +kernel
theorem dX6_reduce_47 : decode cX6_reduce 47 = .ok (.ireturn, 1) := by decide +kernel
theorem dX6_join_0 : decode cX6_join 0 = .ok (.iload_n 1, 1) := by decide +kernel
theorem dX6_join_1 : decode cX6_join 1 = .ok (.invokestatic 36, 3) := by decide +kernel
theorem dX6_join_4 : decode cX6_join 4 = .ok (.iload_n 2, 1) := by decide +kernel
theorem dX6_join_5 : decode cX6_join 5 = .ok (.invokestatic 36, 3) := by decide +kernel
theorem dX6_join_8 : decode cX6_join 8 = .ok (.iload_n 3, 1) := by decide +kernel
theorem dX6_join_9 : decode cX6_join 9 = .ok (.invokestatic 36, 3) := by decide +kernel
theorem dX6_join_12 : decode cX6_join 12 = .ok (.aload_n 0, 1) := by decide +kernel
theorem dX6_join_13 : decode cX6_join 13 = .ok (.iload_n 1, 1) := by decide +kernel
theorem dX6_join_14 : decode cX6_join 14 = .ok (.invokevirtual 67, 3) := by decide +kernel
theorem dX6_join_17 : decode cX6_join 17 = .ok (.astore 4, 2) := by decide +kernel
theorem dX6_join_19 : decode cX6_join 19 = .ok (.aload_n 0, 1) := by decide +kernel
theorem dX6_join_20 : decode cX6_join 20 = .ok (.iload_n 2, 1) := by decide +kernel
theorem dX6_join_21 : decode cX6_join 21 = .ok (.invokevirtual 67, 3) := by decide +kernel
theorem dX6_join_24 : decode cX6_join 24 = .ok (.astore 5, 2) := by decide +kernel
theorem dX6_join_26 : decode cX6_join 26 = .ok (.aload 4, 2) := by decide +kernel
theorem dX6_join_28 : decode cX6_join 28 = .ok (.invokevirtual 99, 3) := by decide +kernel
theorem dX6_join_31 : decode cX6_join 31 = .ok (.ifCond .ne 11, 3) := by decide +kernel
theorem dX6_join_34 : decode cX6_join 34 = .ok (.aload 5, 2) := by decide +kernel
theorem dX6_join_36 : decode cX6_join 36 = .ok (.invokevirtual 99, 3) := by decide +kernel
theorem dX6_join_39 : decode cX6_join 39 = .ok (.ifCond .eq 13, 3) := by decide +kernel
theorem dX6_join_42 : decode cX6_join 42 = .ok (.new 51, 3) := by decide +kernel
theorem dX6_join_45 : decode cX6_join 45 = .ok (.dup, 1) := by decide +kernel
theorem dX6_join_46 : decode cX6_join 46 = .ok (.ldc 102, 2) := by decide +kernel
theorem dX6_join_48 : decode cX6_join 48 = .ok (.invokespecial 55, 3) := by decide +kernel
theorem dX6_join_51 : decode cX6_join 51 = .ok (.athrow, 1) := by decide +kernel
theorem dX6_join_52 : decode cX6_join 52 = .ok (.aload 4, 2) := by decide +kernel
theorem dX6_join_54 : decode cX6_join 54 = .ok (.aload 5, 2) := by decide +kernel
theorem dX6_join_56 : decode cX6_join 56 = .ok (.getfield 86, 3) := by decide +kernel
theorem dX6_join_59 : decode cX6_join 59 = .ok (.invokevirtual 104, 3) := by decide +kernel
theorem dX6_join_62 : decode cX6_join 62 = .ok (.ifCond .eq 11, 3) := by decide +kernel
theorem dX6_join_65 : decode cX6_join 65 = .ok (.aload 5, 2) := by decide +kernel
theorem dX6_join_67 : decode cX6_join 67 = .ok (.getfield 86, 3) := by decide +kernel
theorem dX6_join_70 : decode cX6_join 70 = .ok (.goto 8, 3) := by decide +kernel
theorem dX6_join_73 : decode cX6_join 73 = .ok (.aload 5, 2) := by decide +kernel
theorem dX6_join_75 : decode cX6_join 75 = .ok (.getfield 83, 3) := by decide +kernel
theorem dX6_join_78 : decode cX6_join 78 = .ok (.istore 6, 2) := by decide +kernel
theorem dX6_join_80 : decode cX6_join 80 = .ok (.aload 4, 2) := by decide +kernel
theorem dX6_join_82 : decode cX6_join 82 = .ok (.iload 6, 2) := by decide +kernel
theorem dX6_join_84 : decode cX6_join 84 = .ok (.invokevirtual 104, 3) := by decide +kernel
theorem dX6_join_87 : decode cX6_join 87 = .ok (.ifCond .ne 13, 3) := by decide +kernel
theorem dX6_join_90 : decode cX6_join 90 = .ok (.new 51, 3) := by decide +kernel
theorem dX6_join_93 : decode cX6_join 93 = .ok (.dup, 1) := by decide +kernel
theorem dX6_join_94 : decode cX6_join 94 = .ok (.ldc 107, 2) := by decide +kernel
theorem dX6_join_96 : decode cX6_join 96 = .ok (.invokespecial 55, 3) := by decide +kernel
theorem dX6_join_99 : decode cX6_join 99 = .ok (.athrow, 1) := by decide +kernel
theorem dX6_join_100 : decode cX6_join 100 = .ok (.aload_n 0, 1) := by decide +kernel
theorem dX6_join_101 : decode cX6_join 101 = .ok (.iload_n 3, 1) := by decide +kernel
theorem dX6_join_102 : decode cX6_join 102 = .ok (.aload 4, 2) := by decide +kernel
theorem dX6_join_104 : decode cX6_join 104 = .ok (.getfield 89, 3) := by decide +kernel
theorem dX6_join_107 : decode cX6_join 107 = .ok (.aload 5, 2) := by decide +kernel
theorem dX6_join_109 : decode cX6_join 109 = .ok (.getfield 89, 3) := by decide +kernel
theorem dX6_join_112 : decode cX6_join 112 = .ok (.aload 4, 2) := by decide +kernel
theorem dX6_join_114 : decode cX6_join 114 = .ok (.iload 6, 2) := by decide +kernel
theorem dX6_join_116 : decode cX6_join 116 = .ok (.invokevirtual 109, 3) := by decide +kernel
theorem dX6_join_119 : decode cX6_join 119 = .ok (.aload 5, 2) := by decide +kernel
theorem dX6_join_121 : decode cX6_join 121 = .ok (.iload 6, 2) := by decide +kernel
theorem dX6_join_123 : decode cX6_join 123 = .ok (.invokevirtual 109, 3) := by decide +kernel
theorem dX6_join_126 : decode cX6_join 126 = .ok (.iadd, 1) := by decide +kernel
theorem dX6_join_127 : decode cX6_join 127 = .ok (.invokevirtual 92, 3) := by decide +kernel
theorem dX6_join_130 : decode cX6_join 130 = .ok (.ireturn, 1) := by decide +kernel
theorem dX6_kind_0 : decode cX6_kind 0 = .ok (.aload_n 0, 1) := by decide +kernel
theorem dX6_kind_1 : decode cX6_kind 1 = .ok (.iload_n 1, 1) := by decide +kernel
theorem dX6_kind_2 : decode cX6_kind 2 = .ok (.invokevirtual 67, 3) := by decide +kernel
theorem dX6_kind_5 : decode cX6_kind 5 = .ok (.invokevirtual 99, 3) := by decide +kernel
theorem dX6_kind_8 : decode cX6_kind 8 = .ok (.ireturn, 1) := by decide +kernel
theorem dX6_angle_0 : decode cX6_angle 0 = .ok (.iload_n 1, 1) := by decide +kernel
theorem dX6_angle_1 : decode cX6_angle 1 = .ok (.invokestatic 36, 3) := by decide +kernel
theorem dX6_angle_4 : decode cX6_angle 4 = .ok (.iload_n 2, 1) := by decide +kernel
theorem dX6_angle_5 : decode cX6_angle 5 = .ok (.invokestatic 74, 3) := by decide +kernel
theorem dX6_angle_8 : decode cX6_angle 8 = .ok (.aload_n 0, 1) := by decide +kernel
theorem dX6_angle_9 : decode cX6_angle 9 = .ok (.iload_n 1, 1) := by decide +kernel
theorem dX6_angle_10 : decode cX6_angle 10 = .ok (.invokevirtual 67, 3) := by decide +kernel
theorem dX6_angle_13 : decode cX6_angle 13 = .ok (.iload_n 2, 1) := by decide +kernel
theorem dX6_angle_14 : decode cX6_angle 14 = .ok (.invokevirtual 112, 3) := by decide +kernel
theorem dX6_angle_17 : decode cX6_angle 17 = .ok (.ireturn, 1) := by decide +kernel
theorem dX6_areaIsWhole_0 : decode cX6_areaIsWhole 0 = .ok (.aload_n 0, 1) := by decide +kernel
theorem dX6_areaIsWhole_1 : decode cX6_areaIsWhole 1 = .ok (.iload_n 1, 1) := by decide +kernel
theorem dX6_areaIsWhole_2 : decode cX6_areaIsWhole 2 = .ok (.invokevirtual 67, 3) := by decide +kernel
theorem dX6_areaIsWhole_5 : decode cX6_areaIsWhole 5 = .ok (.invokevirtual 115, 3) := by decide +kernel
theorem dX6_areaIsWhole_8 : decode cX6_areaIsWhole 8 = .ok (.lconst 0, 1) := by decide +kernel
theorem dX6_areaIsWhole_9 : decode cX6_areaIsWhole 9 = .ok (.lcmp, 1) := by decide +kernel
theorem dX6_areaIsWhole_10 : decode cX6_areaIsWhole 10 = .ok (.ifCond .le 7, 3) := by decide +kernel
theorem dX6_areaIsWhole_13 : decode cX6_areaIsWhole 13 = .ok (.iconst 1, 1) := by decide +kernel
theorem dX6_areaIsWhole_14 : decode cX6_areaIsWhole 14 = .ok (.goto 4, 3) := by decide +kernel
theorem dX6_areaIsWhole_17 : decode cX6_areaIsWhole 17 = .ok (.iconst 0, 1) := by decide +kernel
theorem dX6_areaIsWhole_18 : decode cX6_areaIsWhole 18 = .ok (.ireturn, 1) := by decide +kernel
theorem dX6_area_0 : decode cX6_area 0 = .ok (.aload_n 0, 1) := by decide +kernel
theorem dX6_area_1 : decode cX6_area 1 = .ok (.iload_n 1, 1) := by decide +kernel
theorem dX6_area_2 : decode cX6_area 2 = .ok (.invokevirtual 67, 3) := by decide +kernel
theorem dX6_area_5 : decode cX6_area 5 = .ok (.invokevirtual 115, 3) := by decide +kernel
theorem dX6_area_8 : decode cX6_area 8 = .ok (.lstore_n 2, 1) := by decide +kernel
theorem dX6_area_9 : decode cX6_area 9 = .ok (.lload_n 2, 1) := by decide +kernel
theorem dX6_area_10 : decode cX6_area 10 = .ok (.lconst 0, 1) := by decide +kernel
theorem dX6_area_11 : decode cX6_area 11 = .ok (.lcmp, 1) := by decide +kernel
theorem dX6_area_12 : decode cX6_area 12 = .ok (.ifCond .ne 13, 3) := by decide +kernel
theorem dX6_area_15 : decode cX6_area 15 = .ok (.new 51, 3) := by decide +kernel
theorem dX6_area_18 : decode cX6_area 18 = .ok (.dup, 1) := by decide +kernel
theorem dX6_area_19 : decode cX6_area 19 = .ok (.ldc 119, 2) := by decide +kernel
theorem dX6_area_21 : decode cX6_area 21 = .ok (.invokespecial 55, 3) := by decide +kernel
theorem dX6_area_24 : decode cX6_area 24 = .ok (.athrow, 1) := by decide +kernel
theorem dX6_area_25 : decode cX6_area 25 = .ok (.lload_n 2, 1) := by decide +kernel
theorem dX6_area_26 : decode cX6_area 26 = .ok (.lreturn, 1) := by decide +kernel
theorem dX6_circle_0 : decode cX6_circle 0 = .ok (.iload_n 1, 1) := by decide +kernel
theorem dX6_circle_1 : decode cX6_circle 1 = .ok (.invokestatic 36, 3) := by decide +kernel
theorem dX6_circle_4 : decode cX6_circle 4 = .ok (.iload_n 2, 1) := by decide +kernel
theorem dX6_circle_5 : decode cX6_circle 5 = .ok (.bipush 105, 2) := by decide +kernel
theorem dX6_circle_7 : decode cX6_circle 7 = .ok (.if_icmp .eq 19, 3) := by decide +kernel
theorem dX6_circle_10 : decode cX6_circle 10 = .ok (.iload_n 2, 1) := by decide +kernel
theorem dX6_circle_11 : decode cX6_circle 11 = .ok (.bipush 111, 2) := by decide +kernel
theorem dX6_circle_13 : decode cX6_circle 13 = .ok (.if_icmp .eq 13, 3) := by decide +kernel
theorem dX6_circle_16 : decode cX6_circle 16 = .ok (.new 44, 3) := by decide +kernel
theorem dX6_circle_19 : decode cX6_circle 19 = .ok (.dup, 1) := by decide +kernel
theorem dX6_circle_20 : decode cX6_circle 20 = .ok (.ldc 121, 2) := by decide +kernel
theorem dX6_circle_22 : decode cX6_circle 22 = .ok (.invokespecial 48, 3) := by decide +kernel
theorem dX6_circle_25 : decode cX6_circle 25 = .ok (.athrow, 1) := by decide +kernel
theorem dX6_circle_26 : decode cX6_circle 26 = .ok (.aload_n 0, 1) := by decide +kernel
theorem dX6_circle_27 : decode cX6_circle 27 = .ok (.iload_n 1, 1) := by decide +kernel
theorem dX6_circle_28 : decode cX6_circle 28 = .ok (.invokevirtual 67, 3) := by decide +kernel
theorem dX6_circle_31 : decode cX6_circle 31 = .ok (.astore_n 3, 1) := by decide +kernel
theorem dX6_circle_32 : decode cX6_circle 32 = .ok (.iload_n 2, 1) := by decide +kernel
theorem dX6_circle_33 : decode cX6_circle 33 = .ok (.bipush 105, 2) := by decide +kernel
theorem dX6_circle_35 : decode cX6_circle 35 = .ok (.if_icmp .ne 10, 3) := by decide +kernel
theorem dX6_circle_38 : decode cX6_circle 38 = .ok (.aload_n 3, 1) := by decide +kernel
theorem dX6_circle_39 : decode cX6_circle 39 = .ok (.invokevirtual 123, 3) := by decide +kernel
theorem dX6_circle_42 : decode cX6_circle 42 = .ok (.goto 7, 3) := by decide +kernel
theorem dX6_circle_45 : decode cX6_circle 45 = .ok (.aload_n 3, 1) := by decide +kernel
theorem dX6_circle_46 : decode cX6_circle 46 = .ok (.invokevirtual 126, 3) := by decide +kernel
theorem dX6_circle_49 : decode cX6_circle 49 = .ok (.lstore 4, 2) := by decide +kernel
theorem dX6_circle_51 : decode cX6_circle 51 = .ok (.lload 4, 2) := by decide +kernel
theorem dX6_circle_53 : decode cX6_circle 53 = .ok (.lconst 0, 1) := by decide +kernel
theorem dX6_circle_54 : decode cX6_circle 54 = .ok (.lcmp, 1) := by decide +kernel
theorem dX6_circle_55 : decode cX6_circle 55 = .ok (.ifCond .ne 13, 3) := by decide +kernel
theorem dX6_circle_58 : decode cX6_circle 58 = .ok (.new 51, 3) := by decide +kernel
theorem dX6_circle_61 : decode cX6_circle 61 = .ok (.dup, 1) := by decide +kernel
theorem dX6_circle_62 : decode cX6_circle 62 = .ok (.ldc 129, 2) := by decide +kernel
theorem dX6_circle_64 : decode cX6_circle 64 = .ok (.invokespecial 55, 3) := by decide +kernel
theorem dX6_circle_67 : decode cX6_circle 67 = .ok (.athrow, 1) := by decide +kernel
theorem dX6_circle_68 : decode cX6_circle 68 = .ok (.lload 4, 2) := by decide +kernel
theorem dX6_circle_70 : decode cX6_circle 70 = .ok (.lreturn, 1) := by decide +kernel
theorem dX6_compareAreas_0 : decode cX6_compareAreas 0 = .ok (.iload_n 1, 1) := by decide +kernel
theorem dX6_compareAreas_1 : decode cX6_compareAreas 1 = .ok (.invokestatic 36, 3) := by decide +kernel
theorem dX6_compareAreas_4 : decode cX6_compareAreas 4 = .ok (.iload_n 2, 1) := by decide +kernel
theorem dX6_compareAreas_5 : decode cX6_compareAreas 5 = .ok (.invokestatic 36, 3) := by decide +kernel
theorem dX6_compareAreas_8 : decode cX6_compareAreas 8 = .ok (.aload_n 0, 1) := by decide +kernel
theorem dX6_compareAreas_9 : decode cX6_compareAreas 9 = .ok (.iload_n 1, 1) := by decide +kernel
theorem dX6_compareAreas_10 : decode cX6_compareAreas 10 = .ok (.invokevirtual 67, 3) := by decide +kernel
theorem dX6_compareAreas_13 : decode cX6_compareAreas 13 = .ok (.astore_n 3, 1) := by decide +kernel
theorem dX6_compareAreas_14 : decode cX6_compareAreas 14 = .ok (.aload_n 3, 1) := by decide +kernel
theorem dX6_compareAreas_15 : decode cX6_compareAreas 15 = .ok (.aload_n 0, 1) := by decide +kernel
theorem dX6_compareAreas_16 : decode cX6_compareAreas 16 = .ok (.iload_n 2, 1) := by decide +kernel
theorem dX6_compareAreas_17 : decode cX6_compareAreas 17 = .ok (.invokevirtual 67, 3) := by decide +kernel
theorem dX6_compareAreas_20 : decode cX6_compareAreas 20 = .ok (.invokevirtual 131, 3) := by decide +kernel
theorem dX6_compareAreas_23 : decode cX6_compareAreas 23 = .ok (.ireturn, 1) := by decide +kernel
theorem dX6_product_0 : decode cX6_product 0 = .ok (.aload_n 0, 1) := by decide +kernel
theorem dX6_product_1 : decode cX6_product 1 = .ok (.iload_n 1, 1) := by decide +kernel
theorem dX6_product_2 : decode cX6_product 2 = .ok (.invokevirtual 67, 3) := by decide +kernel
theorem dX6_product_5 : decode cX6_product 5 = .ok (.invokevirtual 135, 3) := by decide +kernel
theorem dX6_product_8 : decode cX6_product 8 = .ok (.lreturn, 1) := by decide +kernel
theorem dX6_bits_0 : decode cX6_bits 0 = .ok (.aload_n 0, 1) := by decide +kernel
theorem dX6_bits_1 : decode cX6_bits 1 = .ok (.iload_n 1, 1) := by decide +kernel
theorem dX6_bits_2 : decode cX6_bits 2 = .ok (.invokevirtual 67, 3) := by decide +kernel
theorem dX6_bits_5 : decode cX6_bits 5 = .ok (.invokevirtual 138, 3) := by decide +kernel
theorem dX6_bits_8 : decode cX6_bits 8 = .ok (.ireturn, 1) := by decide +kernel
theorem dX6_hypot_0 : decode cX6_hypot 0 = .ok (.iload_n 1, 1) := by decide +kernel
theorem dX6_hypot_1 : decode cX6_hypot 1 = .ok (.invokestatic 36, 3) := by decide +kernel
theorem dX6_hypot_4 : decode cX6_hypot 4 = .ok (.iload_n 2, 1) := by decide +kernel
theorem dX6_hypot_5 : decode cX6_hypot 5 = .ok (.invokestatic 74, 3) := by decide +kernel
theorem dX6_hypot_8 : decode cX6_hypot 8 = .ok (.iload_n 3, 1) := by decide +kernel
theorem dX6_hypot_9 : decode cX6_hypot 9 = .ok (.invokestatic 74, 3) := by decide +kernel
theorem dX6_hypot_12 : decode cX6_hypot 12 = .ok (.aload_n 0, 1) := by decide +kernel
theorem dX6_hypot_13 : decode cX6_hypot 13 = .ok (.iload_n 1, 1) := by decide +kernel
theorem dX6_hypot_14 : decode cX6_hypot 14 = .ok (.invokevirtual 67, 3) := by decide +kernel
theorem dX6_hypot_17 : decode cX6_hypot 17 = .ok (.astore 4, 2) := by decide +kernel
theorem dX6_hypot_19 : decode cX6_hypot 19 = .ok (.aload 4, 2) := by decide +kernel
theorem dX6_hypot_21 : decode cX6_hypot 21 = .ok (.iload_n 2, 1) := by decide +kernel
theorem dX6_hypot_22 : decode cX6_hypot 22 = .ok (.invokevirtual 77, 3) := by decide +kernel
theorem dX6_hypot_25 : decode cX6_hypot 25 = .ok (.aload 4, 2) := by decide +kernel
theorem dX6_hypot_27 : decode cX6_hypot 27 = .ok (.iload_n 3, 1) := by decide +kernel
theorem dX6_hypot_28 : decode cX6_hypot 28 = .ok (.invokevirtual 77, 3) := by decide +kernel
theorem dX6_hypot_31 : decode cX6_hypot 31 = .ok (.invokestatic 141, 3) := by decide +kernel
theorem dX6_hypot_34 : decode cX6_hypot 34 = .ok (.dreturn, 1) := by decide +kernel
theorem dX6_root_0 : decode cX6_root 0 = .ok (.lload_n 1, 1) := by decide +kernel
theorem dX6_root_1 : decode cX6_root 1 = .ok (.invokestatic 147, 3) := by decide +kernel
theorem dX6_root_4 : decode cX6_root 4 = .ok (.lload_n 1, 1) := by decide +kernel
theorem dX6_root_5 : decode cX6_root 5 = .ok (.invokestatic 151, 3) := by decide +kernel
theorem dX6_root_8 : decode cX6_root 8 = .ok (.dreturn, 1) := by decide +kernel
theorem dX6_shape_0 : decode cX6_shape 0 = .ok (.aload_n 0, 1) := by decide +kernel
theorem dX6_shape_1 : decode cX6_shape 1 = .ok (.iload_n 1, 1) := by decide +kernel
theorem dX6_shape_2 : decode cX6_shape 2 = .ok (.invokevirtual 67, 3) := by decide +kernel
theorem dX6_shape_5 : decode cX6_shape 5 = .ok (.astore_n 2, 1) := by decide +kernel
theorem dX6_shape_6 : decode cX6_shape 6 = .ok (.aload_n 2, 1) := by decide +kernel
theorem dX6_shape_7 : decode cX6_shape 7 = .ok (.getfield 83, 3) := by decide +kernel
theorem dX6_shape_10 : decode cX6_shape 10 = .ok (.i2f, 1) := by decide +kernel
theorem dX6_shape_11 : decode cX6_shape 11 = .ok (.aload_n 2, 1) := by decide +kernel
theorem dX6_shape_12 : decode cX6_shape 12 = .ok (.getfield 89, 3) := by decide +kernel
theorem dX6_shape_15 : decode cX6_shape 15 = .ok (.i2f, 1) := by decide +kernel
theorem dX6_shape_16 : decode cX6_shape 16 = .ok (.fdiv, 1) := by decide +kernel
theorem dX6_shape_17 : decode cX6_shape 17 = .ok (.freturn, 1) := by decide +kernel
theorem dX6_mean_0 : decode cX6_mean 0 = .ok (.aload_n 0, 1) := by decide +kernel
theorem dX6_mean_1 : decode cX6_mean 1 = .ok (.invokevirtual 63, 3) := by decide +kernel
theorem dX6_mean_4 : decode cX6_mean 4 = .ok (.istore_n 1, 1) := by decide +kernel
theorem dX6_mean_5 : decode cX6_mean 5 = .ok (.iload_n 1, 1) := by decide +kernel
theorem dX6_mean_6 : decode cX6_mean 6 = .ok (.ifCond .ne 5, 3) := by decide +kernel
theorem dX6_mean_9 : decode cX6_mean 9 = .ok (.dconst 0, 1) := by decide +kernel
theorem dX6_mean_10 : decode cX6_mean 10 = .ok (.dreturn, 1) := by decide +kernel
theorem dX6_mean_11 : decode cX6_mean 11 = .ok (.iconst 0, 1) := by decide +kernel
theorem dX6_mean_12 : decode cX6_mean 12 = .ok (.istore_n 2, 1) := by decide +kernel
theorem dX6_mean_13 : decode cX6_mean 13 = .ok (.iconst 0, 1) := by decide +kernel
theorem dX6_mean_14 : decode cX6_mean 14 = .ok (.istore_n 3, 1) := by decide +kernel
theorem dX6_mean_15 : decode cX6_mean 15 = .ok (.iload_n 3, 1) := by decide +kernel
theorem dX6_mean_16 : decode cX6_mean 16 = .ok (.bipush 16, 2) := by decide +kernel
theorem dX6_mean_18 : decode cX6_mean 18 = .ok (.if_icmp .ge 33, 3) := by decide +kernel
theorem dX6_mean_21 : decode cX6_mean 21 = .ok (.aload_n 0, 1) := by decide +kernel
theorem dX6_mean_22 : decode cX6_mean 22 = .ok (.iload_n 3, 1) := by decide +kernel
theorem dX6_mean_23 : decode cX6_mean 23 = .ok (.invokevirtual 71, 3) := by decide +kernel
theorem dX6_mean_26 : decode cX6_mean 26 = .ok (.astore 4, 2) := by decide +kernel
theorem dX6_mean_28 : decode cX6_mean 28 = .ok (.iload_n 2, 1) := by decide +kernel
theorem dX6_mean_29 : decode cX6_mean 29 = .ok (.aload 4, 2) := by decide +kernel
theorem dX6_mean_31 : decode cX6_mean 31 = .ok (.ifnonnull 7, 3) := by decide +kernel
theorem dX6_mean_34 : decode cX6_mean 34 = .ok (.iconst 0, 1) := by decide +kernel
theorem dX6_mean_35 : decode cX6_mean 35 = .ok (.goto 8, 3) := by decide +kernel
theorem dX6_mean_38 : decode cX6_mean 38 = .ok (.aload 4, 2) := by decide +kernel
theorem dX6_mean_40 : decode cX6_mean 40 = .ok (.invokevirtual 155, 3) := by decide +kernel
theorem dX6_mean_43 : decode cX6_mean 43 = .ok (.iadd, 1) := by decide +kernel
theorem dX6_mean_44 : decode cX6_mean 44 = .ok (.istore_n 2, 1) := by decide +kernel
theorem dX6_mean_45 : decode cX6_mean 45 = .ok (.iinc 3 1, 3) := by decide +kernel
theorem dX6_mean_48 : decode cX6_mean 48 = .ok (.goto (-33), 3) := by decide +kernel
theorem dX6_mean_51 : decode cX6_mean 51 = .ok (.iload_n 2, 1) := by decide +kernel
theorem dX6_mean_52 : decode cX6_mean 52 = .ok (.i2d, 1) := by decide +kernel
theorem dX6_mean_53 : decode cX6_mean 53 = .ok (.iload_n 1, 1) := by decide +kernel
theorem dX6_mean_54 : decode cX6_mean 54 = .ok (.i2d, 1) := by decide +kernel
theorem dX6_mean_55 : decode cX6_mean 55 = .ok (.ddiv, 1) := by decide +kernel
theorem dX6_mean_56 : decode cX6_mean 56 = .ok (.dreturn, 1) := by decide +kernel
theorem dX6_euclid_0 : decode cX6_euclid 0 = .ok (.iload_n 1, 1) := by decide +kernel
theorem dX6_euclid_1 : decode cX6_euclid 1 = .ok (.invokestatic 36, 3) := by decide +kernel
theorem dX6_euclid_4 : decode cX6_euclid 4 = .ok (.iload_n 2, 1) := by decide +kernel
theorem dX6_euclid_5 : decode cX6_euclid 5 = .ok (.iconst 2, 1) := by decide +kernel
theorem dX6_euclid_6 : decode cX6_euclid 6 = .ok (.if_icmp .lt 20, 3) := by decide +kernel
theorem dX6_euclid_9 : decode cX6_euclid 9 = .ok (.iload_n 2, 1) := by decide +kernel
theorem dX6_euclid_10 : decode cX6_euclid 10 = .ok (.sipush 255, 3) := by decide +kernel
theorem dX6_euclid_13 : decode cX6_euclid 13 = .ok (.if_icmp .gt 13, 3) := by decide +kernel
theorem dX6_euclid_16 : decode cX6_euclid 16 = .ok (.iload_n 3, 1) := by decide +kernel
theorem dX6_euclid_17 : decode cX6_euclid 17 = .ok (.iconst 1, 1) := by decide +kernel
theorem dX6_euclid_18 : decode cX6_euclid 18 = .ok (.if_icmp .lt 8, 3) := by decide +kernel
theorem dX6_euclid_21 : decode cX6_euclid 21 = .ok (.iload_n 3, 1) := by decide +kernel
theorem dX6_euclid_22 : decode cX6_euclid 22 = .ok (.iload_n 2, 1) := by decide +kernel
theorem dX6_euclid_23 : decode cX6_euclid 23 = .ok (.if_icmp .lt 13, 3) := by decide +kernel
theorem dX6_euclid_26 : decode cX6_euclid 26 = .ok (.new 44, 3) := by decide +kernel
theorem dX6_euclid_29 : decode cX6_euclid 29 = .ok (.dup, 1) := by decide +kernel
theorem dX6_euclid_30 : decode cX6_euclid 30 = .ok (.ldc 158, 2) := by decide +kernel
theorem dX6_euclid_32 : decode cX6_euclid 32 = .ok (.invokespecial 48, 3) := by decide +kernel
theorem dX6_euclid_35 : decode cX6_euclid 35 = .ok (.athrow, 1) := by decide +kernel
theorem dX6_euclid_36 : decode cX6_euclid 36 = .ok (.aload_n 0, 1) := by decide +kernel
theorem dX6_euclid_37 : decode cX6_euclid 37 = .ok (.iload_n 1, 1) := by decide +kernel
theorem dX6_euclid_38 : decode cX6_euclid 38 = .ok (.iload_n 2, 1) := by decide +kernel
theorem dX6_euclid_39 : decode cX6_euclid 39 = .ok (.iload_n 2, 1) := by decide +kernel
theorem dX6_euclid_40 : decode cX6_euclid 40 = .ok (.imul, 1) := by decide +kernel
theorem dX6_euclid_41 : decode cX6_euclid 41 = .ok (.iload_n 3, 1) := by decide +kernel
theorem dX6_euclid_42 : decode cX6_euclid 42 = .ok (.iload_n 3, 1) := by decide +kernel
theorem dX6_euclid_43 : decode cX6_euclid 43 = .ok (.imul, 1) := by decide +kernel
theorem dX6_euclid_44 : decode cX6_euclid 44 = .ok (.isub, 1) := by decide +kernel
theorem dX6_euclid_45 : decode cX6_euclid 45 = .ok (.iconst 2, 1) := by decide +kernel
theorem dX6_euclid_46 : decode cX6_euclid 46 = .ok (.iload_n 2, 1) := by decide +kernel
theorem dX6_euclid_47 : decode cX6_euclid 47 = .ok (.imul, 1) := by decide +kernel
theorem dX6_euclid_48 : decode cX6_euclid 48 = .ok (.iload_n 3, 1) := by decide +kernel
theorem dX6_euclid_49 : decode cX6_euclid 49 = .ok (.imul, 1) := by decide +kernel
theorem dX6_euclid_50 : decode cX6_euclid 50 = .ok (.iload_n 2, 1) := by decide +kernel
theorem dX6_euclid_51 : decode cX6_euclid 51 = .ok (.iload_n 2, 1) := by decide +kernel
theorem dX6_euclid_52 : decode cX6_euclid 52 = .ok (.imul, 1) := by decide +kernel
theorem dX6_euclid_53 : decode cX6_euclid 53 = .ok (.iload_n 3, 1) := by decide +kernel
theorem dX6_euclid_54 : decode cX6_euclid 54 = .ok (.iload_n 3, 1) := by decide +kernel
theorem dX6_euclid_55 : decode cX6_euclid 55 = .ok (.imul, 1) := by decide +kernel
theorem dX6_euclid_56 : decode cX6_euclid 56 = .ok (.iadd, 1) := by decide +kernel
theorem dX6_euclid_57 : decode cX6_euclid 57 = .ok (.invokevirtual 92, 3) := by decide +kernel
theorem dX6_euclid_60 : decode cX6_euclid 60 = .ok (.ireturn, 1) := by decide +kernel
theorem dX6_step_0 : decode cX6_step 0 = .ok (.iload_n 1, 1) := by decide +kernel
theorem dX6_step_1 : decode cX6_step 1 = .ok (.invokestatic 36, 3) := by decide +kernel
theorem dX6_step_4 : decode cX6_step 4 = .ok (.iload_n 2, 1) := by decide +kernel
theorem dX6_step_5 : decode cX6_step 5 = .ok (.bipush 97, 2) := by decide +kernel
theorem dX6_step_7 : decode cX6_step 7 = .ok (.if_icmp .eq 31, 3) := by decide +kernel
theorem dX6_step_10 : decode cX6_step 10 = .ok (.iload_n 2, 1) := by decide +kernel
theorem dX6_step_11 : decode cX6_step 11 = .ok (.bipush 98, 2) := by decide +kernel
theorem dX6_step_13 : decode cX6_step 13 = .ok (.if_icmp .eq 25, 3) := by decide +kernel
theorem dX6_step_16 : decode cX6_step 16 = .ok (.iload_n 2, 1) := by decide +kernel
theorem dX6_step_17 : decode cX6_step 17 = .ok (.bipush 99, 2) := by decide +kernel
theorem dX6_step_19 : decode cX6_step 19 = .ok (.if_icmp .eq 19, 3) := by decide +kernel
theorem dX6_step_22 : decode cX6_step 22 = .ok (.iload_n 2, 1) := by decide +kernel
theorem dX6_step_23 : decode cX6_step 23 = .ok (.bipush 112, 2) := by decide +kernel
theorem dX6_step_25 : decode cX6_step 25 = .ok (.if_icmp .eq 13, 3) := by decide +kernel
theorem dX6_step_28 : decode cX6_step 28 = .ok (.new 44, 3) := by decide +kernel
theorem dX6_step_31 : decode cX6_step 31 = .ok (.dup, 1) := by decide +kernel
theorem dX6_step_32 : decode cX6_step 32 = .ok (.ldc 160, 2) := by decide +kernel
theorem dX6_step_34 : decode cX6_step 34 = .ok (.invokespecial 48, 3) := by decide +kernel
theorem dX6_step_37 : decode cX6_step 37 = .ok (.athrow, 1) := by decide +kernel
theorem dX6_step_38 : decode cX6_step 38 = .ok (.aload_n 0, 1) := by decide +kernel
theorem dX6_step_39 : decode cX6_step 39 = .ok (.iload_n 1, 1) := by decide +kernel
theorem dX6_step_40 : decode cX6_step 40 = .ok (.invokevirtual 162, 3) := by decide +kernel
theorem dX6_step_43 : decode cX6_step 43 = .ok (.astore_n 3, 1) := by decide +kernel
theorem dX6_step_44 : decode cX6_step 44 = .ok (.aload_n 3, 1) := by decide +kernel
theorem dX6_step_45 : decode cX6_step 45 = .ok (.invokevirtual 165, 3) := by decide +kernel
theorem dX6_step_48 : decode cX6_step 48 = .ok (.istore 4, 2) := by decide +kernel
theorem dX6_step_50 : decode cX6_step 50 = .ok (.aload_n 3, 1) := by decide +kernel
theorem dX6_step_51 : decode cX6_step 51 = .ok (.invokevirtual 168, 3) := by decide +kernel
theorem dX6_step_54 : decode cX6_step 54 = .ok (.istore 5, 2) := by decide +kernel
theorem dX6_step_56 : decode cX6_step 56 = .ok (.iload_n 2, 1) := by decide +kernel
theorem dX6_step_57 : decode cX6_step 57 = .ok (.bipush 112, 2) := by decide +kernel
theorem dX6_step_59 : decode cX6_step 59 = .ok (.if_icmp .eq 45, 3) := by decide +kernel
theorem dX6_step_62 : decode cX6_step 62 = .ok (.aload_n 0, 1) := by decide +kernel
theorem dX6_step_63 : decode cX6_step 63 = .ok (.iload_n 1, 1) := by decide +kernel
theorem dX6_step_64 : decode cX6_step 64 = .ok (.iload_n 2, 1) := by decide +kernel
theorem dX6_step_65 : decode cX6_step 65 = .ok (.iload 4, 2) := by decide +kernel
theorem dX6_step_67 : decode cX6_step 67 = .ok (.iload 5, 2) := by decide +kernel
theorem dX6_step_69 : decode cX6_step 69 = .ok (.aload_n 3, 1) := by decide +kernel
theorem dX6_step_70 : decode cX6_step 70 = .ok (.getfield 89, 3) := by decide +kernel
theorem dX6_step_73 : decode cX6_step 73 = .ok (.invokestatic 171, 3) := by decide +kernel
theorem dX6_step_76 : decode cX6_step 76 = .ok (.iload_n 2, 1) := by decide +kernel
theorem dX6_step_77 : decode cX6_step 77 = .ok (.iload 4, 2) := by decide +kernel
theorem dX6_step_79 : decode cX6_step 79 = .ok (.iload 5, 2) := by decide +kernel
theorem dX6_step_81 : decode cX6_step 81 = .ok (.aload_n 3, 1) := by decide +kernel
theorem dX6_step_82 : decode cX6_step 82 = .ok (.getfield 89, 3) := by decide +kernel
theorem dX6_step_85 : decode cX6_step 85 = .ok (.invokestatic 176, 3) := by decide +kernel
theorem dX6_step_88 : decode cX6_step 88 = .ok (.iload_n 2, 1) := by decide +kernel
theorem dX6_step_89 : decode cX6_step 89 = .ok (.iload 4, 2) := by decide +kernel
theorem dX6_step_91 : decode cX6_step 91 = .ok (.iload 5, 2) := by decide +kernel
theorem dX6_step_93 : decode cX6_step 93 = .ok (.aload_n 3, 1) := by decide +kernel
theorem dX6_step_94 : decode cX6_step 94 = .ok (.getfield 89, 3) := by decide +kernel
theorem dX6_step_97 : decode cX6_step 97 = .ok (.invokestatic 178, 3) := by decide +kernel
theorem dX6_step_100 : decode cX6_step 100 = .ok (.invokevirtual 92, 3) := by decide +kernel
theorem dX6_step_103 : decode cX6_step 103 = .ok (.ireturn, 1) := by decide +kernel
theorem dX6_step_104 : decode cX6_step 104 = .ok (.aload_n 3, 1) := by decide +kernel
theorem dX6_step_105 : decode cX6_step 105 = .ok (.getfield 89, 3) := by decide +kernel
theorem dX6_step_108 : decode cX6_step 108 = .ok (.iconst 5, 1) := by decide +kernel
theorem dX6_step_109 : decode cX6_step 109 = .ok (.if_icmp .ne 13, 3) := by decide +kernel
theorem dX6_step_112 : decode cX6_step 112 = .ok (.new 51, 3) := by decide +kernel
theorem dX6_step_115 : decode cX6_step 115 = .ok (.dup, 1) := by decide +kernel
theorem dX6_step_116 : decode cX6_step 116 = .ok (.ldc 181, 2) := by decide +kernel
theorem dX6_step_118 : decode cX6_step 118 = .ok (.invokespecial 55, 3) := by decide +kernel
theorem dX6_step_121 : decode cX6_step 121 = .ok (.athrow, 1) := by decide +kernel
theorem dX6_step_122 : decode cX6_step 122 = .ok (.aload_n 0, 1) := by decide +kernel
theorem dX6_step_123 : decode cX6_step 123 = .ok (.iload_n 1, 1) := by decide +kernel
theorem dX6_step_124 : decode cX6_step 124 = .ok (.iload 4, 2) := by decide +kernel
theorem dX6_step_126 : decode cX6_step 126 = .ok (.iload 5, 2) := by decide +kernel
theorem dX6_step_128 : decode cX6_step 128 = .ok (.aload_n 3, 1) := by decide +kernel
theorem dX6_step_129 : decode cX6_step 129 = .ok (.getfield 89, 3) := by decide +kernel
theorem dX6_step_132 : decode cX6_step 132 = .ok (.invokestatic 183, 3) := by decide +kernel
theorem dX6_step_135 : decode cX6_step 135 = .ok (.invokestatic 187, 3) := by decide +kernel
theorem dX6_step_138 : decode cX6_step 138 = .ok (.iload 4, 2) := by decide +kernel
theorem dX6_step_140 : decode cX6_step 140 = .ok (.iload 5, 2) := by decide +kernel
theorem dX6_step_142 : decode cX6_step 142 = .ok (.aload_n 3, 1) := by decide +kernel
theorem dX6_step_143 : decode cX6_step 143 = .ok (.getfield 89, 3) := by decide +kernel
theorem dX6_step_146 : decode cX6_step 146 = .ok (.invokestatic 192, 3) := by decide +kernel
theorem dX6_step_149 : decode cX6_step 149 = .ok (.invokestatic 187, 3) := by decide +kernel
theorem dX6_step_152 : decode cX6_step 152 = .ok (.iload 4, 2) := by decide +kernel
theorem dX6_step_154 : decode cX6_step 154 = .ok (.iload 5, 2) := by decide +kernel
theorem dX6_step_156 : decode cX6_step 156 = .ok (.aload_n 3, 1) := by decide +kernel
theorem dX6_step_157 : decode cX6_step 157 = .ok (.getfield 89, 3) := by decide +kernel
theorem dX6_step_160 : decode cX6_step 160 = .ok (.invokestatic 195, 3) := by decide +kernel
theorem dX6_step_163 : decode cX6_step 163 = .ok (.invokevirtual 92, 3) := by decide +kernel
theorem dX6_step_166 : decode cX6_step 166 = .ok (.ireturn, 1) := by decide +kernel
theorem dX6_depth_0 : decode cX6_depth 0 = .ok (.aload_n 0, 1) := by decide +kernel
theorem dX6_depth_1 : decode cX6_depth 1 = .ok (.iload_n 1, 1) := by decide +kernel
theorem dX6_depth_2 : decode cX6_depth 2 = .ok (.invokevirtual 162, 3) := by decide +kernel
theorem dX6_depth_5 : decode cX6_depth 5 = .ok (.astore_n 2, 1) := by decide +kernel
theorem dX6_depth_6 : decode cX6_depth 6 = .ok (.aload_n 2, 1) := by decide +kernel
theorem dX6_depth_7 : decode cX6_depth 7 = .ok (.invokevirtual 165, 3) := by decide +kernel
theorem dX6_depth_10 : decode cX6_depth 10 = .ok (.aload_n 2, 1) := by decide +kernel
theorem dX6_depth_11 : decode cX6_depth 11 = .ok (.invokevirtual 168, 3) := by decide +kernel
theorem dX6_depth_14 : decode cX6_depth 14 = .ok (.aload_n 2, 1) := by decide +kernel
theorem dX6_depth_15 : decode cX6_depth 15 = .ok (.getfield 89, 3) := by decide +kernel
theorem dX6_depth_18 : decode cX6_depth 18 = .ok (.invokestatic 198, 3) := by decide +kernel
theorem dX6_depth_21 : decode cX6_depth 21 = .ok (.ireturn, 1) := by decide +kernel
theorem dX6_generator_0 : decode cX6_generator 0 = .ok (.iload_n 1, 1) := by decide +kernel
theorem dX6_generator_1 : decode cX6_generator 1 = .ok (.invokestatic 36, 3) := by decide +kernel
theorem dX6_generator_4 : decode cX6_generator 4 = .ok (.iload_n 2, 1) := by decide +kernel
theorem dX6_generator_5 : decode cX6_generator 5 = .ok (.bipush 109, 2) := by decide +kernel
theorem dX6_generator_7 : decode cX6_generator 7 = .ok (.if_icmp .eq 19, 3) := by decide +kernel
theorem dX6_generator_10 : decode cX6_generator 10 = .ok (.iload_n 2, 1) := by decide +kernel
theorem dX6_generator_11 : decode cX6_generator 11 = .ok (.bipush 110, 2) := by decide +kernel
theorem dX6_generator_13 : decode cX6_generator 13 = .ok (.if_icmp .eq 13, 3) := by decide +kernel
theorem dX6_generator_16 : decode cX6_generator 16 = .ok (.new 44, 3) := by decide +kernel
theorem dX6_generator_19 : decode cX6_generator 19 = .ok (.dup, 1) := by decide +kernel
theorem dX6_generator_20 : decode cX6_generator 20 = .ok (.ldc 201, 2) := by decide +kernel
theorem dX6_generator_22 : decode cX6_generator 22 = .ok (.invokespecial 48, 3) := by decide +kernel
theorem dX6_generator_25 : decode cX6_generator 25 = .ok (.athrow, 1) := by decide +kernel
theorem dX6_generator_26 : decode cX6_generator 26 = .ok (.aload_n 0, 1) := by decide +kernel
theorem dX6_generator_27 : decode cX6_generator 27 = .ok (.iload_n 1, 1) := by decide +kernel
theorem dX6_generator_28 : decode cX6_generator 28 = .ok (.invokevirtual 162, 3) := by decide +kernel
theorem dX6_generator_31 : decode cX6_generator 31 = .ok (.astore_n 3, 1) := by decide +kernel
theorem dX6_generator_32 : decode cX6_generator 32 = .ok (.iload_n 2, 1) := by decide +kernel
theorem dX6_generator_33 : decode cX6_generator 33 = .ok (.bipush 109, 2) := by decide +kernel
theorem dX6_generator_35 : decode cX6_generator 35 = .ok (.if_icmp .ne 17, 3) := by decide +kernel
theorem dX6_generator_38 : decode cX6_generator 38 = .ok (.aload_n 3, 1) := by decide +kernel
theorem dX6_generator_39 : decode cX6_generator 39 = .ok (.getfield 89, 3) := by decide +kernel
theorem dX6_generator_42 : decode cX6_generator 42 = .ok (.aload_n 3, 1) := by decide +kernel
theorem dX6_generator_43 : decode cX6_generator 43 = .ok (.invokevirtual 165, 3) := by decide +kernel
theorem dX6_generator_46 : decode cX6_generator 46 = .ok (.iadd, 1) := by decide +kernel
theorem dX6_generator_47 : decode cX6_generator 47 = .ok (.iconst 2, 1) := by decide +kernel
theorem dX6_generator_48 : decode cX6_generator 48 = .ok (.idiv, 1) := by decide +kernel
theorem dX6_generator_49 : decode cX6_generator 49 = .ok (.goto 14, 3) := by decide +kernel
theorem dX6_generator_52 : decode cX6_generator 52 = .ok (.aload_n 3, 1) := by decide +kernel
theorem dX6_generator_53 : decode cX6_generator 53 = .ok (.getfield 89, 3) := by decide +kernel
theorem dX6_generator_56 : decode cX6_generator 56 = .ok (.aload_n 3, 1) := by decide +kernel
theorem dX6_generator_57 : decode cX6_generator 57 = .ok (.invokevirtual 165, 3) := by decide +kernel
theorem dX6_generator_60 : decode cX6_generator 60 = .ok (.isub, 1) := by decide +kernel
theorem dX6_generator_61 : decode cX6_generator 61 = .ok (.iconst 2, 1) := by decide +kernel
theorem dX6_generator_62 : decode cX6_generator 62 = .ok (.idiv, 1) := by decide +kernel
theorem dX6_generator_63 : decode cX6_generator 63 = .ok (.istore 4, 2) := by decide +kernel
theorem dX6_generator_65 : decode cX6_generator 65 = .ok (.iload 4, 2) := by decide +kernel
theorem dX6_generator_67 : decode cX6_generator 67 = .ok (.i2l, 1) := by decide +kernel
theorem dX6_generator_68 : decode cX6_generator 68 = .ok (.invokestatic 203, 3) := by decide +kernel
theorem dX6_generator_71 : decode cX6_generator 71 = .ok (.l2i, 1) := by decide +kernel
theorem dX6_generator_72 : decode cX6_generator 72 = .ok (.ireturn, 1) := by decide +kernel
theorem dX6_list_0 : decode cX6_list 0 = .ok (.iload_n 1, 1) := by decide +kernel
theorem dX6_list_1 : decode cX6_list 1 = .ok (.bipush 101, 2) := by decide +kernel
theorem dX6_list_3 : decode cX6_list 3 = .ok (.if_icmp .eq 25, 3) := by decide +kernel
theorem dX6_list_6 : decode cX6_list 6 = .ok (.iload_n 1, 1) := by decide +kernel
theorem dX6_list_7 : decode cX6_list 7 = .ok (.bipush 116, 2) := by decide +kernel
theorem dX6_list_9 : decode cX6_list 9 = .ok (.if_icmp .eq 19, 3) := by decide +kernel
theorem dX6_list_12 : decode cX6_list 12 = .ok (.iload_n 1, 1) := by decide +kernel
theorem dX6_list_13 : decode cX6_list 13 = .ok (.bipush 104, 2) := by decide +kernel
theorem dX6_list_15 : decode cX6_list 15 = .ok (.if_icmp .eq 13, 3) := by decide +kernel
theorem dX6_list_18 : decode cX6_list 18 = .ok (.new 44, 3) := by decide +kernel
theorem dX6_list_21 : decode cX6_list 21 = .ok (.dup, 1) := by decide +kernel
theorem dX6_list_22 : decode cX6_list 22 = .ok (.ldc 207, 2) := by decide +kernel
theorem dX6_list_24 : decode cX6_list 24 = .ok (.invokespecial 48, 3) := by decide +kernel
theorem dX6_list_27 : decode cX6_list 27 = .ok (.athrow, 1) := by decide +kernel
theorem dX6_list_28 : decode cX6_list 28 = .ok (.iload_n 2, 1) := by decide +kernel
theorem dX6_list_29 : decode cX6_list 29 = .ok (.invokestatic 209, 3) := by decide +kernel
theorem dX6_list_32 : decode cX6_list 32 = .ok (.aload_n 0, 1) := by decide +kernel
theorem dX6_list_33 : decode cX6_list 33 = .ok (.getfield 18, 3) := by decide +kernel
theorem dX6_list_36 : decode cX6_list 36 = .ok (.iload_n 1, 1) := by decide +kernel
theorem dX6_list_37 : decode cX6_list 37 = .ok (.iload_n 2, 1) := by decide +kernel
theorem dX6_list_38 : decode cX6_list 38 = .ok (.invokevirtual 212, 3) := by decide +kernel
theorem dX6_list_41 : decode cX6_list 41 = .ok (.aload_n 0, 1) := by decide +kernel
theorem dX6_list_42 : decode cX6_list 42 = .ok (.getfield 18, 3) := by decide +kernel
theorem dX6_list_45 : decode cX6_list 45 = .ok (.getfield 216, 3) := by decide +kernel
theorem dX6_list_48 : decode cX6_list 48 = .ok (.ireturn, 1) := by decide +kernel
theorem dX6_listed_0 : decode cX6_listed 0 = .ok (.iload_n 1, 1) := by decide +kernel
theorem dX6_listed_1 : decode cX6_listed 1 = .ok (.ifCond .lt 14, 3) := by decide +kernel
theorem dX6_listed_4 : decode cX6_listed 4 = .ok (.iload_n 1, 1) := by decide +kernel
theorem dX6_listed_5 : decode cX6_listed 5 = .ok (.aload_n 0, 1) := by decide +kernel
theorem dX6_listed_6 : decode cX6_listed 6 = .ok (.getfield 18, 3) := by decide +kernel
theorem dX6_listed_9 : decode cX6_listed 9 = .ok (.getfield 216, 3) := by decide +kernel
theorem dX6_listed_12 : decode cX6_listed 12 = .ok (.if_icmp .lt 13, 3) := by decide +kernel
theorem dX6_listed_15 : decode cX6_listed 15 = .ok (.new 219, 3) := by decide +kernel
theorem dX6_listed_18 : decode cX6_listed 18 = .ok (.dup, 1) := by decide +kernel
theorem dX6_listed_19 : decode cX6_listed 19 = .ok (.ldc 221, 2) := by decide +kernel
theorem dX6_listed_21 : decode cX6_listed 21 = .ok (.invokespecial 223, 3) := by decide +kernel
theorem dX6_listed_24 : decode cX6_listed 24 = .ok (.athrow, 1) := by decide +kernel
theorem dX6_listed_25 : decode cX6_listed 25 = .ok (.iload_n 2, 1) := by decide +kernel
theorem dX6_listed_26 : decode cX6_listed 26 = .ok (.invokestatic 74, 3) := by decide +kernel
theorem dX6_listed_29 : decode cX6_listed 29 = .ok (.aload_n 0, 1) := by decide +kernel
theorem dX6_listed_30 : decode cX6_listed 30 = .ok (.getfield 18, 3) := by decide +kernel
theorem dX6_listed_33 : decode cX6_listed 33 = .ok (.iload_n 1, 1) := by decide +kernel
theorem dX6_listed_34 : decode cX6_listed 34 = .ok (.iload_n 2, 1) := by decide +kernel
theorem dX6_listed_35 : decode cX6_listed 35 = .ok (.invokevirtual 224, 3) := by decide +kernel
theorem dX6_listed_38 : decode cX6_listed 38 = .ok (.ireturn, 1) := by decide +kernel
theorem dX6_counts_0 : decode cX6_counts 0 = .ok (.iload_n 1, 1) := by decide +kernel
theorem dX6_counts_1 : decode cX6_counts 1 = .ok (.bipush 99, 2) := by decide +kernel
theorem dX6_counts_3 : decode cX6_counts 3 = .ok (.if_icmp .eq 19, 3) := by decide +kernel
theorem dX6_counts_6 : decode cX6_counts 6 = .ok (.iload_n 1, 1) := by decide +kernel
theorem dX6_counts_7 : decode cX6_counts 7 = .ok (.bipush 108, 2) := by decide +kernel
theorem dX6_counts_9 : decode cX6_counts 9 = .ok (.if_icmp .eq 13, 3) := by decide +kernel
theorem dX6_counts_12 : decode cX6_counts 12 = .ok (.new 44, 3) := by decide +kernel
theorem dX6_counts_15 : decode cX6_counts 15 = .ok (.dup, 1) := by decide +kernel
theorem dX6_counts_16 : decode cX6_counts 16 = .ok (.ldc 160, 2) := by decide +kernel
theorem dX6_counts_18 : decode cX6_counts 18 = .ok (.invokespecial 48, 3) := by decide +kernel
theorem dX6_counts_21 : decode cX6_counts 21 = .ok (.athrow, 1) := by decide +kernel
theorem dX6_counts_22 : decode cX6_counts 22 = .ok (.iload_n 2, 1) := by decide +kernel
theorem dX6_counts_23 : decode cX6_counts 23 = .ok (.invokestatic 227, 3) := by decide +kernel
theorem dX6_counts_26 : decode cX6_counts 26 = .ok (.iload_n 1, 1) := by decide +kernel
theorem dX6_counts_27 : decode cX6_counts 27 = .ok (.bipush 99, 2) := by decide +kernel
theorem dX6_counts_29 : decode cX6_counts 29 = .ok (.if_icmp .ne 10, 3) := by decide +kernel
theorem dX6_counts_32 : decode cX6_counts 32 = .ok (.iload_n 2, 1) := by decide +kernel
theorem dX6_counts_33 : decode cX6_counts 33 = .ok (.invokestatic 230, 3) := by decide +kernel
theorem dX6_counts_36 : decode cX6_counts 36 = .ok (.goto 7, 3) := by decide +kernel
theorem dX6_counts_39 : decode cX6_counts 39 = .ok (.iload_n 2, 1) := by decide +kernel
theorem dX6_counts_40 : decode cX6_counts 40 = .ok (.invokestatic 235, 3) := by decide +kernel
theorem dX6_counts_43 : decode cX6_counts 43 = .ok (.ireturn, 1) := by decide +kernel
theorem dX6_sort_0 : decode cX6_sort 0 = .ok (.iload_n 1, 1) := by decide +kernel
theorem dX6_sort_1 : decode cX6_sort 1 = .ok (.bipush 99, 2) := by decide +kernel
theorem dX6_sort_3 : decode cX6_sort 3 = .ok (.if_icmp .eq 25, 3) := by decide +kernel
theorem dX6_sort_6 : decode cX6_sort 6 = .ok (.iload_n 1, 1) := by decide +kernel
theorem dX6_sort_7 : decode cX6_sort 7 = .ok (.bipush 112, 2) := by decide +kernel
theorem dX6_sort_9 : decode cX6_sort 9 = .ok (.if_icmp .eq 19, 3) := by decide +kernel
theorem dX6_sort_12 : decode cX6_sort 12 = .ok (.iload_n 1, 1) := by decide +kernel
theorem dX6_sort_13 : decode cX6_sort 13 = .ok (.bipush 115, 2) := by decide +kernel
theorem dX6_sort_15 : decode cX6_sort 15 = .ok (.if_icmp .eq 13, 3) := by decide +kernel
theorem dX6_sort_18 : decode cX6_sort 18 = .ok (.new 44, 3) := by decide +kernel
theorem dX6_sort_21 : decode cX6_sort 21 = .ok (.dup, 1) := by decide +kernel
theorem dX6_sort_22 : decode cX6_sort 22 = .ok (.ldc 238, 2) := by decide +kernel
theorem dX6_sort_24 : decode cX6_sort 24 = .ok (.invokespecial 48, 3) := by decide +kernel
theorem dX6_sort_27 : decode cX6_sort 27 = .ok (.athrow, 1) := by decide +kernel
theorem dX6_sort_28 : decode cX6_sort 28 = .ok (.aload_n 0, 1) := by decide +kernel
theorem dX6_sort_29 : decode cX6_sort 29 = .ok (.iconst 0, 1) := by decide +kernel
theorem dX6_sort_30 : decode cX6_sort 30 = .ok (.putfield 32, 3) := by decide +kernel
theorem dX6_sort_33 : decode cX6_sort 33 = .ok (.iconst 0, 1) := by decide +kernel
theorem dX6_sort_34 : decode cX6_sort 34 = .ok (.istore_n 2, 1) := by decide +kernel
theorem dX6_sort_35 : decode cX6_sort 35 = .ok (.iload_n 2, 1) := by decide +kernel
theorem dX6_sort_36 : decode cX6_sort 36 = .ok (.bipush 16, 2) := by decide +kernel
theorem dX6_sort_38 : decode cX6_sort 38 = .ok (.if_icmp .ge 23, 3) := by decide +kernel
theorem dX6_sort_41 : decode cX6_sort 41 = .ok (.aload_n 0, 1) := by decide +kernel
theorem dX6_sort_42 : decode cX6_sort 42 = .ok (.iload_n 2, 1) := by decide +kernel
theorem dX6_sort_43 : decode cX6_sort 43 = .ok (.invokevirtual 71, 3) := by decide +kernel
theorem dX6_sort_46 : decode cX6_sort 46 = .ok (.ifnull 9, 3) := by decide +kernel
theorem dX6_sort_49 : decode cX6_sort 49 = .ok (.aload_n 0, 1) := by decide +kernel
theorem dX6_sort_50 : decode cX6_sort 50 = .ok (.iload_n 2, 1) := by decide +kernel
theorem dX6_sort_51 : decode cX6_sort 51 = .ok (.iload_n 1, 1) := by decide +kernel
theorem dX6_sort_52 : decode cX6_sort 52 = .ok (.invokevirtual 240, 3) := by decide +kernel
theorem dX6_sort_55 : decode cX6_sort 55 = .ok (.iinc 2 1, 3) := by decide +kernel
theorem dX6_sort_58 : decode cX6_sort 58 = .ok (.goto (-23), 3) := by decide +kernel
theorem dX6_sort_61 : decode cX6_sort 61 = .ok (.aload_n 0, 1) := by decide +kernel
theorem dX6_sort_62 : decode cX6_sort 62 = .ok (.getfield 32, 3) := by decide +kernel
theorem dX6_sort_65 : decode cX6_sort 65 = .ok (.ireturn, 1) := by decide +kernel
theorem dX6_sorted_0 : decode cX6_sorted 0 = .ok (.iload_n 1, 1) := by decide +kernel
theorem dX6_sorted_1 : decode cX6_sorted 1 = .ok (.ifCond .lt 17, 3) := by decide +kernel
theorem dX6_sorted_4 : decode cX6_sorted 4 = .ok (.iload_n 1, 1) := by decide +kernel
theorem dX6_sorted_5 : decode cX6_sorted 5 = .ok (.aload_n 0, 1) := by decide +kernel
theorem dX6_sorted_6 : decode cX6_sorted 6 = .ok (.getfield 32, 3) := by decide +kernel
theorem dX6_sorted_9 : decode cX6_sorted 9 = .ok (.if_icmp .ge 9, 3) := by decide +kernel
theorem dX6_sorted_12 : decode cX6_sorted 12 = .ok (.iload_n 1, 1) := by decide +kernel
theorem dX6_sorted_13 : decode cX6_sorted 13 = .ok (.bipush 16, 2) := by decide +kernel
theorem dX6_sorted_15 : decode cX6_sorted 15 = .ok (.if_icmp .lt 13, 3) := by decide +kernel
theorem dX6_sorted_18 : decode cX6_sorted 18 = .ok (.new 219, 3) := by decide +kernel
theorem dX6_sorted_21 : decode cX6_sorted 21 = .ok (.dup, 1) := by decide +kernel
theorem dX6_sorted_22 : decode cX6_sorted 22 = .ok (.ldc 244, 2) := by decide +kernel
theorem dX6_sorted_24 : decode cX6_sorted 24 = .ok (.invokespecial 223, 3) := by decide +kernel
theorem dX6_sorted_27 : decode cX6_sorted 27 = .ok (.athrow, 1) := by decide +kernel
theorem dX6_sorted_28 : decode cX6_sorted 28 = .ok (.aload_n 0, 1) := by decide +kernel
theorem dX6_sorted_29 : decode cX6_sorted 29 = .ok (.getfield 28, 3) := by decide +kernel
theorem dX6_sorted_32 : decode cX6_sorted 32 = .ok (.iload_n 1, 1) := by decide +kernel
theorem dX6_sorted_33 : decode cX6_sorted 33 = .ok (.iaload, 1) := by decide +kernel
theorem dX6_sorted_34 : decode cX6_sorted 34 = .ok (.ireturn, 1) := by decide +kernel
theorem dX6_checksum_0 : decode cX6_checksum 0 = .ok (.lconst 0, 1) := by decide +kernel
theorem dX6_checksum_1 : decode cX6_checksum 1 = .ok (.lstore_n 1, 1) := by decide +kernel
theorem dX6_checksum_2 : decode cX6_checksum 2 = .ok (.iconst 0, 1) := by decide +kernel
theorem dX6_checksum_3 : decode cX6_checksum 3 = .ok (.istore_n 3, 1) := by decide +kernel
theorem dX6_checksum_4 : decode cX6_checksum 4 = .ok (.iload_n 3, 1) := by decide +kernel
theorem dX6_checksum_5 : decode cX6_checksum 5 = .ok (.bipush 16, 2) := by decide +kernel
theorem dX6_checksum_7 : decode cX6_checksum 7 = .ok (.if_icmp .ge 37, 3) := by decide +kernel
theorem dX6_checksum_10 : decode cX6_checksum 10 = .ok (.aload_n 0, 1) := by decide +kernel
theorem dX6_checksum_11 : decode cX6_checksum 11 = .ok (.iload_n 3, 1) := by decide +kernel
theorem dX6_checksum_12 : decode cX6_checksum 12 = .ok (.invokevirtual 71, 3) := by decide +kernel
theorem dX6_checksum_15 : decode cX6_checksum 15 = .ok (.astore 4, 2) := by decide +kernel
theorem dX6_checksum_17 : decode cX6_checksum 17 = .ok (.ldc2_w 246, 3) := by decide +kernel
theorem dX6_checksum_20 : decode cX6_checksum 20 = .ok (.lload_n 1, 1) := by decide +kernel
theorem dX6_checksum_21 : decode cX6_checksum 21 = .ok (.lmul, 1) := by decide +kernel
theorem dX6_checksum_22 : decode cX6_checksum 22 = .ok (.aload 4, 2) := by decide +kernel
theorem dX6_checksum_24 : decode cX6_checksum 24 = .ok (.ifnonnull 7, 3) := by decide +kernel
theorem dX6_checksum_27 : decode cX6_checksum 27 = .ok (.lconst 0, 1) := by decide +kernel
theorem dX6_checksum_28 : decode cX6_checksum 28 = .ok (.goto 8, 3) := by decide +kernel
theorem dX6_checksum_31 : decode cX6_checksum 31 = .ok (.aload 4, 2) := by decide +kernel
theorem dX6_checksum_33 : decode cX6_checksum 33 = .ok (.invokevirtual 248, 3) := by decide +kernel
theorem dX6_checksum_36 : decode cX6_checksum 36 = .ok (.ladd, 1) := by decide +kernel
theorem dX6_checksum_37 : decode cX6_checksum 37 = .ok (.lstore_n 1, 1) := by decide +kernel
theorem dX6_checksum_38 : decode cX6_checksum 38 = .ok (.iinc 3 1, 3) := by decide +kernel
theorem dX6_checksum_41 : decode cX6_checksum 41 = .ok (.goto (-37), 3) := by decide +kernel
theorem dX6_checksum_44 : decode cX6_checksum 44 = .ok (.iconst 0, 1) := by decide +kernel
theorem dX6_checksum_45 : decode cX6_checksum 45 = .ok (.istore_n 3, 1) := by decide +kernel
theorem dX6_checksum_46 : decode cX6_checksum 46 = .ok (.iload_n 3, 1) := by decide +kernel
theorem dX6_checksum_47 : decode cX6_checksum 47 = .ok (.aload_n 0, 1) := by decide +kernel
theorem dX6_checksum_48 : decode cX6_checksum 48 = .ok (.getfield 18, 3) := by decide +kernel
theorem dX6_checksum_51 : decode cX6_checksum 51 = .ok (.getfield 216, 3) := by decide +kernel
theorem dX6_checksum_54 : decode cX6_checksum 54 = .ok (.if_icmp .ge 26, 3) := by decide +kernel
theorem dX6_checksum_57 : decode cX6_checksum 57 = .ok (.ldc2_w 246, 3) := by decide +kernel
theorem dX6_checksum_60 : decode cX6_checksum 60 = .ok (.lload_n 1, 1) := by decide +kernel
theorem dX6_checksum_61 : decode cX6_checksum 61 = .ok (.lmul, 1) := by decide +kernel
theorem dX6_checksum_62 : decode cX6_checksum 62 = .ok (.aload_n 0, 1) := by decide +kernel
theorem dX6_checksum_63 : decode cX6_checksum 63 = .ok (.getfield 18, 3) := by decide +kernel
theorem dX6_checksum_66 : decode cX6_checksum 66 = .ok (.iload_n 3, 1) := by decide +kernel
theorem dX6_checksum_67 : decode cX6_checksum 67 = .ok (.iconst 2, 1) := by decide +kernel
theorem dX6_checksum_68 : decode cX6_checksum 68 = .ok (.invokevirtual 224, 3) := by decide +kernel
theorem dX6_checksum_71 : decode cX6_checksum 71 = .ok (.i2l, 1) := by decide +kernel
theorem dX6_checksum_72 : decode cX6_checksum 72 = .ok (.ladd, 1) := by decide +kernel
theorem dX6_checksum_73 : decode cX6_checksum 73 = .ok (.lstore_n 1, 1) := by decide +kernel
theorem dX6_checksum_74 : decode cX6_checksum 74 = .ok (.iinc 3 1, 3) := by decide +kernel
theorem dX6_checksum_77 : decode cX6_checksum 77 = .ok (.goto (-31), 3) := by decide +kernel
theorem dX6_checksum_80 : decode cX6_checksum 80 = .ok (.iconst 0, 1) := by decide +kernel
theorem dX6_checksum_81 : decode cX6_checksum 81 = .ok (.istore_n 3, 1) := by decide +kernel
theorem dX6_checksum_82 : decode cX6_checksum 82 = .ok (.iload_n 3, 1) := by decide +kernel
theorem dX6_checksum_83 : decode cX6_checksum 83 = .ok (.aload_n 0, 1) := by decide +kernel
theorem dX6_checksum_84 : decode cX6_checksum 84 = .ok (.getfield 32, 3) := by decide +kernel
theorem dX6_checksum_87 : decode cX6_checksum 87 = .ok (.if_icmp .ge 29, 3) := by decide +kernel
theorem dX6_checksum_90 : decode cX6_checksum 90 = .ok (.iload_n 3, 1) := by decide +kernel
theorem dX6_checksum_91 : decode cX6_checksum 91 = .ok (.bipush 16, 2) := by decide +kernel
theorem dX6_checksum_93 : decode cX6_checksum 93 = .ok (.if_icmp .ge 23, 3) := by decide +kernel
theorem dX6_checksum_96 : decode cX6_checksum 96 = .ok (.ldc2_w 246, 3) := by decide +kernel
theorem dX6_checksum_99 : decode cX6_checksum 99 = .ok (.lload_n 1, 1) := by decide +kernel
theorem dX6_checksum_100 : decode cX6_checksum 100 = .ok (.lmul, 1) := by decide +kernel
theorem dX6_checksum_101 : decode cX6_checksum 101 = .ok (.aload_n 0, 1) := by decide +kernel
theorem dX6_checksum_102 : decode cX6_checksum 102 = .ok (.getfield 28, 3) := by decide +kernel
theorem dX6_checksum_105 : decode cX6_checksum 105 = .ok (.iload_n 3, 1) := by decide +kernel
theorem dX6_checksum_106 : decode cX6_checksum 106 = .ok (.iaload, 1) := by decide +kernel
theorem dX6_checksum_107 : decode cX6_checksum 107 = .ok (.i2l, 1) := by decide +kernel
theorem dX6_checksum_108 : decode cX6_checksum 108 = .ok (.ladd, 1) := by decide +kernel
theorem dX6_checksum_109 : decode cX6_checksum 109 = .ok (.lstore_n 1, 1) := by decide +kernel
theorem dX6_checksum_110 : decode cX6_checksum 110 = .ok (.iinc 3 1, 3) := by decide +kernel
theorem dX6_checksum_113 : decode cX6_checksum 113 = .ok (.goto (-31), 3) := by decide +kernel
theorem dX6_checksum_116 : decode cX6_checksum 116 = .ok (.lload_n 1, 1) := by decide +kernel
theorem dX6_checksum_117 : decode cX6_checksum 117 = .ok (.lreturn, 1) := by decide +kernel
theorem dX6_isTrue_0 : decode cX6_isTrue 0 = .ok (.aload_n 0, 1) := by decide +kernel
theorem dX6_isTrue_1 : decode cX6_isTrue 1 = .ok (.iload_n 1, 1) := by decide +kernel
theorem dX6_isTrue_2 : decode cX6_isTrue 2 = .ok (.invokevirtual 67, 3) := by decide +kernel
theorem dX6_isTrue_5 : decode cX6_isTrue 5 = .ok (.invokestatic 251, 3) := by decide +kernel
theorem dX6_isTrue_8 : decode cX6_isTrue 8 = .ok (.ireturn, 1) := by decide +kernel
theorem dX6_rootIsTrue_0 : decode cX6_rootIsTrue 0 = .ok (.lload_n 1, 1) := by decide +kernel
theorem dX6_rootIsTrue_1 : decode cX6_rootIsTrue 1 = .ok (.invokestatic 147, 3) := by decide +kernel
theorem dX6_rootIsTrue_4 : decode cX6_rootIsTrue 4 = .ok (.lload_n 1, 1) := by decide +kernel
theorem dX6_rootIsTrue_5 : decode cX6_rootIsTrue 5 = .ok (.invokestatic 257, 3) := by decide +kernel
theorem dX6_rootIsTrue_8 : decode cX6_rootIsTrue 8 = .ok (.ireturn, 1) := by decide +kernel
theorem dX6_hypotIsTrue_0 : decode cX6_hypotIsTrue 0 = .ok (.iload_n 1, 1) := by decide +kernel
theorem dX6_hypotIsTrue_1 : decode cX6_hypotIsTrue 1 = .ok (.ifCond .lt 21, 3) := by decide +kernel
theorem dX6_hypotIsTrue_4 : decode cX6_hypotIsTrue 4 = .ok (.iload_n 1, 1) := by decide +kernel
theorem dX6_hypotIsTrue_5 : decode cX6_hypotIsTrue 5 = .ok (.ldc_w 261, 3) := by decide +kernel
theorem dX6_hypotIsTrue_8 : decode cX6_hypotIsTrue 8 = .ok (.if_icmp .gt 14, 3) := by decide +kernel
theorem dX6_hypotIsTrue_11 : decode cX6_hypotIsTrue 11 = .ok (.iload_n 2, 1) := by decide +kernel
theorem dX6_hypotIsTrue_12 : decode cX6_hypotIsTrue 12 = .ok (.ifCond .lt 10, 3) := by decide +kernel
theorem dX6_hypotIsTrue_15 : decode cX6_hypotIsTrue 15 = .ok (.iload_n 2, 1) := by decide +kernel
theorem dX6_hypotIsTrue_16 : decode cX6_hypotIsTrue 16 = .ok (.ldc_w 261, 3) := by decide +kernel
theorem dX6_hypotIsTrue_19 : decode cX6_hypotIsTrue 19 = .ok (.if_icmp .le 14, 3) := by decide +kernel
theorem dX6_hypotIsTrue_22 : decode cX6_hypotIsTrue 22 = .ok (.new 44, 3) := by decide +kernel
theorem dX6_hypotIsTrue_25 : decode cX6_hypotIsTrue 25 = .ok (.dup, 1) := by decide +kernel
theorem dX6_hypotIsTrue_26 : decode cX6_hypotIsTrue 26 = .ok (.ldc_w 262, 3) := by decide +kernel
theorem dX6_hypotIsTrue_29 : decode cX6_hypotIsTrue 29 = .ok (.invokespecial 48, 3) := by decide +kernel
theorem dX6_hypotIsTrue_32 : decode cX6_hypotIsTrue 32 = .ok (.athrow, 1) := by decide +kernel
theorem dX6_hypotIsTrue_33 : decode cX6_hypotIsTrue 33 = .ok (.iload_n 1, 1) := by decide +kernel
theorem dX6_hypotIsTrue_34 : decode cX6_hypotIsTrue 34 = .ok (.iload_n 2, 1) := by decide +kernel
theorem dX6_hypotIsTrue_35 : decode cX6_hypotIsTrue 35 = .ok (.invokestatic 264, 3) := by decide +kernel
theorem dX6_hypotIsTrue_38 : decode cX6_hypotIsTrue 38 = .ok (.ireturn, 1) := by decide +kernel
theorem dX6_listIsTrue_0 : decode cX6_listIsTrue 0 = .ok (.iload_n 1, 1) := by decide +kernel
theorem dX6_listIsTrue_1 : decode cX6_listIsTrue 1 = .ok (.invokestatic 209, 3) := by decide +kernel
theorem dX6_listIsTrue_4 : decode cX6_listIsTrue 4 = .ok (.aload_n 0, 1) := by decide +kernel
theorem dX6_listIsTrue_5 : decode cX6_listIsTrue 5 = .ok (.getfield 22, 3) := by decide +kernel
theorem dX6_listIsTrue_8 : decode cX6_listIsTrue 8 = .ok (.bipush 101, 2) := by decide +kernel
theorem dX6_listIsTrue_10 : decode cX6_listIsTrue 10 = .ok (.iload_n 1, 1) := by decide +kernel
theorem dX6_listIsTrue_11 : decode cX6_listIsTrue 11 = .ok (.invokevirtual 212, 3) := by decide +kernel
theorem dX6_listIsTrue_14 : decode cX6_listIsTrue 14 = .ok (.aload_n 0, 1) := by decide +kernel
theorem dX6_listIsTrue_15 : decode cX6_listIsTrue 15 = .ok (.getfield 25, 3) := by decide +kernel
theorem dX6_listIsTrue_18 : decode cX6_listIsTrue 18 = .ok (.bipush 116, 2) := by decide +kernel
theorem dX6_listIsTrue_20 : decode cX6_listIsTrue 20 = .ok (.iload_n 1, 1) := by decide +kernel
theorem dX6_listIsTrue_21 : decode cX6_listIsTrue 21 = .ok (.invokevirtual 212, 3) := by decide +kernel
theorem dX6_listIsTrue_24 : decode cX6_listIsTrue 24 = .ok (.aload_n 0, 1) := by decide +kernel
theorem dX6_listIsTrue_25 : decode cX6_listIsTrue 25 = .ok (.getfield 22, 3) := by decide +kernel
theorem dX6_listIsTrue_28 : decode cX6_listIsTrue 28 = .ok (.invokevirtual 268, 3) := by decide +kernel
theorem dX6_listIsTrue_31 : decode cX6_listIsTrue 31 = .ok (.ifCond .eq 17, 3) := by decide +kernel
theorem dX6_listIsTrue_34 : decode cX6_listIsTrue 34 = .ok (.aload_n 0, 1) := by decide +kernel
theorem dX6_listIsTrue_35 : decode cX6_listIsTrue 35 = .ok (.getfield 22, 3) := by decide +kernel
theorem dX6_listIsTrue_38 : decode cX6_listIsTrue 38 = .ok (.aload_n 0, 1) := by decide +kernel
theorem dX6_listIsTrue_39 : decode cX6_listIsTrue 39 = .ok (.getfield 25, 3) := by decide +kernel
theorem dX6_listIsTrue_42 : decode cX6_listIsTrue 42 = .ok (.invokevirtual 272, 3) := by decide +kernel
theorem dX6_listIsTrue_45 : decode cX6_listIsTrue 45 = .ok (.ifCond .ne 5, 3) := by decide +kernel
theorem dX6_listIsTrue_48 : decode cX6_listIsTrue 48 = .ok (.iconst 0, 1) := by decide +kernel
theorem dX6_listIsTrue_49 : decode cX6_listIsTrue 49 = .ok (.ireturn, 1) := by decide +kernel
theorem dX6_listIsTrue_50 : decode cX6_listIsTrue 50 = .ok (.aload_n 0, 1) := by decide +kernel
theorem dX6_listIsTrue_51 : decode cX6_listIsTrue 51 = .ok (.getfield 25, 3) := by decide +kernel
theorem dX6_listIsTrue_54 : decode cX6_listIsTrue 54 = .ok (.bipush 104, 2) := by decide +kernel
theorem dX6_listIsTrue_56 : decode cX6_listIsTrue 56 = .ok (.iload_n 1, 1) := by decide +kernel
theorem dX6_listIsTrue_57 : decode cX6_listIsTrue 57 = .ok (.invokevirtual 212, 3) := by decide +kernel
theorem dX6_listIsTrue_60 : decode cX6_listIsTrue 60 = .ok (.aload_n 0, 1) := by decide +kernel
theorem dX6_listIsTrue_61 : decode cX6_listIsTrue 61 = .ok (.getfield 22, 3) := by decide +kernel
theorem dX6_listIsTrue_64 : decode cX6_listIsTrue 64 = .ok (.aload_n 0, 1) := by decide +kernel
theorem dX6_listIsTrue_65 : decode cX6_listIsTrue 65 = .ok (.getfield 25, 3) := by decide +kernel
theorem dX6_listIsTrue_68 : decode cX6_listIsTrue 68 = .ok (.invokevirtual 272, 3) := by decide +kernel
theorem dX6_listIsTrue_71 : decode cX6_listIsTrue 71 = .ok (.ireturn, 1) := by decide +kernel
theorem dX6_countIsTrue_0 : decode cX6_countIsTrue 0 = .ok (.iload_n 1, 1) := by decide +kernel
theorem dX6_countIsTrue_1 : decode cX6_countIsTrue 1 = .ok (.invokestatic 227, 3) := by decide +kernel
theorem dX6_countIsTrue_4 : decode cX6_countIsTrue 4 = .ok (.iload_n 1, 1) := by decide +kernel
theorem dX6_countIsTrue_5 : decode cX6_countIsTrue 5 = .ok (.invokestatic 276, 3) := by decide +kernel
theorem dX6_countIsTrue_8 : decode cX6_countIsTrue 8 = .ok (.ireturn, 1) := by decide +kernel
theorem dX6_isPlace_0 : decode cX6_isPlace 0 = .ok (.iload_n 0, 1) := by decide +kernel
theorem dX6_isPlace_1 : decode cX6_isPlace 1 = .ok (.ifCond .lt 13, 3) := by decide +kernel
theorem dX6_isPlace_4 : decode cX6_isPlace 4 = .ok (.iload_n 0, 1) := by decide +kernel
theorem dX6_isPlace_5 : decode cX6_isPlace 5 = .ok (.bipush 16, 2) := by decide +kernel
theorem dX6_isPlace_7 : decode cX6_isPlace 7 = .ok (.if_icmp .ge 7, 3) := by decide +kernel
theorem dX6_isPlace_10 : decode cX6_isPlace 10 = .ok (.iconst 1, 1) := by decide +kernel
theorem dX6_isPlace_11 : decode cX6_isPlace 11 = .ok (.goto 4, 3) := by decide +kernel
theorem dX6_isPlace_14 : decode cX6_isPlace 14 = .ok (.iconst 0, 1) := by decide +kernel
theorem dX6_isPlace_15 : decode cX6_isPlace 15 = .ok (.ireturn, 1) := by decide +kernel
theorem dX6_isSide_0 : decode cX6_isSide 0 = .ok (.iload_n 0, 1) := by decide +kernel
theorem dX6_isSide_1 : decode cX6_isSide 1 = .ok (.iconst 1, 1) := by decide +kernel
theorem dX6_isSide_2 : decode cX6_isSide 2 = .ok (.if_icmp .lt 14, 3) := by decide +kernel
theorem dX6_isSide_5 : decode cX6_isSide 5 = .ok (.iload_n 0, 1) := by decide +kernel
theorem dX6_isSide_6 : decode cX6_isSide 6 = .ok (.ldc_w 261, 3) := by decide +kernel
theorem dX6_isSide_9 : decode cX6_isSide 9 = .ok (.if_icmp .gt 7, 3) := by decide +kernel
theorem dX6_isSide_12 : decode cX6_isSide 12 = .ok (.iconst 1, 1) := by decide +kernel
theorem dX6_isSide_13 : decode cX6_isSide 13 = .ok (.goto 4, 3) := by decide +kernel
theorem dX6_isSide_16 : decode cX6_isSide 16 = .ok (.iconst 0, 1) := by decide +kernel
theorem dX6_isSide_17 : decode cX6_isSide 17 = .ok (.ireturn, 1) := by decide +kernel
theorem dX6_requirePlace_0 : decode cX6_requirePlace 0 = .ok (.iload_n 0, 1) := by decide +kernel
theorem dX6_requirePlace_1 : decode cX6_requirePlace 1 = .ok (.invokestatic 279, 3) := by decide +kernel
theorem dX6_requirePlace_4 : decode cX6_requirePlace 4 = .ok (.ifCond .ne 14, 3) := by decide +kernel
theorem dX6_requirePlace_7 : decode cX6_requirePlace 7 = .ok (.new 219, 3) := by decide +kernel
theorem dX6_requirePlace_10 : decode cX6_requirePlace 10 = .ok (.dup, 1) := by decide +kernel
theorem dX6_requirePlace_11 : decode cX6_requirePlace 11 = .ok (.ldc_w 282, 3) := by decide +kernel
theorem dX6_requirePlace_14 : decode cX6_requirePlace 14 = .ok (.invokespecial 223, 3) := by decide +kernel
theorem dX6_requirePlace_17 : decode cX6_requirePlace 17 = .ok (.athrow, 1) := by decide +kernel
theorem dX6_requirePlace_18 : decode cX6_requirePlace 18 = .ok (.return_, 1) := by decide +kernel
theorem dX6_requireSide_0 : decode cX6_requireSide 0 = .ok (.iload_n 0, 1) := by decide +kernel
theorem dX6_requireSide_1 : decode cX6_requireSide 1 = .ok (.ifCond .lt 8, 3) := by decide +kernel
theorem dX6_requireSide_4 : decode cX6_requireSide 4 = .ok (.iload_n 0, 1) := by decide +kernel
theorem dX6_requireSide_5 : decode cX6_requireSide 5 = .ok (.iconst 3, 1) := by decide +kernel
theorem dX6_requireSide_6 : decode cX6_requireSide 6 = .ok (.if_icmp .lt 14, 3) := by decide +kernel
theorem dX6_requireSide_9 : decode cX6_requireSide 9 = .ok (.new 219, 3) := by decide +kernel
theorem dX6_requireSide_12 : decode cX6_requireSide 12 = .ok (.dup, 1) := by decide +kernel
theorem dX6_requireSide_13 : decode cX6_requireSide 13 = .ok (.ldc_w 284, 3) := by decide +kernel
theorem dX6_requireSide_16 : decode cX6_requireSide 16 = .ok (.invokespecial 223, 3) := by decide +kernel
theorem dX6_requireSide_19 : decode cX6_requireSide 19 = .ok (.athrow, 1) := by decide +kernel
theorem dX6_requireSide_20 : decode cX6_requireSide 20 = .ok (.return_, 1) := by decide +kernel
theorem dX6_requireNumber_0 : decode cX6_requireNumber 0 = .ok (.lload_n 0, 1) := by decide +kernel
theorem dX6_requireNumber_1 : decode cX6_requireNumber 1 = .ok (.lconst 0, 1) := by decide +kernel
theorem dX6_requireNumber_2 : decode cX6_requireNumber 2 = .ok (.lcmp, 1) := by decide +kernel
theorem dX6_requireNumber_3 : decode cX6_requireNumber 3 = .ok (.ifCond .lt 11, 3) := by decide +kernel
theorem dX6_requireNumber_6 : decode cX6_requireNumber 6 = .ok (.lload_n 0, 1) := by decide +kernel
theorem dX6_requireNumber_7 : decode cX6_requireNumber 7 = .ok (.ldc2_w 286, 3) := by decide +kernel
theorem dX6_requireNumber_10 : decode cX6_requireNumber 10 = .ok (.lcmp, 1) := by decide +kernel
theorem dX6_requireNumber_11 : decode cX6_requireNumber 11 = .ok (.ifCond .le 13, 3) := by decide +kernel
theorem dX6_requireNumber_14 : decode cX6_requireNumber 14 = .ok (.new 44, 3) := by decide +kernel
theorem dX6_requireNumber_17 : decode cX6_requireNumber 17 = .ok (.dup, 1) := by decide +kernel
theorem dX6_requireNumber_18 : decode cX6_requireNumber 18 = .ok (.ldc 81, 2) := by decide +kernel
theorem dX6_requireNumber_20 : decode cX6_requireNumber 20 = .ok (.invokespecial 48, 3) := by decide +kernel
theorem dX6_requireNumber_23 : decode cX6_requireNumber 23 = .ok (.athrow, 1) := by decide +kernel
theorem dX6_requireNumber_24 : decode cX6_requireNumber 24 = .ok (.return_, 1) := by decide +kernel
theorem dX6_requireBound_0 : decode cX6_requireBound 0 = .ok (.iload_n 0, 1) := by decide +kernel
theorem dX6_requireBound_1 : decode cX6_requireBound 1 = .ok (.ifCond .lt 10, 3) := by decide +kernel
theorem dX6_requireBound_4 : decode cX6_requireBound 4 = .ok (.iload_n 0, 1) := by decide +kernel
theorem dX6_requireBound_5 : decode cX6_requireBound 5 = .ok (.sipush 400, 3) := by decide +kernel
theorem dX6_requireBound_8 : decode cX6_requireBound 8 = .ok (.if_icmp .le 14, 3) := by decide +kernel
theorem dX6_requireBound_11 : decode cX6_requireBound 11 = .ok (.new 44, 3) := by decide +kernel
theorem dX6_requireBound_14 : decode cX6_requireBound 14 = .ok (.dup, 1) := by decide +kernel
theorem dX6_requireBound_15 : decode cX6_requireBound 15 = .ok (.ldc_w 288, 3) := by decide +kernel
theorem dX6_requireBound_18 : decode cX6_requireBound 18 = .ok (.invokespecial 48, 3) := by decide +kernel
theorem dX6_requireBound_21 : decode cX6_requireBound 21 = .ok (.athrow, 1) := by decide +kernel
theorem dX6_requireBound_22 : decode cX6_requireBound 22 = .ok (.return_, 1) := by decide +kernel
theorem dX6_requireLength_0 : decode cX6_requireLength 0 = .ok (.iload_n 0, 1) := by decide +kernel
theorem dX6_requireLength_1 : decode cX6_requireLength 1 = .ok (.iconst 1, 1) := by decide +kernel
theorem dX6_requireLength_2 : decode cX6_requireLength 2 = .ok (.if_icmp .lt 10, 3) := by decide +kernel
theorem dX6_requireLength_5 : decode cX6_requireLength 5 = .ok (.iload_n 0, 1) := by decide +kernel
theorem dX6_requireLength_6 : decode cX6_requireLength 6 = .ok (.sipush 1000, 3) := by decide +kernel
theorem dX6_requireLength_9 : decode cX6_requireLength 9 = .ok (.if_icmp .le 14, 3) := by decide +kernel
theorem dX6_requireLength_12 : decode cX6_requireLength 12 = .ok (.new 44, 3) := by decide +kernel
theorem dX6_requireLength_15 : decode cX6_requireLength 15 = .ok (.dup, 1) := by decide +kernel
theorem dX6_requireLength_16 : decode cX6_requireLength 16 = .ok (.ldc_w 290, 3) := by decide +kernel
theorem dX6_requireLength_19 : decode cX6_requireLength 19 = .ok (.invokespecial 48, 3) := by decide +kernel
theorem dX6_requireLength_22 : decode cX6_requireLength 22 = .ok (.athrow, 1) := by decide +kernel
theorem dX6_requireLength_23 : decode cX6_requireLength 23 = .ok (.return_, 1) := by decide +kernel
theorem dX6_triangleAt_0 : decode cX6_triangleAt 0 = .ok (.iload_n 1, 1) := by decide +kernel
theorem dX6_triangleAt_1 : decode cX6_triangleAt 1 = .ok (.invokestatic 279, 3) := by decide +kernel
theorem dX6_triangleAt_4 : decode cX6_triangleAt 4 = .ok (.ifCond .eq 12, 3) := by decide +kernel
theorem dX6_triangleAt_7 : decode cX6_triangleAt 7 = .ok (.aload_n 0, 1) := by decide +kernel
theorem dX6_triangleAt_8 : decode cX6_triangleAt 8 = .ok (.getfield 11, 3) := by decide +kernel
theorem dX6_triangleAt_11 : decode cX6_triangleAt 11 = .ok (.iload_n 1, 1) := by decide +kernel
theorem dX6_triangleAt_12 : decode cX6_triangleAt 12 = .ok (.aaload, 1) := by decide +kernel
theorem dX6_triangleAt_13 : decode cX6_triangleAt 13 = .ok (.goto 4, 3) := by decide +kernel
theorem dX6_triangleAt_16 : decode cX6_triangleAt 16 = .ok (.aconst_null, 1) := by decide +kernel
theorem dX6_triangleAt_17 : decode cX6_triangleAt 17 = .ok (.areturn, 1) := by decide +kernel
theorem dX6_heldAt_0 : decode cX6_heldAt 0 = .ok (.iload_n 1, 1) := by decide +kernel
theorem dX6_heldAt_1 : decode cX6_heldAt 1 = .ok (.invokestatic 36, 3) := by decide +kernel
theorem dX6_heldAt_4 : decode cX6_heldAt 4 = .ok (.aload_n 0, 1) := by decide +kernel
theorem dX6_heldAt_5 : decode cX6_heldAt 5 = .ok (.iload_n 1, 1) := by decide +kernel
theorem dX6_heldAt_6 : decode cX6_heldAt 6 = .ok (.invokevirtual 71, 3) := by decide +kernel
theorem dX6_heldAt_9 : decode cX6_heldAt 9 = .ok (.astore_n 2, 1) := by decide +kernel
theorem dX6_heldAt_10 : decode cX6_heldAt 10 = .ok (.aload_n 2, 1) := by decide +kernel
theorem dX6_heldAt_11 : decode cX6_heldAt 11 = .ok (.ifnonnull 14, 3) := by decide +kernel
theorem dX6_heldAt_14 : decode cX6_heldAt 14 = .ok (.new 292, 3) := by decide +kernel
theorem dX6_heldAt_17 : decode cX6_heldAt 17 = .ok (.dup, 1) := by decide +kernel
theorem dX6_heldAt_18 : decode cX6_heldAt 18 = .ok (.ldc_w 294, 3) := by decide +kernel
theorem dX6_heldAt_21 : decode cX6_heldAt 21 = .ok (.invokespecial 296, 3) := by decide +kernel
theorem dX6_heldAt_24 : decode cX6_heldAt 24 = .ok (.athrow, 1) := by decide +kernel
theorem dX6_heldAt_25 : decode cX6_heldAt 25 = .ok (.aload_n 2, 1) := by decide +kernel
theorem dX6_heldAt_26 : decode cX6_heldAt 26 = .ok (.areturn, 1) := by decide +kernel
theorem dX6_primitiveAt_0 : decode cX6_primitiveAt 0 = .ok (.aload_n 0, 1) := by decide +kernel
theorem dX6_primitiveAt_1 : decode cX6_primitiveAt 1 = .ok (.iload_n 1, 1) := by decide +kernel
theorem dX6_primitiveAt_2 : decode cX6_primitiveAt 2 = .ok (.invokevirtual 67, 3) := by decide +kernel
theorem dX6_primitiveAt_5 : decode cX6_primitiveAt 5 = .ok (.astore_n 2, 1) := by decide +kernel
theorem dX6_primitiveAt_6 : decode cX6_primitiveAt 6 = .ok (.aload_n 2, 1) := by decide +kernel
theorem dX6_primitiveAt_7 : decode cX6_primitiveAt 7 = .ok (.invokevirtual 297, 3) := by decide +kernel
theorem dX6_primitiveAt_10 : decode cX6_primitiveAt 10 = .ok (.ifCond .ne 14, 3) := by decide +kernel
theorem dX6_primitiveAt_13 : decode cX6_primitiveAt 13 = .ok (.new 51, 3) := by decide +kernel
theorem dX6_primitiveAt_16 : decode cX6_primitiveAt 16 = .ok (.dup, 1) := by decide +kernel
theorem dX6_primitiveAt_17 : decode cX6_primitiveAt 17 = .ok (.ldc_w 300, 3) := by decide +kernel
theorem dX6_primitiveAt_20 : decode cX6_primitiveAt 20 = .ok (.invokespecial 55, 3) := by decide +kernel
theorem dX6_primitiveAt_23 : decode cX6_primitiveAt 23 = .ok (.athrow, 1) := by decide +kernel
theorem dX6_primitiveAt_24 : decode cX6_primitiveAt 24 = .ok (.aload_n 2, 1) := by decide +kernel
theorem dX6_primitiveAt_25 : decode cX6_primitiveAt 25 = .ok (.areturn, 1) := by decide +kernel
theorem dX6_hold_0 : decode cX6_hold 0 = .ok (.iload_n 1, 1) := by decide +kernel
theorem dX6_hold_1 : decode cX6_hold 1 = .ok (.invokestatic 279, 3) := by decide +kernel
theorem dX6_hold_4 : decode cX6_hold 4 = .ok (.ifCond .eq 10, 3) := by decide +kernel
theorem dX6_hold_7 : decode cX6_hold 7 = .ok (.aload_n 0, 1) := by decide +kernel
theorem dX6_hold_8 : decode cX6_hold 8 = .ok (.getfield 11, 3) := by decide +kernel
theorem dX6_hold_11 : decode cX6_hold 11 = .ok (.iload_n 1, 1) := by decide +kernel
theorem dX6_hold_12 : decode cX6_hold 12 = .ok (.aload_n 2, 1) := by decide +kernel
theorem dX6_hold_13 : decode cX6_hold 13 = .ok (.aastore, 1) := by decide +kernel
theorem dX6_hold_14 : decode cX6_hold 14 = .ok (.return_, 1) := by decide +kernel
theorem dX6_holdIfShortEnough_0 : decode cX6_holdIfShortEnough 0 = .ok (.iload_n 2, 1) := by decide +kernel
theorem dX6_holdIfShortEnough_1 : decode cX6_holdIfShortEnough 1 = .ok (.invokestatic 40, 3) := by decide +kernel
theorem dX6_holdIfShortEnough_4 : decode cX6_holdIfShortEnough 4 = .ok (.ifCond .eq 18, 3) := by decide +kernel
theorem dX6_holdIfShortEnough_7 : decode cX6_holdIfShortEnough 7 = .ok (.iload_n 3, 1) := by decide +kernel
theorem dX6_holdIfShortEnough_8 : decode cX6_holdIfShortEnough 8 = .ok (.invokestatic 40, 3) := by decide +kernel
theorem dX6_holdIfShortEnough_11 : decode cX6_holdIfShortEnough 11 = .ok (.ifCond .eq 11, 3) := by decide +kernel
theorem dX6_holdIfShortEnough_14 : decode cX6_holdIfShortEnough 14 = .ok (.iload 4, 2) := by decide +kernel
theorem dX6_holdIfShortEnough_16 : decode cX6_holdIfShortEnough 16 = .ok (.invokestatic 40, 3) := by decide +kernel
theorem dX6_holdIfShortEnough_19 : decode cX6_holdIfShortEnough 19 = .ok (.ifCond .ne 14, 3) := by decide +kernel
theorem dX6_holdIfShortEnough_22 : decode cX6_holdIfShortEnough 22 = .ok (.new 51, 3) := by decide +kernel
theorem dX6_holdIfShortEnough_25 : decode cX6_holdIfShortEnough 25 = .ok (.dup, 1) := by decide +kernel
theorem dX6_holdIfShortEnough_26 : decode cX6_holdIfShortEnough 26 = .ok (.ldc_w 302, 3) := by decide +kernel
theorem dX6_holdIfShortEnough_29 : decode cX6_holdIfShortEnough 29 = .ok (.invokespecial 55, 3) := by decide +kernel
theorem dX6_holdIfShortEnough_32 : decode cX6_holdIfShortEnough 32 = .ok (.athrow, 1) := by decide +kernel
theorem dX6_holdIfShortEnough_33 : decode cX6_holdIfShortEnough 33 = .ok (.new 9, 3) := by decide +kernel
theorem dX6_holdIfShortEnough_36 : decode cX6_holdIfShortEnough 36 = .ok (.dup, 1) := by decide +kernel
theorem dX6_holdIfShortEnough_37 : decode cX6_holdIfShortEnough 37 = .ok (.iload_n 2, 1) := by decide +kernel
theorem dX6_holdIfShortEnough_38 : decode cX6_holdIfShortEnough 38 = .ok (.iload_n 3, 1) := by decide +kernel
theorem dX6_holdIfShortEnough_39 : decode cX6_holdIfShortEnough 39 = .ok (.iload 4, 2) := by decide +kernel
theorem dX6_holdIfShortEnough_41 : decode cX6_holdIfShortEnough 41 = .ok (.invokespecial 56, 3) := by decide +kernel
theorem dX6_holdIfShortEnough_44 : decode cX6_holdIfShortEnough 44 = .ok (.astore 5, 2) := by decide +kernel
theorem dX6_holdIfShortEnough_46 : decode cX6_holdIfShortEnough 46 = .ok (.aload_n 0, 1) := by decide +kernel
theorem dX6_holdIfShortEnough_47 : decode cX6_holdIfShortEnough 47 = .ok (.iload_n 1, 1) := by decide +kernel
theorem dX6_holdIfShortEnough_48 : decode cX6_holdIfShortEnough 48 = .ok (.aload 5, 2) := by decide +kernel
theorem dX6_holdIfShortEnough_50 : decode cX6_holdIfShortEnough 50 = .ok (.invokevirtual 59, 3) := by decide +kernel
theorem dX6_holdIfShortEnough_53 : decode cX6_holdIfShortEnough 53 = .ok (.aload 5, 2) := by decide +kernel
theorem dX6_holdIfShortEnough_55 : decode cX6_holdIfShortEnough 55 = .ok (.getfield 89, 3) := by decide +kernel
theorem dX6_holdIfShortEnough_58 : decode cX6_holdIfShortEnough 58 = .ok (.ireturn, 1) := by decide +kernel
theorem dX6_countHeld_0 : decode cX6_countHeld 0 = .ok (.iconst 0, 1) := by decide +kernel
theorem dX6_countHeld_1 : decode cX6_countHeld 1 = .ok (.istore_n 1, 1) := by decide +kernel
theorem dX6_countHeld_2 : decode cX6_countHeld 2 = .ok (.iconst 0, 1) := by decide +kernel
theorem dX6_countHeld_3 : decode cX6_countHeld 3 = .ok (.istore_n 2, 1) := by decide +kernel
theorem dX6_countHeld_4 : decode cX6_countHeld 4 = .ok (.iload_n 2, 1) := by decide +kernel
theorem dX6_countHeld_5 : decode cX6_countHeld 5 = .ok (.bipush 16, 2) := by decide +kernel
theorem dX6_countHeld_7 : decode cX6_countHeld 7 = .ok (.if_icmp .ge 25, 3) := by decide +kernel
theorem dX6_countHeld_10 : decode cX6_countHeld 10 = .ok (.iload_n 1, 1) := by decide +kernel
theorem dX6_countHeld_11 : decode cX6_countHeld 11 = .ok (.aload_n 0, 1) := by decide +kernel
theorem dX6_countHeld_12 : decode cX6_countHeld 12 = .ok (.iload_n 2, 1) := by decide +kernel
theorem dX6_countHeld_13 : decode cX6_countHeld 13 = .ok (.invokevirtual 71, 3) := by decide +kernel
theorem dX6_countHeld_16 : decode cX6_countHeld 16 = .ok (.ifnonnull 7, 3) := by decide +kernel
theorem dX6_countHeld_19 : decode cX6_countHeld 19 = .ok (.iconst 0, 1) := by decide +kernel
theorem dX6_countHeld_20 : decode cX6_countHeld 20 = .ok (.goto 4, 3) := by decide +kernel
theorem dX6_countHeld_23 : decode cX6_countHeld 23 = .ok (.iconst 1, 1) := by decide +kernel
theorem dX6_countHeld_24 : decode cX6_countHeld 24 = .ok (.iadd, 1) := by decide +kernel
theorem dX6_countHeld_25 : decode cX6_countHeld 25 = .ok (.istore_n 1, 1) := by decide +kernel
theorem dX6_countHeld_26 : decode cX6_countHeld 26 = .ok (.iinc 2 1, 3) := by decide +kernel
theorem dX6_countHeld_29 : decode cX6_countHeld 29 = .ok (.goto (-25), 3) := by decide +kernel
theorem dX6_countHeld_32 : decode cX6_countHeld 32 = .ok (.iload_n 1, 1) := by decide +kernel
theorem dX6_countHeld_33 : decode cX6_countHeld 33 = .ok (.ireturn, 1) := by decide +kernel
theorem dX6_putInOrder_0 : decode cX6_putInOrder 0 = .ok (.aload_n 0, 1) := by decide +kernel
theorem dX6_putInOrder_1 : decode cX6_putInOrder 1 = .ok (.getfield 32, 3) := by decide +kernel
theorem dX6_putInOrder_4 : decode cX6_putInOrder 4 = .ok (.istore_n 3, 1) := by decide +kernel
theorem dX6_putInOrder_5 : decode cX6_putInOrder 5 = .ok (.iload_n 3, 1) := by decide +kernel
theorem dX6_putInOrder_6 : decode cX6_putInOrder 6 = .ok (.ifCond .le 46, 3) := by decide +kernel
theorem dX6_putInOrder_9 : decode cX6_putInOrder 9 = .ok (.iload_n 3, 1) := by decide +kernel
theorem dX6_putInOrder_10 : decode cX6_putInOrder 10 = .ok (.bipush 16, 2) := by decide +kernel
theorem dX6_putInOrder_12 : decode cX6_putInOrder 12 = .ok (.if_icmp .ge 40, 3) := by decide +kernel
theorem dX6_putInOrder_15 : decode cX6_putInOrder 15 = .ok (.aload_n 0, 1) := by decide +kernel
theorem dX6_putInOrder_16 : decode cX6_putInOrder 16 = .ok (.iload_n 1, 1) := by decide +kernel
theorem dX6_putInOrder_17 : decode cX6_putInOrder 17 = .ok (.aload_n 0, 1) := by decide +kernel
theorem dX6_putInOrder_18 : decode cX6_putInOrder 18 = .ok (.getfield 28, 3) := by decide +kernel
theorem dX6_putInOrder_21 : decode cX6_putInOrder 21 = .ok (.iload_n 3, 1) := by decide +kernel
theorem dX6_putInOrder_22 : decode cX6_putInOrder 22 = .ok (.iconst 1, 1) := by decide +kernel
theorem dX6_putInOrder_23 : decode cX6_putInOrder 23 = .ok (.isub, 1) := by decide +kernel
theorem dX6_putInOrder_24 : decode cX6_putInOrder 24 = .ok (.iaload, 1) := by decide +kernel
theorem dX6_putInOrder_25 : decode cX6_putInOrder 25 = .ok (.iload_n 2, 1) := by decide +kernel
theorem dX6_putInOrder_26 : decode cX6_putInOrder 26 = .ok (.invokevirtual 304, 3) := by decide +kernel
theorem dX6_putInOrder_29 : decode cX6_putInOrder 29 = .ok (.ifCond .eq 23, 3) := by decide +kernel
theorem dX6_putInOrder_32 : decode cX6_putInOrder 32 = .ok (.aload_n 0, 1) := by decide +kernel
theorem dX6_putInOrder_33 : decode cX6_putInOrder 33 = .ok (.getfield 28, 3) := by decide +kernel
theorem dX6_putInOrder_36 : decode cX6_putInOrder 36 = .ok (.iload_n 3, 1) := by decide +kernel
theorem dX6_putInOrder_37 : decode cX6_putInOrder 37 = .ok (.aload_n 0, 1) := by decide +kernel
theorem dX6_putInOrder_38 : decode cX6_putInOrder 38 = .ok (.getfield 28, 3) := by decide +kernel
theorem dX6_putInOrder_41 : decode cX6_putInOrder 41 = .ok (.iload_n 3, 1) := by decide +kernel
theorem dX6_putInOrder_42 : decode cX6_putInOrder 42 = .ok (.iconst 1, 1) := by decide +kernel
theorem dX6_putInOrder_43 : decode cX6_putInOrder 43 = .ok (.isub, 1) := by decide +kernel
theorem dX6_putInOrder_44 : decode cX6_putInOrder 44 = .ok (.iaload, 1) := by decide +kernel
theorem dX6_putInOrder_45 : decode cX6_putInOrder 45 = .ok (.iastore, 1) := by decide +kernel
theorem dX6_putInOrder_46 : decode cX6_putInOrder 46 = .ok (.iinc 3 (-1), 3) := by decide +kernel
theorem dX6_putInOrder_49 : decode cX6_putInOrder 49 = .ok (.goto (-44), 3) := by decide +kernel
theorem dX6_putInOrder_52 : decode cX6_putInOrder 52 = .ok (.iload_n 3, 1) := by decide +kernel
theorem dX6_putInOrder_53 : decode cX6_putInOrder 53 = .ok (.ifCond .lt 26, 3) := by decide +kernel
theorem dX6_putInOrder_56 : decode cX6_putInOrder 56 = .ok (.iload_n 3, 1) := by decide +kernel
theorem dX6_putInOrder_57 : decode cX6_putInOrder 57 = .ok (.bipush 16, 2) := by decide +kernel
theorem dX6_putInOrder_59 : decode cX6_putInOrder 59 = .ok (.if_icmp .ge 20, 3) := by decide +kernel
theorem dX6_putInOrder_62 : decode cX6_putInOrder 62 = .ok (.aload_n 0, 1) := by decide +kernel
theorem dX6_putInOrder_63 : decode cX6_putInOrder 63 = .ok (.getfield 28, 3) := by decide +kernel
theorem dX6_putInOrder_66 : decode cX6_putInOrder 66 = .ok (.iload_n 3, 1) := by decide +kernel
theorem dX6_putInOrder_67 : decode cX6_putInOrder 67 = .ok (.iload_n 1, 1) := by decide +kernel
theorem dX6_putInOrder_68 : decode cX6_putInOrder 68 = .ok (.iastore, 1) := by decide +kernel
theorem dX6_putInOrder_69 : decode cX6_putInOrder 69 = .ok (.aload_n 0, 1) := by decide +kernel
theorem dX6_putInOrder_70 : decode cX6_putInOrder 70 = .ok (.dup, 1) := by decide +kernel
theorem dX6_putInOrder_71 : decode cX6_putInOrder 71 = .ok (.getfield 32, 3) := by decide +kernel
theorem dX6_putInOrder_74 : decode cX6_putInOrder 74 = .ok (.iconst 1, 1) := by decide +kernel
theorem dX6_putInOrder_75 : decode cX6_putInOrder 75 = .ok (.iadd, 1) := by decide +kernel
theorem dX6_putInOrder_76 : decode cX6_putInOrder 76 = .ok (.putfield 32, 3) := by decide +kernel
theorem dX6_putInOrder_79 : decode cX6_putInOrder 79 = .ok (.return_, 1) := by decide +kernel
theorem dX6_isLess_0 : decode cX6_isLess 0 = .ok (.aload_n 0, 1) := by decide +kernel
theorem dX6_isLess_1 : decode cX6_isLess 1 = .ok (.iload_n 1, 1) := by decide +kernel
theorem dX6_isLess_2 : decode cX6_isLess 2 = .ok (.invokevirtual 71, 3) := by decide +kernel
theorem dX6_isLess_5 : decode cX6_isLess 5 = .ok (.astore 4, 2) := by decide +kernel
theorem dX6_isLess_7 : decode cX6_isLess 7 = .ok (.aload_n 0, 1) := by decide +kernel
theorem dX6_isLess_8 : decode cX6_isLess 8 = .ok (.iload_n 2, 1) := by decide +kernel
theorem dX6_isLess_9 : decode cX6_isLess 9 = .ok (.invokevirtual 71, 3) := by decide +kernel
theorem dX6_isLess_12 : decode cX6_isLess 12 = .ok (.astore 5, 2) := by decide +kernel
theorem dX6_isLess_14 : decode cX6_isLess 14 = .ok (.aload 4, 2) := by decide +kernel
theorem dX6_isLess_16 : decode cX6_isLess 16 = .ok (.ifnull 8, 3) := by decide +kernel
theorem dX6_isLess_19 : decode cX6_isLess 19 = .ok (.aload 5, 2) := by decide +kernel
theorem dX6_isLess_21 : decode cX6_isLess 21 = .ok (.ifnonnull 5, 3) := by decide +kernel
theorem dX6_isLess_24 : decode cX6_isLess 24 = .ok (.iconst 0, 1) := by decide +kernel
theorem dX6_isLess_25 : decode cX6_isLess 25 = .ok (.ireturn, 1) := by decide +kernel
theorem dX6_isLess_26 : decode cX6_isLess 26 = .ok (.iload_n 3, 1) := by decide +kernel
theorem dX6_isLess_27 : decode cX6_isLess 27 = .ok (.bipush 99, 2) := by decide +kernel
theorem dX6_isLess_29 : decode cX6_isLess 29 = .ok (.if_icmp .ne 22, 3) := by decide +kernel
theorem dX6_isLess_32 : decode cX6_isLess 32 = .ok (.aload 4, 2) := by decide +kernel
theorem dX6_isLess_34 : decode cX6_isLess 34 = .ok (.getfield 89, 3) := by decide +kernel
theorem dX6_isLess_37 : decode cX6_isLess 37 = .ok (.aload 5, 2) := by decide +kernel
theorem dX6_isLess_39 : decode cX6_isLess 39 = .ok (.getfield 89, 3) := by decide +kernel
theorem dX6_isLess_42 : decode cX6_isLess 42 = .ok (.if_icmp .ge 7, 3) := by decide +kernel
theorem dX6_isLess_45 : decode cX6_isLess 45 = .ok (.iconst 1, 1) := by decide +kernel
theorem dX6_isLess_46 : decode cX6_isLess 46 = .ok (.goto 4, 3) := by decide +kernel
theorem dX6_isLess_49 : decode cX6_isLess 49 = .ok (.iconst 0, 1) := by decide +kernel
theorem dX6_isLess_50 : decode cX6_isLess 50 = .ok (.ireturn, 1) := by decide +kernel
theorem dX6_isLess_51 : decode cX6_isLess 51 = .ok (.iload_n 3, 1) := by decide +kernel
theorem dX6_isLess_52 : decode cX6_isLess 52 = .ok (.bipush 112, 2) := by decide +kernel
theorem dX6_isLess_54 : decode cX6_isLess 54 = .ok (.if_icmp .ne 24, 3) := by decide +kernel
theorem dX6_isLess_57 : decode cX6_isLess 57 = .ok (.aload 4, 2) := by decide +kernel
theorem dX6_isLess_59 : decode cX6_isLess 59 = .ok (.invokevirtual 155, 3) := by decide +kernel
theorem dX6_isLess_62 : decode cX6_isLess 62 = .ok (.aload 5, 2) := by decide +kernel
theorem dX6_isLess_64 : decode cX6_isLess 64 = .ok (.invokevirtual 155, 3) := by decide +kernel
theorem dX6_isLess_67 : decode cX6_isLess 67 = .ok (.if_icmp .ge 7, 3) := by decide +kernel
theorem dX6_isLess_70 : decode cX6_isLess 70 = .ok (.iconst 1, 1) := by decide +kernel
theorem dX6_isLess_71 : decode cX6_isLess 71 = .ok (.goto 22, 3) := by decide +kernel
theorem dX6_isLess_74 : decode cX6_isLess 74 = .ok (.iconst 0, 1) := by decide +kernel
theorem dX6_isLess_75 : decode cX6_isLess 75 = .ok (.goto 18, 3) := by decide +kernel
theorem dX6_isLess_78 : decode cX6_isLess 78 = .ok (.aload 4, 2) := by decide +kernel
theorem dX6_isLess_80 : decode cX6_isLess 80 = .ok (.aload 5, 2) := by decide +kernel
theorem dX6_isLess_82 : decode cX6_isLess 82 = .ok (.invokevirtual 131, 3) := by decide +kernel
theorem dX6_isLess_85 : decode cX6_isLess 85 = .ok (.ifCond .ge 7, 3) := by decide +kernel
theorem dX6_isLess_88 : decode cX6_isLess 88 = .ok (.iconst 1, 1) := by decide +kernel
theorem dX6_isLess_89 : decode cX6_isLess 89 = .ok (.goto 4, 3) := by decide +kernel
theorem dX6_isLess_92 : decode cX6_isLess 92 = .ok (.iconst 0, 1) := by decide +kernel
theorem dX6_isLess_93 : decode cX6_isLess 93 = .ok (.ireturn, 1) := by decide +kernel
end
section
theorem dX7_init_0 : decode cX7_init 0 = .ok (.aload_n 0, 1) := by decide +kernel
theorem dX7_init_1 : decode cX7_init 1 = .ok (.invokespecial 1, 3) := by decide +kernel
theorem dX7_init_4 : decode cX7_init 4 = .ok (.aload_n 0, 1) := by decide +kernel
theorem dX7_init_5 : decode cX7_init 5 = .ok (.bipush 16, 2) := by decide +kernel
theorem dX7_init_7 : decode cX7_init 7 = .ok (.newarray .int, 2) := by decide +kernel
theorem dX7_init_9 : decode cX7_init 9 = .ok (.putfield 7, 3) := by decide +kernel
theorem dX7_init_12 : decode cX7_init 12 = .ok (.aload_n 0, 1) := by decide +kernel
theorem dX7_init_13 : decode cX7_init 13 = .ok (.bipush 16, 2) := by decide +kernel
theorem dX7_init_15 : decode cX7_init 15 = .ok (.newarray .int, 2) := by decide +kernel
theorem dX7_init_17 : decode cX7_init 17 = .ok (.putfield 13, 3) := by decide +kernel
theorem dX7_init_20 : decode cX7_init 20 = .ok (.aload_n 0, 1) := by decide +kernel
theorem dX7_init_21 : decode cX7_init 21 = .ok (.bipush 16, 2) := by decide +kernel
theorem dX7_init_23 : decode cX7_init 23 = .ok (.newarray .int, 2) := by decide +kernel
theorem dX7_init_25 : decode cX7_init 25 = .ok (.putfield 16, 3) := by decide +kernel
theorem dX7_init_28 : decode cX7_init 28 = .ok (.aload_n 0, 1) := by decide +kernel
theorem dX7_init_29 : decode cX7_init 29 = .ok (.bipush 80, 2) := by decide +kernel
theorem dX7_init_31 : decode cX7_init 31 = .ok (.newarray .int, 2) := by decide +kernel
theorem dX7_init_33 : decode cX7_init 33 = .ok (.putfield 19, 3) := by decide +kernel
theorem dX7_init_36 : decode cX7_init 36 = .ok (.aload_n 0, 1) := by decide +kernel
theorem dX7_init_37 : decode cX7_init 37 = .ok (.bipush 80, 2) := by decide +kernel
theorem dX7_init_39 : decode cX7_init 39 = .ok (.newarray .int, 2) := by decide +kernel
theorem dX7_init_41 : decode cX7_init 41 = .ok (.putfield 22, 3) := by decide +kernel
theorem dX7_init_44 : decode cX7_init 44 = .ok (.aload_n 0, 1) := by decide +kernel
theorem dX7_init_45 : decode cX7_init 45 = .ok (.bipush 80, 2) := by decide +kernel
theorem dX7_init_47 : decode cX7_init 47 = .ok (.newarray .int, 2) := by decide +kernel
theorem dX7_init_49 : decode cX7_init 49 = .ok (.putfield 25, 3) := by decide +kernel
theorem dX7_init_52 : decode cX7_init 52 = .ok (.aload_n 0, 1) := by decide +kernel
theorem dX7_init_53 : decode cX7_init 53 = .ok (.bipush 16, 2) := by decide +kernel
theorem dX7_init_55 : decode cX7_init 55 = .ok (.newarray .int, 2) := by decide +kernel
theorem dX7_init_57 : decode cX7_init 57 = .ok (.putfield 28, 3) := by decide +kernel
theorem dX7_init_60 : decode cX7_init 60 = .ok (.return_, 1) := by decide +kernel
theorem dX7_thrown_0 : decode cX7_thrown 0 = .ok (.aload_n 0, 1) := by decide +kernel
theorem dX7_thrown_1 : decode cX7_thrown 1 = .ok (.getfield 31, 3) := by decide +kernel
theorem dX7_thrown_4 : decode cX7_thrown 4 = .ok (.ireturn, 1) := by decide +kernel
theorem dX7_isWrong_0 : decode cX7_isWrong 0 = .ok (.aload_n 0, 1) := by decide +kernel
theorem dX7_isWrong_1 : decode cX7_isWrong 1 = .ok (.iload_n 1, 1) := by decide +kernel
theorem dX7_isWrong_2 : decode cX7_isWrong 2 = .ok (.putfield 31, 3) := by decide +kernel
theorem dX7_isWrong_5 : decode cX7_isWrong 5 = .ok (.iload_n 1, 1) := by decide +kernel
theorem dX7_isWrong_6 : decode cX7_isWrong 6 = .ok (.ifCond .eq 7, 3) := by decide +kernel
theorem dX7_isWrong_9 : decode cX7_isWrong 9 = .ok (.iconst 1, 1) := by decide +kernel
theorem dX7_isWrong_10 : decode cX7_isWrong 10 = .ok (.goto 4, 3) := by decide +kernel
theorem dX7_isWrong_13 : decode cX7_isWrong 13 = .ok (.iconst 0, 1) := by decide +kernel
theorem dX7_isWrong_14 : decode cX7_isWrong 14 = .ok (.ireturn, 1) := by decide +kernel
theorem dX7_isBetween_0 : decode cX7_isBetween 0 = .ok (.lload_n 0, 1) := by decide +kernel
theorem dX7_isBetween_1 : decode cX7_isBetween 1 = .ok (.lload_n 2, 1) := by decide +kernel
theorem dX7_isBetween_2 : decode cX7_isBetween 2 = .ok (.lcmp, 1) := by decide +kernel
theorem dX7_isBetween_3 : decode cX7_isBetween 3 = .ok (.ifCond .lt 14, 3) := by decide +kernel
theorem dX7_isBetween_6 : decode cX7_isBetween 6 = .ok (.lload_n 0, 1) := by decide +kernel
theorem dX7_isBetween_7 : decode cX7_isBetween 7 = .ok (.lload 4, 2) := by decide +kernel
theorem dX7_isBetween_9 : decode cX7_isBetween 9 = .ok (.lcmp, 1) := by decide +kernel
theorem dX7_isBetween_10 : decode cX7_isBetween 10 = .ok (.ifCond .gt 7, 3) := by decide +kernel
theorem dX7_isBetween_13 : decode cX7_isBetween 13 = .ok (.iconst 1, 1) := by decide +kernel
theorem dX7_isBetween_14 : decode cX7_isBetween 14 = .ok (.goto 4, 3) := by decide +kernel
theorem dX7_isBetween_17 : decode cX7_isBetween 17 = .ok (.iconst 0, 1) := by decide +kernel
theorem dX7_isBetween_18 : decode cX7_isBetween 18 = .ok (.ireturn, 1) := by decide +kernel
theorem dX7_isPlace_0 : decode cX7_isPlace 0 = .ok (.iload_n 0, 1) := by decide +kernel
theorem dX7_isPlace_1 : decode cX7_isPlace 1 = .ok (.i2l, 1) := by decide +kernel
theorem dX7_isPlace_2 : decode cX7_isPlace 2 = .ok (.lconst 0, 1) := by decide +kernel
theorem dX7_isPlace_3 : decode cX7_isPlace 3 = .ok (.ldc2_w 35, 3) := by decide +kernel
theorem dX7_isPlace_6 : decode cX7_isPlace 6 = .ok (.invokestatic 37, 3) := by decide +kernel
theorem dX7_isPlace_9 : decode cX7_isPlace 9 = .ok (.ireturn, 1) := by decide +kernel
theorem dX7_isThere_0 : decode cX7_isThere 0 = .ok (.aload_n 0, 1) := by decide +kernel
theorem dX7_isThere_1 : decode cX7_isThere 1 = .ok (.getfield 16, 3) := by decide +kernel
theorem dX7_isThere_4 : decode cX7_isThere 4 = .ok (.iload_n 1, 1) := by decide +kernel
theorem dX7_isThere_5 : decode cX7_isThere 5 = .ok (.iaload, 1) := by decide +kernel
theorem dX7_isThere_6 : decode cX7_isThere 6 = .ok (.ifCond .le 7, 3) := by decide +kernel
theorem dX7_isThere_9 : decode cX7_isThere 9 = .ok (.iconst 1, 1) := by decide +kernel
theorem dX7_isThere_10 : decode cX7_isThere 10 = .ok (.goto 4, 3) := by decide +kernel
theorem dX7_isThere_13 : decode cX7_isThere 13 = .ok (.iconst 0, 1) := by decide +kernel
theorem dX7_isThere_14 : decode cX7_isThere 14 = .ok (.ireturn, 1) := by decide +kernel
theorem dX7_missing_0 : decode cX7_missing 0 = .ok (.iload_n 1, 1) := by decide +kernel
theorem dX7_missing_1 : decode cX7_missing 1 = .ok (.invokestatic 41, 3) := by decide +kernel
theorem dX7_missing_4 : decode cX7_missing 4 = .ok (.ifCond .ne 7, 3) := by decide +kernel
theorem dX7_missing_7 : decode cX7_missing 7 = .ok (.iconst 1, 1) := by decide +kernel
theorem dX7_missing_8 : decode cX7_missing 8 = .ok (.goto 16, 3) := by decide +kernel
theorem dX7_missing_11 : decode cX7_missing 11 = .ok (.aload_n 0, 1) := by decide +kernel
theorem dX7_missing_12 : decode cX7_missing 12 = .ok (.iload_n 1, 1) := by decide +kernel
theorem dX7_missing_13 : decode cX7_missing 13 = .ok (.invokevirtual 45, 3) := by decide +kernel
theorem dX7_missing_16 : decode cX7_missing 16 = .ok (.ifCond .ne 7, 3) := by decide +kernel
theorem dX7_missing_19 : decode cX7_missing 19 = .ok (.iload_n 2, 1) := by decide +kernel
theorem dX7_missing_20 : decode cX7_missing 20 = .ok (.goto 4, 3) := by decide +kernel
theorem dX7_missing_23 : decode cX7_missing 23 = .ok (.iconst 0, 1) := by decide +kernel
theorem dX7_missing_24 : decode cX7_missing 24 = .ok (.ireturn, 1) := by decide +kernel
theorem dX7_many_0 : decode cX7_many 0 = .ok (.iconst 0, 1) := by decide +kernel
theorem dX7_many_1 : decode cX7_many 1 = .ok (.istore_n 1, 1) := by decide +kernel
theorem dX7_many_2 : decode cX7_many 2 = .ok (.iconst 0, 1) := by decide +kernel
theorem dX7_many_3 : decode cX7_many 3 = .ok (.istore_n 2, 1) := by decide +kernel
theorem dX7_many_4 : decode cX7_many 4 = .ok (.iload_n 2, 1) := by decide +kernel
theorem dX7_many_5 : decode cX7_many 5 = .ok (.bipush 16, 2) := by decide +kernel
theorem dX7_many_7 : decode cX7_many 7 = .ok (.if_icmp .ge 26, 3) := by decide +kernel
theorem dX7_many_10 : decode cX7_many 10 = .ok (.iload_n 1, 1) := by decide +kernel
theorem dX7_many_11 : decode cX7_many 11 = .ok (.aload_n 0, 1) := by decide +kernel
theorem dX7_many_12 : decode cX7_many 12 = .ok (.getfield 16, 3) := by decide +kernel
theorem dX7_many_15 : decode cX7_many 15 = .ok (.iload_n 2, 1) := by decide +kernel
theorem dX7_many_16 : decode cX7_many 16 = .ok (.iaload, 1) := by decide +kernel
theorem dX7_many_17 : decode cX7_many 17 = .ok (.ifCond .le 7, 3) := by decide +kernel
theorem dX7_many_20 : decode cX7_many 20 = .ok (.iconst 1, 1) := by decide +kernel
theorem dX7_many_21 : decode cX7_many 21 = .ok (.goto 4, 3) := by decide +kernel
theorem dX7_many_24 : decode cX7_many 24 = .ok (.iconst 0, 1) := by decide +kernel
theorem dX7_many_25 : decode cX7_many 25 = .ok (.iadd, 1) := by decide +kernel
theorem dX7_many_26 : decode cX7_many 26 = .ok (.istore_n 1, 1) := by decide +kernel
theorem dX7_many_27 : decode cX7_many 27 = .ok (.iinc 2 1, 3) := by decide +kernel
theorem dX7_many_30 : decode cX7_many 30 = .ok (.goto (-26), 3) := by decide +kernel
theorem dX7_many_33 : decode cX7_many 33 = .ok (.iload_n 1, 1) := by decide +kernel
theorem dX7_many_34 : decode cX7_many 34 = .ok (.ireturn, 1) := by decide +kernel
theorem dX7_sideOf_0 : decode cX7_sideOf 0 = .ok (.iload_n 2, 1) := by decide +kernel
theorem dX7_sideOf_1 : decode cX7_sideOf 1 = .ok (.ifCond .ne 12, 3) := by decide +kernel
theorem dX7_sideOf_4 : decode cX7_sideOf 4 = .ok (.aload_n 0, 1) := by decide +kernel
theorem dX7_sideOf_5 : decode cX7_sideOf 5 = .ok (.getfield 7, 3) := by decide +kernel
theorem dX7_sideOf_8 : decode cX7_sideOf 8 = .ok (.iload_n 1, 1) := by decide +kernel
theorem dX7_sideOf_9 : decode cX7_sideOf 9 = .ok (.iaload, 1) := by decide +kernel
theorem dX7_sideOf_10 : decode cX7_sideOf 10 = .ok (.goto 23, 3) := by decide +kernel
theorem dX7_sideOf_13 : decode cX7_sideOf 13 = .ok (.iload_n 2, 1) := by decide +kernel
theorem dX7_sideOf_14 : decode cX7_sideOf 14 = .ok (.iconst 1, 1) := by decide +kernel
theorem dX7_sideOf_15 : decode cX7_sideOf 15 = .ok (.if_icmp .ne 12, 3) := by decide +kernel
theorem dX7_sideOf_18 : decode cX7_sideOf 18 = .ok (.aload_n 0, 1) := by decide +kernel
theorem dX7_sideOf_19 : decode cX7_sideOf 19 = .ok (.getfield 13, 3) := by decide +kernel
theorem dX7_sideOf_22 : decode cX7_sideOf 22 = .ok (.iload_n 1, 1) := by decide +kernel
theorem dX7_sideOf_23 : decode cX7_sideOf 23 = .ok (.iaload, 1) := by decide +kernel
theorem dX7_sideOf_24 : decode cX7_sideOf 24 = .ok (.goto 9, 3) := by decide +kernel
theorem dX7_sideOf_27 : decode cX7_sideOf 27 = .ok (.aload_n 0, 1) := by decide +kernel
theorem dX7_sideOf_28 : decode cX7_sideOf 28 = .ok (.getfield 16, 3) := by decide +kernel
theorem dX7_sideOf_31 : decode cX7_sideOf 31 = .ok (.iload_n 1, 1) := by decide +kernel
theorem dX7_sideOf_32 : decode cX7_sideOf 32 = .ok (.iaload, 1) := by decide +kernel
theorem dX7_sideOf_33 : decode cX7_sideOf 33 = .ok (.ireturn, 1) := by decide +kernel
theorem dX7_least_0 : decode cX7_least 0 = .ok (.iload_n 1, 1) := by decide +kernel
theorem dX7_least_1 : decode cX7_least 1 = .ok (.iload_n 2, 1) := by decide +kernel
theorem dX7_least_2 : decode cX7_least 2 = .ok (.if_icmp .ge 7, 3) := by decide +kernel
theorem dX7_least_5 : decode cX7_least 5 = .ok (.iload_n 1, 1) := by decide +kernel
theorem dX7_least_6 : decode cX7_least 6 = .ok (.goto 4, 3) := by decide +kernel
theorem dX7_least_9 : decode cX7_least 9 = .ok (.iload_n 2, 1) := by decide +kernel
theorem dX7_least_10 : decode cX7_least 10 = .ok (.ireturn, 1) := by decide +kernel
theorem dX7_most_0 : decode cX7_most 0 = .ok (.iload_n 1, 1) := by decide +kernel
theorem dX7_most_1 : decode cX7_most 1 = .ok (.iload_n 2, 1) := by decide +kernel
theorem dX7_most_2 : decode cX7_most 2 = .ok (.if_icmp .ge 7, 3) := by decide +kernel
theorem dX7_most_5 : decode cX7_most 5 = .ok (.iload_n 2, 1) := by decide +kernel
theorem dX7_most_6 : decode cX7_most 6 = .ok (.goto 4, 3) := by decide +kernel
theorem dX7_most_9 : decode cX7_most 9 = .ok (.iload_n 1, 1) := by decide +kernel
theorem dX7_most_10 : decode cX7_most 10 = .ok (.ireturn, 1) := by decide +kernel
theorem dX7_hold_0 : decode cX7_hold 0 = .ok (.aload_n 0, 1) := by decide +kernel
theorem dX7_hold_1 : decode cX7_hold 1 = .ok (.iload_n 2, 1) := by decide +kernel
theorem dX7_hold_2 : decode cX7_hold 2 = .ok (.aload_n 0, 1) := by decide +kernel
theorem dX7_hold_3 : decode cX7_hold 3 = .ok (.iload_n 3, 1) := by decide +kernel
theorem dX7_hold_4 : decode cX7_hold 4 = .ok (.iload 4, 2) := by decide +kernel
theorem dX7_hold_6 : decode cX7_hold 6 = .ok (.invokevirtual 48, 3) := by decide +kernel
theorem dX7_hold_9 : decode cX7_hold 9 = .ok (.invokevirtual 48, 3) := by decide +kernel
theorem dX7_hold_12 : decode cX7_hold 12 = .ok (.istore 5, 2) := by decide +kernel
theorem dX7_hold_14 : decode cX7_hold 14 = .ok (.aload_n 0, 1) := by decide +kernel
theorem dX7_hold_15 : decode cX7_hold 15 = .ok (.iload_n 2, 1) := by decide +kernel
theorem dX7_hold_16 : decode cX7_hold 16 = .ok (.aload_n 0, 1) := by decide +kernel
theorem dX7_hold_17 : decode cX7_hold 17 = .ok (.iload_n 3, 1) := by decide +kernel
theorem dX7_hold_18 : decode cX7_hold 18 = .ok (.iload 4, 2) := by decide +kernel
theorem dX7_hold_20 : decode cX7_hold 20 = .ok (.invokevirtual 52, 3) := by decide +kernel
theorem dX7_hold_23 : decode cX7_hold 23 = .ok (.invokevirtual 52, 3) := by decide +kernel
theorem dX7_hold_26 : decode cX7_hold 26 = .ok (.istore 6, 2) := by decide +kernel
theorem dX7_hold_28 : decode cX7_hold 28 = .ok (.aload_n 0, 1) := by decide +kernel
theorem dX7_hold_29 : decode cX7_hold 29 = .ok (.getfield 7, 3) := by decide +kernel
theorem dX7_hold_32 : decode cX7_hold 32 = .ok (.iload_n 1, 1) := by decide +kernel
theorem dX7_hold_33 : decode cX7_hold 33 = .ok (.iload 5, 2) := by decide +kernel
theorem dX7_hold_35 : decode cX7_hold 35 = .ok (.iastore, 1) := by decide +kernel
theorem dX7_hold_36 : decode cX7_hold 36 = .ok (.aload_n 0, 1) := by decide +kernel
theorem dX7_hold_37 : decode cX7_hold 37 = .ok (.getfield 16, 3) := by decide +kernel
theorem dX7_hold_40 : decode cX7_hold 40 = .ok (.iload_n 1, 1) := by decide +kernel
theorem dX7_hold_41 : decode cX7_hold 41 = .ok (.iload 6, 2) := by decide +kernel
theorem dX7_hold_43 : decode cX7_hold 43 = .ok (.iastore, 1) := by decide +kernel
theorem dX7_hold_44 : decode cX7_hold 44 = .ok (.aload_n 0, 1) := by decide +kernel
theorem dX7_hold_45 : decode cX7_hold 45 = .ok (.getfield 13, 3) := by decide +kernel
theorem dX7_hold_48 : decode cX7_hold 48 = .ok (.iload_n 1, 1) := by decide +kernel
theorem dX7_hold_49 : decode cX7_hold 49 = .ok (.iload_n 2, 1) := by decide +kernel
theorem dX7_hold_50 : decode cX7_hold 50 = .ok (.iload_n 3, 1) := by decide +kernel
theorem dX7_hold_51 : decode cX7_hold 51 = .ok (.iadd, 1) := by decide +kernel
theorem dX7_hold_52 : decode cX7_hold 52 = .ok (.iload 4, 2) := by decide +kernel
theorem dX7_hold_54 : decode cX7_hold 54 = .ok (.iadd, 1) := by decide +kernel
theorem dX7_hold_55 : decode cX7_hold 55 = .ok (.iload 5, 2) := by decide +kernel
theorem dX7_hold_57 : decode cX7_hold 57 = .ok (.isub, 1) := by decide +kernel
theorem dX7_hold_58 : decode cX7_hold 58 = .ok (.iload 6, 2) := by decide +kernel
theorem dX7_hold_60 : decode cX7_hold 60 = .ok (.isub, 1) := by decide +kernel
theorem dX7_hold_61 : decode cX7_hold 61 = .ok (.iastore, 1) := by decide +kernel
theorem dX7_hold_62 : decode cX7_hold 62 = .ok (.return_, 1) := by decide +kernel
theorem dX7_divisor_0 : decode cX7_divisor 0 = .ok (.iload_n 0, 1) := by decide +kernel
theorem dX7_divisor_1 : decode cX7_divisor 1 = .ok (.istore_n 2, 1) := by decide +kernel
theorem dX7_divisor_2 : decode cX7_divisor 2 = .ok (.iload_n 1, 1) := by decide +kernel
theorem dX7_divisor_3 : decode cX7_divisor 3 = .ok (.istore_n 3, 1) := by decide +kernel
theorem dX7_divisor_4 : decode cX7_divisor 4 = .ok (.iload_n 3, 1) := by decide +kernel
theorem dX7_divisor_5 : decode cX7_divisor 5 = .ok (.ifCond .le 16, 3) := by decide +kernel
theorem dX7_divisor_8 : decode cX7_divisor 8 = .ok (.iload_n 2, 1) := by decide +kernel
theorem dX7_divisor_9 : decode cX7_divisor 9 = .ok (.iload_n 3, 1) := by decide +kernel
theorem dX7_divisor_10 : decode cX7_divisor 10 = .ok (.irem, 1) := by decide +kernel
theorem dX7_divisor_11 : decode cX7_divisor 11 = .ok (.istore 4, 2) := by decide +kernel
theorem dX7_divisor_13 : decode cX7_divisor 13 = .ok (.iload_n 3, 1) := by decide +kernel
theorem dX7_divisor_14 : decode cX7_divisor 14 = .ok (.istore_n 2, 1) := by decide +kernel
theorem dX7_divisor_15 : decode cX7_divisor 15 = .ok (.iload 4, 2) := by decide +kernel
theorem dX7_divisor_17 : decode cX7_divisor 17 = .ok (.istore_n 3, 1) := by decide +kernel
theorem dX7_divisor_18 : decode cX7_divisor 18 = .ok (.goto (-14), 3) := by decide +kernel
theorem dX7_divisor_21 : decode cX7_divisor 21 = .ok (.iload_n 2, 1) := by decide +kernel
theorem dX7_divisor_22 : decode cX7_divisor 22 = .ok (.ireturn, 1) := by decide +kernel
theorem dX7_put_0 : decode cX7_put 0 = .ok (.iload_n 2, 1) := by decide +kernel
theorem dX7_put_1 : decode cX7_put 1 = .ok (.i2l, 1) := by decide +kernel
theorem dX7_put_2 : decode cX7_put 2 = .ok (.lconst 1, 1) := by decide +kernel
theorem dX7_put_3 : decode cX7_put 3 = .ok (.ldc2_w 55, 3) := by decide +kernel
theorem dX7_put_6 : decode cX7_put 6 = .ok (.invokestatic 37, 3) := by decide +kernel
theorem dX7_put_9 : decode cX7_put 9 = .ok (.ifCond .eq 32, 3) := by decide +kernel
theorem dX7_put_12 : decode cX7_put 12 = .ok (.iload_n 3, 1) := by decide +kernel
theorem dX7_put_13 : decode cX7_put 13 = .ok (.i2l, 1) := by decide +kernel
theorem dX7_put_14 : decode cX7_put 14 = .ok (.lconst 1, 1) := by decide +kernel
theorem dX7_put_15 : decode cX7_put 15 = .ok (.ldc2_w 55, 3) := by decide +kernel
theorem dX7_put_18 : decode cX7_put 18 = .ok (.invokestatic 37, 3) := by decide +kernel
theorem dX7_put_21 : decode cX7_put 21 = .ok (.ifCond .eq 20, 3) := by decide +kernel
theorem dX7_put_24 : decode cX7_put 24 = .ok (.iload 4, 2) := by decide +kernel
theorem dX7_put_26 : decode cX7_put 26 = .ok (.i2l, 1) := by decide +kernel
theorem dX7_put_27 : decode cX7_put 27 = .ok (.lconst 1, 1) := by decide +kernel
theorem dX7_put_28 : decode cX7_put 28 = .ok (.ldc2_w 55, 3) := by decide +kernel
theorem dX7_put_31 : decode cX7_put 31 = .ok (.invokestatic 37, 3) := by decide +kernel
theorem dX7_put_34 : decode cX7_put 34 = .ok (.ifCond .eq 7, 3) := by decide +kernel
theorem dX7_put_37 : decode cX7_put 37 = .ok (.iconst 1, 1) := by decide +kernel
theorem dX7_put_38 : decode cX7_put 38 = .ok (.goto 4, 3) := by decide +kernel
theorem dX7_put_41 : decode cX7_put 41 = .ok (.iconst 0, 1) := by decide +kernel
theorem dX7_put_42 : decode cX7_put 42 = .ok (.istore 5, 2) := by decide +kernel
theorem dX7_put_44 : decode cX7_put 44 = .ok (.aload_n 0, 1) := by decide +kernel
theorem dX7_put_45 : decode cX7_put 45 = .ok (.iload_n 1, 1) := by decide +kernel
theorem dX7_put_46 : decode cX7_put 46 = .ok (.invokestatic 41, 3) := by decide +kernel
theorem dX7_put_49 : decode cX7_put 49 = .ok (.ifCond .ne 7, 3) := by decide +kernel
theorem dX7_put_52 : decode cX7_put 52 = .ok (.iconst 1, 1) := by decide +kernel
theorem dX7_put_53 : decode cX7_put 53 = .ok (.goto 41, 3) := by decide +kernel
theorem dX7_put_56 : decode cX7_put 56 = .ok (.iload 5, 2) := by decide +kernel
theorem dX7_put_58 : decode cX7_put 58 = .ok (.ifCond .ne 7, 3) := by decide +kernel
theorem dX7_put_61 : decode cX7_put 61 = .ok (.iconst 2, 1) := by decide +kernel
theorem dX7_put_62 : decode cX7_put 62 = .ok (.goto 32, 3) := by decide +kernel
theorem dX7_put_65 : decode cX7_put 65 = .ok (.iload_n 2, 1) := by decide +kernel
theorem dX7_put_66 : decode cX7_put 66 = .ok (.iload_n 3, 1) := by decide +kernel
theorem dX7_put_67 : decode cX7_put 67 = .ok (.iload 4, 2) := by decide +kernel
theorem dX7_put_69 : decode cX7_put 69 = .ok (.iadd, 1) := by decide +kernel
theorem dX7_put_70 : decode cX7_put 70 = .ok (.if_icmp .ge 19, 3) := by decide +kernel
theorem dX7_put_73 : decode cX7_put 73 = .ok (.iload_n 3, 1) := by decide +kernel
theorem dX7_put_74 : decode cX7_put 74 = .ok (.iload_n 2, 1) := by decide +kernel
theorem dX7_put_75 : decode cX7_put 75 = .ok (.iload 4, 2) := by decide +kernel
theorem dX7_put_77 : decode cX7_put 77 = .ok (.iadd, 1) := by decide +kernel
theorem dX7_put_78 : decode cX7_put 78 = .ok (.if_icmp .ge 11, 3) := by decide +kernel
theorem dX7_put_81 : decode cX7_put 81 = .ok (.iload 4, 2) := by decide +kernel
theorem dX7_put_83 : decode cX7_put 83 = .ok (.iload_n 2, 1) := by decide +kernel
theorem dX7_put_84 : decode cX7_put 84 = .ok (.iload_n 3, 1) := by decide +kernel
theorem dX7_put_85 : decode cX7_put 85 = .ok (.iadd, 1) := by decide +kernel
theorem dX7_put_86 : decode cX7_put 86 = .ok (.if_icmp .lt 7, 3) := by decide +kernel
theorem dX7_put_89 : decode cX7_put 89 = .ok (.iconst 3, 1) := by decide +kernel
theorem dX7_put_90 : decode cX7_put 90 = .ok (.goto 4, 3) := by decide +kernel
theorem dX7_put_93 : decode cX7_put 93 = .ok (.iconst 0, 1) := by decide +kernel
theorem dX7_put_94 : decode cX7_put 94 = .ok (.invokevirtual 57, 3) := by decide +kernel
theorem dX7_put_97 : decode cX7_put 97 = .ok (.ifCond .eq 5, 3) := by decide +kernel
theorem dX7_put_100 : decode cX7_put 100 = .ok (.iconst 0, 1) := by decide +kernel
theorem dX7_put_101 : decode cX7_put 101 = .ok (.ireturn, 1) := by decide +kernel
theorem dX7_put_102 : decode cX7_put 102 = .ok (.aload_n 0, 1) := by decide +kernel
theorem dX7_put_103 : decode cX7_put 103 = .ok (.iload_n 1, 1) := by decide +kernel
theorem dX7_put_104 : decode cX7_put 104 = .ok (.iload_n 2, 1) := by decide +kernel
theorem dX7_put_105 : decode cX7_put 105 = .ok (.iload_n 3, 1) := by decide +kernel
theorem dX7_put_106 : decode cX7_put 106 = .ok (.iload 4, 2) := by decide +kernel
theorem dX7_put_108 : decode cX7_put 108 = .ok (.invokevirtual 60, 3) := by decide +kernel
theorem dX7_put_111 : decode cX7_put 111 = .ok (.aload_n 0, 1) := by decide +kernel
theorem dX7_put_112 : decode cX7_put 112 = .ok (.invokevirtual 64, 3) := by decide +kernel
theorem dX7_put_115 : decode cX7_put 115 = .ok (.ireturn, 1) := by decide +kernel
theorem dX7_take_0 : decode cX7_take 0 = .ok (.aload_n 0, 1) := by decide +kernel
theorem dX7_take_1 : decode cX7_take 1 = .ok (.aload_n 0, 1) := by decide +kernel
theorem dX7_take_2 : decode cX7_take 2 = .ok (.iload_n 1, 1) := by decide +kernel
theorem dX7_take_3 : decode cX7_take 3 = .ok (.iconst 2, 1) := by decide +kernel
theorem dX7_take_4 : decode cX7_take 4 = .ok (.invokevirtual 68, 3) := by decide +kernel
theorem dX7_take_7 : decode cX7_take 7 = .ok (.invokevirtual 57, 3) := by decide +kernel
theorem dX7_take_10 : decode cX7_take 10 = .ok (.ifCond .eq 5, 3) := by decide +kernel
theorem dX7_take_13 : decode cX7_take 13 = .ok (.iconst 0, 1) := by decide +kernel
theorem dX7_take_14 : decode cX7_take 14 = .ok (.ireturn, 1) := by decide +kernel
theorem dX7_take_15 : decode cX7_take 15 = .ok (.aload_n 0, 1) := by decide +kernel
theorem dX7_take_16 : decode cX7_take 16 = .ok (.getfield 7, 3) := by decide +kernel
theorem dX7_take_19 : decode cX7_take 19 = .ok (.iload_n 1, 1) := by decide +kernel
theorem dX7_take_20 : decode cX7_take 20 = .ok (.iconst 0, 1) := by decide +kernel
theorem dX7_take_21 : decode cX7_take 21 = .ok (.iastore, 1) := by decide +kernel
theorem dX7_take_22 : decode cX7_take 22 = .ok (.aload_n 0, 1) := by decide +kernel
theorem dX7_take_23 : decode cX7_take 23 = .ok (.getfield 13, 3) := by decide +kernel
theorem dX7_take_26 : decode cX7_take 26 = .ok (.iload_n 1, 1) := by decide +kernel
theorem dX7_take_27 : decode cX7_take 27 = .ok (.iconst 0, 1) := by decide +kernel
theorem dX7_take_28 : decode cX7_take 28 = .ok (.iastore, 1) := by decide +kernel
theorem dX7_take_29 : decode cX7_take 29 = .ok (.aload_n 0, 1) := by decide +kernel
theorem dX7_take_30 : decode cX7_take 30 = .ok (.getfield 16, 3) := by decide +kernel
theorem dX7_take_33 : decode cX7_take 33 = .ok (.iload_n 1, 1) := by decide +kernel
theorem dX7_take_34 : decode cX7_take 34 = .ok (.iconst 0, 1) := by decide +kernel
theorem dX7_take_35 : decode cX7_take 35 = .ok (.iastore, 1) := by decide +kernel
theorem dX7_take_36 : decode cX7_take 36 = .ok (.aload_n 0, 1) := by decide +kernel
theorem dX7_take_37 : decode cX7_take 37 = .ok (.invokevirtual 64, 3) := by decide +kernel
theorem dX7_take_40 : decode cX7_take 40 = .ok (.ireturn, 1) := by decide +kernel
theorem dX7_isHeld_0 : decode cX7_isHeld 0 = .ok (.aload_n 0, 1) := by decide +kernel
theorem dX7_isHeld_1 : decode cX7_isHeld 1 = .ok (.iload_n 1, 1) := by decide +kernel
theorem dX7_isHeld_2 : decode cX7_isHeld 2 = .ok (.invokestatic 41, 3) := by decide +kernel
theorem dX7_isHeld_5 : decode cX7_isHeld 5 = .ok (.ifCond .eq 7, 3) := by decide +kernel
theorem dX7_isHeld_8 : decode cX7_isHeld 8 = .ok (.iconst 0, 1) := by decide +kernel
theorem dX7_isHeld_9 : decode cX7_isHeld 9 = .ok (.goto 4, 3) := by decide +kernel
theorem dX7_isHeld_12 : decode cX7_isHeld 12 = .ok (.iconst 1, 1) := by decide +kernel
theorem dX7_isHeld_13 : decode cX7_isHeld 13 = .ok (.invokevirtual 57, 3) := by decide +kernel
theorem dX7_isHeld_16 : decode cX7_isHeld 16 = .ok (.ifCond .ne 15, 3) := by decide +kernel
theorem dX7_isHeld_19 : decode cX7_isHeld 19 = .ok (.aload_n 0, 1) := by decide +kernel
theorem dX7_isHeld_20 : decode cX7_isHeld 20 = .ok (.iload_n 1, 1) := by decide +kernel
theorem dX7_isHeld_21 : decode cX7_isHeld 21 = .ok (.invokevirtual 45, 3) := by decide +kernel
theorem dX7_isHeld_24 : decode cX7_isHeld 24 = .ok (.ifCond .eq 7, 3) := by decide +kernel
theorem dX7_isHeld_27 : decode cX7_isHeld 27 = .ok (.iconst 1, 1) := by decide +kernel
theorem dX7_isHeld_28 : decode cX7_isHeld 28 = .ok (.goto 4, 3) := by decide +kernel
theorem dX7_isHeld_31 : decode cX7_isHeld 31 = .ok (.iconst 0, 1) := by decide +kernel
theorem dX7_isHeld_32 : decode cX7_isHeld 32 = .ok (.ireturn, 1) := by decide +kernel
theorem dX7_side_0 : decode cX7_side 0 = .ok (.aload_n 0, 1) := by decide +kernel
theorem dX7_side_1 : decode cX7_side 1 = .ok (.iload_n 2, 1) := by decide +kernel
theorem dX7_side_2 : decode cX7_side 2 = .ok (.i2l, 1) := by decide +kernel
theorem dX7_side_3 : decode cX7_side 3 = .ok (.lconst 0, 1) := by decide +kernel
theorem dX7_side_4 : decode cX7_side 4 = .ok (.ldc2_w 71, 3) := by decide +kernel
theorem dX7_side_7 : decode cX7_side 7 = .ok (.invokestatic 37, 3) := by decide +kernel
theorem dX7_side_10 : decode cX7_side 10 = .ok (.ifCond .ne 7, 3) := by decide +kernel
theorem dX7_side_13 : decode cX7_side 13 = .ok (.iconst 1, 1) := by decide +kernel
theorem dX7_side_14 : decode cX7_side 14 = .ok (.goto 9, 3) := by decide +kernel
theorem dX7_side_17 : decode cX7_side 17 = .ok (.aload_n 0, 1) := by decide +kernel
theorem dX7_side_18 : decode cX7_side 18 = .ok (.iload_n 1, 1) := by decide +kernel
theorem dX7_side_19 : decode cX7_side 19 = .ok (.iconst 2, 1) := by decide +kernel
theorem dX7_side_20 : decode cX7_side 20 = .ok (.invokevirtual 68, 3) := by decide +kernel
theorem dX7_side_23 : decode cX7_side 23 = .ok (.invokevirtual 57, 3) := by decide +kernel
theorem dX7_side_26 : decode cX7_side 26 = .ok (.ifCond .eq 5, 3) := by decide +kernel
theorem dX7_side_29 : decode cX7_side 29 = .ok (.iconst 0, 1) := by decide +kernel
theorem dX7_side_30 : decode cX7_side 30 = .ok (.ireturn, 1) := by decide +kernel
theorem dX7_side_31 : decode cX7_side 31 = .ok (.aload_n 0, 1) := by decide +kernel
theorem dX7_side_32 : decode cX7_side 32 = .ok (.iload_n 1, 1) := by decide +kernel
theorem dX7_side_33 : decode cX7_side 33 = .ok (.iload_n 2, 1) := by decide +kernel
theorem dX7_side_34 : decode cX7_side 34 = .ok (.invokevirtual 73, 3) := by decide +kernel
theorem dX7_side_37 : decode cX7_side 37 = .ok (.ireturn, 1) := by decide +kernel
theorem dX7_copy_0 : decode cX7_copy 0 = .ok (.aload_n 0, 1) := by decide +kernel
theorem dX7_copy_1 : decode cX7_copy 1 = .ok (.iload_n 2, 1) := by decide +kernel
theorem dX7_copy_2 : decode cX7_copy 2 = .ok (.invokestatic 41, 3) := by decide +kernel
theorem dX7_copy_5 : decode cX7_copy 5 = .ok (.ifCond .ne 7, 3) := by decide +kernel
theorem dX7_copy_8 : decode cX7_copy 8 = .ok (.iconst 1, 1) := by decide +kernel
theorem dX7_copy_9 : decode cX7_copy 9 = .ok (.goto 9, 3) := by decide +kernel
theorem dX7_copy_12 : decode cX7_copy 12 = .ok (.aload_n 0, 1) := by decide +kernel
theorem dX7_copy_13 : decode cX7_copy 13 = .ok (.iload_n 1, 1) := by decide +kernel
theorem dX7_copy_14 : decode cX7_copy 14 = .ok (.iconst 2, 1) := by decide +kernel
theorem dX7_copy_15 : decode cX7_copy 15 = .ok (.invokevirtual 68, 3) := by decide +kernel
theorem dX7_copy_18 : decode cX7_copy 18 = .ok (.invokevirtual 57, 3) := by decide +kernel
theorem dX7_copy_21 : decode cX7_copy 21 = .ok (.ifCond .eq 5, 3) := by decide +kernel
theorem dX7_copy_24 : decode cX7_copy 24 = .ok (.iconst 0, 1) := by decide +kernel
theorem dX7_copy_25 : decode cX7_copy 25 = .ok (.ireturn, 1) := by decide +kernel
theorem dX7_copy_26 : decode cX7_copy 26 = .ok (.aload_n 0, 1) := by decide +kernel
theorem dX7_copy_27 : decode cX7_copy 27 = .ok (.iload_n 2, 1) := by decide +kernel
theorem dX7_copy_28 : decode cX7_copy 28 = .ok (.aload_n 0, 1) := by decide +kernel
theorem dX7_copy_29 : decode cX7_copy 29 = .ok (.getfield 7, 3) := by decide +kernel
theorem dX7_copy_32 : decode cX7_copy 32 = .ok (.iload_n 1, 1) := by decide +kernel
theorem dX7_copy_33 : decode cX7_copy 33 = .ok (.iaload, 1) := by decide +kernel
theorem dX7_copy_34 : decode cX7_copy 34 = .ok (.aload_n 0, 1) := by decide +kernel
theorem dX7_copy_35 : decode cX7_copy 35 = .ok (.getfield 13, 3) := by decide +kernel
theorem dX7_copy_38 : decode cX7_copy 38 = .ok (.iload_n 1, 1) := by decide +kernel
theorem dX7_copy_39 : decode cX7_copy 39 = .ok (.iaload, 1) := by decide +kernel
theorem dX7_copy_40 : decode cX7_copy 40 = .ok (.aload_n 0, 1) := by decide +kernel
theorem dX7_copy_41 : decode cX7_copy 41 = .ok (.getfield 16, 3) := by decide +kernel
theorem dX7_copy_44 : decode cX7_copy 44 = .ok (.iload_n 1, 1) := by decide +kernel
theorem dX7_copy_45 : decode cX7_copy 45 = .ok (.iaload, 1) := by decide +kernel
theorem dX7_copy_46 : decode cX7_copy 46 = .ok (.invokevirtual 60, 3) := by decide +kernel
theorem dX7_copy_49 : decode cX7_copy 49 = .ok (.aload_n 0, 1) := by decide +kernel
theorem dX7_copy_50 : decode cX7_copy 50 = .ok (.invokevirtual 64, 3) := by decide +kernel
theorem dX7_copy_53 : decode cX7_copy 53 = .ok (.ireturn, 1) := by decide +kernel
theorem dX7_scale_0 : decode cX7_scale 0 = .ok (.iload_n 2, 1) := by decide +kernel
theorem dX7_scale_1 : decode cX7_scale 1 = .ok (.i2l, 1) := by decide +kernel
theorem dX7_scale_2 : decode cX7_scale 2 = .ok (.lconst 1, 1) := by decide +kernel
theorem dX7_scale_3 : decode cX7_scale 3 = .ok (.ldc2_w 76, 3) := by decide +kernel
theorem dX7_scale_6 : decode cX7_scale 6 = .ok (.invokestatic 37, 3) := by decide +kernel
theorem dX7_scale_9 : decode cX7_scale 9 = .ok (.istore_n 3, 1) := by decide +kernel
theorem dX7_scale_10 : decode cX7_scale 10 = .ok (.aload_n 0, 1) := by decide +kernel
theorem dX7_scale_11 : decode cX7_scale 11 = .ok (.iload_n 1, 1) := by decide +kernel
theorem dX7_scale_12 : decode cX7_scale 12 = .ok (.invokestatic 41, 3) := by decide +kernel
theorem dX7_scale_15 : decode cX7_scale 15 = .ok (.ifCond .ne 7, 3) := by decide +kernel
theorem dX7_scale_18 : decode cX7_scale 18 = .ok (.iconst 1, 1) := by decide +kernel
theorem dX7_scale_19 : decode cX7_scale 19 = .ok (.goto 41, 3) := by decide +kernel
theorem dX7_scale_22 : decode cX7_scale 22 = .ok (.iload_n 3, 1) := by decide +kernel
theorem dX7_scale_23 : decode cX7_scale 23 = .ok (.ifCond .ne 7, 3) := by decide +kernel
theorem dX7_scale_26 : decode cX7_scale 26 = .ok (.iconst 2, 1) := by decide +kernel
theorem dX7_scale_27 : decode cX7_scale 27 = .ok (.goto 33, 3) := by decide +kernel
theorem dX7_scale_30 : decode cX7_scale 30 = .ok (.aload_n 0, 1) := by decide +kernel
theorem dX7_scale_31 : decode cX7_scale 31 = .ok (.iload_n 1, 1) := by decide +kernel
theorem dX7_scale_32 : decode cX7_scale 32 = .ok (.invokevirtual 45, 3) := by decide +kernel
theorem dX7_scale_35 : decode cX7_scale 35 = .ok (.ifCond .ne 7, 3) := by decide +kernel
theorem dX7_scale_38 : decode cX7_scale 38 = .ok (.iconst 3, 1) := by decide +kernel
theorem dX7_scale_39 : decode cX7_scale 39 = .ok (.goto 21, 3) := by decide +kernel
theorem dX7_scale_42 : decode cX7_scale 42 = .ok (.aload_n 0, 1) := by decide +kernel
theorem dX7_scale_43 : decode cX7_scale 43 = .ok (.getfield 16, 3) := by decide +kernel
theorem dX7_scale_46 : decode cX7_scale 46 = .ok (.iload_n 1, 1) := by decide +kernel
theorem dX7_scale_47 : decode cX7_scale 47 = .ok (.iaload, 1) := by decide +kernel
theorem dX7_scale_48 : decode cX7_scale 48 = .ok (.iload_n 2, 1) := by decide +kernel
theorem dX7_scale_49 : decode cX7_scale 49 = .ok (.imul, 1) := by decide +kernel
theorem dX7_scale_50 : decode cX7_scale 50 = .ok (.ldc 78, 2) := by decide +kernel
theorem dX7_scale_52 : decode cX7_scale 52 = .ok (.if_icmp .le 7, 3) := by decide +kernel
theorem dX7_scale_55 : decode cX7_scale 55 = .ok (.iconst 4, 1) := by decide +kernel
theorem dX7_scale_56 : decode cX7_scale 56 = .ok (.goto 4, 3) := by decide +kernel
theorem dX7_scale_59 : decode cX7_scale 59 = .ok (.iconst 0, 1) := by decide +kernel
theorem dX7_scale_60 : decode cX7_scale 60 = .ok (.invokevirtual 57, 3) := by decide +kernel
theorem dX7_scale_63 : decode cX7_scale 63 = .ok (.ifCond .eq 5, 3) := by decide +kernel
theorem dX7_scale_66 : decode cX7_scale 66 = .ok (.iconst 0, 1) := by decide +kernel
theorem dX7_scale_67 : decode cX7_scale 67 = .ok (.ireturn, 1) := by decide +kernel
theorem dX7_scale_68 : decode cX7_scale 68 = .ok (.aload_n 0, 1) := by decide +kernel
theorem dX7_scale_69 : decode cX7_scale 69 = .ok (.iload_n 1, 1) := by decide +kernel
theorem dX7_scale_70 : decode cX7_scale 70 = .ok (.aload_n 0, 1) := by decide +kernel
theorem dX7_scale_71 : decode cX7_scale 71 = .ok (.getfield 7, 3) := by decide +kernel
theorem dX7_scale_74 : decode cX7_scale 74 = .ok (.iload_n 1, 1) := by decide +kernel
theorem dX7_scale_75 : decode cX7_scale 75 = .ok (.iaload, 1) := by decide +kernel
theorem dX7_scale_76 : decode cX7_scale 76 = .ok (.iload_n 2, 1) := by decide +kernel
theorem dX7_scale_77 : decode cX7_scale 77 = .ok (.imul, 1) := by decide +kernel
theorem dX7_scale_78 : decode cX7_scale 78 = .ok (.aload_n 0, 1) := by decide +kernel
theorem dX7_scale_79 : decode cX7_scale 79 = .ok (.getfield 13, 3) := by decide +kernel
theorem dX7_scale_82 : decode cX7_scale 82 = .ok (.iload_n 1, 1) := by decide +kernel
theorem dX7_scale_83 : decode cX7_scale 83 = .ok (.iaload, 1) := by decide +kernel
theorem dX7_scale_84 : decode cX7_scale 84 = .ok (.iload_n 2, 1) := by decide +kernel
theorem dX7_scale_85 : decode cX7_scale 85 = .ok (.imul, 1) := by decide +kernel
theorem dX7_scale_86 : decode cX7_scale 86 = .ok (.aload_n 0, 1) := by decide +kernel
theorem dX7_scale_87 : decode cX7_scale 87 = .ok (.getfield 16, 3) := by decide +kernel
theorem dX7_scale_90 : decode cX7_scale 90 = .ok (.iload_n 1, 1) := by decide +kernel
theorem dX7_scale_91 : decode cX7_scale 91 = .ok (.iaload, 1) := by decide +kernel
theorem dX7_scale_92 : decode cX7_scale 92 = .ok (.iload_n 2, 1) := by decide +kernel
theorem dX7_scale_93 : decode cX7_scale 93 = .ok (.imul, 1) := by decide +kernel
theorem dX7_scale_94 : decode cX7_scale 94 = .ok (.invokevirtual 60, 3) := by decide +kernel
theorem dX7_scale_97 : decode cX7_scale 97 = .ok (.aload_n 0, 1) := by decide +kernel
theorem dX7_scale_98 : decode cX7_scale 98 = .ok (.getfield 16, 3) := by decide +kernel
theorem dX7_scale_101 : decode cX7_scale 101 = .ok (.iload_n 1, 1) := by decide +kernel
theorem dX7_scale_102 : decode cX7_scale 102 = .ok (.iaload, 1) := by decide +kernel
theorem dX7_scale_103 : decode cX7_scale 103 = .ok (.ireturn, 1) := by decide +kernel
theorem dX7_reduce_0 : decode cX7_reduce 0 = .ok (.aload_n 0, 1) := by decide +kernel
theorem dX7_reduce_1 : decode cX7_reduce 1 = .ok (.aload_n 0, 1) := by decide +kernel
theorem dX7_reduce_2 : decode cX7_reduce 2 = .ok (.iload_n 1, 1) := by decide +kernel
theorem dX7_reduce_3 : decode cX7_reduce 3 = .ok (.iconst 2, 1) := by decide +kernel
theorem dX7_reduce_4 : decode cX7_reduce 4 = .ok (.invokevirtual 68, 3) := by decide +kernel
theorem dX7_reduce_7 : decode cX7_reduce 7 = .ok (.invokevirtual 57, 3) := by decide +kernel
theorem dX7_reduce_10 : decode cX7_reduce 10 = .ok (.ifCond .eq 5, 3) := by decide +kernel
theorem dX7_reduce_13 : decode cX7_reduce 13 = .ok (.iconst 0, 1) := by decide +kernel
theorem dX7_reduce_14 : decode cX7_reduce 14 = .ok (.ireturn, 1) := by decide +kernel
theorem dX7_reduce_15 : decode cX7_reduce 15 = .ok (.aload_n 0, 1) := by decide +kernel
theorem dX7_reduce_16 : decode cX7_reduce 16 = .ok (.getfield 7, 3) := by decide +kernel
theorem dX7_reduce_19 : decode cX7_reduce 19 = .ok (.iload_n 1, 1) := by decide +kernel
theorem dX7_reduce_20 : decode cX7_reduce 20 = .ok (.iaload, 1) := by decide +kernel
theorem dX7_reduce_21 : decode cX7_reduce 21 = .ok (.aload_n 0, 1) := by decide +kernel
theorem dX7_reduce_22 : decode cX7_reduce 22 = .ok (.getfield 13, 3) := by decide +kernel
theorem dX7_reduce_25 : decode cX7_reduce 25 = .ok (.iload_n 1, 1) := by decide +kernel
theorem dX7_reduce_26 : decode cX7_reduce 26 = .ok (.iaload, 1) := by decide +kernel
theorem dX7_reduce_27 : decode cX7_reduce 27 = .ok (.aload_n 0, 1) := by decide +kernel
theorem dX7_reduce_28 : decode cX7_reduce 28 = .ok (.getfield 16, 3) := by decide +kernel
theorem dX7_reduce_31 : decode cX7_reduce 31 = .ok (.iload_n 1, 1) := by decide +kernel
theorem dX7_reduce_32 : decode cX7_reduce 32 = .ok (.iaload, 1) := by decide +kernel
theorem dX7_reduce_33 : decode cX7_reduce 33 = .ok (.invokestatic 79, 3) := by decide +kernel
theorem dX7_reduce_36 : decode cX7_reduce 36 = .ok (.invokestatic 79, 3) := by decide +kernel
theorem dX7_reduce_39 : decode cX7_reduce 39 = .ok (.istore_n 2, 1) := by decide +kernel
theorem dX7_reduce_40 : decode cX7_reduce 40 = .ok (.aload_n 0, 1) := by decide +kernel
theorem dX7_reduce_41 : decode cX7_reduce 41 = .ok (.iload_n 1, 1) := by decide +kernel
theorem dX7_reduce_42 : decode cX7_reduce 42 = .ok (.aload_n 0, 1) := by decide +kernel
theorem dX7_reduce_43 : decode cX7_reduce 43 = .ok (.getfield 7, 3) := by decide +kernel
theorem dX7_reduce_46 : decode cX7_reduce 46 = .ok (.iload_n 1, 1) := by decide +kernel
theorem dX7_reduce_47 : decode cX7_reduce 47 = .ok (.iaload, 1) := by decide +kernel
theorem dX7_reduce_48 : decode cX7_reduce 48 = .ok (.iload_n 2, 1) := by decide +kernel
theorem dX7_reduce_49 : decode cX7_reduce 49 = .ok (.idiv, 1) := by decide +kernel
theorem dX7_reduce_50 : decode cX7_reduce 50 = .ok (.aload_n 0, 1) := by decide +kernel
theorem dX7_reduce_51 : decode cX7_reduce 51 = .ok (.getfield 13, 3) := by decide +kernel
theorem dX7_reduce_54 : decode cX7_reduce 54 = .ok (.iload_n 1, 1) := by decide +kernel
theorem dX7_reduce_55 : decode cX7_reduce 55 = .ok (.iaload, 1) := by decide +kernel
theorem dX7_reduce_56 : decode cX7_reduce 56 = .ok (.iload_n 2, 1) := by decide +kernel
theorem dX7_reduce_57 : decode cX7_reduce 57 = .ok (.idiv, 1) := by decide +kernel
theorem dX7_reduce_58 : decode cX7_reduce 58 = .ok (.aload_n 0, 1) := by decide +kernel
theorem dX7_reduce_59 : decode cX7_reduce 59 = .ok (.getfield 16, 3) := by decide +kernel
theorem dX7_reduce_62 : decode cX7_reduce 62 = .ok (.iload_n 1, 1) := by decide +kernel
theorem dX7_reduce_63 : decode cX7_reduce 63 = .ok (.iaload, 1) := by decide +kernel
theorem dX7_reduce_64 : decode cX7_reduce 64 = .ok (.iload_n 2, 1) := by decide +kernel
theorem dX7_reduce_65 : decode cX7_reduce 65 = .ok (.idiv, 1) := by decide +kernel
theorem dX7_reduce_66 : decode cX7_reduce 66 = .ok (.invokevirtual 60, 3) := by decide +kernel
theorem dX7_reduce_69 : decode cX7_reduce 69 = .ok (.iload_n 2, 1) := by decide +kernel
theorem dX7_reduce_70 : decode cX7_reduce 70 = .ok (.ireturn, 1) := by decide +kernel
theorem dX7_leg_0 : decode cX7_leg 0 = .ok (.iconst 0, 1) := by decide +kernel
theorem dX7_leg_1 : decode cX7_leg 1 = .ok (.istore_n 3, 1) := by decide +kernel
theorem dX7_leg_2 : decode cX7_leg 2 = .ok (.iconst 0, 1) := by decide +kernel
theorem dX7_leg_3 : decode cX7_leg 3 = .ok (.istore 4, 2) := by decide +kernel
theorem dX7_leg_5 : decode cX7_leg 5 = .ok (.iload 4, 2) := by decide +kernel
theorem dX7_leg_7 : decode cX7_leg 7 = .ok (.iconst 4, 1) := by decide +kernel
theorem dX7_leg_8 : decode cX7_leg 8 = .ok (.if_icmp .ge 47, 3) := by decide +kernel
theorem dX7_leg_11 : decode cX7_leg 11 = .ok (.aload_n 0, 1) := by decide +kernel
theorem dX7_leg_12 : decode cX7_leg 12 = .ok (.iload_n 1, 1) := by decide +kernel
theorem dX7_leg_13 : decode cX7_leg 13 = .ok (.iload 4, 2) := by decide +kernel
theorem dX7_leg_15 : decode cX7_leg 15 = .ok (.iconst 2, 1) := by decide +kernel
theorem dX7_leg_16 : decode cX7_leg 16 = .ok (.idiv, 1) := by decide +kernel
theorem dX7_leg_17 : decode cX7_leg 17 = .ok (.invokevirtual 73, 3) := by decide +kernel
theorem dX7_leg_20 : decode cX7_leg 20 = .ok (.istore 5, 2) := by decide +kernel
theorem dX7_leg_22 : decode cX7_leg 22 = .ok (.aload_n 0, 1) := by decide +kernel
theorem dX7_leg_23 : decode cX7_leg 23 = .ok (.iload_n 2, 1) := by decide +kernel
theorem dX7_leg_24 : decode cX7_leg 24 = .ok (.iload 4, 2) := by decide +kernel
theorem dX7_leg_26 : decode cX7_leg 26 = .ok (.iconst 2, 1) := by decide +kernel
theorem dX7_leg_27 : decode cX7_leg 27 = .ok (.irem, 1) := by decide +kernel
theorem dX7_leg_28 : decode cX7_leg 28 = .ok (.invokevirtual 73, 3) := by decide +kernel
theorem dX7_leg_31 : decode cX7_leg 31 = .ok (.istore 6, 2) := by decide +kernel
theorem dX7_leg_33 : decode cX7_leg 33 = .ok (.iload 5, 2) := by decide +kernel
theorem dX7_leg_35 : decode cX7_leg 35 = .ok (.iload 6, 2) := by decide +kernel
theorem dX7_leg_37 : decode cX7_leg 37 = .ok (.if_icmp .ne 12, 3) := by decide +kernel
theorem dX7_leg_40 : decode cX7_leg 40 = .ok (.iload 5, 2) := by decide +kernel
theorem dX7_leg_42 : decode cX7_leg 42 = .ok (.iload_n 3, 1) := by decide +kernel
theorem dX7_leg_43 : decode cX7_leg 43 = .ok (.if_icmp .le 6, 3) := by decide +kernel
theorem dX7_leg_46 : decode cX7_leg 46 = .ok (.iload 5, 2) := by decide +kernel
theorem dX7_leg_48 : decode cX7_leg 48 = .ok (.istore_n 3, 1) := by decide +kernel
theorem dX7_leg_49 : decode cX7_leg 49 = .ok (.iinc 4 1, 3) := by decide +kernel
theorem dX7_leg_52 : decode cX7_leg 52 = .ok (.goto (-47), 3) := by decide +kernel
theorem dX7_leg_55 : decode cX7_leg 55 = .ok (.iload_n 3, 1) := by decide +kernel
theorem dX7_leg_56 : decode cX7_leg 56 = .ok (.ireturn, 1) := by decide +kernel
theorem dX7_wide_0 : decode cX7_wide 0 = .ok (.aload_n 0, 1) := by decide +kernel
theorem dX7_wide_1 : decode cX7_wide 1 = .ok (.iload_n 1, 1) := by decide +kernel
theorem dX7_wide_2 : decode cX7_wide 2 = .ok (.iload_n 2, 1) := by decide +kernel
theorem dX7_wide_3 : decode cX7_wide 3 = .ok (.invokevirtual 82, 3) := by decide +kernel
theorem dX7_wide_6 : decode cX7_wide 6 = .ok (.istore_n 3, 1) := by decide +kernel
theorem dX7_wide_7 : decode cX7_wide 7 = .ok (.aload_n 0, 1) := by decide +kernel
theorem dX7_wide_8 : decode cX7_wide 8 = .ok (.getfield 7, 3) := by decide +kernel
theorem dX7_wide_11 : decode cX7_wide 11 = .ok (.iload_n 1, 1) := by decide +kernel
theorem dX7_wide_12 : decode cX7_wide 12 = .ok (.iaload, 1) := by decide +kernel
theorem dX7_wide_13 : decode cX7_wide 13 = .ok (.aload_n 0, 1) := by decide +kernel
theorem dX7_wide_14 : decode cX7_wide 14 = .ok (.getfield 13, 3) := by decide +kernel
theorem dX7_wide_17 : decode cX7_wide 17 = .ok (.iload_n 1, 1) := by decide +kernel
theorem dX7_wide_18 : decode cX7_wide 18 = .ok (.iaload, 1) := by decide +kernel
theorem dX7_wide_19 : decode cX7_wide 19 = .ok (.iadd, 1) := by decide +kernel
theorem dX7_wide_20 : decode cX7_wide 20 = .ok (.iload_n 3, 1) := by decide +kernel
theorem dX7_wide_21 : decode cX7_wide 21 = .ok (.isub, 1) := by decide +kernel
theorem dX7_wide_22 : decode cX7_wide 22 = .ok (.aload_n 0, 1) := by decide +kernel
theorem dX7_wide_23 : decode cX7_wide 23 = .ok (.getfield 7, 3) := by decide +kernel
theorem dX7_wide_26 : decode cX7_wide 26 = .ok (.iload_n 2, 1) := by decide +kernel
theorem dX7_wide_27 : decode cX7_wide 27 = .ok (.iaload, 1) := by decide +kernel
theorem dX7_wide_28 : decode cX7_wide 28 = .ok (.iadd, 1) := by decide +kernel
theorem dX7_wide_29 : decode cX7_wide 29 = .ok (.aload_n 0, 1) := by decide +kernel
theorem dX7_wide_30 : decode cX7_wide 30 = .ok (.getfield 13, 3) := by decide +kernel
theorem dX7_wide_33 : decode cX7_wide 33 = .ok (.iload_n 2, 1) := by decide +kernel
theorem dX7_wide_34 : decode cX7_wide 34 = .ok (.iaload, 1) := by decide +kernel
theorem dX7_wide_35 : decode cX7_wide 35 = .ok (.iadd, 1) := by decide +kernel
theorem dX7_wide_36 : decode cX7_wide 36 = .ok (.iload_n 3, 1) := by decide +kernel
theorem dX7_wide_37 : decode cX7_wide 37 = .ok (.isub, 1) := by decide +kernel
theorem dX7_wide_38 : decode cX7_wide 38 = .ok (.ireturn, 1) := by decide +kernel
theorem dX7_join_0 : decode cX7_join 0 = .ok (.iload_n 1, 1) := by decide +kernel
theorem dX7_join_1 : decode cX7_join 1 = .ok (.invokestatic 41, 3) := by decide +kernel
theorem dX7_join_4 : decode cX7_join 4 = .ok (.ifCond .eq 17, 3) := by decide +kernel
theorem dX7_join_7 : decode cX7_join 7 = .ok (.iload_n 2, 1) := by decide +kernel
theorem dX7_join_8 : decode cX7_join 8 = .ok (.invokestatic 41, 3) := by decide +kernel
theorem dX7_join_11 : decode cX7_join 11 = .ok (.ifCond .eq 10, 3) := by decide +kernel
theorem dX7_join_14 : decode cX7_join 14 = .ok (.iload_n 3, 1) := by decide +kernel
theorem dX7_join_15 : decode cX7_join 15 = .ok (.invokestatic 41, 3) := by decide +kernel
theorem dX7_join_18 : decode cX7_join 18 = .ok (.ifCond .ne 7, 3) := by decide +kernel
theorem dX7_join_21 : decode cX7_join 21 = .ok (.iconst 1, 1) := by decide +kernel
theorem dX7_join_22 : decode cX7_join 22 = .ok (.goto 24, 3) := by decide +kernel
theorem dX7_join_25 : decode cX7_join 25 = .ok (.aload_n 0, 1) := by decide +kernel
theorem dX7_join_26 : decode cX7_join 26 = .ok (.iload_n 1, 1) := by decide +kernel
theorem dX7_join_27 : decode cX7_join 27 = .ok (.invokevirtual 45, 3) := by decide +kernel
theorem dX7_join_30 : decode cX7_join 30 = .ok (.ifCond .eq 11, 3) := by decide +kernel
theorem dX7_join_33 : decode cX7_join 33 = .ok (.aload_n 0, 1) := by decide +kernel
theorem dX7_join_34 : decode cX7_join 34 = .ok (.iload_n 2, 1) := by decide +kernel
theorem dX7_join_35 : decode cX7_join 35 = .ok (.invokevirtual 45, 3) := by decide +kernel
theorem dX7_join_38 : decode cX7_join 38 = .ok (.ifCond .ne 7, 3) := by decide +kernel
theorem dX7_join_41 : decode cX7_join 41 = .ok (.iconst 2, 1) := by decide +kernel
theorem dX7_join_42 : decode cX7_join 42 = .ok (.goto 4, 3) := by decide +kernel
theorem dX7_join_45 : decode cX7_join 45 = .ok (.iconst 0, 1) := by decide +kernel
theorem dX7_join_46 : decode cX7_join 46 = .ok (.istore 4, 2) := by decide +kernel
theorem dX7_join_48 : decode cX7_join 48 = .ok (.iload 4, 2) := by decide +kernel
theorem dX7_join_50 : decode cX7_join 50 = .ok (.ifCond .ne 42, 3) := by decide +kernel
theorem dX7_join_53 : decode cX7_join 53 = .ok (.aload_n 0, 1) := by decide +kernel
theorem dX7_join_54 : decode cX7_join 54 = .ok (.iload_n 1, 1) := by decide +kernel
theorem dX7_join_55 : decode cX7_join 55 = .ok (.invokevirtual 85, 3) := by decide +kernel
theorem dX7_join_58 : decode cX7_join 58 = .ok (.ifCond .ne 31, 3) := by decide +kernel
theorem dX7_join_61 : decode cX7_join 61 = .ok (.aload_n 0, 1) := by decide +kernel
theorem dX7_join_62 : decode cX7_join 62 = .ok (.iload_n 2, 1) := by decide +kernel
theorem dX7_join_63 : decode cX7_join 63 = .ok (.invokevirtual 85, 3) := by decide +kernel
theorem dX7_join_66 : decode cX7_join 66 = .ok (.ifCond .ne 23, 3) := by decide +kernel
theorem dX7_join_69 : decode cX7_join 69 = .ok (.aload_n 0, 1) := by decide +kernel
theorem dX7_join_70 : decode cX7_join 70 = .ok (.iload_n 1, 1) := by decide +kernel
theorem dX7_join_71 : decode cX7_join 71 = .ok (.iload_n 2, 1) := by decide +kernel
theorem dX7_join_72 : decode cX7_join 72 = .ok (.invokevirtual 82, 3) := by decide +kernel
theorem dX7_join_75 : decode cX7_join 75 = .ok (.ifCond .eq 14, 3) := by decide +kernel
theorem dX7_join_78 : decode cX7_join 78 = .ok (.aload_n 0, 1) := by decide +kernel
theorem dX7_join_79 : decode cX7_join 79 = .ok (.iload_n 1, 1) := by decide +kernel
theorem dX7_join_80 : decode cX7_join 80 = .ok (.iload_n 2, 1) := by decide +kernel
theorem dX7_join_81 : decode cX7_join 81 = .ok (.invokevirtual 89, 3) := by decide +kernel
theorem dX7_join_84 : decode cX7_join 84 = .ok (.ldc 78, 2) := by decide +kernel
theorem dX7_join_86 : decode cX7_join 86 = .ok (.if_icmp .le 6, 3) := by decide +kernel
theorem dX7_join_89 : decode cX7_join 89 = .ok (.iconst 3, 1) := by decide +kernel
theorem dX7_join_90 : decode cX7_join 90 = .ok (.istore 4, 2) := by decide +kernel
theorem dX7_join_92 : decode cX7_join 92 = .ok (.aload_n 0, 1) := by decide +kernel
theorem dX7_join_93 : decode cX7_join 93 = .ok (.iload 4, 2) := by decide +kernel
theorem dX7_join_95 : decode cX7_join 95 = .ok (.invokevirtual 57, 3) := by decide +kernel
theorem dX7_join_98 : decode cX7_join 98 = .ok (.ifCond .eq 5, 3) := by decide +kernel
theorem dX7_join_101 : decode cX7_join 101 = .ok (.iconst 0, 1) := by decide +kernel
theorem dX7_join_102 : decode cX7_join 102 = .ok (.ireturn, 1) := by decide +kernel
theorem dX7_join_103 : decode cX7_join 103 = .ok (.aload_n 0, 1) := by decide +kernel
theorem dX7_join_104 : decode cX7_join 104 = .ok (.iload_n 3, 1) := by decide +kernel
theorem dX7_join_105 : decode cX7_join 105 = .ok (.aload_n 0, 1) := by decide +kernel
theorem dX7_join_106 : decode cX7_join 106 = .ok (.getfield 16, 3) := by decide +kernel
theorem dX7_join_109 : decode cX7_join 109 = .ok (.iload_n 1, 1) := by decide +kernel
theorem dX7_join_110 : decode cX7_join 110 = .ok (.iaload, 1) := by decide +kernel
theorem dX7_join_111 : decode cX7_join 111 = .ok (.aload_n 0, 1) := by decide +kernel
theorem dX7_join_112 : decode cX7_join 112 = .ok (.getfield 16, 3) := by decide +kernel
theorem dX7_join_115 : decode cX7_join 115 = .ok (.iload_n 2, 1) := by decide +kernel
theorem dX7_join_116 : decode cX7_join 116 = .ok (.iaload, 1) := by decide +kernel
theorem dX7_join_117 : decode cX7_join 117 = .ok (.aload_n 0, 1) := by decide +kernel
theorem dX7_join_118 : decode cX7_join 118 = .ok (.iload_n 1, 1) := by decide +kernel
theorem dX7_join_119 : decode cX7_join 119 = .ok (.iload_n 2, 1) := by decide +kernel
theorem dX7_join_120 : decode cX7_join 120 = .ok (.invokevirtual 89, 3) := by decide +kernel
theorem dX7_join_123 : decode cX7_join 123 = .ok (.invokevirtual 60, 3) := by decide +kernel
theorem dX7_join_126 : decode cX7_join 126 = .ok (.aload_n 0, 1) := by decide +kernel
theorem dX7_join_127 : decode cX7_join 127 = .ok (.getfield 16, 3) := by decide +kernel
theorem dX7_join_130 : decode cX7_join 130 = .ok (.iload_n 3, 1) := by decide +kernel
theorem dX7_join_131 : decode cX7_join 131 = .ok (.iaload, 1) := by decide +kernel
theorem dX7_join_132 : decode cX7_join 132 = .ok (.ireturn, 1) := by decide +kernel
theorem dX7_squared_0 : decode cX7_squared 0 = .ok (.lload_n 0, 1) := by decide +kernel
theorem dX7_squared_1 : decode cX7_squared 1 = .ok (.lload_n 0, 1) := by decide +kernel
theorem dX7_squared_2 : decode cX7_squared 2 = .ok (.lmul, 1) := by decide +kernel
theorem dX7_squared_3 : decode cX7_squared 3 = .ok (.lreturn, 1) := by decide +kernel
theorem dX7_kindOf_0 : decode cX7_kindOf 0 = .ok (.aload_n 0, 1) := by decide +kernel
theorem dX7_kindOf_1 : decode cX7_kindOf 1 = .ok (.getfield 7, 3) := by decide +kernel
theorem dX7_kindOf_4 : decode cX7_kindOf 4 = .ok (.iload_n 1, 1) := by decide +kernel
theorem dX7_kindOf_5 : decode cX7_kindOf 5 = .ok (.iaload, 1) := by decide +kernel
theorem dX7_kindOf_6 : decode cX7_kindOf 6 = .ok (.i2l, 1) := by decide +kernel
theorem dX7_kindOf_7 : decode cX7_kindOf 7 = .ok (.invokestatic 92, 3) := by decide +kernel
theorem dX7_kindOf_10 : decode cX7_kindOf 10 = .ok (.aload_n 0, 1) := by decide +kernel
theorem dX7_kindOf_11 : decode cX7_kindOf 11 = .ok (.getfield 13, 3) := by decide +kernel
theorem dX7_kindOf_14 : decode cX7_kindOf 14 = .ok (.iload_n 1, 1) := by decide +kernel
theorem dX7_kindOf_15 : decode cX7_kindOf 15 = .ok (.iaload, 1) := by decide +kernel
theorem dX7_kindOf_16 : decode cX7_kindOf 16 = .ok (.i2l, 1) := by decide +kernel
theorem dX7_kindOf_17 : decode cX7_kindOf 17 = .ok (.invokestatic 92, 3) := by decide +kernel
theorem dX7_kindOf_20 : decode cX7_kindOf 20 = .ok (.ladd, 1) := by decide +kernel
theorem dX7_kindOf_21 : decode cX7_kindOf 21 = .ok (.lstore_n 2, 1) := by decide +kernel
theorem dX7_kindOf_22 : decode cX7_kindOf 22 = .ok (.aload_n 0, 1) := by decide +kernel
theorem dX7_kindOf_23 : decode cX7_kindOf 23 = .ok (.getfield 16, 3) := by decide +kernel
theorem dX7_kindOf_26 : decode cX7_kindOf 26 = .ok (.iload_n 1, 1) := by decide +kernel
theorem dX7_kindOf_27 : decode cX7_kindOf 27 = .ok (.iaload, 1) := by decide +kernel
theorem dX7_kindOf_28 : decode cX7_kindOf 28 = .ok (.i2l, 1) := by decide +kernel
theorem dX7_kindOf_29 : decode cX7_kindOf 29 = .ok (.invokestatic 92, 3) := by decide +kernel
theorem dX7_kindOf_32 : decode cX7_kindOf 32 = .ok (.lstore 4, 2) := by decide +kernel
theorem dX7_kindOf_34 : decode cX7_kindOf 34 = .ok (.lload_n 2, 1) := by decide +kernel
theorem dX7_kindOf_35 : decode cX7_kindOf 35 = .ok (.lload 4, 2) := by decide +kernel
theorem dX7_kindOf_37 : decode cX7_kindOf 37 = .ok (.lcmp, 1) := by decide +kernel
theorem dX7_kindOf_38 : decode cX7_kindOf 38 = .ok (.ifCond .ge 7, 3) := by decide +kernel
theorem dX7_kindOf_41 : decode cX7_kindOf 41 = .ok (.iconst (-1), 1) := by decide +kernel
theorem dX7_kindOf_42 : decode cX7_kindOf 42 = .ok (.goto 15, 3) := by decide +kernel
theorem dX7_kindOf_45 : decode cX7_kindOf 45 = .ok (.lload_n 2, 1) := by decide +kernel
theorem dX7_kindOf_46 : decode cX7_kindOf 46 = .ok (.lload 4, 2) := by decide +kernel
theorem dX7_kindOf_48 : decode cX7_kindOf 48 = .ok (.lcmp, 1) := by decide +kernel
theorem dX7_kindOf_49 : decode cX7_kindOf 49 = .ok (.ifCond .le 7, 3) := by decide +kernel
theorem dX7_kindOf_52 : decode cX7_kindOf 52 = .ok (.iconst 1, 1) := by decide +kernel
theorem dX7_kindOf_53 : decode cX7_kindOf 53 = .ok (.goto 4, 3) := by decide +kernel
theorem dX7_kindOf_56 : decode cX7_kindOf 56 = .ok (.iconst 0, 1) := by decide +kernel
theorem dX7_kindOf_57 : decode cX7_kindOf 57 = .ok (.ireturn, 1) := by decide +kernel
theorem dX7_kind_0 : decode cX7_kind 0 = .ok (.aload_n 0, 1) := by decide +kernel
theorem dX7_kind_1 : decode cX7_kind 1 = .ok (.aload_n 0, 1) := by decide +kernel
theorem dX7_kind_2 : decode cX7_kind 2 = .ok (.iload_n 1, 1) := by decide +kernel
theorem dX7_kind_3 : decode cX7_kind 3 = .ok (.iconst 2, 1) := by decide +kernel
theorem dX7_kind_4 : decode cX7_kind 4 = .ok (.invokevirtual 68, 3) := by decide +kernel
theorem dX7_kind_7 : decode cX7_kind 7 = .ok (.invokevirtual 57, 3) := by decide +kernel
theorem dX7_kind_10 : decode cX7_kind 10 = .ok (.ifCond .eq 7, 3) := by decide +kernel
theorem dX7_kind_13 : decode cX7_kind 13 = .ok (.iconst 0, 1) := by decide +kernel
theorem dX7_kind_14 : decode cX7_kind 14 = .ok (.goto 8, 3) := by decide +kernel
theorem dX7_kind_17 : decode cX7_kind 17 = .ok (.aload_n 0, 1) := by decide +kernel
theorem dX7_kind_18 : decode cX7_kind 18 = .ok (.iload_n 1, 1) := by decide +kernel
theorem dX7_kind_19 : decode cX7_kind 19 = .ok (.invokevirtual 85, 3) := by decide +kernel
theorem dX7_kind_22 : decode cX7_kind 22 = .ok (.ireturn, 1) := by decide +kernel
theorem dX7_angle_0 : decode cX7_angle 0 = .ok (.aload_n 0, 1) := by decide +kernel
theorem dX7_angle_1 : decode cX7_angle 1 = .ok (.iload_n 2, 1) := by decide +kernel
theorem dX7_angle_2 : decode cX7_angle 2 = .ok (.i2l, 1) := by decide +kernel
theorem dX7_angle_3 : decode cX7_angle 3 = .ok (.lconst 0, 1) := by decide +kernel
theorem dX7_angle_4 : decode cX7_angle 4 = .ok (.ldc2_w 71, 3) := by decide +kernel
theorem dX7_angle_7 : decode cX7_angle 7 = .ok (.invokestatic 37, 3) := by decide +kernel
theorem dX7_angle_10 : decode cX7_angle 10 = .ok (.ifCond .ne 7, 3) := by decide +kernel
theorem dX7_angle_13 : decode cX7_angle 13 = .ok (.iconst 1, 1) := by decide +kernel
theorem dX7_angle_14 : decode cX7_angle 14 = .ok (.goto 9, 3) := by decide +kernel
theorem dX7_angle_17 : decode cX7_angle 17 = .ok (.aload_n 0, 1) := by decide +kernel
theorem dX7_angle_18 : decode cX7_angle 18 = .ok (.iload_n 1, 1) := by decide +kernel
theorem dX7_angle_19 : decode cX7_angle 19 = .ok (.iconst 2, 1) := by decide +kernel
theorem dX7_angle_20 : decode cX7_angle 20 = .ok (.invokevirtual 68, 3) := by decide +kernel
theorem dX7_angle_23 : decode cX7_angle 23 = .ok (.invokevirtual 57, 3) := by decide +kernel
theorem dX7_angle_26 : decode cX7_angle 26 = .ok (.ifCond .eq 5, 3) := by decide +kernel
theorem dX7_angle_29 : decode cX7_angle 29 = .ok (.iconst 0, 1) := by decide +kernel
theorem dX7_angle_30 : decode cX7_angle 30 = .ok (.ireturn, 1) := by decide +kernel
theorem dX7_angle_31 : decode cX7_angle 31 = .ok (.aload_n 0, 1) := by decide +kernel
theorem dX7_angle_32 : decode cX7_angle 32 = .ok (.iload_n 1, 1) := by decide +kernel
theorem dX7_angle_33 : decode cX7_angle 33 = .ok (.iload_n 2, 1) := by decide +kernel
theorem dX7_angle_34 : decode cX7_angle 34 = .ok (.ifCond .ne 7, 3) := by decide +kernel
theorem dX7_angle_37 : decode cX7_angle 37 = .ok (.iconst 1, 1) := by decide +kernel
theorem dX7_angle_38 : decode cX7_angle 38 = .ok (.goto 4, 3) := by decide +kernel
theorem dX7_angle_41 : decode cX7_angle 41 = .ok (.iconst 0, 1) := by decide +kernel
theorem dX7_angle_42 : decode cX7_angle 42 = .ok (.invokevirtual 73, 3) := by decide +kernel
theorem dX7_angle_45 : decode cX7_angle 45 = .ok (.i2l, 1) := by decide +kernel
theorem dX7_angle_46 : decode cX7_angle 46 = .ok (.lstore_n 3, 1) := by decide +kernel
theorem dX7_angle_47 : decode cX7_angle 47 = .ok (.aload_n 0, 1) := by decide +kernel
theorem dX7_angle_48 : decode cX7_angle 48 = .ok (.iload_n 1, 1) := by decide +kernel
theorem dX7_angle_49 : decode cX7_angle 49 = .ok (.iload_n 2, 1) := by decide +kernel
theorem dX7_angle_50 : decode cX7_angle 50 = .ok (.iconst 2, 1) := by decide +kernel
theorem dX7_angle_51 : decode cX7_angle 51 = .ok (.if_icmp .ne 7, 3) := by decide +kernel
theorem dX7_angle_54 : decode cX7_angle 54 = .ok (.iconst 1, 1) := by decide +kernel
theorem dX7_angle_55 : decode cX7_angle 55 = .ok (.goto 4, 3) := by decide +kernel
theorem dX7_angle_58 : decode cX7_angle 58 = .ok (.iconst 2, 1) := by decide +kernel
theorem dX7_angle_59 : decode cX7_angle 59 = .ok (.invokevirtual 73, 3) := by decide +kernel
theorem dX7_angle_62 : decode cX7_angle 62 = .ok (.i2l, 1) := by decide +kernel
theorem dX7_angle_63 : decode cX7_angle 63 = .ok (.lstore 5, 2) := by decide +kernel
theorem dX7_angle_65 : decode cX7_angle 65 = .ok (.aload_n 0, 1) := by decide +kernel
theorem dX7_angle_66 : decode cX7_angle 66 = .ok (.iload_n 1, 1) := by decide +kernel
theorem dX7_angle_67 : decode cX7_angle 67 = .ok (.iload_n 2, 1) := by decide +kernel
theorem dX7_angle_68 : decode cX7_angle 68 = .ok (.invokevirtual 73, 3) := by decide +kernel
theorem dX7_angle_71 : decode cX7_angle 71 = .ok (.i2l, 1) := by decide +kernel
theorem dX7_angle_72 : decode cX7_angle 72 = .ok (.lstore 7, 2) := by decide +kernel
theorem dX7_angle_74 : decode cX7_angle 74 = .ok (.lload_n 3, 1) := by decide +kernel
theorem dX7_angle_75 : decode cX7_angle 75 = .ok (.lload_n 3, 1) := by decide +kernel
theorem dX7_angle_76 : decode cX7_angle 76 = .ok (.lmul, 1) := by decide +kernel
theorem dX7_angle_77 : decode cX7_angle 77 = .ok (.lload 5, 2) := by decide +kernel
theorem dX7_angle_79 : decode cX7_angle 79 = .ok (.lload 5, 2) := by decide +kernel
theorem dX7_angle_81 : decode cX7_angle 81 = .ok (.lmul, 1) := by decide +kernel
theorem dX7_angle_82 : decode cX7_angle 82 = .ok (.ladd, 1) := by decide +kernel
theorem dX7_angle_83 : decode cX7_angle 83 = .ok (.lload 7, 2) := by decide +kernel
theorem dX7_angle_85 : decode cX7_angle 85 = .ok (.lload 7, 2) := by decide +kernel
theorem dX7_angle_87 : decode cX7_angle 87 = .ok (.lmul, 1) := by decide +kernel
theorem dX7_angle_88 : decode cX7_angle 88 = .ok (.lsub, 1) := by decide +kernel
theorem dX7_angle_89 : decode cX7_angle 89 = .ok (.lstore 9, 2) := by decide +kernel
theorem dX7_angle_91 : decode cX7_angle 91 = .ok (.lload 9, 2) := by decide +kernel
theorem dX7_angle_93 : decode cX7_angle 93 = .ok (.lconst 0, 1) := by decide +kernel
theorem dX7_angle_94 : decode cX7_angle 94 = .ok (.lcmp, 1) := by decide +kernel
theorem dX7_angle_95 : decode cX7_angle 95 = .ok (.ifCond .ne 8, 3) := by decide +kernel
theorem dX7_angle_98 : decode cX7_angle 98 = .ok (.bipush 90, 2) := by decide +kernel
theorem dX7_angle_100 : decode cX7_angle 100 = .ok (.goto 35, 3) := by decide +kernel
theorem dX7_angle_103 : decode cX7_angle 103 = .ok (.lload 9, 2) := by decide +kernel
theorem dX7_angle_105 : decode cX7_angle 105 = .ok (.lload_n 3, 1) := by decide +kernel
theorem dX7_angle_106 : decode cX7_angle 106 = .ok (.lload 5, 2) := by decide +kernel
theorem dX7_angle_108 : decode cX7_angle 108 = .ok (.lmul, 1) := by decide +kernel
theorem dX7_angle_109 : decode cX7_angle 109 = .ok (.lcmp, 1) := by decide +kernel
theorem dX7_angle_110 : decode cX7_angle 110 = .ok (.ifCond .ne 8, 3) := by decide +kernel
theorem dX7_angle_113 : decode cX7_angle 113 = .ok (.bipush 60, 2) := by decide +kernel
theorem dX7_angle_115 : decode cX7_angle 115 = .ok (.goto 20, 3) := by decide +kernel
theorem dX7_angle_118 : decode cX7_angle 118 = .ok (.lload 9, 2) := by decide +kernel
theorem dX7_angle_120 : decode cX7_angle 120 = .ok (.lload_n 3, 1) := by decide +kernel
theorem dX7_angle_121 : decode cX7_angle 121 = .ok (.lneg, 1) := by decide +kernel
theorem dX7_angle_122 : decode cX7_angle 122 = .ok (.lload 5, 2) := by decide +kernel
theorem dX7_angle_124 : decode cX7_angle 124 = .ok (.lmul, 1) := by decide +kernel
theorem dX7_angle_125 : decode cX7_angle 125 = .ok (.lcmp, 1) := by decide +kernel
theorem dX7_angle_126 : decode cX7_angle 126 = .ok (.ifCond .ne 8, 3) := by decide +kernel
theorem dX7_angle_129 : decode cX7_angle 129 = .ok (.bipush 120, 2) := by decide +kernel
theorem dX7_angle_131 : decode cX7_angle 131 = .ok (.goto 4, 3) := by decide +kernel
theorem dX7_angle_134 : decode cX7_angle 134 = .ok (.iconst 0, 1) := by decide +kernel
theorem dX7_angle_135 : decode cX7_angle 135 = .ok (.ireturn, 1) := by decide +kernel
theorem dX7_around_0 : decode cX7_around 0 = .ok (.aload_n 0, 1) := by decide +kernel
theorem dX7_around_1 : decode cX7_around 1 = .ok (.getfield 7, 3) := by decide +kernel
theorem dX7_around_4 : decode cX7_around 4 = .ok (.iload_n 1, 1) := by decide +kernel
theorem dX7_around_5 : decode cX7_around 5 = .ok (.iaload, 1) := by decide +kernel
theorem dX7_around_6 : decode cX7_around 6 = .ok (.aload_n 0, 1) := by decide +kernel
theorem dX7_around_7 : decode cX7_around 7 = .ok (.getfield 13, 3) := by decide +kernel
theorem dX7_around_10 : decode cX7_around 10 = .ok (.iload_n 1, 1) := by decide +kernel
theorem dX7_around_11 : decode cX7_around 11 = .ok (.iaload, 1) := by decide +kernel
theorem dX7_around_12 : decode cX7_around 12 = .ok (.iadd, 1) := by decide +kernel
theorem dX7_around_13 : decode cX7_around 13 = .ok (.aload_n 0, 1) := by decide +kernel
theorem dX7_around_14 : decode cX7_around 14 = .ok (.getfield 16, 3) := by decide +kernel
theorem dX7_around_17 : decode cX7_around 17 = .ok (.iload_n 1, 1) := by decide +kernel
theorem dX7_around_18 : decode cX7_around 18 = .ok (.iaload, 1) := by decide +kernel
theorem dX7_around_19 : decode cX7_around 19 = .ok (.iadd, 1) := by decide +kernel
theorem dX7_around_20 : decode cX7_around 20 = .ok (.ireturn, 1) := by decide +kernel
theorem dX7_makeS_0 : decode cX7_makeS 0 = .ok (.aload_n 0, 1) := by decide +kernel
theorem dX7_makeS_1 : decode cX7_makeS 1 = .ok (.iload_n 1, 1) := by decide +kernel
theorem dX7_makeS_2 : decode cX7_makeS 2 = .ok (.invokevirtual 96, 3) := by decide +kernel
theorem dX7_makeS_5 : decode cX7_makeS 5 = .ok (.i2l, 1) := by decide +kernel
theorem dX7_makeS_6 : decode cX7_makeS 6 = .ok (.lstore_n 2, 1) := by decide +kernel
theorem dX7_makeS_7 : decode cX7_makeS 7 = .ok (.lload_n 2, 1) := by decide +kernel
theorem dX7_makeS_8 : decode cX7_makeS 8 = .ok (.lload_n 2, 1) := by decide +kernel
theorem dX7_makeS_9 : decode cX7_makeS 9 = .ok (.ldc2_w 71, 3) := by decide +kernel
theorem dX7_makeS_12 : decode cX7_makeS 12 = .ok (.aload_n 0, 1) := by decide +kernel
theorem dX7_makeS_13 : decode cX7_makeS 13 = .ok (.getfield 16, 3) := by decide +kernel
theorem dX7_makeS_16 : decode cX7_makeS 16 = .ok (.iload_n 1, 1) := by decide +kernel
theorem dX7_makeS_17 : decode cX7_makeS 17 = .ok (.iaload, 1) := by decide +kernel
theorem dX7_makeS_18 : decode cX7_makeS 18 = .ok (.i2l, 1) := by decide +kernel
theorem dX7_makeS_19 : decode cX7_makeS 19 = .ok (.lmul, 1) := by decide +kernel
theorem dX7_makeS_20 : decode cX7_makeS 20 = .ok (.lsub, 1) := by decide +kernel
theorem dX7_makeS_21 : decode cX7_makeS 21 = .ok (.lmul, 1) := by decide +kernel
theorem dX7_makeS_22 : decode cX7_makeS 22 = .ok (.lstore 4, 2) := by decide +kernel
theorem dX7_makeS_24 : decode cX7_makeS 24 = .ok (.lload_n 2, 1) := by decide +kernel
theorem dX7_makeS_25 : decode cX7_makeS 25 = .ok (.ldc2_w 71, 3) := by decide +kernel
theorem dX7_makeS_28 : decode cX7_makeS 28 = .ok (.aload_n 0, 1) := by decide +kernel
theorem dX7_makeS_29 : decode cX7_makeS 29 = .ok (.getfield 7, 3) := by decide +kernel
theorem dX7_makeS_32 : decode cX7_makeS 32 = .ok (.iload_n 1, 1) := by decide +kernel
theorem dX7_makeS_33 : decode cX7_makeS 33 = .ok (.iaload, 1) := by decide +kernel
theorem dX7_makeS_34 : decode cX7_makeS 34 = .ok (.i2l, 1) := by decide +kernel
theorem dX7_makeS_35 : decode cX7_makeS 35 = .ok (.lmul, 1) := by decide +kernel
theorem dX7_makeS_36 : decode cX7_makeS 36 = .ok (.lsub, 1) := by decide +kernel
theorem dX7_makeS_37 : decode cX7_makeS 37 = .ok (.lload_n 2, 1) := by decide +kernel
theorem dX7_makeS_38 : decode cX7_makeS 38 = .ok (.ldc2_w 71, 3) := by decide +kernel
theorem dX7_makeS_41 : decode cX7_makeS 41 = .ok (.aload_n 0, 1) := by decide +kernel
theorem dX7_makeS_42 : decode cX7_makeS 42 = .ok (.getfield 13, 3) := by decide +kernel
theorem dX7_makeS_45 : decode cX7_makeS 45 = .ok (.iload_n 1, 1) := by decide +kernel
theorem dX7_makeS_46 : decode cX7_makeS 46 = .ok (.iaload, 1) := by decide +kernel
theorem dX7_makeS_47 : decode cX7_makeS 47 = .ok (.i2l, 1) := by decide +kernel
theorem dX7_makeS_48 : decode cX7_makeS 48 = .ok (.lmul, 1) := by decide +kernel
theorem dX7_makeS_49 : decode cX7_makeS 49 = .ok (.lsub, 1) := by decide +kernel
theorem dX7_makeS_50 : decode cX7_makeS 50 = .ok (.lmul, 1) := by decide +kernel
theorem dX7_makeS_51 : decode cX7_makeS 51 = .ok (.lstore 6, 2) := by decide +kernel
theorem dX7_makeS_53 : decode cX7_makeS 53 = .ok (.lload 4, 2) := by decide +kernel
theorem dX7_makeS_55 : decode cX7_makeS 55 = .ok (.bipush 17, 2) := by decide +kernel
theorem dX7_makeS_57 : decode cX7_makeS 57 = .ok (.lshr, 1) := by decide +kernel
theorem dX7_makeS_58 : decode cX7_makeS 58 = .ok (.lload 6, 2) := by decide +kernel
theorem dX7_makeS_60 : decode cX7_makeS 60 = .ok (.lmul, 1) := by decide +kernel
theorem dX7_makeS_61 : decode cX7_makeS 61 = .ok (.lstore 8, 2) := by decide +kernel
theorem dX7_makeS_63 : decode cX7_makeS 63 = .ok (.lload 4, 2) := by decide +kernel
theorem dX7_makeS_65 : decode cX7_makeS 65 = .ok (.ldc2_w 99, 3) := by decide +kernel
theorem dX7_makeS_68 : decode cX7_makeS 68 = .ok (.land, 1) := by decide +kernel
theorem dX7_makeS_69 : decode cX7_makeS 69 = .ok (.lload 6, 2) := by decide +kernel
theorem dX7_makeS_71 : decode cX7_makeS 71 = .ok (.lmul, 1) := by decide +kernel
theorem dX7_makeS_72 : decode cX7_makeS 72 = .ok (.lstore 10, 2) := by decide +kernel
theorem dX7_makeS_74 : decode cX7_makeS 74 = .ok (.lload 8, 2) := by decide +kernel
theorem dX7_makeS_76 : decode cX7_makeS 76 = .ok (.ldc2_w 101, 3) := by decide +kernel
theorem dX7_makeS_79 : decode cX7_makeS 79 = .ok (.land, 1) := by decide +kernel
theorem dX7_makeS_80 : decode cX7_makeS 80 = .ok (.bipush 17, 2) := by decide +kernel
theorem dX7_makeS_82 : decode cX7_makeS 82 = .ok (.lshl, 1) := by decide +kernel
theorem dX7_makeS_83 : decode cX7_makeS 83 = .ok (.lload 10, 2) := by decide +kernel
theorem dX7_makeS_85 : decode cX7_makeS 85 = .ok (.ldc2_w 103, 3) := by decide +kernel
theorem dX7_makeS_88 : decode cX7_makeS 88 = .ok (.land, 1) := by decide +kernel
theorem dX7_makeS_89 : decode cX7_makeS 89 = .ok (.ladd, 1) := by decide +kernel
theorem dX7_makeS_90 : decode cX7_makeS 90 = .ok (.lstore 12, 2) := by decide +kernel
theorem dX7_makeS_92 : decode cX7_makeS 92 = .ok (.aload_n 0, 1) := by decide +kernel
theorem dX7_makeS_93 : decode cX7_makeS 93 = .ok (.lload 12, 2) := by decide +kernel
theorem dX7_makeS_95 : decode cX7_makeS 95 = .ok (.ldc2_w 103, 3) := by decide +kernel
theorem dX7_makeS_98 : decode cX7_makeS 98 = .ok (.land, 1) := by decide +kernel
theorem dX7_makeS_99 : decode cX7_makeS 99 = .ok (.putfield 105, 3) := by decide +kernel
theorem dX7_makeS_102 : decode cX7_makeS 102 = .ok (.aload_n 0, 1) := by decide +kernel
theorem dX7_makeS_103 : decode cX7_makeS 103 = .ok (.lload 8, 2) := by decide +kernel
theorem dX7_makeS_105 : decode cX7_makeS 105 = .ok (.bipush 15, 2) := by decide +kernel
theorem dX7_makeS_107 : decode cX7_makeS 107 = .ok (.lshr, 1) := by decide +kernel
theorem dX7_makeS_108 : decode cX7_makeS 108 = .ok (.lload 10, 2) := by decide +kernel
theorem dX7_makeS_110 : decode cX7_makeS 110 = .ok (.bipush 32, 2) := by decide +kernel
theorem dX7_makeS_112 : decode cX7_makeS 112 = .ok (.lshr, 1) := by decide +kernel
theorem dX7_makeS_113 : decode cX7_makeS 113 = .ok (.ladd, 1) := by decide +kernel
theorem dX7_makeS_114 : decode cX7_makeS 114 = .ok (.lload 12, 2) := by decide +kernel
theorem dX7_makeS_116 : decode cX7_makeS 116 = .ok (.bipush 32, 2) := by decide +kernel
theorem dX7_makeS_118 : decode cX7_makeS 118 = .ok (.lshr, 1) := by decide +kernel
theorem dX7_makeS_119 : decode cX7_makeS 119 = .ok (.ladd, 1) := by decide +kernel
theorem dX7_makeS_120 : decode cX7_makeS 120 = .ok (.putfield 109, 3) := by decide +kernel
theorem dX7_makeS_123 : decode cX7_makeS 123 = .ok (.return_, 1) := by decide +kernel
theorem dX7_findRoot_0 : decode cX7_findRoot 0 = .ok (.aload_n 0, 1) := by decide +kernel
theorem dX7_findRoot_1 : decode cX7_findRoot 1 = .ok (.iload_n 1, 1) := by decide +kernel
theorem dX7_findRoot_2 : decode cX7_findRoot 2 = .ok (.invokevirtual 112, 3) := by decide +kernel
theorem dX7_findRoot_5 : decode cX7_findRoot 5 = .ok (.lconst 0, 1) := by decide +kernel
theorem dX7_findRoot_6 : decode cX7_findRoot 6 = .ok (.lstore_n 2, 1) := by decide +kernel
theorem dX7_findRoot_7 : decode cX7_findRoot 7 = .ok (.aload_n 0, 1) := by decide +kernel
theorem dX7_findRoot_8 : decode cX7_findRoot 8 = .ok (.lconst 0, 1) := by decide +kernel
theorem dX7_findRoot_9 : decode cX7_findRoot 9 = .ok (.putfield 116, 3) := by decide +kernel
theorem dX7_findRoot_12 : decode cX7_findRoot 12 = .ok (.bipush 33, 2) := by decide +kernel
theorem dX7_findRoot_14 : decode cX7_findRoot 14 = .ok (.istore 4, 2) := by decide +kernel
theorem dX7_findRoot_16 : decode cX7_findRoot 16 = .ok (.iload 4, 2) := by decide +kernel
theorem dX7_findRoot_18 : decode cX7_findRoot 18 = .ok (.ifCond .lt 101, 3) := by decide +kernel
theorem dX7_findRoot_21 : decode cX7_findRoot 21 = .ok (.iload 4, 2) := by decide +kernel
theorem dX7_findRoot_23 : decode cX7_findRoot 23 = .ok (.bipush 16, 2) := by decide +kernel
theorem dX7_findRoot_25 : decode cX7_findRoot 25 = .ok (.if_icmp .lt 18, 3) := by decide +kernel
theorem dX7_findRoot_28 : decode cX7_findRoot 28 = .ok (.aload_n 0, 1) := by decide +kernel
theorem dX7_findRoot_29 : decode cX7_findRoot 29 = .ok (.getfield 109, 3) := by decide +kernel
theorem dX7_findRoot_32 : decode cX7_findRoot 32 = .ok (.iconst 2, 1) := by decide +kernel
theorem dX7_findRoot_33 : decode cX7_findRoot 33 = .ok (.iload 4, 2) := by decide +kernel
theorem dX7_findRoot_35 : decode cX7_findRoot 35 = .ok (.bipush 16, 2) := by decide +kernel
theorem dX7_findRoot_37 : decode cX7_findRoot 37 = .ok (.isub, 1) := by decide +kernel
theorem dX7_findRoot_38 : decode cX7_findRoot 38 = .ok (.imul, 1) := by decide +kernel
theorem dX7_findRoot_39 : decode cX7_findRoot 39 = .ok (.lshr, 1) := by decide +kernel
theorem dX7_findRoot_40 : decode cX7_findRoot 40 = .ok (.goto 12, 3) := by decide +kernel
theorem dX7_findRoot_43 : decode cX7_findRoot 43 = .ok (.aload_n 0, 1) := by decide +kernel
theorem dX7_findRoot_44 : decode cX7_findRoot 44 = .ok (.getfield 105, 3) := by decide +kernel
theorem dX7_findRoot_47 : decode cX7_findRoot 47 = .ok (.iconst 2, 1) := by decide +kernel
theorem dX7_findRoot_48 : decode cX7_findRoot 48 = .ok (.iload 4, 2) := by decide +kernel
theorem dX7_findRoot_50 : decode cX7_findRoot 50 = .ok (.imul, 1) := by decide +kernel
theorem dX7_findRoot_51 : decode cX7_findRoot 51 = .ok (.lshr, 1) := by decide +kernel
theorem dX7_findRoot_52 : decode cX7_findRoot 52 = .ok (.ldc2_w 119, 3) := by decide +kernel
theorem dX7_findRoot_55 : decode cX7_findRoot 55 = .ok (.land, 1) := by decide +kernel
theorem dX7_findRoot_56 : decode cX7_findRoot 56 = .ok (.lstore 5, 2) := by decide +kernel
theorem dX7_findRoot_58 : decode cX7_findRoot 58 = .ok (.lload_n 2, 1) := by decide +kernel
theorem dX7_findRoot_59 : decode cX7_findRoot 59 = .ok (.ldc2_w 121, 3) := by decide +kernel
theorem dX7_findRoot_62 : decode cX7_findRoot 62 = .ok (.lmul, 1) := by decide +kernel
theorem dX7_findRoot_63 : decode cX7_findRoot 63 = .ok (.lload 5, 2) := by decide +kernel
theorem dX7_findRoot_65 : decode cX7_findRoot 65 = .ok (.ladd, 1) := by decide +kernel
theorem dX7_findRoot_66 : decode cX7_findRoot 66 = .ok (.lstore_n 2, 1) := by decide +kernel
theorem dX7_findRoot_67 : decode cX7_findRoot 67 = .ok (.aload_n 0, 1) := by decide +kernel
theorem dX7_findRoot_68 : decode cX7_findRoot 68 = .ok (.getfield 116, 3) := by decide +kernel
theorem dX7_findRoot_71 : decode cX7_findRoot 71 = .ok (.ldc2_w 121, 3) := by decide +kernel
theorem dX7_findRoot_74 : decode cX7_findRoot 74 = .ok (.lmul, 1) := by decide +kernel
theorem dX7_findRoot_75 : decode cX7_findRoot 75 = .ok (.lconst 1, 1) := by decide +kernel
theorem dX7_findRoot_76 : decode cX7_findRoot 76 = .ok (.ladd, 1) := by decide +kernel
theorem dX7_findRoot_77 : decode cX7_findRoot 77 = .ok (.lstore 7, 2) := by decide +kernel
theorem dX7_findRoot_79 : decode cX7_findRoot 79 = .ok (.aload_n 0, 1) := by decide +kernel
theorem dX7_findRoot_80 : decode cX7_findRoot 80 = .ok (.aload_n 0, 1) := by decide +kernel
theorem dX7_findRoot_81 : decode cX7_findRoot 81 = .ok (.getfield 116, 3) := by decide +kernel
theorem dX7_findRoot_84 : decode cX7_findRoot 84 = .ok (.ldc2_w 71, 3) := by decide +kernel
theorem dX7_findRoot_87 : decode cX7_findRoot 87 = .ok (.lmul, 1) := by decide +kernel
theorem dX7_findRoot_88 : decode cX7_findRoot 88 = .ok (.putfield 116, 3) := by decide +kernel
theorem dX7_findRoot_91 : decode cX7_findRoot 91 = .ok (.lload_n 2, 1) := by decide +kernel
theorem dX7_findRoot_92 : decode cX7_findRoot 92 = .ok (.lload 7, 2) := by decide +kernel
theorem dX7_findRoot_94 : decode cX7_findRoot 94 = .ok (.lcmp, 1) := by decide +kernel
theorem dX7_findRoot_95 : decode cX7_findRoot 95 = .ok (.ifCond .lt 18, 3) := by decide +kernel
theorem dX7_findRoot_98 : decode cX7_findRoot 98 = .ok (.lload_n 2, 1) := by decide +kernel
theorem dX7_findRoot_99 : decode cX7_findRoot 99 = .ok (.lload 7, 2) := by decide +kernel
theorem dX7_findRoot_101 : decode cX7_findRoot 101 = .ok (.lsub, 1) := by decide +kernel
theorem dX7_findRoot_102 : decode cX7_findRoot 102 = .ok (.lstore_n 2, 1) := by decide +kernel
theorem dX7_findRoot_103 : decode cX7_findRoot 103 = .ok (.aload_n 0, 1) := by decide +kernel
theorem dX7_findRoot_104 : decode cX7_findRoot 104 = .ok (.dup, 1) := by decide +kernel
theorem dX7_findRoot_105 : decode cX7_findRoot 105 = .ok (.getfield 116, 3) := by decide +kernel
theorem dX7_findRoot_108 : decode cX7_findRoot 108 = .ok (.lconst 1, 1) := by decide +kernel
theorem dX7_findRoot_109 : decode cX7_findRoot 109 = .ok (.ladd, 1) := by decide +kernel
theorem dX7_findRoot_110 : decode cX7_findRoot 110 = .ok (.putfield 116, 3) := by decide +kernel
theorem dX7_findRoot_113 : decode cX7_findRoot 113 = .ok (.iinc 4 (-1), 3) := by decide +kernel
theorem dX7_findRoot_116 : decode cX7_findRoot 116 = .ok (.goto (-100), 3) := by decide +kernel
theorem dX7_findRoot_119 : decode cX7_findRoot 119 = .ok (.aload_n 0, 1) := by decide +kernel
theorem dX7_findRoot_120 : decode cX7_findRoot 120 = .ok (.lload_n 2, 1) := by decide +kernel
theorem dX7_findRoot_121 : decode cX7_findRoot 121 = .ok (.lconst 0, 1) := by decide +kernel
theorem dX7_findRoot_122 : decode cX7_findRoot 122 = .ok (.lcmp, 1) := by decide +kernel
theorem dX7_findRoot_123 : decode cX7_findRoot 123 = .ok (.ifCond .ne 7, 3) := by decide +kernel
theorem dX7_findRoot_126 : decode cX7_findRoot 126 = .ok (.iconst 1, 1) := by decide +kernel
theorem dX7_findRoot_127 : decode cX7_findRoot 127 = .ok (.goto 4, 3) := by decide +kernel
theorem dX7_findRoot_130 : decode cX7_findRoot 130 = .ok (.iconst 0, 1) := by decide +kernel
theorem dX7_findRoot_131 : decode cX7_findRoot 131 = .ok (.putfield 123, 3) := by decide +kernel
theorem dX7_findRoot_134 : decode cX7_findRoot 134 = .ok (.return_, 1) := by decide +kernel
theorem dX7_hasArea_0 : decode cX7_hasArea 0 = .ok (.aload_n 0, 1) := by decide +kernel
theorem dX7_hasArea_1 : decode cX7_hasArea 1 = .ok (.iload_n 1, 1) := by decide +kernel
theorem dX7_hasArea_2 : decode cX7_hasArea 2 = .ok (.invokevirtual 127, 3) := by decide +kernel
theorem dX7_hasArea_5 : decode cX7_hasArea 5 = .ok (.aload_n 0, 1) := by decide +kernel
theorem dX7_hasArea_6 : decode cX7_hasArea 6 = .ok (.getfield 123, 3) := by decide +kernel
theorem dX7_hasArea_9 : decode cX7_hasArea 9 = .ok (.ifCond .eq 20, 3) := by decide +kernel
theorem dX7_hasArea_12 : decode cX7_hasArea 12 = .ok (.aload_n 0, 1) := by decide +kernel
theorem dX7_hasArea_13 : decode cX7_hasArea 13 = .ok (.getfield 116, 3) := by decide +kernel
theorem dX7_hasArea_16 : decode cX7_hasArea 16 = .ok (.ldc2_w 121, 3) := by decide +kernel
theorem dX7_hasArea_19 : decode cX7_hasArea 19 = .ok (.lrem, 1) := by decide +kernel
theorem dX7_hasArea_20 : decode cX7_hasArea 20 = .ok (.lconst 0, 1) := by decide +kernel
theorem dX7_hasArea_21 : decode cX7_hasArea 21 = .ok (.lcmp, 1) := by decide +kernel
theorem dX7_hasArea_22 : decode cX7_hasArea 22 = .ok (.ifCond .ne 7, 3) := by decide +kernel
theorem dX7_hasArea_25 : decode cX7_hasArea 25 = .ok (.iconst 1, 1) := by decide +kernel
theorem dX7_hasArea_26 : decode cX7_hasArea 26 = .ok (.goto 4, 3) := by decide +kernel
theorem dX7_hasArea_29 : decode cX7_hasArea 29 = .ok (.iconst 0, 1) := by decide +kernel
theorem dX7_hasArea_30 : decode cX7_hasArea 30 = .ok (.ireturn, 1) := by decide +kernel
theorem dX7_areaIsWhole_0 : decode cX7_areaIsWhole 0 = .ok (.aload_n 0, 1) := by decide +kernel
theorem dX7_areaIsWhole_1 : decode cX7_areaIsWhole 1 = .ok (.aload_n 0, 1) := by decide +kernel
theorem dX7_areaIsWhole_2 : decode cX7_areaIsWhole 2 = .ok (.iload_n 1, 1) := by decide +kernel
theorem dX7_areaIsWhole_3 : decode cX7_areaIsWhole 3 = .ok (.iconst 2, 1) := by decide +kernel
theorem dX7_areaIsWhole_4 : decode cX7_areaIsWhole 4 = .ok (.invokevirtual 68, 3) := by decide +kernel
theorem dX7_areaIsWhole_7 : decode cX7_areaIsWhole 7 = .ok (.invokevirtual 57, 3) := by decide +kernel
theorem dX7_areaIsWhole_10 : decode cX7_areaIsWhole 10 = .ok (.ifCond .ne 15, 3) := by decide +kernel
theorem dX7_areaIsWhole_13 : decode cX7_areaIsWhole 13 = .ok (.aload_n 0, 1) := by decide +kernel
theorem dX7_areaIsWhole_14 : decode cX7_areaIsWhole 14 = .ok (.iload_n 1, 1) := by decide +kernel
theorem dX7_areaIsWhole_15 : decode cX7_areaIsWhole 15 = .ok (.invokevirtual 130, 3) := by decide +kernel
theorem dX7_areaIsWhole_18 : decode cX7_areaIsWhole 18 = .ok (.ifCond .eq 7, 3) := by decide +kernel
theorem dX7_areaIsWhole_21 : decode cX7_areaIsWhole 21 = .ok (.iconst 1, 1) := by decide +kernel
theorem dX7_areaIsWhole_22 : decode cX7_areaIsWhole 22 = .ok (.goto 4, 3) := by decide +kernel
theorem dX7_areaIsWhole_25 : decode cX7_areaIsWhole 25 = .ok (.iconst 0, 1) := by decide +kernel
theorem dX7_areaIsWhole_26 : decode cX7_areaIsWhole 26 = .ok (.ireturn, 1) := by decide +kernel
theorem dX7_area_0 : decode cX7_area 0 = .ok (.aload_n 0, 1) := by decide +kernel
theorem dX7_area_1 : decode cX7_area 1 = .ok (.iload_n 1, 1) := by decide +kernel
theorem dX7_area_2 : decode cX7_area 2 = .ok (.iconst 2, 1) := by decide +kernel
theorem dX7_area_3 : decode cX7_area 3 = .ok (.invokevirtual 68, 3) := by decide +kernel
theorem dX7_area_6 : decode cX7_area 6 = .ok (.istore_n 2, 1) := by decide +kernel
theorem dX7_area_7 : decode cX7_area 7 = .ok (.aload_n 0, 1) := by decide +kernel
theorem dX7_area_8 : decode cX7_area 8 = .ok (.iload_n 2, 1) := by decide +kernel
theorem dX7_area_9 : decode cX7_area 9 = .ok (.ifCond .eq 7, 3) := by decide +kernel
theorem dX7_area_12 : decode cX7_area 12 = .ok (.iload_n 2, 1) := by decide +kernel
theorem dX7_area_13 : decode cX7_area 13 = .ok (.goto 16, 3) := by decide +kernel
theorem dX7_area_16 : decode cX7_area 16 = .ok (.aload_n 0, 1) := by decide +kernel
theorem dX7_area_17 : decode cX7_area 17 = .ok (.iload_n 1, 1) := by decide +kernel
theorem dX7_area_18 : decode cX7_area 18 = .ok (.invokevirtual 130, 3) := by decide +kernel
theorem dX7_area_21 : decode cX7_area 21 = .ok (.ifCond .eq 7, 3) := by decide +kernel
theorem dX7_area_24 : decode cX7_area 24 = .ok (.iconst 0, 1) := by decide +kernel
theorem dX7_area_25 : decode cX7_area 25 = .ok (.goto 4, 3) := by decide +kernel
theorem dX7_area_28 : decode cX7_area 28 = .ok (.iconst 3, 1) := by decide +kernel
theorem dX7_area_29 : decode cX7_area 29 = .ok (.invokevirtual 57, 3) := by decide +kernel
theorem dX7_area_32 : decode cX7_area 32 = .ok (.ifCond .eq 5, 3) := by decide +kernel
theorem dX7_area_35 : decode cX7_area 35 = .ok (.lconst 0, 1) := by decide +kernel
theorem dX7_area_36 : decode cX7_area 36 = .ok (.lreturn, 1) := by decide +kernel
theorem dX7_area_37 : decode cX7_area 37 = .ok (.aload_n 0, 1) := by decide +kernel
theorem dX7_area_38 : decode cX7_area 38 = .ok (.getfield 116, 3) := by decide +kernel
theorem dX7_area_41 : decode cX7_area 41 = .ok (.ldc2_w 121, 3) := by decide +kernel
theorem dX7_area_44 : decode cX7_area 44 = .ok (.ldiv, 1) := by decide +kernel
theorem dX7_area_45 : decode cX7_area 45 = .ok (.lreturn, 1) := by decide +kernel
theorem dX7_ratio_0 : decode cX7_ratio 0 = .ok (.iload_n 2, 1) := by decide +kernel
theorem dX7_ratio_1 : decode cX7_ratio 1 = .ok (.ifCond .eq 7, 3) := by decide +kernel
theorem dX7_ratio_4 : decode cX7_ratio 4 = .ok (.lload_n 3, 1) := by decide +kernel
theorem dX7_ratio_5 : decode cX7_ratio 5 = .ok (.goto 30, 3) := by decide +kernel
theorem dX7_ratio_8 : decode cX7_ratio 8 = .ok (.ldc2_w 71, 3) := by decide +kernel
theorem dX7_ratio_11 : decode cX7_ratio 11 = .ok (.aload_n 0, 1) := by decide +kernel
theorem dX7_ratio_12 : decode cX7_ratio 12 = .ok (.getfield 7, 3) := by decide +kernel
theorem dX7_ratio_15 : decode cX7_ratio 15 = .ok (.iload_n 1, 1) := by decide +kernel
theorem dX7_ratio_16 : decode cX7_ratio 16 = .ok (.iaload, 1) := by decide +kernel
theorem dX7_ratio_17 : decode cX7_ratio 17 = .ok (.i2l, 1) := by decide +kernel
theorem dX7_ratio_18 : decode cX7_ratio 18 = .ok (.lmul, 1) := by decide +kernel
theorem dX7_ratio_19 : decode cX7_ratio 19 = .ok (.aload_n 0, 1) := by decide +kernel
theorem dX7_ratio_20 : decode cX7_ratio 20 = .ok (.getfield 13, 3) := by decide +kernel
theorem dX7_ratio_23 : decode cX7_ratio 23 = .ok (.iload_n 1, 1) := by decide +kernel
theorem dX7_ratio_24 : decode cX7_ratio 24 = .ok (.iaload, 1) := by decide +kernel
theorem dX7_ratio_25 : decode cX7_ratio 25 = .ok (.i2l, 1) := by decide +kernel
theorem dX7_ratio_26 : decode cX7_ratio 26 = .ok (.lmul, 1) := by decide +kernel
theorem dX7_ratio_27 : decode cX7_ratio 27 = .ok (.aload_n 0, 1) := by decide +kernel
theorem dX7_ratio_28 : decode cX7_ratio 28 = .ok (.getfield 16, 3) := by decide +kernel
theorem dX7_ratio_31 : decode cX7_ratio 31 = .ok (.iload_n 1, 1) := by decide +kernel
theorem dX7_ratio_32 : decode cX7_ratio 32 = .ok (.iaload, 1) := by decide +kernel
theorem dX7_ratio_33 : decode cX7_ratio 33 = .ok (.i2l, 1) := by decide +kernel
theorem dX7_ratio_34 : decode cX7_ratio 34 = .ok (.lmul, 1) := by decide +kernel
theorem dX7_ratio_35 : decode cX7_ratio 35 = .ok (.lstore 5, 2) := by decide +kernel
theorem dX7_ratio_37 : decode cX7_ratio 37 = .ok (.iload_n 2, 1) := by decide +kernel
theorem dX7_ratio_38 : decode cX7_ratio 38 = .ok (.ifCond .eq 16, 3) := by decide +kernel
theorem dX7_ratio_41 : decode cX7_ratio 41 = .ok (.ldc2_w 71, 3) := by decide +kernel
theorem dX7_ratio_44 : decode cX7_ratio 44 = .ok (.aload_n 0, 1) := by decide +kernel
theorem dX7_ratio_45 : decode cX7_ratio 45 = .ok (.iload_n 1, 1) := by decide +kernel
theorem dX7_ratio_46 : decode cX7_ratio 46 = .ok (.invokevirtual 96, 3) := by decide +kernel
theorem dX7_ratio_49 : decode cX7_ratio 49 = .ok (.i2l, 1) := by decide +kernel
theorem dX7_ratio_50 : decode cX7_ratio 50 = .ok (.lmul, 1) := by decide +kernel
theorem dX7_ratio_51 : decode cX7_ratio 51 = .ok (.goto 4, 3) := by decide +kernel
theorem dX7_ratio_54 : decode cX7_ratio 54 = .ok (.lload_n 3, 1) := by decide +kernel
theorem dX7_ratio_55 : decode cX7_ratio 55 = .ok (.lstore 7, 2) := by decide +kernel
theorem dX7_ratio_57 : decode cX7_ratio 57 = .ok (.aload_n 0, 1) := by decide +kernel
theorem dX7_ratio_58 : decode cX7_ratio 58 = .ok (.getfield 123, 3) := by decide +kernel
theorem dX7_ratio_61 : decode cX7_ratio 61 = .ok (.ifCond .eq 21, 3) := by decide +kernel
theorem dX7_ratio_64 : decode cX7_ratio 64 = .ok (.lload 5, 2) := by decide +kernel
theorem dX7_ratio_66 : decode cX7_ratio 66 = .ok (.lload 7, 2) := by decide +kernel
theorem dX7_ratio_68 : decode cX7_ratio 68 = .ok (.lrem, 1) := by decide +kernel
theorem dX7_ratio_69 : decode cX7_ratio 69 = .ok (.lconst 0, 1) := by decide +kernel
theorem dX7_ratio_70 : decode cX7_ratio 70 = .ok (.lcmp, 1) := by decide +kernel
theorem dX7_ratio_71 : decode cX7_ratio 71 = .ok (.ifCond .ne 11, 3) := by decide +kernel
theorem dX7_ratio_74 : decode cX7_ratio 74 = .ok (.lload 5, 2) := by decide +kernel
theorem dX7_ratio_76 : decode cX7_ratio 76 = .ok (.lload 7, 2) := by decide +kernel
theorem dX7_ratio_78 : decode cX7_ratio 78 = .ok (.ldiv, 1) := by decide +kernel
theorem dX7_ratio_79 : decode cX7_ratio 79 = .ok (.goto 6, 3) := by decide +kernel
theorem dX7_ratio_82 : decode cX7_ratio 82 = .ok (.ldc2_w 133, 3) := by decide +kernel
theorem dX7_ratio_85 : decode cX7_ratio 85 = .ok (.lreturn, 1) := by decide +kernel
theorem dX7_round_0 : decode cX7_round 0 = .ok (.aload_n 0, 1) := by decide +kernel
theorem dX7_round_1 : decode cX7_round 1 = .ok (.iload_n 1, 1) := by decide +kernel
theorem dX7_round_2 : decode cX7_round 2 = .ok (.invokevirtual 127, 3) := by decide +kernel
theorem dX7_round_5 : decode cX7_round 5 = .ok (.aload_n 0, 1) := by decide +kernel
theorem dX7_round_6 : decode cX7_round 6 = .ok (.iload_n 1, 1) := by decide +kernel
theorem dX7_round_7 : decode cX7_round 7 = .ok (.iload_n 2, 1) := by decide +kernel
theorem dX7_round_8 : decode cX7_round 8 = .ok (.bipush 105, 2) := by decide +kernel
theorem dX7_round_10 : decode cX7_round 10 = .ok (.if_icmp .ne 7, 3) := by decide +kernel
theorem dX7_round_13 : decode cX7_round 13 = .ok (.iconst 1, 1) := by decide +kernel
theorem dX7_round_14 : decode cX7_round 14 = .ok (.goto 4, 3) := by decide +kernel
theorem dX7_round_17 : decode cX7_round 17 = .ok (.iconst 0, 1) := by decide +kernel
theorem dX7_round_18 : decode cX7_round 18 = .ok (.aload_n 0, 1) := by decide +kernel
theorem dX7_round_19 : decode cX7_round 19 = .ok (.getfield 116, 3) := by decide +kernel
theorem dX7_round_22 : decode cX7_round 22 = .ok (.invokevirtual 135, 3) := by decide +kernel
theorem dX7_round_25 : decode cX7_round 25 = .ok (.lreturn, 1) := by decide +kernel
theorem dX7_circle_0 : decode cX7_circle 0 = .ok (.iload_n 2, 1) := by decide +kernel
theorem dX7_circle_1 : decode cX7_circle 1 = .ok (.bipush 105, 2) := by decide +kernel
theorem dX7_circle_3 : decode cX7_circle 3 = .ok (.if_icmp .eq 9, 3) := by decide +kernel
theorem dX7_circle_6 : decode cX7_circle 6 = .ok (.iload_n 2, 1) := by decide +kernel
theorem dX7_circle_7 : decode cX7_circle 7 = .ok (.bipush 111, 2) := by decide +kernel
theorem dX7_circle_9 : decode cX7_circle 9 = .ok (.if_icmp .ne 7, 3) := by decide +kernel
theorem dX7_circle_12 : decode cX7_circle 12 = .ok (.iconst 1, 1) := by decide +kernel
theorem dX7_circle_13 : decode cX7_circle 13 = .ok (.goto 4, 3) := by decide +kernel
theorem dX7_circle_16 : decode cX7_circle 16 = .ok (.iconst 0, 1) := by decide +kernel
theorem dX7_circle_17 : decode cX7_circle 17 = .ok (.istore_n 3, 1) := by decide +kernel
theorem dX7_circle_18 : decode cX7_circle 18 = .ok (.aload_n 0, 1) := by decide +kernel
theorem dX7_circle_19 : decode cX7_circle 19 = .ok (.iload_n 1, 1) := by decide +kernel
theorem dX7_circle_20 : decode cX7_circle 20 = .ok (.invokestatic 41, 3) := by decide +kernel
theorem dX7_circle_23 : decode cX7_circle 23 = .ok (.ifCond .ne 7, 3) := by decide +kernel
theorem dX7_circle_26 : decode cX7_circle 26 = .ok (.iconst 1, 1) := by decide +kernel
theorem dX7_circle_27 : decode cX7_circle 27 = .ok (.goto 39, 3) := by decide +kernel
theorem dX7_circle_30 : decode cX7_circle 30 = .ok (.iload_n 3, 1) := by decide +kernel
theorem dX7_circle_31 : decode cX7_circle 31 = .ok (.ifCond .ne 7, 3) := by decide +kernel
theorem dX7_circle_34 : decode cX7_circle 34 = .ok (.iconst 2, 1) := by decide +kernel
theorem dX7_circle_35 : decode cX7_circle 35 = .ok (.goto 31, 3) := by decide +kernel
theorem dX7_circle_38 : decode cX7_circle 38 = .ok (.aload_n 0, 1) := by decide +kernel
theorem dX7_circle_39 : decode cX7_circle 39 = .ok (.iload_n 1, 1) := by decide +kernel
theorem dX7_circle_40 : decode cX7_circle 40 = .ok (.invokevirtual 45, 3) := by decide +kernel
theorem dX7_circle_43 : decode cX7_circle 43 = .ok (.ifCond .ne 7, 3) := by decide +kernel
theorem dX7_circle_46 : decode cX7_circle 46 = .ok (.iconst 3, 1) := by decide +kernel
theorem dX7_circle_47 : decode cX7_circle 47 = .ok (.goto 19, 3) := by decide +kernel
theorem dX7_circle_50 : decode cX7_circle 50 = .ok (.aload_n 0, 1) := by decide +kernel
theorem dX7_circle_51 : decode cX7_circle 51 = .ok (.iload_n 1, 1) := by decide +kernel
theorem dX7_circle_52 : decode cX7_circle 52 = .ok (.iload_n 2, 1) := by decide +kernel
theorem dX7_circle_53 : decode cX7_circle 53 = .ok (.invokevirtual 139, 3) := by decide +kernel
theorem dX7_circle_56 : decode cX7_circle 56 = .ok (.lconst 0, 1) := by decide +kernel
theorem dX7_circle_57 : decode cX7_circle 57 = .ok (.lcmp, 1) := by decide +kernel
theorem dX7_circle_58 : decode cX7_circle 58 = .ok (.ifCond .ge 7, 3) := by decide +kernel
theorem dX7_circle_61 : decode cX7_circle 61 = .ok (.iconst 4, 1) := by decide +kernel
theorem dX7_circle_62 : decode cX7_circle 62 = .ok (.goto 4, 3) := by decide +kernel
theorem dX7_circle_65 : decode cX7_circle 65 = .ok (.iconst 0, 1) := by decide +kernel
theorem dX7_circle_66 : decode cX7_circle 66 = .ok (.invokevirtual 57, 3) := by decide +kernel
theorem dX7_circle_69 : decode cX7_circle 69 = .ok (.ifCond .eq 5, 3) := by decide +kernel
theorem dX7_circle_72 : decode cX7_circle 72 = .ok (.lconst 0, 1) := by decide +kernel
theorem dX7_circle_73 : decode cX7_circle 73 = .ok (.lreturn, 1) := by decide +kernel
theorem dX7_circle_74 : decode cX7_circle 74 = .ok (.aload_n 0, 1) := by decide +kernel
theorem dX7_circle_75 : decode cX7_circle 75 = .ok (.iload_n 1, 1) := by decide +kernel
theorem dX7_circle_76 : decode cX7_circle 76 = .ok (.iload_n 2, 1) := by decide +kernel
theorem dX7_circle_77 : decode cX7_circle 77 = .ok (.invokevirtual 139, 3) := by decide +kernel
theorem dX7_circle_80 : decode cX7_circle 80 = .ok (.lreturn, 1) := by decide +kernel
theorem dX7_compared_0 : decode cX7_compared 0 = .ok (.aload_n 0, 1) := by decide +kernel
theorem dX7_compared_1 : decode cX7_compared 1 = .ok (.iload_n 1, 1) := by decide +kernel
theorem dX7_compared_2 : decode cX7_compared 2 = .ok (.invokevirtual 112, 3) := by decide +kernel
theorem dX7_compared_5 : decode cX7_compared 5 = .ok (.aload_n 0, 1) := by decide +kernel
theorem dX7_compared_6 : decode cX7_compared 6 = .ok (.getfield 109, 3) := by decide +kernel
theorem dX7_compared_9 : decode cX7_compared 9 = .ok (.lstore_n 3, 1) := by decide +kernel
theorem dX7_compared_10 : decode cX7_compared 10 = .ok (.aload_n 0, 1) := by decide +kernel
theorem dX7_compared_11 : decode cX7_compared 11 = .ok (.getfield 105, 3) := by decide +kernel
theorem dX7_compared_14 : decode cX7_compared 14 = .ok (.lstore 5, 2) := by decide +kernel
theorem dX7_compared_16 : decode cX7_compared 16 = .ok (.aload_n 0, 1) := by decide +kernel
theorem dX7_compared_17 : decode cX7_compared 17 = .ok (.iload_n 2, 1) := by decide +kernel
theorem dX7_compared_18 : decode cX7_compared 18 = .ok (.invokevirtual 112, 3) := by decide +kernel
theorem dX7_compared_21 : decode cX7_compared 21 = .ok (.lload_n 3, 1) := by decide +kernel
theorem dX7_compared_22 : decode cX7_compared 22 = .ok (.aload_n 0, 1) := by decide +kernel
theorem dX7_compared_23 : decode cX7_compared 23 = .ok (.getfield 109, 3) := by decide +kernel
theorem dX7_compared_26 : decode cX7_compared 26 = .ok (.lcmp, 1) := by decide +kernel
theorem dX7_compared_27 : decode cX7_compared 27 = .ok (.ifCond .eq 20, 3) := by decide +kernel
theorem dX7_compared_30 : decode cX7_compared 30 = .ok (.lload_n 3, 1) := by decide +kernel
theorem dX7_compared_31 : decode cX7_compared 31 = .ok (.aload_n 0, 1) := by decide +kernel
theorem dX7_compared_32 : decode cX7_compared 32 = .ok (.getfield 109, 3) := by decide +kernel
theorem dX7_compared_35 : decode cX7_compared 35 = .ok (.lcmp, 1) := by decide +kernel
theorem dX7_compared_36 : decode cX7_compared 36 = .ok (.ifCond .ge 7, 3) := by decide +kernel
theorem dX7_compared_39 : decode cX7_compared 39 = .ok (.iconst (-1), 1) := by decide +kernel
theorem dX7_compared_40 : decode cX7_compared 40 = .ok (.goto 36, 3) := by decide +kernel
theorem dX7_compared_43 : decode cX7_compared 43 = .ok (.iconst 1, 1) := by decide +kernel
theorem dX7_compared_44 : decode cX7_compared 44 = .ok (.goto 32, 3) := by decide +kernel
theorem dX7_compared_47 : decode cX7_compared 47 = .ok (.lload 5, 2) := by decide +kernel
theorem dX7_compared_49 : decode cX7_compared 49 = .ok (.aload_n 0, 1) := by decide +kernel
theorem dX7_compared_50 : decode cX7_compared 50 = .ok (.getfield 105, 3) := by decide +kernel
theorem dX7_compared_53 : decode cX7_compared 53 = .ok (.lcmp, 1) := by decide +kernel
theorem dX7_compared_54 : decode cX7_compared 54 = .ok (.ifCond .ge 7, 3) := by decide +kernel
theorem dX7_compared_57 : decode cX7_compared 57 = .ok (.iconst (-1), 1) := by decide +kernel
theorem dX7_compared_58 : decode cX7_compared 58 = .ok (.goto 18, 3) := by decide +kernel
theorem dX7_compared_61 : decode cX7_compared 61 = .ok (.lload 5, 2) := by decide +kernel
theorem dX7_compared_63 : decode cX7_compared 63 = .ok (.aload_n 0, 1) := by decide +kernel
theorem dX7_compared_64 : decode cX7_compared 64 = .ok (.getfield 105, 3) := by decide +kernel
theorem dX7_compared_67 : decode cX7_compared 67 = .ok (.lcmp, 1) := by decide +kernel
theorem dX7_compared_68 : decode cX7_compared 68 = .ok (.ifCond .le 7, 3) := by decide +kernel
theorem dX7_compared_71 : decode cX7_compared 71 = .ok (.iconst 1, 1) := by decide +kernel
theorem dX7_compared_72 : decode cX7_compared 72 = .ok (.goto 4, 3) := by decide +kernel
theorem dX7_compared_75 : decode cX7_compared 75 = .ok (.iconst 0, 1) := by decide +kernel
theorem dX7_compared_76 : decode cX7_compared 76 = .ok (.ireturn, 1) := by decide +kernel
theorem dX7_compareAreas_0 : decode cX7_compareAreas 0 = .ok (.aload_n 0, 1) := by decide +kernel
theorem dX7_compareAreas_1 : decode cX7_compareAreas 1 = .ok (.iload_n 1, 1) := by decide +kernel
theorem dX7_compareAreas_2 : decode cX7_compareAreas 2 = .ok (.invokestatic 41, 3) := by decide +kernel
theorem dX7_compareAreas_5 : decode cX7_compareAreas 5 = .ok (.ifCond .eq 10, 3) := by decide +kernel
theorem dX7_compareAreas_8 : decode cX7_compareAreas 8 = .ok (.iload_n 2, 1) := by decide +kernel
theorem dX7_compareAreas_9 : decode cX7_compareAreas 9 = .ok (.invokestatic 41, 3) := by decide +kernel
theorem dX7_compareAreas_12 : decode cX7_compareAreas 12 = .ok (.ifCond .ne 7, 3) := by decide +kernel
theorem dX7_compareAreas_15 : decode cX7_compareAreas 15 = .ok (.iconst 1, 1) := by decide +kernel
theorem dX7_compareAreas_16 : decode cX7_compareAreas 16 = .ok (.goto 24, 3) := by decide +kernel
theorem dX7_compareAreas_19 : decode cX7_compareAreas 19 = .ok (.aload_n 0, 1) := by decide +kernel
theorem dX7_compareAreas_20 : decode cX7_compareAreas 20 = .ok (.iload_n 1, 1) := by decide +kernel
theorem dX7_compareAreas_21 : decode cX7_compareAreas 21 = .ok (.invokevirtual 45, 3) := by decide +kernel
theorem dX7_compareAreas_24 : decode cX7_compareAreas 24 = .ok (.ifCond .eq 11, 3) := by decide +kernel
theorem dX7_compareAreas_27 : decode cX7_compareAreas 27 = .ok (.aload_n 0, 1) := by decide +kernel
theorem dX7_compareAreas_28 : decode cX7_compareAreas 28 = .ok (.iload_n 2, 1) := by decide +kernel
theorem dX7_compareAreas_29 : decode cX7_compareAreas 29 = .ok (.invokevirtual 45, 3) := by decide +kernel
theorem dX7_compareAreas_32 : decode cX7_compareAreas 32 = .ok (.ifCond .ne 7, 3) := by decide +kernel
theorem dX7_compareAreas_35 : decode cX7_compareAreas 35 = .ok (.iconst 2, 1) := by decide +kernel
theorem dX7_compareAreas_36 : decode cX7_compareAreas 36 = .ok (.goto 4, 3) := by decide +kernel
theorem dX7_compareAreas_39 : decode cX7_compareAreas 39 = .ok (.iconst 0, 1) := by decide +kernel
theorem dX7_compareAreas_40 : decode cX7_compareAreas 40 = .ok (.invokevirtual 57, 3) := by decide +kernel
theorem dX7_compareAreas_43 : decode cX7_compareAreas 43 = .ok (.ifCond .eq 5, 3) := by decide +kernel
theorem dX7_compareAreas_46 : decode cX7_compareAreas 46 = .ok (.iconst 0, 1) := by decide +kernel
theorem dX7_compareAreas_47 : decode cX7_compareAreas 47 = .ok (.ireturn, 1) := by decide +kernel
theorem dX7_compareAreas_48 : decode cX7_compareAreas 48 = .ok (.aload_n 0, 1) := by decide +kernel
theorem dX7_compareAreas_49 : decode cX7_compareAreas 49 = .ok (.iload_n 1, 1) := by decide +kernel
theorem dX7_compareAreas_50 : decode cX7_compareAreas 50 = .ok (.iload_n 2, 1) := by decide +kernel
theorem dX7_compareAreas_51 : decode cX7_compareAreas 51 = .ok (.invokevirtual 143, 3) := by decide +kernel
theorem dX7_compareAreas_54 : decode cX7_compareAreas 54 = .ok (.ireturn, 1) := by decide +kernel
theorem dX7_product_0 : decode cX7_product 0 = .ok (.aload_n 0, 1) := by decide +kernel
theorem dX7_product_1 : decode cX7_product 1 = .ok (.aload_n 0, 1) := by decide +kernel
theorem dX7_product_2 : decode cX7_product 2 = .ok (.iload_n 1, 1) := by decide +kernel
theorem dX7_product_3 : decode cX7_product 3 = .ok (.iconst 2, 1) := by decide +kernel
theorem dX7_product_4 : decode cX7_product 4 = .ok (.invokevirtual 68, 3) := by decide +kernel
theorem dX7_product_7 : decode cX7_product 7 = .ok (.invokevirtual 57, 3) := by decide +kernel
theorem dX7_product_10 : decode cX7_product 10 = .ok (.ifCond .eq 5, 3) := by decide +kernel
theorem dX7_product_13 : decode cX7_product 13 = .ok (.lconst 0, 1) := by decide +kernel
theorem dX7_product_14 : decode cX7_product 14 = .ok (.lreturn, 1) := by decide +kernel
theorem dX7_product_15 : decode cX7_product 15 = .ok (.aload_n 0, 1) := by decide +kernel
theorem dX7_product_16 : decode cX7_product 16 = .ok (.iload_n 1, 1) := by decide +kernel
theorem dX7_product_17 : decode cX7_product 17 = .ok (.invokevirtual 112, 3) := by decide +kernel
theorem dX7_product_20 : decode cX7_product 20 = .ok (.aload_n 0, 1) := by decide +kernel
theorem dX7_product_21 : decode cX7_product 21 = .ok (.getfield 109, 3) := by decide +kernel
theorem dX7_product_24 : decode cX7_product 24 = .ok (.bipush 32, 2) := by decide +kernel
theorem dX7_product_26 : decode cX7_product 26 = .ok (.lshl, 1) := by decide +kernel
theorem dX7_product_27 : decode cX7_product 27 = .ok (.aload_n 0, 1) := by decide +kernel
theorem dX7_product_28 : decode cX7_product 28 = .ok (.getfield 105, 3) := by decide +kernel
theorem dX7_product_31 : decode cX7_product 31 = .ok (.ladd, 1) := by decide +kernel
theorem dX7_product_32 : decode cX7_product 32 = .ok (.lreturn, 1) := by decide +kernel
theorem dX7_bits_0 : decode cX7_bits 0 = .ok (.aload_n 0, 1) := by decide +kernel
theorem dX7_bits_1 : decode cX7_bits 1 = .ok (.aload_n 0, 1) := by decide +kernel
theorem dX7_bits_2 : decode cX7_bits 2 = .ok (.iload_n 1, 1) := by decide +kernel
theorem dX7_bits_3 : decode cX7_bits 3 = .ok (.iconst 2, 1) := by decide +kernel
theorem dX7_bits_4 : decode cX7_bits 4 = .ok (.invokevirtual 68, 3) := by decide +kernel
theorem dX7_bits_7 : decode cX7_bits 7 = .ok (.invokevirtual 57, 3) := by decide +kernel
theorem dX7_bits_10 : decode cX7_bits 10 = .ok (.ifCond .eq 5, 3) := by decide +kernel
theorem dX7_bits_13 : decode cX7_bits 13 = .ok (.iconst 0, 1) := by decide +kernel
theorem dX7_bits_14 : decode cX7_bits 14 = .ok (.ireturn, 1) := by decide +kernel
theorem dX7_bits_15 : decode cX7_bits 15 = .ok (.aload_n 0, 1) := by decide +kernel
theorem dX7_bits_16 : decode cX7_bits 16 = .ok (.iload_n 1, 1) := by decide +kernel
theorem dX7_bits_17 : decode cX7_bits 17 = .ok (.invokevirtual 112, 3) := by decide +kernel
theorem dX7_bits_20 : decode cX7_bits 20 = .ok (.aload_n 0, 1) := by decide +kernel
theorem dX7_bits_21 : decode cX7_bits 21 = .ok (.getfield 109, 3) := by decide +kernel
theorem dX7_bits_24 : decode cX7_bits 24 = .ok (.lconst 0, 1) := by decide +kernel
theorem dX7_bits_25 : decode cX7_bits 25 = .ok (.lcmp, 1) := by decide +kernel
theorem dX7_bits_26 : decode cX7_bits 26 = .ok (.ifCond .le 8, 3) := by decide +kernel
theorem dX7_bits_29 : decode cX7_bits 29 = .ok (.bipush 32, 2) := by decide +kernel
theorem dX7_bits_31 : decode cX7_bits 31 = .ok (.goto 4, 3) := by decide +kernel
theorem dX7_bits_34 : decode cX7_bits 34 = .ok (.iconst 0, 1) := by decide +kernel
theorem dX7_bits_35 : decode cX7_bits 35 = .ok (.istore_n 2, 1) := by decide +kernel
theorem dX7_bits_36 : decode cX7_bits 36 = .ok (.aload_n 0, 1) := by decide +kernel
theorem dX7_bits_37 : decode cX7_bits 37 = .ok (.getfield 109, 3) := by decide +kernel
theorem dX7_bits_40 : decode cX7_bits 40 = .ok (.lconst 0, 1) := by decide +kernel
theorem dX7_bits_41 : decode cX7_bits 41 = .ok (.lcmp, 1) := by decide +kernel
theorem dX7_bits_42 : decode cX7_bits 42 = .ok (.ifCond .le 10, 3) := by decide +kernel
theorem dX7_bits_45 : decode cX7_bits 45 = .ok (.aload_n 0, 1) := by decide +kernel
theorem dX7_bits_46 : decode cX7_bits 46 = .ok (.getfield 109, 3) := by decide +kernel
theorem dX7_bits_49 : decode cX7_bits 49 = .ok (.goto 7, 3) := by decide +kernel
theorem dX7_bits_52 : decode cX7_bits 52 = .ok (.aload_n 0, 1) := by decide +kernel
theorem dX7_bits_53 : decode cX7_bits 53 = .ok (.getfield 105, 3) := by decide +kernel
theorem dX7_bits_56 : decode cX7_bits 56 = .ok (.lstore_n 3, 1) := by decide +kernel
theorem dX7_bits_57 : decode cX7_bits 57 = .ok (.lload_n 3, 1) := by decide +kernel
theorem dX7_bits_58 : decode cX7_bits 58 = .ok (.lconst 0, 1) := by decide +kernel
theorem dX7_bits_59 : decode cX7_bits 59 = .ok (.lcmp, 1) := by decide +kernel
theorem dX7_bits_60 : decode cX7_bits 60 = .ok (.ifCond .le 13, 3) := by decide +kernel
theorem dX7_bits_63 : decode cX7_bits 63 = .ok (.iinc 2 1, 3) := by decide +kernel
theorem dX7_bits_66 : decode cX7_bits 66 = .ok (.lload_n 3, 1) := by decide +kernel
theorem dX7_bits_67 : decode cX7_bits 67 = .ok (.iconst 1, 1) := by decide +kernel
theorem dX7_bits_68 : decode cX7_bits 68 = .ok (.lshr, 1) := by decide +kernel
theorem dX7_bits_69 : decode cX7_bits 69 = .ok (.lstore_n 3, 1) := by decide +kernel
theorem dX7_bits_70 : decode cX7_bits 70 = .ok (.goto (-13), 3) := by decide +kernel
theorem dX7_bits_73 : decode cX7_bits 73 = .ok (.iload_n 2, 1) := by decide +kernel
theorem dX7_bits_74 : decode cX7_bits 74 = .ok (.ireturn, 1) := by decide +kernel
theorem dX7_rootOf_0 : decode cX7_rootOf 0 = .ok (.lload_n 0, 1) := by decide +kernel
theorem dX7_rootOf_1 : decode cX7_rootOf 1 = .ok (.lconst 0, 1) := by decide +kernel
theorem dX7_rootOf_2 : decode cX7_rootOf 2 = .ok (.lcmp, 1) := by decide +kernel
theorem dX7_rootOf_3 : decode cX7_rootOf 3 = .ok (.ifCond .ne 5, 3) := by decide +kernel
theorem dX7_rootOf_6 : decode cX7_rootOf 6 = .ok (.dconst 0, 1) := by decide +kernel
theorem dX7_rootOf_7 : decode cX7_rootOf 7 = .ok (.dreturn, 1) := by decide +kernel
theorem dX7_rootOf_8 : decode cX7_rootOf 8 = .ok (.lconst 0, 1) := by decide +kernel
theorem dX7_rootOf_9 : decode cX7_rootOf 9 = .ok (.lstore_n 2, 1) := by decide +kernel
theorem dX7_rootOf_10 : decode cX7_rootOf 10 = .ok (.lconst 0, 1) := by decide +kernel
theorem dX7_rootOf_11 : decode cX7_rootOf 11 = .ok (.lstore 4, 2) := by decide +kernel
end
section
theorem dX7_rootOf_13 : decode cX7_rootOf 13 = .ok (.iconst 0, 1) := by decide +kernel
theorem dX7_rootOf_14 : decode cX7_rootOf 14 = .ok (.istore 6, 2) := by decide +kernel
theorem dX7_rootOf_16 : decode cX7_rootOf 16 = .ok (.bipush 16, 2) := by decide +kernel
theorem dX7_rootOf_18 : decode cX7_rootOf 18 = .ok (.istore 7, 2) := by decide +kernel
theorem dX7_rootOf_20 : decode cX7_rootOf 20 = .ok (.iload 7, 2) := by decide +kernel
theorem dX7_rootOf_22 : decode cX7_rootOf 22 = .ok (.ifCond .ge 12, 3) := by decide +kernel
theorem dX7_rootOf_25 : decode cX7_rootOf 25 = .ok (.lload_n 2, 1) := by decide +kernel
theorem dX7_rootOf_26 : decode cX7_rootOf 26 = .ok (.bipush 53, 2) := by decide +kernel
theorem dX7_rootOf_28 : decode cX7_rootOf 28 = .ok (.lshr, 1) := by decide +kernel
theorem dX7_rootOf_29 : decode cX7_rootOf 29 = .ok (.lconst 0, 1) := by decide +kernel
theorem dX7_rootOf_30 : decode cX7_rootOf 30 = .ok (.lcmp, 1) := by decide +kernel
theorem dX7_rootOf_31 : decode cX7_rootOf 31 = .ok (.ifCond .ne 79, 3) := by decide +kernel
theorem dX7_rootOf_34 : decode cX7_rootOf 34 = .ok (.lload 4, 2) := by decide +kernel
theorem dX7_rootOf_36 : decode cX7_rootOf 36 = .ok (.ldc2_w 121, 3) := by decide +kernel
theorem dX7_rootOf_39 : decode cX7_rootOf 39 = .ok (.lmul, 1) := by decide +kernel
theorem dX7_rootOf_40 : decode cX7_rootOf 40 = .ok (.iload 7, 2) := by decide +kernel
theorem dX7_rootOf_42 : decode cX7_rootOf 42 = .ok (.ifCond .lt 16, 3) := by decide +kernel
theorem dX7_rootOf_45 : decode cX7_rootOf 45 = .ok (.lload_n 0, 1) := by decide +kernel
theorem dX7_rootOf_46 : decode cX7_rootOf 46 = .ok (.iconst 2, 1) := by decide +kernel
theorem dX7_rootOf_47 : decode cX7_rootOf 47 = .ok (.iload 7, 2) := by decide +kernel
theorem dX7_rootOf_49 : decode cX7_rootOf 49 = .ok (.imul, 1) := by decide +kernel
theorem dX7_rootOf_50 : decode cX7_rootOf 50 = .ok (.lshr, 1) := by decide +kernel
theorem dX7_rootOf_51 : decode cX7_rootOf 51 = .ok (.ldc2_w 119, 3) := by decide +kernel
theorem dX7_rootOf_54 : decode cX7_rootOf 54 = .ok (.land, 1) := by decide +kernel
theorem dX7_rootOf_55 : decode cX7_rootOf 55 = .ok (.goto 4, 3) := by decide +kernel
theorem dX7_rootOf_58 : decode cX7_rootOf 58 = .ok (.lconst 0, 1) := by decide +kernel
theorem dX7_rootOf_59 : decode cX7_rootOf 59 = .ok (.ladd, 1) := by decide +kernel
theorem dX7_rootOf_60 : decode cX7_rootOf 60 = .ok (.lstore 4, 2) := by decide +kernel
theorem dX7_rootOf_62 : decode cX7_rootOf 62 = .ok (.lload_n 2, 1) := by decide +kernel
theorem dX7_rootOf_63 : decode cX7_rootOf 63 = .ok (.ldc2_w 121, 3) := by decide +kernel
theorem dX7_rootOf_66 : decode cX7_rootOf 66 = .ok (.lmul, 1) := by decide +kernel
theorem dX7_rootOf_67 : decode cX7_rootOf 67 = .ok (.lconst 1, 1) := by decide +kernel
theorem dX7_rootOf_68 : decode cX7_rootOf 68 = .ok (.ladd, 1) := by decide +kernel
theorem dX7_rootOf_69 : decode cX7_rootOf 69 = .ok (.lstore 8, 2) := by decide +kernel
theorem dX7_rootOf_71 : decode cX7_rootOf 71 = .ok (.lload_n 2, 1) := by decide +kernel
theorem dX7_rootOf_72 : decode cX7_rootOf 72 = .ok (.ldc2_w 71, 3) := by decide +kernel
theorem dX7_rootOf_75 : decode cX7_rootOf 75 = .ok (.lmul, 1) := by decide +kernel
theorem dX7_rootOf_76 : decode cX7_rootOf 76 = .ok (.lstore_n 2, 1) := by decide +kernel
theorem dX7_rootOf_77 : decode cX7_rootOf 77 = .ok (.lload 4, 2) := by decide +kernel
theorem dX7_rootOf_79 : decode cX7_rootOf 79 = .ok (.lload 8, 2) := by decide +kernel
theorem dX7_rootOf_81 : decode cX7_rootOf 81 = .ok (.lcmp, 1) := by decide +kernel
theorem dX7_rootOf_82 : decode cX7_rootOf 82 = .ok (.ifCond .lt 14, 3) := by decide +kernel
theorem dX7_rootOf_85 : decode cX7_rootOf 85 = .ok (.lload 4, 2) := by decide +kernel
theorem dX7_rootOf_87 : decode cX7_rootOf 87 = .ok (.lload 8, 2) := by decide +kernel
theorem dX7_rootOf_89 : decode cX7_rootOf 89 = .ok (.lsub, 1) := by decide +kernel
theorem dX7_rootOf_90 : decode cX7_rootOf 90 = .ok (.lstore 4, 2) := by decide +kernel
theorem dX7_rootOf_92 : decode cX7_rootOf 92 = .ok (.lload_n 2, 1) := by decide +kernel
theorem dX7_rootOf_93 : decode cX7_rootOf 93 = .ok (.lconst 1, 1) := by decide +kernel
theorem dX7_rootOf_94 : decode cX7_rootOf 94 = .ok (.ladd, 1) := by decide +kernel
theorem dX7_rootOf_95 : decode cX7_rootOf 95 = .ok (.lstore_n 2, 1) := by decide +kernel
theorem dX7_rootOf_96 : decode cX7_rootOf 96 = .ok (.iload 7, 2) := by decide +kernel
theorem dX7_rootOf_98 : decode cX7_rootOf 98 = .ok (.ifCond .ge 6, 3) := by decide +kernel
theorem dX7_rootOf_101 : decode cX7_rootOf 101 = .ok (.iinc 6 1, 3) := by decide +kernel
theorem dX7_rootOf_104 : decode cX7_rootOf 104 = .ok (.iinc 7 (-1), 3) := by decide +kernel
theorem dX7_rootOf_107 : decode cX7_rootOf 107 = .ok (.goto (-87), 3) := by decide +kernel
theorem dX7_rootOf_110 : decode cX7_rootOf 110 = .ok (.lload_n 2, 1) := by decide +kernel
theorem dX7_rootOf_111 : decode cX7_rootOf 111 = .ok (.iconst 1, 1) := by decide +kernel
theorem dX7_rootOf_112 : decode cX7_rootOf 112 = .ok (.lshr, 1) := by decide +kernel
theorem dX7_rootOf_113 : decode cX7_rootOf 113 = .ok (.lload_n 2, 1) := by decide +kernel
theorem dX7_rootOf_114 : decode cX7_rootOf 114 = .ok (.lconst 1, 1) := by decide +kernel
theorem dX7_rootOf_115 : decode cX7_rootOf 115 = .ok (.land, 1) := by decide +kernel
theorem dX7_rootOf_116 : decode cX7_rootOf 116 = .ok (.ladd, 1) := by decide +kernel
theorem dX7_rootOf_117 : decode cX7_rootOf 117 = .ok (.l2d, 1) := by decide +kernel
theorem dX7_rootOf_118 : decode cX7_rootOf 118 = .ok (.dstore 7, 2) := by decide +kernel
theorem dX7_rootOf_120 : decode cX7_rootOf 120 = .ok (.iconst 1, 1) := by decide +kernel
theorem dX7_rootOf_121 : decode cX7_rootOf 121 = .ok (.istore 9, 2) := by decide +kernel
theorem dX7_rootOf_123 : decode cX7_rootOf 123 = .ok (.iload 9, 2) := by decide +kernel
theorem dX7_rootOf_125 : decode cX7_rootOf 125 = .ok (.iload 6, 2) := by decide +kernel
theorem dX7_rootOf_127 : decode cX7_rootOf 127 = .ok (.if_icmp .ge 17, 3) := by decide +kernel
theorem dX7_rootOf_130 : decode cX7_rootOf 130 = .ok (.dload 7, 2) := by decide +kernel
theorem dX7_rootOf_132 : decode cX7_rootOf 132 = .ok (.ldc2_w 146, 3) := by decide +kernel
theorem dX7_rootOf_135 : decode cX7_rootOf 135 = .ok (.ddiv, 1) := by decide +kernel
theorem dX7_rootOf_136 : decode cX7_rootOf 136 = .ok (.dstore 7, 2) := by decide +kernel
theorem dX7_rootOf_138 : decode cX7_rootOf 138 = .ok (.iinc 9 1, 3) := by decide +kernel
theorem dX7_rootOf_141 : decode cX7_rootOf 141 = .ok (.goto (-18), 3) := by decide +kernel
theorem dX7_rootOf_144 : decode cX7_rootOf 144 = .ok (.dload 7, 2) := by decide +kernel
theorem dX7_rootOf_146 : decode cX7_rootOf 146 = .ok (.dreturn, 1) := by decide +kernel
theorem dX7_hypot_0 : decode cX7_hypot 0 = .ok (.aload_n 0, 1) := by decide +kernel
theorem dX7_hypot_1 : decode cX7_hypot 1 = .ok (.iload_n 2, 1) := by decide +kernel
theorem dX7_hypot_2 : decode cX7_hypot 2 = .ok (.i2l, 1) := by decide +kernel
theorem dX7_hypot_3 : decode cX7_hypot 3 = .ok (.lconst 0, 1) := by decide +kernel
theorem dX7_hypot_4 : decode cX7_hypot 4 = .ok (.ldc2_w 71, 3) := by decide +kernel
theorem dX7_hypot_7 : decode cX7_hypot 7 = .ok (.invokestatic 37, 3) := by decide +kernel
theorem dX7_hypot_10 : decode cX7_hypot 10 = .ok (.ifCond .eq 15, 3) := by decide +kernel
theorem dX7_hypot_13 : decode cX7_hypot 13 = .ok (.iload_n 3, 1) := by decide +kernel
theorem dX7_hypot_14 : decode cX7_hypot 14 = .ok (.i2l, 1) := by decide +kernel
theorem dX7_hypot_15 : decode cX7_hypot 15 = .ok (.lconst 0, 1) := by decide +kernel
theorem dX7_hypot_16 : decode cX7_hypot 16 = .ok (.ldc2_w 71, 3) := by decide +kernel
theorem dX7_hypot_19 : decode cX7_hypot 19 = .ok (.invokestatic 37, 3) := by decide +kernel
theorem dX7_hypot_22 : decode cX7_hypot 22 = .ok (.ifCond .ne 7, 3) := by decide +kernel
theorem dX7_hypot_25 : decode cX7_hypot 25 = .ok (.iconst 1, 1) := by decide +kernel
theorem dX7_hypot_26 : decode cX7_hypot 26 = .ok (.goto 9, 3) := by decide +kernel
theorem dX7_hypot_29 : decode cX7_hypot 29 = .ok (.aload_n 0, 1) := by decide +kernel
theorem dX7_hypot_30 : decode cX7_hypot 30 = .ok (.iload_n 1, 1) := by decide +kernel
theorem dX7_hypot_31 : decode cX7_hypot 31 = .ok (.iconst 2, 1) := by decide +kernel
theorem dX7_hypot_32 : decode cX7_hypot 32 = .ok (.invokevirtual 68, 3) := by decide +kernel
theorem dX7_hypot_35 : decode cX7_hypot 35 = .ok (.invokevirtual 57, 3) := by decide +kernel
theorem dX7_hypot_38 : decode cX7_hypot 38 = .ok (.ifCond .eq 5, 3) := by decide +kernel
theorem dX7_hypot_41 : decode cX7_hypot 41 = .ok (.dconst 0, 1) := by decide +kernel
theorem dX7_hypot_42 : decode cX7_hypot 42 = .ok (.dreturn, 1) := by decide +kernel
theorem dX7_hypot_43 : decode cX7_hypot 43 = .ok (.aload_n 0, 1) := by decide +kernel
theorem dX7_hypot_44 : decode cX7_hypot 44 = .ok (.iload_n 1, 1) := by decide +kernel
theorem dX7_hypot_45 : decode cX7_hypot 45 = .ok (.iload_n 2, 1) := by decide +kernel
theorem dX7_hypot_46 : decode cX7_hypot 46 = .ok (.invokevirtual 73, 3) := by decide +kernel
theorem dX7_hypot_49 : decode cX7_hypot 49 = .ok (.i2l, 1) := by decide +kernel
theorem dX7_hypot_50 : decode cX7_hypot 50 = .ok (.invokestatic 92, 3) := by decide +kernel
theorem dX7_hypot_53 : decode cX7_hypot 53 = .ok (.aload_n 0, 1) := by decide +kernel
theorem dX7_hypot_54 : decode cX7_hypot 54 = .ok (.iload_n 1, 1) := by decide +kernel
theorem dX7_hypot_55 : decode cX7_hypot 55 = .ok (.iload_n 3, 1) := by decide +kernel
theorem dX7_hypot_56 : decode cX7_hypot 56 = .ok (.invokevirtual 73, 3) := by decide +kernel
theorem dX7_hypot_59 : decode cX7_hypot 59 = .ok (.i2l, 1) := by decide +kernel
theorem dX7_hypot_60 : decode cX7_hypot 60 = .ok (.invokestatic 92, 3) := by decide +kernel
theorem dX7_hypot_63 : decode cX7_hypot 63 = .ok (.ladd, 1) := by decide +kernel
theorem dX7_hypot_64 : decode cX7_hypot 64 = .ok (.invokestatic 148, 3) := by decide +kernel
theorem dX7_hypot_67 : decode cX7_hypot 67 = .ok (.dreturn, 1) := by decide +kernel
theorem dX7_root_0 : decode cX7_root 0 = .ok (.aload_n 0, 1) := by decide +kernel
theorem dX7_root_1 : decode cX7_root 1 = .ok (.lload_n 1, 1) := by decide +kernel
theorem dX7_root_2 : decode cX7_root 2 = .ok (.lconst 0, 1) := by decide +kernel
theorem dX7_root_3 : decode cX7_root 3 = .ok (.ldc2_w 152, 3) := by decide +kernel
theorem dX7_root_6 : decode cX7_root 6 = .ok (.invokestatic 37, 3) := by decide +kernel
theorem dX7_root_9 : decode cX7_root 9 = .ok (.ifCond .eq 7, 3) := by decide +kernel
theorem dX7_root_12 : decode cX7_root 12 = .ok (.iconst 0, 1) := by decide +kernel
theorem dX7_root_13 : decode cX7_root 13 = .ok (.goto 4, 3) := by decide +kernel
theorem dX7_root_16 : decode cX7_root 16 = .ok (.iconst 1, 1) := by decide +kernel
theorem dX7_root_17 : decode cX7_root 17 = .ok (.invokevirtual 57, 3) := by decide +kernel
theorem dX7_root_20 : decode cX7_root 20 = .ok (.ifCond .eq 7, 3) := by decide +kernel
theorem dX7_root_23 : decode cX7_root 23 = .ok (.dconst 0, 1) := by decide +kernel
theorem dX7_root_24 : decode cX7_root 24 = .ok (.goto 7, 3) := by decide +kernel
theorem dX7_root_27 : decode cX7_root 27 = .ok (.lload_n 1, 1) := by decide +kernel
theorem dX7_root_28 : decode cX7_root 28 = .ok (.invokestatic 148, 3) := by decide +kernel
theorem dX7_root_31 : decode cX7_root 31 = .ok (.dreturn, 1) := by decide +kernel
theorem dX7_shape_0 : decode cX7_shape 0 = .ok (.aload_n 0, 1) := by decide +kernel
theorem dX7_shape_1 : decode cX7_shape 1 = .ok (.aload_n 0, 1) := by decide +kernel
theorem dX7_shape_2 : decode cX7_shape 2 = .ok (.iload_n 1, 1) := by decide +kernel
theorem dX7_shape_3 : decode cX7_shape 3 = .ok (.iconst 2, 1) := by decide +kernel
theorem dX7_shape_4 : decode cX7_shape 4 = .ok (.invokevirtual 68, 3) := by decide +kernel
theorem dX7_shape_7 : decode cX7_shape 7 = .ok (.invokevirtual 57, 3) := by decide +kernel
theorem dX7_shape_10 : decode cX7_shape 10 = .ok (.ifCond .eq 7, 3) := by decide +kernel
theorem dX7_shape_13 : decode cX7_shape 13 = .ok (.fconst 0, 1) := by decide +kernel
theorem dX7_shape_14 : decode cX7_shape 14 = .ok (.goto 18, 3) := by decide +kernel
theorem dX7_shape_17 : decode cX7_shape 17 = .ok (.aload_n 0, 1) := by decide +kernel
theorem dX7_shape_18 : decode cX7_shape 18 = .ok (.getfield 7, 3) := by decide +kernel
theorem dX7_shape_21 : decode cX7_shape 21 = .ok (.iload_n 1, 1) := by decide +kernel
theorem dX7_shape_22 : decode cX7_shape 22 = .ok (.iaload, 1) := by decide +kernel
theorem dX7_shape_23 : decode cX7_shape 23 = .ok (.i2f, 1) := by decide +kernel
theorem dX7_shape_24 : decode cX7_shape 24 = .ok (.aload_n 0, 1) := by decide +kernel
theorem dX7_shape_25 : decode cX7_shape 25 = .ok (.getfield 16, 3) := by decide +kernel
theorem dX7_shape_28 : decode cX7_shape 28 = .ok (.iload_n 1, 1) := by decide +kernel
theorem dX7_shape_29 : decode cX7_shape 29 = .ok (.iaload, 1) := by decide +kernel
theorem dX7_shape_30 : decode cX7_shape 30 = .ok (.i2f, 1) := by decide +kernel
theorem dX7_shape_31 : decode cX7_shape 31 = .ok (.fdiv, 1) := by decide +kernel
theorem dX7_shape_32 : decode cX7_shape 32 = .ok (.freturn, 1) := by decide +kernel
theorem dX7_mean_0 : decode cX7_mean 0 = .ok (.aload_n 0, 1) := by decide +kernel
theorem dX7_mean_1 : decode cX7_mean 1 = .ok (.iconst 0, 1) := by decide +kernel
theorem dX7_mean_2 : decode cX7_mean 2 = .ok (.putfield 31, 3) := by decide +kernel
theorem dX7_mean_5 : decode cX7_mean 5 = .ok (.iconst 0, 1) := by decide +kernel
theorem dX7_mean_6 : decode cX7_mean 6 = .ok (.istore_n 1, 1) := by decide +kernel
theorem dX7_mean_7 : decode cX7_mean 7 = .ok (.iconst 0, 1) := by decide +kernel
theorem dX7_mean_8 : decode cX7_mean 8 = .ok (.istore_n 2, 1) := by decide +kernel
theorem dX7_mean_9 : decode cX7_mean 9 = .ok (.iload_n 2, 1) := by decide +kernel
theorem dX7_mean_10 : decode cX7_mean 10 = .ok (.bipush 16, 2) := by decide +kernel
theorem dX7_mean_12 : decode cX7_mean 12 = .ok (.if_icmp .ge 17, 3) := by decide +kernel
theorem dX7_mean_15 : decode cX7_mean 15 = .ok (.iload_n 1, 1) := by decide +kernel
theorem dX7_mean_16 : decode cX7_mean 16 = .ok (.aload_n 0, 1) := by decide +kernel
theorem dX7_mean_17 : decode cX7_mean 17 = .ok (.iload_n 2, 1) := by decide +kernel
theorem dX7_mean_18 : decode cX7_mean 18 = .ok (.invokevirtual 96, 3) := by decide +kernel
theorem dX7_mean_21 : decode cX7_mean 21 = .ok (.iadd, 1) := by decide +kernel
theorem dX7_mean_22 : decode cX7_mean 22 = .ok (.istore_n 1, 1) := by decide +kernel
theorem dX7_mean_23 : decode cX7_mean 23 = .ok (.iinc 2 1, 3) := by decide +kernel
theorem dX7_mean_26 : decode cX7_mean 26 = .ok (.goto (-17), 3) := by decide +kernel
theorem dX7_mean_29 : decode cX7_mean 29 = .ok (.aload_n 0, 1) := by decide +kernel
theorem dX7_mean_30 : decode cX7_mean 30 = .ok (.invokevirtual 64, 3) := by decide +kernel
theorem dX7_mean_33 : decode cX7_mean 33 = .ok (.ifCond .ne 7, 3) := by decide +kernel
theorem dX7_mean_36 : decode cX7_mean 36 = .ok (.dconst 0, 1) := by decide +kernel
theorem dX7_mean_37 : decode cX7_mean 37 = .ok (.goto 11, 3) := by decide +kernel
theorem dX7_mean_40 : decode cX7_mean 40 = .ok (.iload_n 1, 1) := by decide +kernel
theorem dX7_mean_41 : decode cX7_mean 41 = .ok (.i2d, 1) := by decide +kernel
theorem dX7_mean_42 : decode cX7_mean 42 = .ok (.aload_n 0, 1) := by decide +kernel
theorem dX7_mean_43 : decode cX7_mean 43 = .ok (.invokevirtual 64, 3) := by decide +kernel
theorem dX7_mean_46 : decode cX7_mean 46 = .ok (.i2d, 1) := by decide +kernel
theorem dX7_mean_47 : decode cX7_mean 47 = .ok (.ddiv, 1) := by decide +kernel
theorem dX7_mean_48 : decode cX7_mean 48 = .ok (.dreturn, 1) := by decide +kernel
theorem dX7_euclid_0 : decode cX7_euclid 0 = .ok (.iload_n 2, 1) := by decide +kernel
theorem dX7_euclid_1 : decode cX7_euclid 1 = .ok (.i2l, 1) := by decide +kernel
theorem dX7_euclid_2 : decode cX7_euclid 2 = .ok (.ldc2_w 71, 3) := by decide +kernel
theorem dX7_euclid_5 : decode cX7_euclid 5 = .ok (.ldc2_w 154, 3) := by decide +kernel
theorem dX7_euclid_8 : decode cX7_euclid 8 = .ok (.invokestatic 37, 3) := by decide +kernel
theorem dX7_euclid_11 : decode cX7_euclid 11 = .ok (.ifCond .eq 20, 3) := by decide +kernel
theorem dX7_euclid_14 : decode cX7_euclid 14 = .ok (.iload_n 3, 1) := by decide +kernel
theorem dX7_euclid_15 : decode cX7_euclid 15 = .ok (.i2l, 1) := by decide +kernel
theorem dX7_euclid_16 : decode cX7_euclid 16 = .ok (.lconst 1, 1) := by decide +kernel
theorem dX7_euclid_17 : decode cX7_euclid 17 = .ok (.iload_n 2, 1) := by decide +kernel
theorem dX7_euclid_18 : decode cX7_euclid 18 = .ok (.i2l, 1) := by decide +kernel
theorem dX7_euclid_19 : decode cX7_euclid 19 = .ok (.lconst 1, 1) := by decide +kernel
theorem dX7_euclid_20 : decode cX7_euclid 20 = .ok (.lsub, 1) := by decide +kernel
theorem dX7_euclid_21 : decode cX7_euclid 21 = .ok (.invokestatic 37, 3) := by decide +kernel
theorem dX7_euclid_24 : decode cX7_euclid 24 = .ok (.ifCond .eq 7, 3) := by decide +kernel
theorem dX7_euclid_27 : decode cX7_euclid 27 = .ok (.iconst 1, 1) := by decide +kernel
theorem dX7_euclid_28 : decode cX7_euclid 28 = .ok (.goto 4, 3) := by decide +kernel
theorem dX7_euclid_31 : decode cX7_euclid 31 = .ok (.iconst 0, 1) := by decide +kernel
theorem dX7_euclid_32 : decode cX7_euclid 32 = .ok (.istore 4, 2) := by decide +kernel
theorem dX7_euclid_34 : decode cX7_euclid 34 = .ok (.aload_n 0, 1) := by decide +kernel
theorem dX7_euclid_35 : decode cX7_euclid 35 = .ok (.iload_n 1, 1) := by decide +kernel
theorem dX7_euclid_36 : decode cX7_euclid 36 = .ok (.invokestatic 41, 3) := by decide +kernel
theorem dX7_euclid_39 : decode cX7_euclid 39 = .ok (.ifCond .ne 7, 3) := by decide +kernel
theorem dX7_euclid_42 : decode cX7_euclid 42 = .ok (.iconst 1, 1) := by decide +kernel
theorem dX7_euclid_43 : decode cX7_euclid 43 = .ok (.goto 29, 3) := by decide +kernel
theorem dX7_euclid_46 : decode cX7_euclid 46 = .ok (.iload 4, 2) := by decide +kernel
theorem dX7_euclid_48 : decode cX7_euclid 48 = .ok (.ifCond .ne 7, 3) := by decide +kernel
theorem dX7_euclid_51 : decode cX7_euclid 51 = .ok (.iconst 2, 1) := by decide +kernel
theorem dX7_euclid_52 : decode cX7_euclid 52 = .ok (.goto 20, 3) := by decide +kernel
theorem dX7_euclid_55 : decode cX7_euclid 55 = .ok (.iload_n 2, 1) := by decide +kernel
theorem dX7_euclid_56 : decode cX7_euclid 56 = .ok (.iload_n 2, 1) := by decide +kernel
theorem dX7_euclid_57 : decode cX7_euclid 57 = .ok (.imul, 1) := by decide +kernel
theorem dX7_euclid_58 : decode cX7_euclid 58 = .ok (.iload_n 3, 1) := by decide +kernel
theorem dX7_euclid_59 : decode cX7_euclid 59 = .ok (.iload_n 3, 1) := by decide +kernel
theorem dX7_euclid_60 : decode cX7_euclid 60 = .ok (.imul, 1) := by decide +kernel
theorem dX7_euclid_61 : decode cX7_euclid 61 = .ok (.iadd, 1) := by decide +kernel
theorem dX7_euclid_62 : decode cX7_euclid 62 = .ok (.ldc 78, 2) := by decide +kernel
theorem dX7_euclid_64 : decode cX7_euclid 64 = .ok (.if_icmp .le 7, 3) := by decide +kernel
theorem dX7_euclid_67 : decode cX7_euclid 67 = .ok (.iconst 3, 1) := by decide +kernel
theorem dX7_euclid_68 : decode cX7_euclid 68 = .ok (.goto 4, 3) := by decide +kernel
theorem dX7_euclid_71 : decode cX7_euclid 71 = .ok (.iconst 0, 1) := by decide +kernel
theorem dX7_euclid_72 : decode cX7_euclid 72 = .ok (.invokevirtual 57, 3) := by decide +kernel
theorem dX7_euclid_75 : decode cX7_euclid 75 = .ok (.ifCond .eq 5, 3) := by decide +kernel
theorem dX7_euclid_78 : decode cX7_euclid 78 = .ok (.iconst 0, 1) := by decide +kernel
theorem dX7_euclid_79 : decode cX7_euclid 79 = .ok (.ireturn, 1) := by decide +kernel
theorem dX7_euclid_80 : decode cX7_euclid 80 = .ok (.aload_n 0, 1) := by decide +kernel
theorem dX7_euclid_81 : decode cX7_euclid 81 = .ok (.iload_n 1, 1) := by decide +kernel
theorem dX7_euclid_82 : decode cX7_euclid 82 = .ok (.iload_n 2, 1) := by decide +kernel
theorem dX7_euclid_83 : decode cX7_euclid 83 = .ok (.iload_n 2, 1) := by decide +kernel
theorem dX7_euclid_84 : decode cX7_euclid 84 = .ok (.imul, 1) := by decide +kernel
theorem dX7_euclid_85 : decode cX7_euclid 85 = .ok (.iload_n 3, 1) := by decide +kernel
theorem dX7_euclid_86 : decode cX7_euclid 86 = .ok (.iload_n 3, 1) := by decide +kernel
theorem dX7_euclid_87 : decode cX7_euclid 87 = .ok (.imul, 1) := by decide +kernel
theorem dX7_euclid_88 : decode cX7_euclid 88 = .ok (.isub, 1) := by decide +kernel
theorem dX7_euclid_89 : decode cX7_euclid 89 = .ok (.iconst 2, 1) := by decide +kernel
theorem dX7_euclid_90 : decode cX7_euclid 90 = .ok (.iload_n 2, 1) := by decide +kernel
theorem dX7_euclid_91 : decode cX7_euclid 91 = .ok (.imul, 1) := by decide +kernel
theorem dX7_euclid_92 : decode cX7_euclid 92 = .ok (.iload_n 3, 1) := by decide +kernel
theorem dX7_euclid_93 : decode cX7_euclid 93 = .ok (.imul, 1) := by decide +kernel
theorem dX7_euclid_94 : decode cX7_euclid 94 = .ok (.iload_n 2, 1) := by decide +kernel
theorem dX7_euclid_95 : decode cX7_euclid 95 = .ok (.iload_n 2, 1) := by decide +kernel
theorem dX7_euclid_96 : decode cX7_euclid 96 = .ok (.imul, 1) := by decide +kernel
theorem dX7_euclid_97 : decode cX7_euclid 97 = .ok (.iload_n 3, 1) := by decide +kernel
theorem dX7_euclid_98 : decode cX7_euclid 98 = .ok (.iload_n 3, 1) := by decide +kernel
theorem dX7_euclid_99 : decode cX7_euclid 99 = .ok (.imul, 1) := by decide +kernel
theorem dX7_euclid_100 : decode cX7_euclid 100 = .ok (.iadd, 1) := by decide +kernel
theorem dX7_euclid_101 : decode cX7_euclid 101 = .ok (.invokevirtual 60, 3) := by decide +kernel
theorem dX7_euclid_104 : decode cX7_euclid 104 = .ok (.aload_n 0, 1) := by decide +kernel
theorem dX7_euclid_105 : decode cX7_euclid 105 = .ok (.getfield 16, 3) := by decide +kernel
theorem dX7_euclid_108 : decode cX7_euclid 108 = .ok (.iload_n 1, 1) := by decide +kernel
theorem dX7_euclid_109 : decode cX7_euclid 109 = .ok (.iaload, 1) := by decide +kernel
theorem dX7_euclid_110 : decode cX7_euclid 110 = .ok (.ireturn, 1) := by decide +kernel
theorem dX7_isPrimitive_0 : decode cX7_isPrimitive 0 = .ok (.aload_n 0, 1) := by decide +kernel
theorem dX7_isPrimitive_1 : decode cX7_isPrimitive 1 = .ok (.iload_n 1, 1) := by decide +kernel
theorem dX7_isPrimitive_2 : decode cX7_isPrimitive 2 = .ok (.invokevirtual 85, 3) := by decide +kernel
theorem dX7_isPrimitive_5 : decode cX7_isPrimitive 5 = .ok (.ifCond .ne 26, 3) := by decide +kernel
theorem dX7_isPrimitive_8 : decode cX7_isPrimitive 8 = .ok (.aload_n 0, 1) := by decide +kernel
theorem dX7_isPrimitive_9 : decode cX7_isPrimitive 9 = .ok (.getfield 7, 3) := by decide +kernel
theorem dX7_isPrimitive_12 : decode cX7_isPrimitive 12 = .ok (.iload_n 1, 1) := by decide +kernel
theorem dX7_isPrimitive_13 : decode cX7_isPrimitive 13 = .ok (.iaload, 1) := by decide +kernel
theorem dX7_isPrimitive_14 : decode cX7_isPrimitive 14 = .ok (.aload_n 0, 1) := by decide +kernel
theorem dX7_isPrimitive_15 : decode cX7_isPrimitive 15 = .ok (.getfield 13, 3) := by decide +kernel
theorem dX7_isPrimitive_18 : decode cX7_isPrimitive 18 = .ok (.iload_n 1, 1) := by decide +kernel
theorem dX7_isPrimitive_19 : decode cX7_isPrimitive 19 = .ok (.iaload, 1) := by decide +kernel
theorem dX7_isPrimitive_20 : decode cX7_isPrimitive 20 = .ok (.invokestatic 79, 3) := by decide +kernel
theorem dX7_isPrimitive_23 : decode cX7_isPrimitive 23 = .ok (.iconst 1, 1) := by decide +kernel
theorem dX7_isPrimitive_24 : decode cX7_isPrimitive 24 = .ok (.if_icmp .ne 7, 3) := by decide +kernel
theorem dX7_isPrimitive_27 : decode cX7_isPrimitive 27 = .ok (.iconst 1, 1) := by decide +kernel
theorem dX7_isPrimitive_28 : decode cX7_isPrimitive 28 = .ok (.goto 4, 3) := by decide +kernel
theorem dX7_isPrimitive_31 : decode cX7_isPrimitive 31 = .ok (.iconst 0, 1) := by decide +kernel
theorem dX7_isPrimitive_32 : decode cX7_isPrimitive 32 = .ok (.ireturn, 1) := by decide +kernel
theorem dX7_odd_0 : decode cX7_odd 0 = .ok (.aload_n 0, 1) := by decide +kernel
theorem dX7_odd_1 : decode cX7_odd 1 = .ok (.getfield 7, 3) := by decide +kernel
theorem dX7_odd_4 : decode cX7_odd 4 = .ok (.iload_n 1, 1) := by decide +kernel
theorem dX7_odd_5 : decode cX7_odd 5 = .ok (.iaload, 1) := by decide +kernel
theorem dX7_odd_6 : decode cX7_odd 6 = .ok (.iconst 2, 1) := by decide +kernel
theorem dX7_odd_7 : decode cX7_odd 7 = .ok (.irem, 1) := by decide +kernel
theorem dX7_odd_8 : decode cX7_odd 8 = .ok (.iconst 1, 1) := by decide +kernel
theorem dX7_odd_9 : decode cX7_odd 9 = .ok (.if_icmp .ne 12, 3) := by decide +kernel
theorem dX7_odd_12 : decode cX7_odd 12 = .ok (.aload_n 0, 1) := by decide +kernel
theorem dX7_odd_13 : decode cX7_odd 13 = .ok (.getfield 7, 3) := by decide +kernel
theorem dX7_odd_16 : decode cX7_odd 16 = .ok (.iload_n 1, 1) := by decide +kernel
theorem dX7_odd_17 : decode cX7_odd 17 = .ok (.iaload, 1) := by decide +kernel
theorem dX7_odd_18 : decode cX7_odd 18 = .ok (.goto 9, 3) := by decide +kernel
theorem dX7_odd_21 : decode cX7_odd 21 = .ok (.aload_n 0, 1) := by decide +kernel
theorem dX7_odd_22 : decode cX7_odd 22 = .ok (.getfield 13, 3) := by decide +kernel
theorem dX7_odd_25 : decode cX7_odd 25 = .ok (.iload_n 1, 1) := by decide +kernel
theorem dX7_odd_26 : decode cX7_odd 26 = .ok (.iaload, 1) := by decide +kernel
theorem dX7_odd_27 : decode cX7_odd 27 = .ok (.ireturn, 1) := by decide +kernel
theorem dX7_even_0 : decode cX7_even 0 = .ok (.aload_n 0, 1) := by decide +kernel
theorem dX7_even_1 : decode cX7_even 1 = .ok (.getfield 7, 3) := by decide +kernel
theorem dX7_even_4 : decode cX7_even 4 = .ok (.iload_n 1, 1) := by decide +kernel
theorem dX7_even_5 : decode cX7_even 5 = .ok (.iaload, 1) := by decide +kernel
theorem dX7_even_6 : decode cX7_even 6 = .ok (.iconst 2, 1) := by decide +kernel
theorem dX7_even_7 : decode cX7_even 7 = .ok (.irem, 1) := by decide +kernel
theorem dX7_even_8 : decode cX7_even 8 = .ok (.iconst 1, 1) := by decide +kernel
theorem dX7_even_9 : decode cX7_even 9 = .ok (.if_icmp .ne 12, 3) := by decide +kernel
theorem dX7_even_12 : decode cX7_even 12 = .ok (.aload_n 0, 1) := by decide +kernel
theorem dX7_even_13 : decode cX7_even 13 = .ok (.getfield 13, 3) := by decide +kernel
theorem dX7_even_16 : decode cX7_even 16 = .ok (.iload_n 1, 1) := by decide +kernel
theorem dX7_even_17 : decode cX7_even 17 = .ok (.iaload, 1) := by decide +kernel
theorem dX7_even_18 : decode cX7_even 18 = .ok (.goto 9, 3) := by decide +kernel
theorem dX7_even_21 : decode cX7_even 21 = .ok (.aload_n 0, 1) := by decide +kernel
theorem dX7_even_22 : decode cX7_even 22 = .ok (.getfield 7, 3) := by decide +kernel
theorem dX7_even_25 : decode cX7_even 25 = .ok (.iload_n 1, 1) := by decide +kernel
theorem dX7_even_26 : decode cX7_even 26 = .ok (.iaload, 1) := by decide +kernel
theorem dX7_even_27 : decode cX7_even 27 = .ok (.ireturn, 1) := by decide +kernel
theorem dX7_positive_0 : decode cX7_positive 0 = .ok (.iload_n 0, 1) := by decide +kernel
theorem dX7_positive_1 : decode cX7_positive 1 = .ok (.ifCond .ge 8, 3) := by decide +kernel
theorem dX7_positive_4 : decode cX7_positive 4 = .ok (.iload_n 0, 1) := by decide +kernel
theorem dX7_positive_5 : decode cX7_positive 5 = .ok (.ineg, 1) := by decide +kernel
theorem dX7_positive_6 : decode cX7_positive 6 = .ok (.goto 4, 3) := by decide +kernel
theorem dX7_positive_9 : decode cX7_positive 9 = .ok (.iload_n 0, 1) := by decide +kernel
theorem dX7_positive_10 : decode cX7_positive 10 = .ok (.ireturn, 1) := by decide +kernel
theorem dX7_stepped_0 : decode cX7_stepped 0 = .ok (.iload_n 3, 1) := by decide +kernel
theorem dX7_stepped_1 : decode cX7_stepped 1 = .ok (.bipush 112, 2) := by decide +kernel
theorem dX7_stepped_3 : decode cX7_stepped 3 = .ok (.if_icmp .ne 56, 3) := by decide +kernel
theorem dX7_stepped_6 : decode cX7_stepped 6 = .ok (.iload 4, 2) := by decide +kernel
theorem dX7_stepped_8 : decode cX7_stepped 8 = .ok (.ifCond .ne 18, 3) := by decide +kernel
theorem dX7_stepped_11 : decode cX7_stepped 11 = .ok (.iload_n 0, 1) := by decide +kernel
theorem dX7_stepped_12 : decode cX7_stepped 12 = .ok (.iconst 2, 1) := by decide +kernel
theorem dX7_stepped_13 : decode cX7_stepped 13 = .ok (.iload_n 1, 1) := by decide +kernel
theorem dX7_stepped_14 : decode cX7_stepped 14 = .ok (.imul, 1) := by decide +kernel
theorem dX7_stepped_15 : decode cX7_stepped 15 = .ok (.iadd, 1) := by decide +kernel
theorem dX7_stepped_16 : decode cX7_stepped 16 = .ok (.iconst 2, 1) := by decide +kernel
theorem dX7_stepped_17 : decode cX7_stepped 17 = .ok (.iload_n 2, 1) := by decide +kernel
theorem dX7_stepped_18 : decode cX7_stepped 18 = .ok (.imul, 1) := by decide +kernel
theorem dX7_stepped_19 : decode cX7_stepped 19 = .ok (.isub, 1) := by decide +kernel
theorem dX7_stepped_20 : decode cX7_stepped 20 = .ok (.invokestatic 156, 3) := by decide +kernel
theorem dX7_stepped_23 : decode cX7_stepped 23 = .ok (.goto 35, 3) := by decide +kernel
theorem dX7_stepped_26 : decode cX7_stepped 26 = .ok (.iload 4, 2) := by decide +kernel
theorem dX7_stepped_28 : decode cX7_stepped 28 = .ok (.iconst 1, 1) := by decide +kernel
theorem dX7_stepped_29 : decode cX7_stepped 29 = .ok (.if_icmp .ne 18, 3) := by decide +kernel
theorem dX7_stepped_32 : decode cX7_stepped 32 = .ok (.iconst 2, 1) := by decide +kernel
theorem dX7_stepped_33 : decode cX7_stepped 33 = .ok (.iload_n 0, 1) := by decide +kernel
theorem dX7_stepped_34 : decode cX7_stepped 34 = .ok (.imul, 1) := by decide +kernel
theorem dX7_stepped_35 : decode cX7_stepped 35 = .ok (.iload_n 1, 1) := by decide +kernel
theorem dX7_stepped_36 : decode cX7_stepped 36 = .ok (.iadd, 1) := by decide +kernel
theorem dX7_stepped_37 : decode cX7_stepped 37 = .ok (.iconst 2, 1) := by decide +kernel
theorem dX7_stepped_38 : decode cX7_stepped 38 = .ok (.iload_n 2, 1) := by decide +kernel
theorem dX7_stepped_39 : decode cX7_stepped 39 = .ok (.imul, 1) := by decide +kernel
theorem dX7_stepped_40 : decode cX7_stepped 40 = .ok (.isub, 1) := by decide +kernel
theorem dX7_stepped_41 : decode cX7_stepped 41 = .ok (.invokestatic 156, 3) := by decide +kernel
theorem dX7_stepped_44 : decode cX7_stepped 44 = .ok (.goto 14, 3) := by decide +kernel
theorem dX7_stepped_47 : decode cX7_stepped 47 = .ok (.iconst 3, 1) := by decide +kernel
theorem dX7_stepped_48 : decode cX7_stepped 48 = .ok (.iload_n 2, 1) := by decide +kernel
theorem dX7_stepped_49 : decode cX7_stepped 49 = .ok (.imul, 1) := by decide +kernel
theorem dX7_stepped_50 : decode cX7_stepped 50 = .ok (.iconst 2, 1) := by decide +kernel
theorem dX7_stepped_51 : decode cX7_stepped 51 = .ok (.iload_n 0, 1) := by decide +kernel
theorem dX7_stepped_52 : decode cX7_stepped 52 = .ok (.imul, 1) := by decide +kernel
theorem dX7_stepped_53 : decode cX7_stepped 53 = .ok (.isub, 1) := by decide +kernel
theorem dX7_stepped_54 : decode cX7_stepped 54 = .ok (.iconst 2, 1) := by decide +kernel
theorem dX7_stepped_55 : decode cX7_stepped 55 = .ok (.iload_n 1, 1) := by decide +kernel
theorem dX7_stepped_56 : decode cX7_stepped 56 = .ok (.imul, 1) := by decide +kernel
theorem dX7_stepped_57 : decode cX7_stepped 57 = .ok (.isub, 1) := by decide +kernel
theorem dX7_stepped_58 : decode cX7_stepped 58 = .ok (.ireturn, 1) := by decide +kernel
theorem dX7_stepped_59 : decode cX7_stepped 59 = .ok (.iload_n 3, 1) := by decide +kernel
theorem dX7_stepped_60 : decode cX7_stepped 60 = .ok (.bipush 99, 2) := by decide +kernel
theorem dX7_stepped_62 : decode cX7_stepped 62 = .ok (.if_icmp .ne 8, 3) := by decide +kernel
theorem dX7_stepped_65 : decode cX7_stepped 65 = .ok (.iload_n 0, 1) := by decide +kernel
theorem dX7_stepped_66 : decode cX7_stepped 66 = .ok (.ineg, 1) := by decide +kernel
theorem dX7_stepped_67 : decode cX7_stepped 67 = .ok (.goto 4, 3) := by decide +kernel
theorem dX7_stepped_70 : decode cX7_stepped 70 = .ok (.iload_n 0, 1) := by decide +kernel
theorem dX7_stepped_71 : decode cX7_stepped 71 = .ok (.istore 5, 2) := by decide +kernel
theorem dX7_stepped_73 : decode cX7_stepped 73 = .ok (.iload_n 3, 1) := by decide +kernel
theorem dX7_stepped_74 : decode cX7_stepped 74 = .ok (.bipush 97, 2) := by decide +kernel
theorem dX7_stepped_76 : decode cX7_stepped 76 = .ok (.if_icmp .ne 8, 3) := by decide +kernel
theorem dX7_stepped_79 : decode cX7_stepped 79 = .ok (.iload_n 1, 1) := by decide +kernel
theorem dX7_stepped_80 : decode cX7_stepped 80 = .ok (.ineg, 1) := by decide +kernel
theorem dX7_stepped_81 : decode cX7_stepped 81 = .ok (.goto 4, 3) := by decide +kernel
theorem dX7_stepped_84 : decode cX7_stepped 84 = .ok (.iload_n 1, 1) := by decide +kernel
theorem dX7_stepped_85 : decode cX7_stepped 85 = .ok (.istore 6, 2) := by decide +kernel
theorem dX7_stepped_87 : decode cX7_stepped 87 = .ok (.iload 4, 2) := by decide +kernel
theorem dX7_stepped_89 : decode cX7_stepped 89 = .ok (.ifCond .ne 17, 3) := by decide +kernel
theorem dX7_stepped_92 : decode cX7_stepped 92 = .ok (.iload 5, 2) := by decide +kernel
theorem dX7_stepped_94 : decode cX7_stepped 94 = .ok (.iconst 2, 1) := by decide +kernel
theorem dX7_stepped_95 : decode cX7_stepped 95 = .ok (.iload 6, 2) := by decide +kernel
theorem dX7_stepped_97 : decode cX7_stepped 97 = .ok (.imul, 1) := by decide +kernel
theorem dX7_stepped_98 : decode cX7_stepped 98 = .ok (.iadd, 1) := by decide +kernel
theorem dX7_stepped_99 : decode cX7_stepped 99 = .ok (.iconst 2, 1) := by decide +kernel
theorem dX7_stepped_100 : decode cX7_stepped 100 = .ok (.iload_n 2, 1) := by decide +kernel
theorem dX7_stepped_101 : decode cX7_stepped 101 = .ok (.imul, 1) := by decide +kernel
theorem dX7_stepped_102 : decode cX7_stepped 102 = .ok (.iadd, 1) := by decide +kernel
theorem dX7_stepped_103 : decode cX7_stepped 103 = .ok (.goto 36, 3) := by decide +kernel
theorem dX7_stepped_106 : decode cX7_stepped 106 = .ok (.iload 4, 2) := by decide +kernel
theorem dX7_stepped_108 : decode cX7_stepped 108 = .ok (.iconst 1, 1) := by decide +kernel
theorem dX7_stepped_109 : decode cX7_stepped 109 = .ok (.if_icmp .ne 17, 3) := by decide +kernel
theorem dX7_stepped_112 : decode cX7_stepped 112 = .ok (.iconst 2, 1) := by decide +kernel
theorem dX7_stepped_113 : decode cX7_stepped 113 = .ok (.iload 5, 2) := by decide +kernel
theorem dX7_stepped_115 : decode cX7_stepped 115 = .ok (.imul, 1) := by decide +kernel
theorem dX7_stepped_116 : decode cX7_stepped 116 = .ok (.iload 6, 2) := by decide +kernel
theorem dX7_stepped_118 : decode cX7_stepped 118 = .ok (.iadd, 1) := by decide +kernel
theorem dX7_stepped_119 : decode cX7_stepped 119 = .ok (.iconst 2, 1) := by decide +kernel
theorem dX7_stepped_120 : decode cX7_stepped 120 = .ok (.iload_n 2, 1) := by decide +kernel
theorem dX7_stepped_121 : decode cX7_stepped 121 = .ok (.imul, 1) := by decide +kernel
theorem dX7_stepped_122 : decode cX7_stepped 122 = .ok (.iadd, 1) := by decide +kernel
theorem dX7_stepped_123 : decode cX7_stepped 123 = .ok (.goto 16, 3) := by decide +kernel
theorem dX7_stepped_126 : decode cX7_stepped 126 = .ok (.iconst 2, 1) := by decide +kernel
theorem dX7_stepped_127 : decode cX7_stepped 127 = .ok (.iload 5, 2) := by decide +kernel
theorem dX7_stepped_129 : decode cX7_stepped 129 = .ok (.imul, 1) := by decide +kernel
theorem dX7_stepped_130 : decode cX7_stepped 130 = .ok (.iconst 2, 1) := by decide +kernel
theorem dX7_stepped_131 : decode cX7_stepped 131 = .ok (.iload 6, 2) := by decide +kernel
theorem dX7_stepped_133 : decode cX7_stepped 133 = .ok (.imul, 1) := by decide +kernel
theorem dX7_stepped_134 : decode cX7_stepped 134 = .ok (.iadd, 1) := by decide +kernel
theorem dX7_stepped_135 : decode cX7_stepped 135 = .ok (.iconst 3, 1) := by decide +kernel
theorem dX7_stepped_136 : decode cX7_stepped 136 = .ok (.iload_n 2, 1) := by decide +kernel
theorem dX7_stepped_137 : decode cX7_stepped 137 = .ok (.imul, 1) := by decide +kernel
theorem dX7_stepped_138 : decode cX7_stepped 138 = .ok (.iadd, 1) := by decide +kernel
theorem dX7_stepped_139 : decode cX7_stepped 139 = .ok (.ireturn, 1) := by decide +kernel
theorem dX7_canStep_0 : decode cX7_canStep 0 = .ok (.aload_n 0, 1) := by decide +kernel
theorem dX7_canStep_1 : decode cX7_canStep 1 = .ok (.iload_n 1, 1) := by decide +kernel
theorem dX7_canStep_2 : decode cX7_canStep 2 = .ok (.invokevirtual 159, 3) := by decide +kernel
theorem dX7_canStep_5 : decode cX7_canStep 5 = .ok (.ifCond .ne 5, 3) := by decide +kernel
theorem dX7_canStep_8 : decode cX7_canStep 8 = .ok (.iconst 0, 1) := by decide +kernel
theorem dX7_canStep_9 : decode cX7_canStep 9 = .ok (.ireturn, 1) := by decide +kernel
theorem dX7_canStep_10 : decode cX7_canStep 10 = .ok (.iload_n 2, 1) := by decide +kernel
theorem dX7_canStep_11 : decode cX7_canStep 11 = .ok (.bipush 112, 2) := by decide +kernel
theorem dX7_canStep_13 : decode cX7_canStep 13 = .ok (.if_icmp .ne 21, 3) := by decide +kernel
theorem dX7_canStep_16 : decode cX7_canStep 16 = .ok (.aload_n 0, 1) := by decide +kernel
theorem dX7_canStep_17 : decode cX7_canStep 17 = .ok (.getfield 16, 3) := by decide +kernel
theorem dX7_canStep_20 : decode cX7_canStep 20 = .ok (.iload_n 1, 1) := by decide +kernel
theorem dX7_canStep_21 : decode cX7_canStep 21 = .ok (.iaload, 1) := by decide +kernel
theorem dX7_canStep_22 : decode cX7_canStep 22 = .ok (.iconst 5, 1) := by decide +kernel
theorem dX7_canStep_23 : decode cX7_canStep 23 = .ok (.if_icmp .eq 7, 3) := by decide +kernel
theorem dX7_canStep_26 : decode cX7_canStep 26 = .ok (.iconst 1, 1) := by decide +kernel
theorem dX7_canStep_27 : decode cX7_canStep 27 = .ok (.goto 38, 3) := by decide +kernel
theorem dX7_canStep_30 : decode cX7_canStep 30 = .ok (.iconst 0, 1) := by decide +kernel
theorem dX7_canStep_31 : decode cX7_canStep 31 = .ok (.goto 34, 3) := by decide +kernel
theorem dX7_canStep_34 : decode cX7_canStep 34 = .ok (.aload_n 0, 1) := by decide +kernel
theorem dX7_canStep_35 : decode cX7_canStep 35 = .ok (.iload_n 1, 1) := by decide +kernel
theorem dX7_canStep_36 : decode cX7_canStep 36 = .ok (.invokevirtual 162, 3) := by decide +kernel
theorem dX7_canStep_39 : decode cX7_canStep 39 = .ok (.aload_n 0, 1) := by decide +kernel
theorem dX7_canStep_40 : decode cX7_canStep 40 = .ok (.iload_n 1, 1) := by decide +kernel
theorem dX7_canStep_41 : decode cX7_canStep 41 = .ok (.invokevirtual 165, 3) := by decide +kernel
theorem dX7_canStep_44 : decode cX7_canStep 44 = .ok (.aload_n 0, 1) := by decide +kernel
theorem dX7_canStep_45 : decode cX7_canStep 45 = .ok (.getfield 16, 3) := by decide +kernel
theorem dX7_canStep_48 : decode cX7_canStep 48 = .ok (.iload_n 1, 1) := by decide +kernel
theorem dX7_canStep_49 : decode cX7_canStep 49 = .ok (.iaload, 1) := by decide +kernel
theorem dX7_canStep_50 : decode cX7_canStep 50 = .ok (.iload_n 2, 1) := by decide +kernel
theorem dX7_canStep_51 : decode cX7_canStep 51 = .ok (.iconst 2, 1) := by decide +kernel
theorem dX7_canStep_52 : decode cX7_canStep 52 = .ok (.invokestatic 168, 3) := by decide +kernel
theorem dX7_canStep_55 : decode cX7_canStep 55 = .ok (.ldc 78, 2) := by decide +kernel
theorem dX7_canStep_57 : decode cX7_canStep 57 = .ok (.if_icmp .gt 7, 3) := by decide +kernel
theorem dX7_canStep_60 : decode cX7_canStep 60 = .ok (.iconst 1, 1) := by decide +kernel
theorem dX7_canStep_61 : decode cX7_canStep 61 = .ok (.goto 4, 3) := by decide +kernel
theorem dX7_canStep_64 : decode cX7_canStep 64 = .ok (.iconst 0, 1) := by decide +kernel
theorem dX7_canStep_65 : decode cX7_canStep 65 = .ok (.ireturn, 1) := by decide +kernel
theorem dX7_step_0 : decode cX7_step 0 = .ok (.iload_n 2, 1) := by decide +kernel
theorem dX7_step_1 : decode cX7_step 1 = .ok (.bipush 97, 2) := by decide +kernel
theorem dX7_step_3 : decode cX7_step 3 = .ok (.if_icmp .eq 21, 3) := by decide +kernel
theorem dX7_step_6 : decode cX7_step 6 = .ok (.iload_n 2, 1) := by decide +kernel
theorem dX7_step_7 : decode cX7_step 7 = .ok (.bipush 98, 2) := by decide +kernel
theorem dX7_step_9 : decode cX7_step 9 = .ok (.if_icmp .eq 15, 3) := by decide +kernel
theorem dX7_step_12 : decode cX7_step 12 = .ok (.iload_n 2, 1) := by decide +kernel
theorem dX7_step_13 : decode cX7_step 13 = .ok (.bipush 99, 2) := by decide +kernel
theorem dX7_step_15 : decode cX7_step 15 = .ok (.if_icmp .eq 9, 3) := by decide +kernel
theorem dX7_step_18 : decode cX7_step 18 = .ok (.iload_n 2, 1) := by decide +kernel
theorem dX7_step_19 : decode cX7_step 19 = .ok (.bipush 112, 2) := by decide +kernel
theorem dX7_step_21 : decode cX7_step 21 = .ok (.if_icmp .ne 7, 3) := by decide +kernel
theorem dX7_step_24 : decode cX7_step 24 = .ok (.iconst 1, 1) := by decide +kernel
theorem dX7_step_25 : decode cX7_step 25 = .ok (.goto 4, 3) := by decide +kernel
theorem dX7_step_28 : decode cX7_step 28 = .ok (.iconst 0, 1) := by decide +kernel
theorem dX7_step_29 : decode cX7_step 29 = .ok (.istore_n 3, 1) := by decide +kernel
theorem dX7_step_30 : decode cX7_step 30 = .ok (.aload_n 0, 1) := by decide +kernel
theorem dX7_step_31 : decode cX7_step 31 = .ok (.iload_n 1, 1) := by decide +kernel
theorem dX7_step_32 : decode cX7_step 32 = .ok (.invokestatic 41, 3) := by decide +kernel
theorem dX7_step_35 : decode cX7_step 35 = .ok (.ifCond .ne 7, 3) := by decide +kernel
theorem dX7_step_38 : decode cX7_step 38 = .ok (.iconst 1, 1) := by decide +kernel
theorem dX7_step_39 : decode cX7_step 39 = .ok (.goto 37, 3) := by decide +kernel
theorem dX7_step_42 : decode cX7_step 42 = .ok (.iload_n 3, 1) := by decide +kernel
theorem dX7_step_43 : decode cX7_step 43 = .ok (.ifCond .ne 7, 3) := by decide +kernel
theorem dX7_step_46 : decode cX7_step 46 = .ok (.iconst 2, 1) := by decide +kernel
theorem dX7_step_47 : decode cX7_step 47 = .ok (.goto 29, 3) := by decide +kernel
theorem dX7_step_50 : decode cX7_step 50 = .ok (.aload_n 0, 1) := by decide +kernel
theorem dX7_step_51 : decode cX7_step 51 = .ok (.iload_n 1, 1) := by decide +kernel
theorem dX7_step_52 : decode cX7_step 52 = .ok (.invokevirtual 45, 3) := by decide +kernel
theorem dX7_step_55 : decode cX7_step 55 = .ok (.ifCond .ne 7, 3) := by decide +kernel
theorem dX7_step_58 : decode cX7_step 58 = .ok (.iconst 3, 1) := by decide +kernel
theorem dX7_step_59 : decode cX7_step 59 = .ok (.goto 17, 3) := by decide +kernel
theorem dX7_step_62 : decode cX7_step 62 = .ok (.aload_n 0, 1) := by decide +kernel
theorem dX7_step_63 : decode cX7_step 63 = .ok (.iload_n 1, 1) := by decide +kernel
theorem dX7_step_64 : decode cX7_step 64 = .ok (.iload_n 2, 1) := by decide +kernel
theorem dX7_step_65 : decode cX7_step 65 = .ok (.invokevirtual 172, 3) := by decide +kernel
theorem dX7_step_68 : decode cX7_step 68 = .ok (.ifCond .eq 7, 3) := by decide +kernel
theorem dX7_step_71 : decode cX7_step 71 = .ok (.iconst 0, 1) := by decide +kernel
theorem dX7_step_72 : decode cX7_step 72 = .ok (.goto 4, 3) := by decide +kernel
theorem dX7_step_75 : decode cX7_step 75 = .ok (.iconst 4, 1) := by decide +kernel
theorem dX7_step_76 : decode cX7_step 76 = .ok (.invokevirtual 57, 3) := by decide +kernel
theorem dX7_step_79 : decode cX7_step 79 = .ok (.ifCond .eq 5, 3) := by decide +kernel
theorem dX7_step_82 : decode cX7_step 82 = .ok (.iconst 0, 1) := by decide +kernel
theorem dX7_step_83 : decode cX7_step 83 = .ok (.ireturn, 1) := by decide +kernel
theorem dX7_step_84 : decode cX7_step 84 = .ok (.aload_n 0, 1) := by decide +kernel
theorem dX7_step_85 : decode cX7_step 85 = .ok (.iload_n 1, 1) := by decide +kernel
theorem dX7_step_86 : decode cX7_step 86 = .ok (.invokevirtual 162, 3) := by decide +kernel
theorem dX7_step_89 : decode cX7_step 89 = .ok (.istore 4, 2) := by decide +kernel
theorem dX7_step_91 : decode cX7_step 91 = .ok (.aload_n 0, 1) := by decide +kernel
theorem dX7_step_92 : decode cX7_step 92 = .ok (.iload_n 1, 1) := by decide +kernel
theorem dX7_step_93 : decode cX7_step 93 = .ok (.invokevirtual 165, 3) := by decide +kernel
theorem dX7_step_96 : decode cX7_step 96 = .ok (.istore 5, 2) := by decide +kernel
theorem dX7_step_98 : decode cX7_step 98 = .ok (.aload_n 0, 1) := by decide +kernel
theorem dX7_step_99 : decode cX7_step 99 = .ok (.getfield 16, 3) := by decide +kernel
theorem dX7_step_102 : decode cX7_step 102 = .ok (.iload_n 1, 1) := by decide +kernel
theorem dX7_step_103 : decode cX7_step 103 = .ok (.iaload, 1) := by decide +kernel
theorem dX7_step_104 : decode cX7_step 104 = .ok (.istore 6, 2) := by decide +kernel
theorem dX7_step_106 : decode cX7_step 106 = .ok (.aload_n 0, 1) := by decide +kernel
theorem dX7_step_107 : decode cX7_step 107 = .ok (.iload_n 1, 1) := by decide +kernel
theorem dX7_step_108 : decode cX7_step 108 = .ok (.iload 4, 2) := by decide +kernel
theorem dX7_step_110 : decode cX7_step 110 = .ok (.iload 5, 2) := by decide +kernel
theorem dX7_step_112 : decode cX7_step 112 = .ok (.iload 6, 2) := by decide +kernel
theorem dX7_step_114 : decode cX7_step 114 = .ok (.iload_n 2, 1) := by decide +kernel
theorem dX7_step_115 : decode cX7_step 115 = .ok (.iconst 0, 1) := by decide +kernel
theorem dX7_step_116 : decode cX7_step 116 = .ok (.invokestatic 168, 3) := by decide +kernel
theorem dX7_step_119 : decode cX7_step 119 = .ok (.iload 4, 2) := by decide +kernel
theorem dX7_step_121 : decode cX7_step 121 = .ok (.iload 5, 2) := by decide +kernel
theorem dX7_step_123 : decode cX7_step 123 = .ok (.iload 6, 2) := by decide +kernel
theorem dX7_step_125 : decode cX7_step 125 = .ok (.iload_n 2, 1) := by decide +kernel
theorem dX7_step_126 : decode cX7_step 126 = .ok (.iconst 1, 1) := by decide +kernel
theorem dX7_step_127 : decode cX7_step 127 = .ok (.invokestatic 168, 3) := by decide +kernel
theorem dX7_step_130 : decode cX7_step 130 = .ok (.iload 4, 2) := by decide +kernel
theorem dX7_step_132 : decode cX7_step 132 = .ok (.iload 5, 2) := by decide +kernel
theorem dX7_step_134 : decode cX7_step 134 = .ok (.iload 6, 2) := by decide +kernel
theorem dX7_step_136 : decode cX7_step 136 = .ok (.iload_n 2, 1) := by decide +kernel
theorem dX7_step_137 : decode cX7_step 137 = .ok (.iconst 2, 1) := by decide +kernel
theorem dX7_step_138 : decode cX7_step 138 = .ok (.invokestatic 168, 3) := by decide +kernel
theorem dX7_step_141 : decode cX7_step 141 = .ok (.invokevirtual 60, 3) := by decide +kernel
theorem dX7_step_144 : decode cX7_step 144 = .ok (.aload_n 0, 1) := by decide +kernel
theorem dX7_step_145 : decode cX7_step 145 = .ok (.getfield 16, 3) := by decide +kernel
theorem dX7_step_148 : decode cX7_step 148 = .ok (.iload_n 1, 1) := by decide +kernel
theorem dX7_step_149 : decode cX7_step 149 = .ok (.iaload, 1) := by decide +kernel
theorem dX7_step_150 : decode cX7_step 150 = .ok (.ireturn, 1) := by decide +kernel
theorem dX7_depth_0 : decode cX7_depth 0 = .ok (.aload_n 0, 1) := by decide +kernel
theorem dX7_depth_1 : decode cX7_depth 1 = .ok (.iload_n 1, 1) := by decide +kernel
theorem dX7_depth_2 : decode cX7_depth 2 = .ok (.iconst 2, 1) := by decide +kernel
theorem dX7_depth_3 : decode cX7_depth 3 = .ok (.invokevirtual 68, 3) := by decide +kernel
theorem dX7_depth_6 : decode cX7_depth 6 = .ok (.istore_n 2, 1) := by decide +kernel
theorem dX7_depth_7 : decode cX7_depth 7 = .ok (.aload_n 0, 1) := by decide +kernel
theorem dX7_depth_8 : decode cX7_depth 8 = .ok (.iload_n 2, 1) := by decide +kernel
theorem dX7_depth_9 : decode cX7_depth 9 = .ok (.ifCond .eq 7, 3) := by decide +kernel
theorem dX7_depth_12 : decode cX7_depth 12 = .ok (.iload_n 2, 1) := by decide +kernel
theorem dX7_depth_13 : decode cX7_depth 13 = .ok (.goto 16, 3) := by decide +kernel
theorem dX7_depth_16 : decode cX7_depth 16 = .ok (.aload_n 0, 1) := by decide +kernel
theorem dX7_depth_17 : decode cX7_depth 17 = .ok (.iload_n 1, 1) := by decide +kernel
theorem dX7_depth_18 : decode cX7_depth 18 = .ok (.invokevirtual 159, 3) := by decide +kernel
theorem dX7_depth_21 : decode cX7_depth 21 = .ok (.ifCond .eq 7, 3) := by decide +kernel
theorem dX7_depth_24 : decode cX7_depth 24 = .ok (.iconst 0, 1) := by decide +kernel
theorem dX7_depth_25 : decode cX7_depth 25 = .ok (.goto 4, 3) := by decide +kernel
theorem dX7_depth_28 : decode cX7_depth 28 = .ok (.iconst 3, 1) := by decide +kernel
theorem dX7_depth_29 : decode cX7_depth 29 = .ok (.invokevirtual 57, 3) := by decide +kernel
theorem dX7_depth_32 : decode cX7_depth 32 = .ok (.ifCond .eq 5, 3) := by decide +kernel
theorem dX7_depth_35 : decode cX7_depth 35 = .ok (.iconst 0, 1) := by decide +kernel
theorem dX7_depth_36 : decode cX7_depth 36 = .ok (.ireturn, 1) := by decide +kernel
theorem dX7_depth_37 : decode cX7_depth 37 = .ok (.aload_n 0, 1) := by decide +kernel
theorem dX7_depth_38 : decode cX7_depth 38 = .ok (.iload_n 1, 1) := by decide +kernel
theorem dX7_depth_39 : decode cX7_depth 39 = .ok (.invokevirtual 162, 3) := by decide +kernel
theorem dX7_depth_42 : decode cX7_depth 42 = .ok (.istore_n 3, 1) := by decide +kernel
theorem dX7_depth_43 : decode cX7_depth 43 = .ok (.aload_n 0, 1) := by decide +kernel
theorem dX7_depth_44 : decode cX7_depth 44 = .ok (.iload_n 1, 1) := by decide +kernel
theorem dX7_depth_45 : decode cX7_depth 45 = .ok (.invokevirtual 165, 3) := by decide +kernel
theorem dX7_depth_48 : decode cX7_depth 48 = .ok (.istore 4, 2) := by decide +kernel
theorem dX7_depth_50 : decode cX7_depth 50 = .ok (.aload_n 0, 1) := by decide +kernel
theorem dX7_depth_51 : decode cX7_depth 51 = .ok (.getfield 16, 3) := by decide +kernel
theorem dX7_depth_54 : decode cX7_depth 54 = .ok (.iload_n 1, 1) := by decide +kernel
theorem dX7_depth_55 : decode cX7_depth 55 = .ok (.iaload, 1) := by decide +kernel
theorem dX7_depth_56 : decode cX7_depth 56 = .ok (.istore 5, 2) := by decide +kernel
theorem dX7_depth_58 : decode cX7_depth 58 = .ok (.iconst 0, 1) := by decide +kernel
theorem dX7_depth_59 : decode cX7_depth 59 = .ok (.istore 6, 2) := by decide +kernel
theorem dX7_depth_61 : decode cX7_depth 61 = .ok (.iload 5, 2) := by decide +kernel
theorem dX7_depth_63 : decode cX7_depth 63 = .ok (.iconst 5, 1) := by decide +kernel
theorem dX7_depth_64 : decode cX7_depth 64 = .ok (.if_icmp .le 55, 3) := by decide +kernel
theorem dX7_depth_67 : decode cX7_depth 67 = .ok (.iload_n 3, 1) := by decide +kernel
theorem dX7_depth_68 : decode cX7_depth 68 = .ok (.iload 4, 2) := by decide +kernel
theorem dX7_depth_70 : decode cX7_depth 70 = .ok (.iload 5, 2) := by decide +kernel
theorem dX7_depth_72 : decode cX7_depth 72 = .ok (.bipush 112, 2) := by decide +kernel
theorem dX7_depth_74 : decode cX7_depth 74 = .ok (.iconst 0, 1) := by decide +kernel
theorem dX7_depth_75 : decode cX7_depth 75 = .ok (.invokestatic 168, 3) := by decide +kernel
theorem dX7_depth_78 : decode cX7_depth 78 = .ok (.istore 7, 2) := by decide +kernel
theorem dX7_depth_80 : decode cX7_depth 80 = .ok (.iload_n 3, 1) := by decide +kernel
theorem dX7_depth_81 : decode cX7_depth 81 = .ok (.iload 4, 2) := by decide +kernel
theorem dX7_depth_83 : decode cX7_depth 83 = .ok (.iload 5, 2) := by decide +kernel
theorem dX7_depth_85 : decode cX7_depth 85 = .ok (.bipush 112, 2) := by decide +kernel
theorem dX7_depth_87 : decode cX7_depth 87 = .ok (.iconst 1, 1) := by decide +kernel
theorem dX7_depth_88 : decode cX7_depth 88 = .ok (.invokestatic 168, 3) := by decide +kernel
theorem dX7_depth_91 : decode cX7_depth 91 = .ok (.istore 8, 2) := by decide +kernel
theorem dX7_depth_93 : decode cX7_depth 93 = .ok (.iload_n 3, 1) := by decide +kernel
theorem dX7_depth_94 : decode cX7_depth 94 = .ok (.iload 4, 2) := by decide +kernel
theorem dX7_depth_96 : decode cX7_depth 96 = .ok (.iload 5, 2) := by decide +kernel
theorem dX7_depth_98 : decode cX7_depth 98 = .ok (.bipush 112, 2) := by decide +kernel
theorem dX7_depth_100 : decode cX7_depth 100 = .ok (.iconst 2, 1) := by decide +kernel
theorem dX7_depth_101 : decode cX7_depth 101 = .ok (.invokestatic 168, 3) := by decide +kernel
theorem dX7_depth_104 : decode cX7_depth 104 = .ok (.istore 5, 2) := by decide +kernel
theorem dX7_depth_106 : decode cX7_depth 106 = .ok (.iload 7, 2) := by decide +kernel
theorem dX7_depth_108 : decode cX7_depth 108 = .ok (.istore_n 3, 1) := by decide +kernel
theorem dX7_depth_109 : decode cX7_depth 109 = .ok (.iload 8, 2) := by decide +kernel
theorem dX7_depth_111 : decode cX7_depth 111 = .ok (.istore 4, 2) := by decide +kernel
theorem dX7_depth_113 : decode cX7_depth 113 = .ok (.iinc 6 1, 3) := by decide +kernel
theorem dX7_depth_116 : decode cX7_depth 116 = .ok (.goto (-55), 3) := by decide +kernel
theorem dX7_depth_119 : decode cX7_depth 119 = .ok (.iload 6, 2) := by decide +kernel
theorem dX7_depth_121 : decode cX7_depth 121 = .ok (.ireturn, 1) := by decide +kernel
theorem dX7_generator_0 : decode cX7_generator 0 = .ok (.iload_n 2, 1) := by decide +kernel
theorem dX7_generator_1 : decode cX7_generator 1 = .ok (.bipush 109, 2) := by decide +kernel
theorem dX7_generator_3 : decode cX7_generator 3 = .ok (.if_icmp .eq 9, 3) := by decide +kernel
theorem dX7_generator_6 : decode cX7_generator 6 = .ok (.iload_n 2, 1) := by decide +kernel
theorem dX7_generator_7 : decode cX7_generator 7 = .ok (.bipush 110, 2) := by decide +kernel
theorem dX7_generator_9 : decode cX7_generator 9 = .ok (.if_icmp .ne 7, 3) := by decide +kernel
theorem dX7_generator_12 : decode cX7_generator 12 = .ok (.iconst 1, 1) := by decide +kernel
theorem dX7_generator_13 : decode cX7_generator 13 = .ok (.goto 4, 3) := by decide +kernel
theorem dX7_generator_16 : decode cX7_generator 16 = .ok (.iconst 0, 1) := by decide +kernel
theorem dX7_generator_17 : decode cX7_generator 17 = .ok (.istore_n 3, 1) := by decide +kernel
theorem dX7_generator_18 : decode cX7_generator 18 = .ok (.aload_n 0, 1) := by decide +kernel
theorem dX7_generator_19 : decode cX7_generator 19 = .ok (.iload_n 1, 1) := by decide +kernel
theorem dX7_generator_20 : decode cX7_generator 20 = .ok (.invokestatic 41, 3) := by decide +kernel
theorem dX7_generator_23 : decode cX7_generator 23 = .ok (.ifCond .ne 7, 3) := by decide +kernel
theorem dX7_generator_26 : decode cX7_generator 26 = .ok (.iconst 1, 1) := by decide +kernel
theorem dX7_generator_27 : decode cX7_generator 27 = .ok (.goto 36, 3) := by decide +kernel
theorem dX7_generator_30 : decode cX7_generator 30 = .ok (.iload_n 3, 1) := by decide +kernel
theorem dX7_generator_31 : decode cX7_generator 31 = .ok (.ifCond .ne 7, 3) := by decide +kernel
theorem dX7_generator_34 : decode cX7_generator 34 = .ok (.iconst 2, 1) := by decide +kernel
theorem dX7_generator_35 : decode cX7_generator 35 = .ok (.goto 28, 3) := by decide +kernel
theorem dX7_generator_38 : decode cX7_generator 38 = .ok (.aload_n 0, 1) := by decide +kernel
theorem dX7_generator_39 : decode cX7_generator 39 = .ok (.iload_n 1, 1) := by decide +kernel
theorem dX7_generator_40 : decode cX7_generator 40 = .ok (.invokevirtual 45, 3) := by decide +kernel
theorem dX7_generator_43 : decode cX7_generator 43 = .ok (.ifCond .ne 7, 3) := by decide +kernel
theorem dX7_generator_46 : decode cX7_generator 46 = .ok (.iconst 3, 1) := by decide +kernel
theorem dX7_generator_47 : decode cX7_generator 47 = .ok (.goto 16, 3) := by decide +kernel
theorem dX7_generator_50 : decode cX7_generator 50 = .ok (.aload_n 0, 1) := by decide +kernel
theorem dX7_generator_51 : decode cX7_generator 51 = .ok (.iload_n 1, 1) := by decide +kernel
theorem dX7_generator_52 : decode cX7_generator 52 = .ok (.invokevirtual 159, 3) := by decide +kernel
theorem dX7_generator_55 : decode cX7_generator 55 = .ok (.ifCond .eq 7, 3) := by decide +kernel
theorem dX7_generator_58 : decode cX7_generator 58 = .ok (.iconst 0, 1) := by decide +kernel
theorem dX7_generator_59 : decode cX7_generator 59 = .ok (.goto 4, 3) := by decide +kernel
theorem dX7_generator_62 : decode cX7_generator 62 = .ok (.iconst 4, 1) := by decide +kernel
theorem dX7_generator_63 : decode cX7_generator 63 = .ok (.invokevirtual 57, 3) := by decide +kernel
theorem dX7_generator_66 : decode cX7_generator 66 = .ok (.ifCond .eq 5, 3) := by decide +kernel
theorem dX7_generator_69 : decode cX7_generator 69 = .ok (.iconst 0, 1) := by decide +kernel
theorem dX7_generator_70 : decode cX7_generator 70 = .ok (.ireturn, 1) := by decide +kernel
theorem dX7_generator_71 : decode cX7_generator 71 = .ok (.iconst 1, 1) := by decide +kernel
theorem dX7_generator_72 : decode cX7_generator 72 = .ok (.istore 4, 2) := by decide +kernel
theorem dX7_generator_74 : decode cX7_generator 74 = .ok (.iload_n 2, 1) := by decide +kernel
theorem dX7_generator_75 : decode cX7_generator 75 = .ok (.bipush 109, 2) := by decide +kernel
theorem dX7_generator_77 : decode cX7_generator 77 = .ok (.if_icmp .ne 18, 3) := by decide +kernel
theorem dX7_generator_80 : decode cX7_generator 80 = .ok (.aload_n 0, 1) := by decide +kernel
theorem dX7_generator_81 : decode cX7_generator 81 = .ok (.getfield 16, 3) := by decide +kernel
theorem dX7_generator_84 : decode cX7_generator 84 = .ok (.iload_n 1, 1) := by decide +kernel
theorem dX7_generator_85 : decode cX7_generator 85 = .ok (.iaload, 1) := by decide +kernel
theorem dX7_generator_86 : decode cX7_generator 86 = .ok (.aload_n 0, 1) := by decide +kernel
theorem dX7_generator_87 : decode cX7_generator 87 = .ok (.iload_n 1, 1) := by decide +kernel
theorem dX7_generator_88 : decode cX7_generator 88 = .ok (.invokevirtual 162, 3) := by decide +kernel
theorem dX7_generator_91 : decode cX7_generator 91 = .ok (.iadd, 1) := by decide +kernel
theorem dX7_generator_92 : decode cX7_generator 92 = .ok (.goto 15, 3) := by decide +kernel
theorem dX7_generator_95 : decode cX7_generator 95 = .ok (.aload_n 0, 1) := by decide +kernel
theorem dX7_generator_96 : decode cX7_generator 96 = .ok (.getfield 16, 3) := by decide +kernel
theorem dX7_generator_99 : decode cX7_generator 99 = .ok (.iload_n 1, 1) := by decide +kernel
theorem dX7_generator_100 : decode cX7_generator 100 = .ok (.iaload, 1) := by decide +kernel
theorem dX7_generator_101 : decode cX7_generator 101 = .ok (.aload_n 0, 1) := by decide +kernel
theorem dX7_generator_102 : decode cX7_generator 102 = .ok (.iload_n 1, 1) := by decide +kernel
theorem dX7_generator_103 : decode cX7_generator 103 = .ok (.invokevirtual 162, 3) := by decide +kernel
theorem dX7_generator_106 : decode cX7_generator 106 = .ok (.isub, 1) := by decide +kernel
theorem dX7_generator_107 : decode cX7_generator 107 = .ok (.iconst 2, 1) := by decide +kernel
theorem dX7_generator_108 : decode cX7_generator 108 = .ok (.idiv, 1) := by decide +kernel
theorem dX7_generator_109 : decode cX7_generator 109 = .ok (.istore 5, 2) := by decide +kernel
theorem dX7_generator_111 : decode cX7_generator 111 = .ok (.iload 4, 2) := by decide +kernel
theorem dX7_generator_113 : decode cX7_generator 113 = .ok (.iload 4, 2) := by decide +kernel
theorem dX7_generator_115 : decode cX7_generator 115 = .ok (.imul, 1) := by decide +kernel
theorem dX7_generator_116 : decode cX7_generator 116 = .ok (.iload 5, 2) := by decide +kernel
theorem dX7_generator_118 : decode cX7_generator 118 = .ok (.if_icmp .ge 9, 3) := by decide +kernel
theorem dX7_generator_121 : decode cX7_generator 121 = .ok (.iinc 4 1, 3) := by decide +kernel
theorem dX7_generator_124 : decode cX7_generator 124 = .ok (.goto (-13), 3) := by decide +kernel
theorem dX7_generator_127 : decode cX7_generator 127 = .ok (.iload 4, 2) := by decide +kernel
theorem dX7_generator_129 : decode cX7_generator 129 = .ok (.ireturn, 1) := by decide +kernel
theorem dX7_list_0 : decode cX7_list 0 = .ok (.aload_n 0, 1) := by decide +kernel
theorem dX7_list_1 : decode cX7_list 1 = .ok (.iload_n 1, 1) := by decide +kernel
theorem dX7_list_2 : decode cX7_list 2 = .ok (.bipush 101, 2) := by decide +kernel
theorem dX7_list_4 : decode cX7_list 4 = .ok (.if_icmp .eq 15, 3) := by decide +kernel
theorem dX7_list_7 : decode cX7_list 7 = .ok (.iload_n 1, 1) := by decide +kernel
theorem dX7_list_8 : decode cX7_list 8 = .ok (.bipush 116, 2) := by decide +kernel
theorem dX7_list_10 : decode cX7_list 10 = .ok (.if_icmp .eq 9, 3) := by decide +kernel
theorem dX7_list_13 : decode cX7_list 13 = .ok (.iload_n 1, 1) := by decide +kernel
theorem dX7_list_14 : decode cX7_list 14 = .ok (.bipush 104, 2) := by decide +kernel
theorem dX7_list_16 : decode cX7_list 16 = .ok (.if_icmp .ne 19, 3) := by decide +kernel
theorem dX7_list_19 : decode cX7_list 19 = .ok (.iload_n 2, 1) := by decide +kernel
theorem dX7_list_20 : decode cX7_list 20 = .ok (.i2l, 1) := by decide +kernel
theorem dX7_list_21 : decode cX7_list 21 = .ok (.lconst 0, 1) := by decide +kernel
theorem dX7_list_22 : decode cX7_list 22 = .ok (.ldc2_w 176, 3) := by decide +kernel
theorem dX7_list_25 : decode cX7_list 25 = .ok (.invokestatic 37, 3) := by decide +kernel
theorem dX7_list_28 : decode cX7_list 28 = .ok (.ifCond .eq 7, 3) := by decide +kernel
theorem dX7_list_31 : decode cX7_list 31 = .ok (.iconst 0, 1) := by decide +kernel
theorem dX7_list_32 : decode cX7_list 32 = .ok (.goto 4, 3) := by decide +kernel
theorem dX7_list_35 : decode cX7_list 35 = .ok (.iconst 1, 1) := by decide +kernel
theorem dX7_list_36 : decode cX7_list 36 = .ok (.invokevirtual 57, 3) := by decide +kernel
theorem dX7_list_39 : decode cX7_list 39 = .ok (.ifCond .eq 5, 3) := by decide +kernel
theorem dX7_list_42 : decode cX7_list 42 = .ok (.iconst 0, 1) := by decide +kernel
theorem dX7_list_43 : decode cX7_list 43 = .ok (.ireturn, 1) := by decide +kernel
theorem dX7_list_44 : decode cX7_list 44 = .ok (.aload_n 0, 1) := by decide +kernel
theorem dX7_list_45 : decode cX7_list 45 = .ok (.iconst 0, 1) := by decide +kernel
theorem dX7_list_46 : decode cX7_list 46 = .ok (.putfield 178, 3) := by decide +kernel
theorem dX7_list_49 : decode cX7_list 49 = .ok (.iconst 1, 1) := by decide +kernel
theorem dX7_list_50 : decode cX7_list 50 = .ok (.istore_n 3, 1) := by decide +kernel
theorem dX7_list_51 : decode cX7_list 51 = .ok (.iload_n 3, 1) := by decide +kernel
theorem dX7_list_52 : decode cX7_list 52 = .ok (.iload_n 2, 1) := by decide +kernel
theorem dX7_list_53 : decode cX7_list 53 = .ok (.if_icmp .gt 137, 3) := by decide +kernel
theorem dX7_list_56 : decode cX7_list 56 = .ok (.iload_n 3, 1) := by decide +kernel
theorem dX7_list_57 : decode cX7_list 57 = .ok (.iconst 1, 1) := by decide +kernel
theorem dX7_list_58 : decode cX7_list 58 = .ok (.isub, 1) := by decide +kernel
theorem dX7_list_59 : decode cX7_list 59 = .ok (.istore 4, 2) := by decide +kernel
theorem dX7_list_61 : decode cX7_list 61 = .ok (.iconst 1, 1) := by decide +kernel
theorem dX7_list_62 : decode cX7_list 62 = .ok (.istore 5, 2) := by decide +kernel
theorem dX7_list_64 : decode cX7_list 64 = .ok (.iload 5, 2) := by decide +kernel
theorem dX7_list_66 : decode cX7_list 66 = .ok (.iload 4, 2) := by decide +kernel
theorem dX7_list_68 : decode cX7_list 68 = .ok (.if_icmp .ge 116, 3) := by decide +kernel
theorem dX7_list_71 : decode cX7_list 71 = .ok (.iload 5, 2) := by decide +kernel
theorem dX7_list_73 : decode cX7_list 73 = .ok (.iload 4, 2) := by decide +kernel
theorem dX7_list_75 : decode cX7_list 75 = .ok (.if_icmp .ge 26, 3) := by decide +kernel
theorem dX7_list_78 : decode cX7_list 78 = .ok (.iload 5, 2) := by decide +kernel
theorem dX7_list_80 : decode cX7_list 80 = .ok (.iload 5, 2) := by decide +kernel
theorem dX7_list_82 : decode cX7_list 82 = .ok (.imul, 1) := by decide +kernel
theorem dX7_list_83 : decode cX7_list 83 = .ok (.iload 4, 2) := by decide +kernel
theorem dX7_list_85 : decode cX7_list 85 = .ok (.iload 4, 2) := by decide +kernel
theorem dX7_list_87 : decode cX7_list 87 = .ok (.imul, 1) := by decide +kernel
theorem dX7_list_88 : decode cX7_list 88 = .ok (.iadd, 1) := by decide +kernel
theorem dX7_list_89 : decode cX7_list 89 = .ok (.iload_n 3, 1) := by decide +kernel
theorem dX7_list_90 : decode cX7_list 90 = .ok (.iload_n 3, 1) := by decide +kernel
theorem dX7_list_91 : decode cX7_list 91 = .ok (.imul, 1) := by decide +kernel
theorem dX7_list_92 : decode cX7_list 92 = .ok (.if_icmp .le 9, 3) := by decide +kernel
theorem dX7_list_95 : decode cX7_list 95 = .ok (.iinc 4 (-1), 3) := by decide +kernel
theorem dX7_list_98 : decode cX7_list 98 = .ok (.goto (-27), 3) := by decide +kernel
theorem dX7_list_101 : decode cX7_list 101 = .ok (.iload 5, 2) := by decide +kernel
theorem dX7_list_103 : decode cX7_list 103 = .ok (.iload 4, 2) := by decide +kernel
theorem dX7_list_105 : decode cX7_list 105 = .ok (.if_icmp .ge 73, 3) := by decide +kernel
theorem dX7_list_108 : decode cX7_list 108 = .ok (.iload 5, 2) := by decide +kernel
theorem dX7_list_110 : decode cX7_list 110 = .ok (.iload 5, 2) := by decide +kernel
theorem dX7_list_112 : decode cX7_list 112 = .ok (.imul, 1) := by decide +kernel
theorem dX7_list_113 : decode cX7_list 113 = .ok (.iload 4, 2) := by decide +kernel
theorem dX7_list_115 : decode cX7_list 115 = .ok (.iload 4, 2) := by decide +kernel
theorem dX7_list_117 : decode cX7_list 117 = .ok (.imul, 1) := by decide +kernel
theorem dX7_list_118 : decode cX7_list 118 = .ok (.iadd, 1) := by decide +kernel
theorem dX7_list_119 : decode cX7_list 119 = .ok (.iload_n 3, 1) := by decide +kernel
theorem dX7_list_120 : decode cX7_list 120 = .ok (.iload_n 3, 1) := by decide +kernel
theorem dX7_list_121 : decode cX7_list 121 = .ok (.imul, 1) := by decide +kernel
theorem dX7_list_122 : decode cX7_list 122 = .ok (.if_icmp .ne 56, 3) := by decide +kernel
theorem dX7_list_125 : decode cX7_list 125 = .ok (.iload 5, 2) := by decide +kernel
theorem dX7_list_127 : decode cX7_list 127 = .ok (.iload 4, 2) := by decide +kernel
theorem dX7_list_129 : decode cX7_list 129 = .ok (.invokestatic 79, 3) := by decide +kernel
theorem dX7_list_132 : decode cX7_list 132 = .ok (.iconst 1, 1) := by decide +kernel
theorem dX7_list_133 : decode cX7_list 133 = .ok (.if_icmp .ne 45, 3) := by decide +kernel
theorem dX7_list_136 : decode cX7_list 136 = .ok (.aload_n 0, 1) := by decide +kernel
theorem dX7_list_137 : decode cX7_list 137 = .ok (.getfield 19, 3) := by decide +kernel
theorem dX7_list_140 : decode cX7_list 140 = .ok (.aload_n 0, 1) := by decide +kernel
theorem dX7_list_141 : decode cX7_list 141 = .ok (.getfield 178, 3) := by decide +kernel
theorem dX7_list_144 : decode cX7_list 144 = .ok (.iload 5, 2) := by decide +kernel
theorem dX7_list_146 : decode cX7_list 146 = .ok (.iastore, 1) := by decide +kernel
theorem dX7_list_147 : decode cX7_list 147 = .ok (.aload_n 0, 1) := by decide +kernel
theorem dX7_list_148 : decode cX7_list 148 = .ok (.getfield 22, 3) := by decide +kernel
theorem dX7_list_151 : decode cX7_list 151 = .ok (.aload_n 0, 1) := by decide +kernel
theorem dX7_list_152 : decode cX7_list 152 = .ok (.getfield 178, 3) := by decide +kernel
theorem dX7_list_155 : decode cX7_list 155 = .ok (.iload 4, 2) := by decide +kernel
theorem dX7_list_157 : decode cX7_list 157 = .ok (.iastore, 1) := by decide +kernel
theorem dX7_list_158 : decode cX7_list 158 = .ok (.aload_n 0, 1) := by decide +kernel
theorem dX7_list_159 : decode cX7_list 159 = .ok (.getfield 25, 3) := by decide +kernel
theorem dX7_list_162 : decode cX7_list 162 = .ok (.aload_n 0, 1) := by decide +kernel
theorem dX7_list_163 : decode cX7_list 163 = .ok (.getfield 178, 3) := by decide +kernel
theorem dX7_list_166 : decode cX7_list 166 = .ok (.iload_n 3, 1) := by decide +kernel
theorem dX7_list_167 : decode cX7_list 167 = .ok (.iastore, 1) := by decide +kernel
theorem dX7_list_168 : decode cX7_list 168 = .ok (.aload_n 0, 1) := by decide +kernel
theorem dX7_list_169 : decode cX7_list 169 = .ok (.dup, 1) := by decide +kernel
theorem dX7_list_170 : decode cX7_list 170 = .ok (.getfield 178, 3) := by decide +kernel
theorem dX7_list_173 : decode cX7_list 173 = .ok (.iconst 1, 1) := by decide +kernel
theorem dX7_list_174 : decode cX7_list 174 = .ok (.iadd, 1) := by decide +kernel
theorem dX7_list_175 : decode cX7_list 175 = .ok (.putfield 178, 3) := by decide +kernel
theorem dX7_list_178 : decode cX7_list 178 = .ok (.iinc 5 1, 3) := by decide +kernel
theorem dX7_list_181 : decode cX7_list 181 = .ok (.goto (-117), 3) := by decide +kernel
theorem dX7_list_184 : decode cX7_list 184 = .ok (.iinc 3 1, 3) := by decide +kernel
theorem dX7_list_187 : decode cX7_list 187 = .ok (.goto (-136), 3) := by decide +kernel
theorem dX7_list_190 : decode cX7_list 190 = .ok (.aload_n 0, 1) := by decide +kernel
theorem dX7_list_191 : decode cX7_list 191 = .ok (.getfield 178, 3) := by decide +kernel
theorem dX7_list_194 : decode cX7_list 194 = .ok (.ireturn, 1) := by decide +kernel
theorem dX7_listed_0 : decode cX7_listed 0 = .ok (.aload_n 0, 1) := by decide +kernel
theorem dX7_listed_1 : decode cX7_listed 1 = .ok (.iload_n 1, 1) := by decide +kernel
theorem dX7_listed_2 : decode cX7_listed 2 = .ok (.i2l, 1) := by decide +kernel
theorem dX7_listed_3 : decode cX7_listed 3 = .ok (.lconst 0, 1) := by decide +kernel
theorem dX7_listed_4 : decode cX7_listed 4 = .ok (.aload_n 0, 1) := by decide +kernel
theorem dX7_listed_5 : decode cX7_listed 5 = .ok (.getfield 178, 3) := by decide +kernel
theorem dX7_listed_8 : decode cX7_listed 8 = .ok (.iconst 1, 1) := by decide +kernel
theorem dX7_listed_9 : decode cX7_listed 9 = .ok (.isub, 1) := by decide +kernel
theorem dX7_listed_10 : decode cX7_listed 10 = .ok (.i2l, 1) := by decide +kernel
theorem dX7_listed_11 : decode cX7_listed 11 = .ok (.invokestatic 37, 3) := by decide +kernel
theorem dX7_listed_14 : decode cX7_listed 14 = .ok (.ifCond .eq 19, 3) := by decide +kernel
theorem dX7_listed_17 : decode cX7_listed 17 = .ok (.iload_n 2, 1) := by decide +kernel
theorem dX7_listed_18 : decode cX7_listed 18 = .ok (.i2l, 1) := by decide +kernel
theorem dX7_listed_19 : decode cX7_listed 19 = .ok (.lconst 0, 1) := by decide +kernel
theorem dX7_listed_20 : decode cX7_listed 20 = .ok (.ldc2_w 71, 3) := by decide +kernel
theorem dX7_listed_23 : decode cX7_listed 23 = .ok (.invokestatic 37, 3) := by decide +kernel
theorem dX7_listed_26 : decode cX7_listed 26 = .ok (.ifCond .eq 7, 3) := by decide +kernel
theorem dX7_listed_29 : decode cX7_listed 29 = .ok (.iconst 0, 1) := by decide +kernel
theorem dX7_listed_30 : decode cX7_listed 30 = .ok (.goto 4, 3) := by decide +kernel
theorem dX7_listed_33 : decode cX7_listed 33 = .ok (.iconst 1, 1) := by decide +kernel
theorem dX7_listed_34 : decode cX7_listed 34 = .ok (.invokevirtual 57, 3) := by decide +kernel
theorem dX7_listed_37 : decode cX7_listed 37 = .ok (.ifCond .eq 5, 3) := by decide +kernel
theorem dX7_listed_40 : decode cX7_listed 40 = .ok (.iconst 0, 1) := by decide +kernel
theorem dX7_listed_41 : decode cX7_listed 41 = .ok (.ireturn, 1) := by decide +kernel
theorem dX7_listed_42 : decode cX7_listed 42 = .ok (.iload_n 2, 1) := by decide +kernel
theorem dX7_listed_43 : decode cX7_listed 43 = .ok (.ifCond .ne 12, 3) := by decide +kernel
theorem dX7_listed_46 : decode cX7_listed 46 = .ok (.aload_n 0, 1) := by decide +kernel
theorem dX7_listed_47 : decode cX7_listed 47 = .ok (.getfield 19, 3) := by decide +kernel
theorem dX7_listed_50 : decode cX7_listed 50 = .ok (.iload_n 1, 1) := by decide +kernel
theorem dX7_listed_51 : decode cX7_listed 51 = .ok (.iaload, 1) := by decide +kernel
theorem dX7_listed_52 : decode cX7_listed 52 = .ok (.goto 23, 3) := by decide +kernel
theorem dX7_listed_55 : decode cX7_listed 55 = .ok (.iload_n 2, 1) := by decide +kernel
theorem dX7_listed_56 : decode cX7_listed 56 = .ok (.iconst 1, 1) := by decide +kernel
theorem dX7_listed_57 : decode cX7_listed 57 = .ok (.if_icmp .ne 12, 3) := by decide +kernel
theorem dX7_listed_60 : decode cX7_listed 60 = .ok (.aload_n 0, 1) := by decide +kernel
theorem dX7_listed_61 : decode cX7_listed 61 = .ok (.getfield 22, 3) := by decide +kernel
theorem dX7_listed_64 : decode cX7_listed 64 = .ok (.iload_n 1, 1) := by decide +kernel
theorem dX7_listed_65 : decode cX7_listed 65 = .ok (.iaload, 1) := by decide +kernel
theorem dX7_listed_66 : decode cX7_listed 66 = .ok (.goto 9, 3) := by decide +kernel
theorem dX7_listed_69 : decode cX7_listed 69 = .ok (.aload_n 0, 1) := by decide +kernel
theorem dX7_listed_70 : decode cX7_listed 70 = .ok (.getfield 25, 3) := by decide +kernel
theorem dX7_listed_73 : decode cX7_listed 73 = .ok (.iload_n 1, 1) := by decide +kernel
theorem dX7_listed_74 : decode cX7_listed 74 = .ok (.iaload, 1) := by decide +kernel
theorem dX7_listed_75 : decode cX7_listed 75 = .ok (.ireturn, 1) := by decide +kernel
theorem dX7_counts_0 : decode cX7_counts 0 = .ok (.aload_n 0, 1) := by decide +kernel
theorem dX7_counts_1 : decode cX7_counts 1 = .ok (.iload_n 1, 1) := by decide +kernel
theorem dX7_counts_2 : decode cX7_counts 2 = .ok (.bipush 99, 2) := by decide +kernel
theorem dX7_counts_4 : decode cX7_counts 4 = .ok (.if_icmp .eq 9, 3) := by decide +kernel
theorem dX7_counts_7 : decode cX7_counts 7 = .ok (.iload_n 1, 1) := by decide +kernel
theorem dX7_counts_8 : decode cX7_counts 8 = .ok (.bipush 108, 2) := by decide +kernel
theorem dX7_counts_10 : decode cX7_counts 10 = .ok (.if_icmp .ne 19, 3) := by decide +kernel
theorem dX7_counts_13 : decode cX7_counts 13 = .ok (.iload_n 2, 1) := by decide +kernel
theorem dX7_counts_14 : decode cX7_counts 14 = .ok (.i2l, 1) := by decide +kernel
theorem dX7_counts_15 : decode cX7_counts 15 = .ok (.lconst 1, 1) := by decide +kernel
theorem dX7_counts_16 : decode cX7_counts 16 = .ok (.ldc2_w 181, 3) := by decide +kernel
theorem dX7_counts_19 : decode cX7_counts 19 = .ok (.invokestatic 37, 3) := by decide +kernel
theorem dX7_counts_22 : decode cX7_counts 22 = .ok (.ifCond .eq 7, 3) := by decide +kernel
theorem dX7_counts_25 : decode cX7_counts 25 = .ok (.iconst 0, 1) := by decide +kernel
theorem dX7_counts_26 : decode cX7_counts 26 = .ok (.goto 4, 3) := by decide +kernel
theorem dX7_counts_29 : decode cX7_counts 29 = .ok (.iconst 1, 1) := by decide +kernel
theorem dX7_counts_30 : decode cX7_counts 30 = .ok (.invokevirtual 57, 3) := by decide +kernel
theorem dX7_counts_33 : decode cX7_counts 33 = .ok (.ifCond .eq 5, 3) := by decide +kernel
theorem dX7_counts_36 : decode cX7_counts 36 = .ok (.iconst 0, 1) := by decide +kernel
theorem dX7_counts_37 : decode cX7_counts 37 = .ok (.ireturn, 1) := by decide +kernel
theorem dX7_counts_38 : decode cX7_counts 38 = .ok (.iconst 0, 1) := by decide +kernel
theorem dX7_counts_39 : decode cX7_counts 39 = .ok (.istore_n 3, 1) := by decide +kernel
theorem dX7_counts_40 : decode cX7_counts 40 = .ok (.iload_n 2, 1) := by decide +kernel
theorem dX7_counts_41 : decode cX7_counts 41 = .ok (.iconst 1, 1) := by decide +kernel
theorem dX7_counts_42 : decode cX7_counts 42 = .ok (.isub, 1) := by decide +kernel
theorem dX7_counts_43 : decode cX7_counts 43 = .ok (.istore 4, 2) := by decide +kernel
theorem dX7_counts_45 : decode cX7_counts 45 = .ok (.iload_n 1, 1) := by decide +kernel
theorem dX7_counts_46 : decode cX7_counts 46 = .ok (.bipush 108, 2) := by decide +kernel
theorem dX7_counts_48 : decode cX7_counts 48 = .ok (.if_icmp .ne 51, 3) := by decide +kernel
theorem dX7_counts_51 : decode cX7_counts 51 = .ok (.iconst 1, 1) := by decide +kernel
theorem dX7_counts_52 : decode cX7_counts 52 = .ok (.istore 5, 2) := by decide +kernel
theorem dX7_counts_54 : decode cX7_counts 54 = .ok (.iload 5, 2) := by decide +kernel
theorem dX7_counts_56 : decode cX7_counts 56 = .ok (.iload_n 2, 1) := by decide +kernel
theorem dX7_counts_57 : decode cX7_counts 57 = .ok (.if_icmp .ge 40, 3) := by decide +kernel
theorem dX7_counts_60 : decode cX7_counts 60 = .ok (.iload_n 3, 1) := by decide +kernel
theorem dX7_counts_61 : decode cX7_counts 61 = .ok (.iload_n 2, 1) := by decide +kernel
theorem dX7_counts_62 : decode cX7_counts 62 = .ok (.iload_n 2, 1) := by decide +kernel
theorem dX7_counts_63 : decode cX7_counts 63 = .ok (.imul, 1) := by decide +kernel
theorem dX7_counts_64 : decode cX7_counts 64 = .ok (.iload 5, 2) := by decide +kernel
theorem dX7_counts_66 : decode cX7_counts 66 = .ok (.irem, 1) := by decide +kernel
theorem dX7_counts_67 : decode cX7_counts 67 = .ok (.ifCond .ne 21, 3) := by decide +kernel
theorem dX7_counts_70 : decode cX7_counts 70 = .ok (.iload_n 2, 1) := by decide +kernel
theorem dX7_counts_71 : decode cX7_counts 71 = .ok (.iload_n 2, 1) := by decide +kernel
theorem dX7_counts_72 : decode cX7_counts 72 = .ok (.imul, 1) := by decide +kernel
theorem dX7_counts_73 : decode cX7_counts 73 = .ok (.iload 5, 2) := by decide +kernel
theorem dX7_counts_75 : decode cX7_counts 75 = .ok (.idiv, 1) := by decide +kernel
theorem dX7_counts_76 : decode cX7_counts 76 = .ok (.iload 5, 2) := by decide +kernel
theorem dX7_counts_78 : decode cX7_counts 78 = .ok (.iadd, 1) := by decide +kernel
theorem dX7_counts_79 : decode cX7_counts 79 = .ok (.iconst 2, 1) := by decide +kernel
theorem dX7_counts_80 : decode cX7_counts 80 = .ok (.irem, 1) := by decide +kernel
theorem dX7_counts_81 : decode cX7_counts 81 = .ok (.ifCond .ne 7, 3) := by decide +kernel
theorem dX7_counts_84 : decode cX7_counts 84 = .ok (.iconst 1, 1) := by decide +kernel
theorem dX7_counts_85 : decode cX7_counts 85 = .ok (.goto 4, 3) := by decide +kernel
theorem dX7_counts_88 : decode cX7_counts 88 = .ok (.iconst 0, 1) := by decide +kernel
theorem dX7_counts_89 : decode cX7_counts 89 = .ok (.iadd, 1) := by decide +kernel
theorem dX7_counts_90 : decode cX7_counts 90 = .ok (.istore_n 3, 1) := by decide +kernel
theorem dX7_counts_91 : decode cX7_counts 91 = .ok (.iinc 5 1, 3) := by decide +kernel
theorem dX7_counts_94 : decode cX7_counts 94 = .ok (.goto (-40), 3) := by decide +kernel
theorem dX7_counts_97 : decode cX7_counts 97 = .ok (.iload_n 3, 1) := by decide +kernel
theorem dX7_counts_98 : decode cX7_counts 98 = .ok (.ireturn, 1) := by decide +kernel
theorem dX7_counts_99 : decode cX7_counts 99 = .ok (.iconst 1, 1) := by decide +kernel
theorem dX7_counts_100 : decode cX7_counts 100 = .ok (.istore 5, 2) := by decide +kernel
theorem dX7_counts_102 : decode cX7_counts 102 = .ok (.iload 5, 2) := by decide +kernel
theorem dX7_counts_104 : decode cX7_counts 104 = .ok (.iload 4, 2) := by decide +kernel
theorem dX7_counts_106 : decode cX7_counts 106 = .ok (.if_icmp .ge 71, 3) := by decide +kernel
theorem dX7_counts_109 : decode cX7_counts 109 = .ok (.iload 5, 2) := by decide +kernel
theorem dX7_counts_111 : decode cX7_counts 111 = .ok (.iload 4, 2) := by decide +kernel
theorem dX7_counts_113 : decode cX7_counts 113 = .ok (.if_icmp .ge 26, 3) := by decide +kernel
theorem dX7_counts_116 : decode cX7_counts 116 = .ok (.iload 5, 2) := by decide +kernel
theorem dX7_counts_118 : decode cX7_counts 118 = .ok (.iload 5, 2) := by decide +kernel
theorem dX7_counts_120 : decode cX7_counts 120 = .ok (.imul, 1) := by decide +kernel
theorem dX7_counts_121 : decode cX7_counts 121 = .ok (.iload 4, 2) := by decide +kernel
theorem dX7_counts_123 : decode cX7_counts 123 = .ok (.iload 4, 2) := by decide +kernel
theorem dX7_counts_125 : decode cX7_counts 125 = .ok (.imul, 1) := by decide +kernel
theorem dX7_counts_126 : decode cX7_counts 126 = .ok (.iadd, 1) := by decide +kernel
theorem dX7_counts_127 : decode cX7_counts 127 = .ok (.iload_n 2, 1) := by decide +kernel
theorem dX7_counts_128 : decode cX7_counts 128 = .ok (.iload_n 2, 1) := by decide +kernel
theorem dX7_counts_129 : decode cX7_counts 129 = .ok (.imul, 1) := by decide +kernel
theorem dX7_counts_130 : decode cX7_counts 130 = .ok (.if_icmp .le 9, 3) := by decide +kernel
theorem dX7_counts_133 : decode cX7_counts 133 = .ok (.iinc 4 (-1), 3) := by decide +kernel
theorem dX7_counts_136 : decode cX7_counts 136 = .ok (.goto (-27), 3) := by decide +kernel
theorem dX7_counts_139 : decode cX7_counts 139 = .ok (.iload_n 3, 1) := by decide +kernel
theorem dX7_counts_140 : decode cX7_counts 140 = .ok (.iload 5, 2) := by decide +kernel
theorem dX7_counts_142 : decode cX7_counts 142 = .ok (.iload 4, 2) := by decide +kernel
theorem dX7_counts_144 : decode cX7_counts 144 = .ok (.if_icmp .ge 24, 3) := by decide +kernel
theorem dX7_counts_147 : decode cX7_counts 147 = .ok (.iload 5, 2) := by decide +kernel
theorem dX7_counts_149 : decode cX7_counts 149 = .ok (.iload 5, 2) := by decide +kernel
theorem dX7_counts_151 : decode cX7_counts 151 = .ok (.imul, 1) := by decide +kernel
theorem dX7_counts_152 : decode cX7_counts 152 = .ok (.iload 4, 2) := by decide +kernel
theorem dX7_counts_154 : decode cX7_counts 154 = .ok (.iload 4, 2) := by decide +kernel
theorem dX7_counts_156 : decode cX7_counts 156 = .ok (.imul, 1) := by decide +kernel
theorem dX7_counts_157 : decode cX7_counts 157 = .ok (.iadd, 1) := by decide +kernel
theorem dX7_counts_158 : decode cX7_counts 158 = .ok (.iload_n 2, 1) := by decide +kernel
theorem dX7_counts_159 : decode cX7_counts 159 = .ok (.iload_n 2, 1) := by decide +kernel
theorem dX7_counts_160 : decode cX7_counts 160 = .ok (.imul, 1) := by decide +kernel
theorem dX7_counts_161 : decode cX7_counts 161 = .ok (.if_icmp .ne 7, 3) := by decide +kernel
theorem dX7_counts_164 : decode cX7_counts 164 = .ok (.iconst 1, 1) := by decide +kernel
theorem dX7_counts_165 : decode cX7_counts 165 = .ok (.goto 4, 3) := by decide +kernel
theorem dX7_counts_168 : decode cX7_counts 168 = .ok (.iconst 0, 1) := by decide +kernel
theorem dX7_counts_169 : decode cX7_counts 169 = .ok (.iadd, 1) := by decide +kernel
theorem dX7_counts_170 : decode cX7_counts 170 = .ok (.istore_n 3, 1) := by decide +kernel
theorem dX7_counts_171 : decode cX7_counts 171 = .ok (.iinc 5 1, 3) := by decide +kernel
theorem dX7_counts_174 : decode cX7_counts 174 = .ok (.goto (-72), 3) := by decide +kernel
theorem dX7_counts_177 : decode cX7_counts 177 = .ok (.iload_n 3, 1) := by decide +kernel
theorem dX7_counts_178 : decode cX7_counts 178 = .ok (.ireturn, 1) := by decide +kernel
theorem dX7_isBehind_0 : decode cX7_isBehind 0 = .ok (.iload_n 3, 1) := by decide +kernel
theorem dX7_isBehind_1 : decode cX7_isBehind 1 = .ok (.bipush 99, 2) := by decide +kernel
theorem dX7_isBehind_3 : decode cX7_isBehind 3 = .ok (.if_icmp .ne 24, 3) := by decide +kernel
theorem dX7_isBehind_6 : decode cX7_isBehind 6 = .ok (.aload_n 0, 1) := by decide +kernel
theorem dX7_isBehind_7 : decode cX7_isBehind 7 = .ok (.getfield 16, 3) := by decide +kernel
theorem dX7_isBehind_10 : decode cX7_isBehind 10 = .ok (.iload_n 1, 1) := by decide +kernel
theorem dX7_isBehind_11 : decode cX7_isBehind 11 = .ok (.iaload, 1) := by decide +kernel
theorem dX7_isBehind_12 : decode cX7_isBehind 12 = .ok (.aload_n 0, 1) := by decide +kernel
theorem dX7_isBehind_13 : decode cX7_isBehind 13 = .ok (.getfield 16, 3) := by decide +kernel
theorem dX7_isBehind_16 : decode cX7_isBehind 16 = .ok (.iload_n 2, 1) := by decide +kernel
theorem dX7_isBehind_17 : decode cX7_isBehind 17 = .ok (.iaload, 1) := by decide +kernel
theorem dX7_isBehind_18 : decode cX7_isBehind 18 = .ok (.if_icmp .le 7, 3) := by decide +kernel
theorem dX7_isBehind_21 : decode cX7_isBehind 21 = .ok (.iconst 1, 1) := by decide +kernel
theorem dX7_isBehind_22 : decode cX7_isBehind 22 = .ok (.goto 4, 3) := by decide +kernel
theorem dX7_isBehind_25 : decode cX7_isBehind 25 = .ok (.iconst 0, 1) := by decide +kernel
theorem dX7_isBehind_26 : decode cX7_isBehind 26 = .ok (.ireturn, 1) := by decide +kernel
theorem dX7_isBehind_27 : decode cX7_isBehind 27 = .ok (.iload_n 3, 1) := by decide +kernel
theorem dX7_isBehind_28 : decode cX7_isBehind 28 = .ok (.bipush 112, 2) := by decide +kernel
theorem dX7_isBehind_30 : decode cX7_isBehind 30 = .ok (.if_icmp .ne 24, 3) := by decide +kernel
theorem dX7_isBehind_33 : decode cX7_isBehind 33 = .ok (.aload_n 0, 1) := by decide +kernel
theorem dX7_isBehind_34 : decode cX7_isBehind 34 = .ok (.iload_n 1, 1) := by decide +kernel
theorem dX7_isBehind_35 : decode cX7_isBehind 35 = .ok (.invokevirtual 96, 3) := by decide +kernel
theorem dX7_isBehind_38 : decode cX7_isBehind 38 = .ok (.aload_n 0, 1) := by decide +kernel
theorem dX7_isBehind_39 : decode cX7_isBehind 39 = .ok (.iload_n 2, 1) := by decide +kernel
theorem dX7_isBehind_40 : decode cX7_isBehind 40 = .ok (.invokevirtual 96, 3) := by decide +kernel
theorem dX7_isBehind_43 : decode cX7_isBehind 43 = .ok (.if_icmp .le 7, 3) := by decide +kernel
theorem dX7_isBehind_46 : decode cX7_isBehind 46 = .ok (.iconst 1, 1) := by decide +kernel
theorem dX7_isBehind_47 : decode cX7_isBehind 47 = .ok (.goto 21, 3) := by decide +kernel
theorem dX7_isBehind_50 : decode cX7_isBehind 50 = .ok (.iconst 0, 1) := by decide +kernel
theorem dX7_isBehind_51 : decode cX7_isBehind 51 = .ok (.goto 17, 3) := by decide +kernel
theorem dX7_isBehind_54 : decode cX7_isBehind 54 = .ok (.aload_n 0, 1) := by decide +kernel
theorem dX7_isBehind_55 : decode cX7_isBehind 55 = .ok (.iload_n 1, 1) := by decide +kernel
theorem dX7_isBehind_56 : decode cX7_isBehind 56 = .ok (.iload_n 2, 1) := by decide +kernel
theorem dX7_isBehind_57 : decode cX7_isBehind 57 = .ok (.invokevirtual 143, 3) := by decide +kernel
theorem dX7_isBehind_60 : decode cX7_isBehind 60 = .ok (.ifCond .le 7, 3) := by decide +kernel
theorem dX7_isBehind_63 : decode cX7_isBehind 63 = .ok (.iconst 1, 1) := by decide +kernel
theorem dX7_isBehind_64 : decode cX7_isBehind 64 = .ok (.goto 4, 3) := by decide +kernel
theorem dX7_isBehind_67 : decode cX7_isBehind 67 = .ok (.iconst 0, 1) := by decide +kernel
theorem dX7_isBehind_68 : decode cX7_isBehind 68 = .ok (.ireturn, 1) := by decide +kernel
theorem dX7_sort_0 : decode cX7_sort 0 = .ok (.aload_n 0, 1) := by decide +kernel
theorem dX7_sort_1 : decode cX7_sort 1 = .ok (.iload_n 1, 1) := by decide +kernel
theorem dX7_sort_2 : decode cX7_sort 2 = .ok (.bipush 99, 2) := by decide +kernel
theorem dX7_sort_4 : decode cX7_sort 4 = .ok (.if_icmp .eq 15, 3) := by decide +kernel
theorem dX7_sort_7 : decode cX7_sort 7 = .ok (.iload_n 1, 1) := by decide +kernel
theorem dX7_sort_8 : decode cX7_sort 8 = .ok (.bipush 112, 2) := by decide +kernel
theorem dX7_sort_10 : decode cX7_sort 10 = .ok (.if_icmp .eq 9, 3) := by decide +kernel
theorem dX7_sort_13 : decode cX7_sort 13 = .ok (.iload_n 1, 1) := by decide +kernel
theorem dX7_sort_14 : decode cX7_sort 14 = .ok (.bipush 115, 2) := by decide +kernel
theorem dX7_sort_16 : decode cX7_sort 16 = .ok (.if_icmp .ne 7, 3) := by decide +kernel
theorem dX7_sort_19 : decode cX7_sort 19 = .ok (.iconst 0, 1) := by decide +kernel
theorem dX7_sort_20 : decode cX7_sort 20 = .ok (.goto 4, 3) := by decide +kernel
theorem dX7_sort_23 : decode cX7_sort 23 = .ok (.iconst 1, 1) := by decide +kernel
theorem dX7_sort_24 : decode cX7_sort 24 = .ok (.invokevirtual 57, 3) := by decide +kernel
theorem dX7_sort_27 : decode cX7_sort 27 = .ok (.ifCond .eq 5, 3) := by decide +kernel
theorem dX7_sort_30 : decode cX7_sort 30 = .ok (.iconst 0, 1) := by decide +kernel
theorem dX7_sort_31 : decode cX7_sort 31 = .ok (.ireturn, 1) := by decide +kernel
theorem dX7_sort_32 : decode cX7_sort 32 = .ok (.aload_n 0, 1) := by decide +kernel
theorem dX7_sort_33 : decode cX7_sort 33 = .ok (.iconst 0, 1) := by decide +kernel
theorem dX7_sort_34 : decode cX7_sort 34 = .ok (.putfield 183, 3) := by decide +kernel
theorem dX7_sort_37 : decode cX7_sort 37 = .ok (.iconst 0, 1) := by decide +kernel
theorem dX7_sort_38 : decode cX7_sort 38 = .ok (.istore_n 2, 1) := by decide +kernel
theorem dX7_sort_39 : decode cX7_sort 39 = .ok (.iload_n 2, 1) := by decide +kernel
theorem dX7_sort_40 : decode cX7_sort 40 = .ok (.bipush 16, 2) := by decide +kernel
theorem dX7_sort_42 : decode cX7_sort 42 = .ok (.if_icmp .ge 83, 3) := by decide +kernel
theorem dX7_sort_45 : decode cX7_sort 45 = .ok (.aload_n 0, 1) := by decide +kernel
theorem dX7_sort_46 : decode cX7_sort 46 = .ok (.iload_n 2, 1) := by decide +kernel
theorem dX7_sort_47 : decode cX7_sort 47 = .ok (.invokevirtual 45, 3) := by decide +kernel
theorem dX7_sort_50 : decode cX7_sort 50 = .ok (.ifCond .ne 6, 3) := by decide +kernel
theorem dX7_sort_53 : decode cX7_sort 53 = .ok (.goto 66, 3) := by decide +kernel
theorem dX7_sort_56 : decode cX7_sort 56 = .ok (.aload_n 0, 1) := by decide +kernel
theorem dX7_sort_57 : decode cX7_sort 57 = .ok (.getfield 183, 3) := by decide +kernel
theorem dX7_sort_60 : decode cX7_sort 60 = .ok (.istore_n 3, 1) := by decide +kernel
theorem dX7_sort_61 : decode cX7_sort 61 = .ok (.iload_n 3, 1) := by decide +kernel
theorem dX7_sort_62 : decode cX7_sort 62 = .ok (.ifCond .le 40, 3) := by decide +kernel
theorem dX7_sort_65 : decode cX7_sort 65 = .ok (.aload_n 0, 1) := by decide +kernel
theorem dX7_sort_66 : decode cX7_sort 66 = .ok (.aload_n 0, 1) := by decide +kernel
theorem dX7_sort_67 : decode cX7_sort 67 = .ok (.getfield 28, 3) := by decide +kernel
theorem dX7_sort_70 : decode cX7_sort 70 = .ok (.iload_n 3, 1) := by decide +kernel
theorem dX7_sort_71 : decode cX7_sort 71 = .ok (.iconst 1, 1) := by decide +kernel
theorem dX7_sort_72 : decode cX7_sort 72 = .ok (.isub, 1) := by decide +kernel
theorem dX7_sort_73 : decode cX7_sort 73 = .ok (.iaload, 1) := by decide +kernel
theorem dX7_sort_74 : decode cX7_sort 74 = .ok (.iload_n 2, 1) := by decide +kernel
theorem dX7_sort_75 : decode cX7_sort 75 = .ok (.iload_n 1, 1) := by decide +kernel
theorem dX7_sort_76 : decode cX7_sort 76 = .ok (.invokevirtual 186, 3) := by decide +kernel
theorem dX7_sort_79 : decode cX7_sort 79 = .ok (.ifCond .eq 23, 3) := by decide +kernel
theorem dX7_sort_82 : decode cX7_sort 82 = .ok (.aload_n 0, 1) := by decide +kernel
theorem dX7_sort_83 : decode cX7_sort 83 = .ok (.getfield 28, 3) := by decide +kernel
theorem dX7_sort_86 : decode cX7_sort 86 = .ok (.iload_n 3, 1) := by decide +kernel
theorem dX7_sort_87 : decode cX7_sort 87 = .ok (.aload_n 0, 1) := by decide +kernel
theorem dX7_sort_88 : decode cX7_sort 88 = .ok (.getfield 28, 3) := by decide +kernel
theorem dX7_sort_91 : decode cX7_sort 91 = .ok (.iload_n 3, 1) := by decide +kernel
theorem dX7_sort_92 : decode cX7_sort 92 = .ok (.iconst 1, 1) := by decide +kernel
theorem dX7_sort_93 : decode cX7_sort 93 = .ok (.isub, 1) := by decide +kernel
theorem dX7_sort_94 : decode cX7_sort 94 = .ok (.iaload, 1) := by decide +kernel
theorem dX7_sort_95 : decode cX7_sort 95 = .ok (.iastore, 1) := by decide +kernel
theorem dX7_sort_96 : decode cX7_sort 96 = .ok (.iinc 3 (-1), 3) := by decide +kernel
theorem dX7_sort_99 : decode cX7_sort 99 = .ok (.goto (-38), 3) := by decide +kernel
theorem dX7_sort_102 : decode cX7_sort 102 = .ok (.aload_n 0, 1) := by decide +kernel
theorem dX7_sort_103 : decode cX7_sort 103 = .ok (.getfield 28, 3) := by decide +kernel
theorem dX7_sort_106 : decode cX7_sort 106 = .ok (.iload_n 3, 1) := by decide +kernel
theorem dX7_sort_107 : decode cX7_sort 107 = .ok (.iload_n 2, 1) := by decide +kernel
theorem dX7_sort_108 : decode cX7_sort 108 = .ok (.iastore, 1) := by decide +kernel
theorem dX7_sort_109 : decode cX7_sort 109 = .ok (.aload_n 0, 1) := by decide +kernel
theorem dX7_sort_110 : decode cX7_sort 110 = .ok (.dup, 1) := by decide +kernel
theorem dX7_sort_111 : decode cX7_sort 111 = .ok (.getfield 183, 3) := by decide +kernel
theorem dX7_sort_114 : decode cX7_sort 114 = .ok (.iconst 1, 1) := by decide +kernel
theorem dX7_sort_115 : decode cX7_sort 115 = .ok (.iadd, 1) := by decide +kernel
theorem dX7_sort_116 : decode cX7_sort 116 = .ok (.putfield 183, 3) := by decide +kernel
theorem dX7_sort_119 : decode cX7_sort 119 = .ok (.iinc 2 1, 3) := by decide +kernel
theorem dX7_sort_122 : decode cX7_sort 122 = .ok (.goto (-83), 3) := by decide +kernel
theorem dX7_sort_125 : decode cX7_sort 125 = .ok (.aload_n 0, 1) := by decide +kernel
theorem dX7_sort_126 : decode cX7_sort 126 = .ok (.getfield 183, 3) := by decide +kernel
theorem dX7_sort_129 : decode cX7_sort 129 = .ok (.ireturn, 1) := by decide +kernel
theorem dX7_sorted_0 : decode cX7_sorted 0 = .ok (.aload_n 0, 1) := by decide +kernel
theorem dX7_sorted_1 : decode cX7_sorted 1 = .ok (.iload_n 1, 1) := by decide +kernel
theorem dX7_sorted_2 : decode cX7_sorted 2 = .ok (.i2l, 1) := by decide +kernel
theorem dX7_sorted_3 : decode cX7_sorted 3 = .ok (.lconst 0, 1) := by decide +kernel
theorem dX7_sorted_4 : decode cX7_sorted 4 = .ok (.aload_n 0, 1) := by decide +kernel
theorem dX7_sorted_5 : decode cX7_sorted 5 = .ok (.getfield 183, 3) := by decide +kernel
theorem dX7_sorted_8 : decode cX7_sorted 8 = .ok (.iconst 1, 1) := by decide +kernel
theorem dX7_sorted_9 : decode cX7_sorted 9 = .ok (.isub, 1) := by decide +kernel
theorem dX7_sorted_10 : decode cX7_sorted 10 = .ok (.i2l, 1) := by decide +kernel
theorem dX7_sorted_11 : decode cX7_sorted 11 = .ok (.invokestatic 37, 3) := by decide +kernel
theorem dX7_sorted_14 : decode cX7_sorted 14 = .ok (.ifCond .eq 7, 3) := by decide +kernel
theorem dX7_sorted_17 : decode cX7_sorted 17 = .ok (.iconst 0, 1) := by decide +kernel
theorem dX7_sorted_18 : decode cX7_sorted 18 = .ok (.goto 4, 3) := by decide +kernel
theorem dX7_sorted_21 : decode cX7_sorted 21 = .ok (.iconst 1, 1) := by decide +kernel
theorem dX7_sorted_22 : decode cX7_sorted 22 = .ok (.invokevirtual 57, 3) := by decide +kernel
theorem dX7_sorted_25 : decode cX7_sorted 25 = .ok (.ifCond .eq 7, 3) := by decide +kernel
theorem dX7_sorted_28 : decode cX7_sorted 28 = .ok (.iconst 0, 1) := by decide +kernel
theorem dX7_sorted_29 : decode cX7_sorted 29 = .ok (.goto 9, 3) := by decide +kernel
theorem dX7_sorted_32 : decode cX7_sorted 32 = .ok (.aload_n 0, 1) := by decide +kernel
theorem dX7_sorted_33 : decode cX7_sorted 33 = .ok (.getfield 28, 3) := by decide +kernel
theorem dX7_sorted_36 : decode cX7_sorted 36 = .ok (.iload_n 1, 1) := by decide +kernel
theorem dX7_sorted_37 : decode cX7_sorted 37 = .ok (.iaload, 1) := by decide +kernel
theorem dX7_sorted_38 : decode cX7_sorted 38 = .ok (.ireturn, 1) := by decide +kernel
theorem dX7_checksum_0 : decode cX7_checksum 0 = .ok (.aload_n 0, 1) := by decide +kernel
theorem dX7_checksum_1 : decode cX7_checksum 1 = .ok (.iconst 0, 1) := by decide +kernel
theorem dX7_checksum_2 : decode cX7_checksum 2 = .ok (.putfield 31, 3) := by decide +kernel
theorem dX7_checksum_5 : decode cX7_checksum 5 = .ok (.lconst 0, 1) := by decide +kernel
theorem dX7_checksum_6 : decode cX7_checksum 6 = .ok (.lstore_n 1, 1) := by decide +kernel
theorem dX7_checksum_7 : decode cX7_checksum 7 = .ok (.iconst 0, 1) := by decide +kernel
theorem dX7_checksum_8 : decode cX7_checksum 8 = .ok (.istore_n 3, 1) := by decide +kernel
theorem dX7_checksum_9 : decode cX7_checksum 9 = .ok (.iload_n 3, 1) := by decide +kernel
theorem dX7_checksum_10 : decode cX7_checksum 10 = .ok (.bipush 16, 2) := by decide +kernel
theorem dX7_checksum_12 : decode cX7_checksum 12 = .ok (.if_icmp .ge 47, 3) := by decide +kernel
theorem dX7_checksum_15 : decode cX7_checksum 15 = .ok (.ldc2_w 190, 3) := by decide +kernel
theorem dX7_checksum_18 : decode cX7_checksum 18 = .ok (.lload_n 1, 1) := by decide +kernel
theorem dX7_checksum_19 : decode cX7_checksum 19 = .ok (.lmul, 1) := by decide +kernel
theorem dX7_checksum_20 : decode cX7_checksum 20 = .ok (.ldc2_w 192, 3) := by decide +kernel
theorem dX7_checksum_23 : decode cX7_checksum 23 = .ok (.aload_n 0, 1) := by decide +kernel
theorem dX7_checksum_24 : decode cX7_checksum 24 = .ok (.getfield 7, 3) := by decide +kernel
theorem dX7_checksum_27 : decode cX7_checksum 27 = .ok (.iload_n 3, 1) := by decide +kernel
theorem dX7_checksum_28 : decode cX7_checksum 28 = .ok (.iaload, 1) := by decide +kernel
theorem dX7_checksum_29 : decode cX7_checksum 29 = .ok (.i2l, 1) := by decide +kernel
theorem dX7_checksum_30 : decode cX7_checksum 30 = .ok (.lmul, 1) := by decide +kernel
theorem dX7_checksum_31 : decode cX7_checksum 31 = .ok (.ladd, 1) := by decide +kernel
theorem dX7_checksum_32 : decode cX7_checksum 32 = .ok (.ldc2_w 194, 3) := by decide +kernel
theorem dX7_checksum_35 : decode cX7_checksum 35 = .ok (.aload_n 0, 1) := by decide +kernel
theorem dX7_checksum_36 : decode cX7_checksum 36 = .ok (.getfield 13, 3) := by decide +kernel
theorem dX7_checksum_39 : decode cX7_checksum 39 = .ok (.iload_n 3, 1) := by decide +kernel
theorem dX7_checksum_40 : decode cX7_checksum 40 = .ok (.iaload, 1) := by decide +kernel
theorem dX7_checksum_41 : decode cX7_checksum 41 = .ok (.i2l, 1) := by decide +kernel
theorem dX7_checksum_42 : decode cX7_checksum 42 = .ok (.lmul, 1) := by decide +kernel
theorem dX7_checksum_43 : decode cX7_checksum 43 = .ok (.ladd, 1) := by decide +kernel
theorem dX7_checksum_44 : decode cX7_checksum 44 = .ok (.aload_n 0, 1) := by decide +kernel
theorem dX7_checksum_45 : decode cX7_checksum 45 = .ok (.getfield 16, 3) := by decide +kernel
theorem dX7_checksum_48 : decode cX7_checksum 48 = .ok (.iload_n 3, 1) := by decide +kernel
theorem dX7_checksum_49 : decode cX7_checksum 49 = .ok (.iaload, 1) := by decide +kernel
theorem dX7_checksum_50 : decode cX7_checksum 50 = .ok (.i2l, 1) := by decide +kernel
theorem dX7_checksum_51 : decode cX7_checksum 51 = .ok (.ladd, 1) := by decide +kernel
theorem dX7_checksum_52 : decode cX7_checksum 52 = .ok (.lstore_n 1, 1) := by decide +kernel
theorem dX7_checksum_53 : decode cX7_checksum 53 = .ok (.iinc 3 1, 3) := by decide +kernel
theorem dX7_checksum_56 : decode cX7_checksum 56 = .ok (.goto (-47), 3) := by decide +kernel
theorem dX7_checksum_59 : decode cX7_checksum 59 = .ok (.iconst 0, 1) := by decide +kernel
theorem dX7_checksum_60 : decode cX7_checksum 60 = .ok (.istore_n 3, 1) := by decide +kernel
theorem dX7_checksum_61 : decode cX7_checksum 61 = .ok (.iload_n 3, 1) := by decide +kernel
theorem dX7_checksum_62 : decode cX7_checksum 62 = .ok (.aload_n 0, 1) := by decide +kernel
theorem dX7_checksum_63 : decode cX7_checksum 63 = .ok (.getfield 178, 3) := by decide +kernel
theorem dX7_checksum_66 : decode cX7_checksum 66 = .ok (.if_icmp .ge 23, 3) := by decide +kernel
theorem dX7_checksum_69 : decode cX7_checksum 69 = .ok (.ldc2_w 190, 3) := by decide +kernel
theorem dX7_checksum_72 : decode cX7_checksum 72 = .ok (.lload_n 1, 1) := by decide +kernel
theorem dX7_checksum_73 : decode cX7_checksum 73 = .ok (.lmul, 1) := by decide +kernel
theorem dX7_checksum_74 : decode cX7_checksum 74 = .ok (.aload_n 0, 1) := by decide +kernel
theorem dX7_checksum_75 : decode cX7_checksum 75 = .ok (.getfield 25, 3) := by decide +kernel
theorem dX7_checksum_78 : decode cX7_checksum 78 = .ok (.iload_n 3, 1) := by decide +kernel
theorem dX7_checksum_79 : decode cX7_checksum 79 = .ok (.iaload, 1) := by decide +kernel
theorem dX7_checksum_80 : decode cX7_checksum 80 = .ok (.i2l, 1) := by decide +kernel
theorem dX7_checksum_81 : decode cX7_checksum 81 = .ok (.ladd, 1) := by decide +kernel
theorem dX7_checksum_82 : decode cX7_checksum 82 = .ok (.lstore_n 1, 1) := by decide +kernel
theorem dX7_checksum_83 : decode cX7_checksum 83 = .ok (.iinc 3 1, 3) := by decide +kernel
theorem dX7_checksum_86 : decode cX7_checksum 86 = .ok (.goto (-25), 3) := by decide +kernel
theorem dX7_checksum_89 : decode cX7_checksum 89 = .ok (.iconst 0, 1) := by decide +kernel
theorem dX7_checksum_90 : decode cX7_checksum 90 = .ok (.istore_n 3, 1) := by decide +kernel
theorem dX7_checksum_91 : decode cX7_checksum 91 = .ok (.iload_n 3, 1) := by decide +kernel
theorem dX7_checksum_92 : decode cX7_checksum 92 = .ok (.aload_n 0, 1) := by decide +kernel
theorem dX7_checksum_93 : decode cX7_checksum 93 = .ok (.getfield 183, 3) := by decide +kernel
theorem dX7_checksum_96 : decode cX7_checksum 96 = .ok (.if_icmp .ge 23, 3) := by decide +kernel
theorem dX7_checksum_99 : decode cX7_checksum 99 = .ok (.ldc2_w 190, 3) := by decide +kernel
theorem dX7_checksum_102 : decode cX7_checksum 102 = .ok (.lload_n 1, 1) := by decide +kernel
theorem dX7_checksum_103 : decode cX7_checksum 103 = .ok (.lmul, 1) := by decide +kernel
theorem dX7_checksum_104 : decode cX7_checksum 104 = .ok (.aload_n 0, 1) := by decide +kernel
theorem dX7_checksum_105 : decode cX7_checksum 105 = .ok (.getfield 28, 3) := by decide +kernel
theorem dX7_checksum_108 : decode cX7_checksum 108 = .ok (.iload_n 3, 1) := by decide +kernel
theorem dX7_checksum_109 : decode cX7_checksum 109 = .ok (.iaload, 1) := by decide +kernel
theorem dX7_checksum_110 : decode cX7_checksum 110 = .ok (.i2l, 1) := by decide +kernel
theorem dX7_checksum_111 : decode cX7_checksum 111 = .ok (.ladd, 1) := by decide +kernel
theorem dX7_checksum_112 : decode cX7_checksum 112 = .ok (.lstore_n 1, 1) := by decide +kernel
theorem dX7_checksum_113 : decode cX7_checksum 113 = .ok (.iinc 3 1, 3) := by decide +kernel
theorem dX7_checksum_116 : decode cX7_checksum 116 = .ok (.goto (-25), 3) := by decide +kernel
theorem dX7_checksum_119 : decode cX7_checksum 119 = .ok (.lload_n 1, 1) := by decide +kernel
theorem dX7_checksum_120 : decode cX7_checksum 120 = .ok (.lreturn, 1) := by decide +kernel
theorem dX7_isTrue_0 : decode cX7_isTrue 0 = .ok (.aload_n 0, 1) := by decide +kernel
theorem dX7_isTrue_1 : decode cX7_isTrue 1 = .ok (.aload_n 0, 1) := by decide +kernel
theorem dX7_isTrue_2 : decode cX7_isTrue 2 = .ok (.iload_n 1, 1) := by decide +kernel
theorem dX7_isTrue_3 : decode cX7_isTrue 3 = .ok (.iconst 2, 1) := by decide +kernel
theorem dX7_isTrue_4 : decode cX7_isTrue 4 = .ok (.invokevirtual 68, 3) := by decide +kernel
theorem dX7_isTrue_7 : decode cX7_isTrue 7 = .ok (.invokevirtual 57, 3) := by decide +kernel
theorem dX7_isTrue_10 : decode cX7_isTrue 10 = .ok (.ifCond .ne 7, 3) := by decide +kernel
theorem dX7_isTrue_13 : decode cX7_isTrue 13 = .ok (.iconst 1, 1) := by decide +kernel
theorem dX7_isTrue_14 : decode cX7_isTrue 14 = .ok (.goto 4, 3) := by decide +kernel
theorem dX7_isTrue_17 : decode cX7_isTrue 17 = .ok (.iconst 0, 1) := by decide +kernel
theorem dX7_isTrue_18 : decode cX7_isTrue 18 = .ok (.ireturn, 1) := by decide +kernel
theorem dX7_rootIsTrue_0 : decode cX7_rootIsTrue 0 = .ok (.aload_n 0, 1) := by decide +kernel
theorem dX7_rootIsTrue_1 : decode cX7_rootIsTrue 1 = .ok (.lload_n 1, 1) := by decide +kernel
theorem dX7_rootIsTrue_2 : decode cX7_rootIsTrue 2 = .ok (.lconst 0, 1) := by decide +kernel
theorem dX7_rootIsTrue_3 : decode cX7_rootIsTrue 3 = .ok (.ldc2_w 152, 3) := by decide +kernel
theorem dX7_rootIsTrue_6 : decode cX7_rootIsTrue 6 = .ok (.invokestatic 37, 3) := by decide +kernel
theorem dX7_rootIsTrue_9 : decode cX7_rootIsTrue 9 = .ok (.ifCond .eq 7, 3) := by decide +kernel
theorem dX7_rootIsTrue_12 : decode cX7_rootIsTrue 12 = .ok (.iconst 0, 1) := by decide +kernel
theorem dX7_rootIsTrue_13 : decode cX7_rootIsTrue 13 = .ok (.goto 4, 3) := by decide +kernel
theorem dX7_rootIsTrue_16 : decode cX7_rootIsTrue 16 = .ok (.iconst 1, 1) := by decide +kernel
theorem dX7_rootIsTrue_17 : decode cX7_rootIsTrue 17 = .ok (.invokevirtual 57, 3) := by decide +kernel
theorem dX7_rootIsTrue_20 : decode cX7_rootIsTrue 20 = .ok (.ifCond .ne 7, 3) := by decide +kernel
theorem dX7_rootIsTrue_23 : decode cX7_rootIsTrue 23 = .ok (.iconst 1, 1) := by decide +kernel
theorem dX7_rootIsTrue_24 : decode cX7_rootIsTrue 24 = .ok (.goto 4, 3) := by decide +kernel
theorem dX7_rootIsTrue_27 : decode cX7_rootIsTrue 27 = .ok (.iconst 0, 1) := by decide +kernel
theorem dX7_rootIsTrue_28 : decode cX7_rootIsTrue 28 = .ok (.ireturn, 1) := by decide +kernel
theorem dX7_hypotIsTrue_0 : decode cX7_hypotIsTrue 0 = .ok (.aload_n 0, 1) := by decide +kernel
theorem dX7_hypotIsTrue_1 : decode cX7_hypotIsTrue 1 = .ok (.iload_n 1, 1) := by decide +kernel
theorem dX7_hypotIsTrue_2 : decode cX7_hypotIsTrue 2 = .ok (.i2l, 1) := by decide +kernel
theorem dX7_hypotIsTrue_3 : decode cX7_hypotIsTrue 3 = .ok (.lconst 0, 1) := by decide +kernel
theorem dX7_hypotIsTrue_4 : decode cX7_hypotIsTrue 4 = .ok (.ldc2_w 55, 3) := by decide +kernel
theorem dX7_hypotIsTrue_7 : decode cX7_hypotIsTrue 7 = .ok (.invokestatic 37, 3) := by decide +kernel
theorem dX7_hypotIsTrue_10 : decode cX7_hypotIsTrue 10 = .ok (.ifCond .eq 19, 3) := by decide +kernel
theorem dX7_hypotIsTrue_13 : decode cX7_hypotIsTrue 13 = .ok (.iload_n 2, 1) := by decide +kernel
theorem dX7_hypotIsTrue_14 : decode cX7_hypotIsTrue 14 = .ok (.i2l, 1) := by decide +kernel
theorem dX7_hypotIsTrue_15 : decode cX7_hypotIsTrue 15 = .ok (.lconst 0, 1) := by decide +kernel
theorem dX7_hypotIsTrue_16 : decode cX7_hypotIsTrue 16 = .ok (.ldc2_w 55, 3) := by decide +kernel
theorem dX7_hypotIsTrue_19 : decode cX7_hypotIsTrue 19 = .ok (.invokestatic 37, 3) := by decide +kernel
theorem dX7_hypotIsTrue_22 : decode cX7_hypotIsTrue 22 = .ok (.ifCond .eq 7, 3) := by decide +kernel
theorem dX7_hypotIsTrue_25 : decode cX7_hypotIsTrue 25 = .ok (.iconst 0, 1) := by decide +kernel
theorem dX7_hypotIsTrue_26 : decode cX7_hypotIsTrue 26 = .ok (.goto 4, 3) := by decide +kernel
theorem dX7_hypotIsTrue_29 : decode cX7_hypotIsTrue 29 = .ok (.iconst 1, 1) := by decide +kernel
theorem dX7_hypotIsTrue_30 : decode cX7_hypotIsTrue 30 = .ok (.invokevirtual 57, 3) := by decide +kernel
theorem dX7_hypotIsTrue_33 : decode cX7_hypotIsTrue 33 = .ok (.ifCond .ne 7, 3) := by decide +kernel
theorem dX7_hypotIsTrue_36 : decode cX7_hypotIsTrue 36 = .ok (.iconst 1, 1) := by decide +kernel
theorem dX7_hypotIsTrue_37 : decode cX7_hypotIsTrue 37 = .ok (.goto 4, 3) := by decide +kernel
theorem dX7_hypotIsTrue_40 : decode cX7_hypotIsTrue 40 = .ok (.iconst 0, 1) := by decide +kernel
theorem dX7_hypotIsTrue_41 : decode cX7_hypotIsTrue 41 = .ok (.ireturn, 1) := by decide +kernel
theorem dX7_listIsTrue_0 : decode cX7_listIsTrue 0 = .ok (.aload_n 0, 1) := by decide +kernel
theorem dX7_listIsTrue_1 : decode cX7_listIsTrue 1 = .ok (.iload_n 1, 1) := by decide +kernel
theorem dX7_listIsTrue_2 : decode cX7_listIsTrue 2 = .ok (.i2l, 1) := by decide +kernel
theorem dX7_listIsTrue_3 : decode cX7_listIsTrue 3 = .ok (.lconst 0, 1) := by decide +kernel
theorem dX7_listIsTrue_4 : decode cX7_listIsTrue 4 = .ok (.ldc2_w 176, 3) := by decide +kernel
theorem dX7_listIsTrue_7 : decode cX7_listIsTrue 7 = .ok (.invokestatic 37, 3) := by decide +kernel
theorem dX7_listIsTrue_10 : decode cX7_listIsTrue 10 = .ok (.ifCond .eq 7, 3) := by decide +kernel
theorem dX7_listIsTrue_13 : decode cX7_listIsTrue 13 = .ok (.iconst 0, 1) := by decide +kernel
theorem dX7_listIsTrue_14 : decode cX7_listIsTrue 14 = .ok (.goto 4, 3) := by decide +kernel
theorem dX7_listIsTrue_17 : decode cX7_listIsTrue 17 = .ok (.iconst 1, 1) := by decide +kernel
theorem dX7_listIsTrue_18 : decode cX7_listIsTrue 18 = .ok (.invokevirtual 57, 3) := by decide +kernel
theorem dX7_listIsTrue_21 : decode cX7_listIsTrue 21 = .ok (.ifCond .ne 7, 3) := by decide +kernel
theorem dX7_listIsTrue_24 : decode cX7_listIsTrue 24 = .ok (.iconst 1, 1) := by decide +kernel
theorem dX7_listIsTrue_25 : decode cX7_listIsTrue 25 = .ok (.goto 4, 3) := by decide +kernel
theorem dX7_listIsTrue_28 : decode cX7_listIsTrue 28 = .ok (.iconst 0, 1) := by decide +kernel
theorem dX7_listIsTrue_29 : decode cX7_listIsTrue 29 = .ok (.ireturn, 1) := by decide +kernel
theorem dX7_countIsTrue_0 : decode cX7_countIsTrue 0 = .ok (.aload_n 0, 1) := by decide +kernel
theorem dX7_countIsTrue_1 : decode cX7_countIsTrue 1 = .ok (.iload_n 1, 1) := by decide +kernel
theorem dX7_countIsTrue_2 : decode cX7_countIsTrue 2 = .ok (.i2l, 1) := by decide +kernel
theorem dX7_countIsTrue_3 : decode cX7_countIsTrue 3 = .ok (.lconst 1, 1) := by decide +kernel
theorem dX7_countIsTrue_4 : decode cX7_countIsTrue 4 = .ok (.ldc2_w 181, 3) := by decide +kernel
theorem dX7_countIsTrue_7 : decode cX7_countIsTrue 7 = .ok (.invokestatic 37, 3) := by decide +kernel
theorem dX7_countIsTrue_10 : decode cX7_countIsTrue 10 = .ok (.ifCond .eq 7, 3) := by decide +kernel
theorem dX7_countIsTrue_13 : decode cX7_countIsTrue 13 = .ok (.iconst 0, 1) := by decide +kernel
theorem dX7_countIsTrue_14 : decode cX7_countIsTrue 14 = .ok (.goto 4, 3) := by decide +kernel
theorem dX7_countIsTrue_17 : decode cX7_countIsTrue 17 = .ok (.iconst 1, 1) := by decide +kernel
theorem dX7_countIsTrue_18 : decode cX7_countIsTrue 18 = .ok (.invokevirtual 57, 3) := by decide +kernel
theorem dX7_countIsTrue_21 : decode cX7_countIsTrue 21 = .ok (.ifCond .ne 7, 3) := by decide +kernel
theorem dX7_countIsTrue_24 : decode cX7_countIsTrue 24 = .ok (.iconst 1, 1) := by decide +kernel
theorem dX7_countIsTrue_25 : decode cX7_countIsTrue 25 = .ok (.goto 4, 3) := by decide +kernel
theorem dX7_countIsTrue_28 : decode cX7_countIsTrue 28 = .ok (.iconst 0, 1) := by decide +kernel
theorem dX7_countIsTrue_29 : decode cX7_countIsTrue 29 = .ok (.ireturn, 1) := by decide +kernel
end
section
theorem dL_put_0 : decode cL_put 0 = .ok (.aload 5, 2) := by decide +kernel
theorem dL_put_2 : decode cL_put 2 = .ok (.iconst 0, 1) := by decide +kernel
theorem dL_put_3 : decode cL_put 3 = .ok (.aload_n 0, 1) := by decide +kernel
theorem dL_put_4 : decode cL_put 4 = .ok (.iload_n 1, 1) := by decide +kernel
theorem dL_put_5 : decode cL_put 5 = .ok (.iload_n 2, 1) := by decide +kernel
theorem dL_put_6 : decode cL_put 6 = .ok (.iload_n 3, 1) := by decide +kernel
theorem dL_put_7 : decode cL_put 7 = .ok (.iload 4, 2) := by decide +kernel
theorem dL_put_9 : decode cL_put 9 = .ok (.invokevirtual 7, 3) := by decide +kernel
theorem dL_put_12 : decode cL_put 12 = .ok (.i2l, 1) := by decide +kernel
theorem dL_put_13 : decode cL_put 13 = .ok (.lastore, 1) := by decide +kernel
theorem dL_put_14 : decode cL_put 14 = .ok (.goto 15, 3) := by decide +kernel
theorem dL_put_17 : decode cL_put 17 = .ok (.astore 6, 2) := by decide +kernel
theorem dL_put_19 : decode cL_put 19 = .ok (.iconst 1, 1) := by decide +kernel
theorem dL_put_20 : decode cL_put 20 = .ok (.ireturn, 1) := by decide +kernel
theorem dL_put_21 : decode cL_put 21 = .ok (.astore 6, 2) := by decide +kernel
theorem dL_put_23 : decode cL_put 23 = .ok (.iconst 2, 1) := by decide +kernel
theorem dL_put_24 : decode cL_put 24 = .ok (.ireturn, 1) := by decide +kernel
theorem dL_put_25 : decode cL_put 25 = .ok (.astore 6, 2) := by decide +kernel
theorem dL_put_27 : decode cL_put 27 = .ok (.iconst 3, 1) := by decide +kernel
theorem dL_put_28 : decode cL_put 28 = .ok (.ireturn, 1) := by decide +kernel
theorem dL_put_29 : decode cL_put 29 = .ok (.iconst 0, 1) := by decide +kernel
theorem dL_put_30 : decode cL_put 30 = .ok (.ireturn, 1) := by decide +kernel
theorem dL_take_0 : decode cL_take 0 = .ok (.aload_n 2, 1) := by decide +kernel
theorem dL_take_1 : decode cL_take 1 = .ok (.iconst 0, 1) := by decide +kernel
theorem dL_take_2 : decode cL_take 2 = .ok (.aload_n 0, 1) := by decide +kernel
theorem dL_take_3 : decode cL_take 3 = .ok (.iload_n 1, 1) := by decide +kernel
theorem dL_take_4 : decode cL_take 4 = .ok (.invokevirtual 19, 3) := by decide +kernel
theorem dL_take_7 : decode cL_take 7 = .ok (.i2l, 1) := by decide +kernel
theorem dL_take_8 : decode cL_take 8 = .ok (.lastore, 1) := by decide +kernel
theorem dL_take_9 : decode cL_take 9 = .ok (.goto 9, 3) := by decide +kernel
theorem dL_take_12 : decode cL_take 12 = .ok (.astore_n 3, 1) := by decide +kernel
theorem dL_take_13 : decode cL_take 13 = .ok (.iconst 1, 1) := by decide +kernel
theorem dL_take_14 : decode cL_take 14 = .ok (.ireturn, 1) := by decide +kernel
theorem dL_take_15 : decode cL_take 15 = .ok (.astore_n 3, 1) := by decide +kernel
theorem dL_take_16 : decode cL_take 16 = .ok (.iconst 2, 1) := by decide +kernel
theorem dL_take_17 : decode cL_take 17 = .ok (.ireturn, 1) := by decide +kernel
theorem dL_take_18 : decode cL_take 18 = .ok (.iconst 0, 1) := by decide +kernel
theorem dL_take_19 : decode cL_take 19 = .ok (.ireturn, 1) := by decide +kernel
theorem dL_isHeld_0 : decode cL_isHeld 0 = .ok (.aload_n 2, 1) := by decide +kernel
theorem dL_isHeld_1 : decode cL_isHeld 1 = .ok (.iconst 0, 1) := by decide +kernel
theorem dL_isHeld_2 : decode cL_isHeld 2 = .ok (.aload_n 0, 1) := by decide +kernel
theorem dL_isHeld_3 : decode cL_isHeld 3 = .ok (.iload_n 1, 1) := by decide +kernel
theorem dL_isHeld_4 : decode cL_isHeld 4 = .ok (.invokevirtual 25, 3) := by decide +kernel
theorem dL_isHeld_7 : decode cL_isHeld 7 = .ok (.ifCond .eq 7, 3) := by decide +kernel
theorem dL_isHeld_10 : decode cL_isHeld 10 = .ok (.lconst 1, 1) := by decide +kernel
theorem dL_isHeld_11 : decode cL_isHeld 11 = .ok (.goto 4, 3) := by decide +kernel
theorem dL_isHeld_14 : decode cL_isHeld 14 = .ok (.lconst 0, 1) := by decide +kernel
theorem dL_isHeld_15 : decode cL_isHeld 15 = .ok (.lastore, 1) := by decide +kernel
theorem dL_isHeld_16 : decode cL_isHeld 16 = .ok (.goto 6, 3) := by decide +kernel
theorem dL_isHeld_19 : decode cL_isHeld 19 = .ok (.astore_n 3, 1) := by decide +kernel
theorem dL_isHeld_20 : decode cL_isHeld 20 = .ok (.iconst 1, 1) := by decide +kernel
theorem dL_isHeld_21 : decode cL_isHeld 21 = .ok (.ireturn, 1) := by decide +kernel
theorem dL_isHeld_22 : decode cL_isHeld 22 = .ok (.iconst 0, 1) := by decide +kernel
theorem dL_isHeld_23 : decode cL_isHeld 23 = .ok (.ireturn, 1) := by decide +kernel
theorem dL_side_0 : decode cL_side 0 = .ok (.aload_n 3, 1) := by decide +kernel
theorem dL_side_1 : decode cL_side 1 = .ok (.iconst 0, 1) := by decide +kernel
theorem dL_side_2 : decode cL_side 2 = .ok (.aload_n 0, 1) := by decide +kernel
theorem dL_side_3 : decode cL_side 3 = .ok (.iload_n 1, 1) := by decide +kernel
theorem dL_side_4 : decode cL_side 4 = .ok (.iload_n 2, 1) := by decide +kernel
theorem dL_side_5 : decode cL_side 5 = .ok (.invokevirtual 29, 3) := by decide +kernel
theorem dL_side_8 : decode cL_side 8 = .ok (.i2l, 1) := by decide +kernel
theorem dL_side_9 : decode cL_side 9 = .ok (.lastore, 1) := by decide +kernel
theorem dL_side_10 : decode cL_side 10 = .ok (.goto 11, 3) := by decide +kernel
theorem dL_side_13 : decode cL_side 13 = .ok (.astore 4, 2) := by decide +kernel
theorem dL_side_15 : decode cL_side 15 = .ok (.iconst 1, 1) := by decide +kernel
theorem dL_side_16 : decode cL_side 16 = .ok (.ireturn, 1) := by decide +kernel
theorem dL_side_17 : decode cL_side 17 = .ok (.astore 4, 2) := by decide +kernel
theorem dL_side_19 : decode cL_side 19 = .ok (.iconst 2, 1) := by decide +kernel
theorem dL_side_20 : decode cL_side 20 = .ok (.ireturn, 1) := by decide +kernel
theorem dL_side_21 : decode cL_side 21 = .ok (.iconst 0, 1) := by decide +kernel
theorem dL_side_22 : decode cL_side 22 = .ok (.ireturn, 1) := by decide +kernel
theorem dL_copy_0 : decode cL_copy 0 = .ok (.aload_n 3, 1) := by decide +kernel
theorem dL_copy_1 : decode cL_copy 1 = .ok (.iconst 0, 1) := by decide +kernel
theorem dL_copy_2 : decode cL_copy 2 = .ok (.aload_n 0, 1) := by decide +kernel
theorem dL_copy_3 : decode cL_copy 3 = .ok (.iload_n 1, 1) := by decide +kernel
theorem dL_copy_4 : decode cL_copy 4 = .ok (.iload_n 2, 1) := by decide +kernel
theorem dL_copy_5 : decode cL_copy 5 = .ok (.invokevirtual 33, 3) := by decide +kernel
theorem dL_copy_8 : decode cL_copy 8 = .ok (.i2l, 1) := by decide +kernel
theorem dL_copy_9 : decode cL_copy 9 = .ok (.lastore, 1) := by decide +kernel
theorem dL_copy_10 : decode cL_copy 10 = .ok (.goto 11, 3) := by decide +kernel
theorem dL_copy_13 : decode cL_copy 13 = .ok (.astore 4, 2) := by decide +kernel
theorem dL_copy_15 : decode cL_copy 15 = .ok (.iconst 1, 1) := by decide +kernel
theorem dL_copy_16 : decode cL_copy 16 = .ok (.ireturn, 1) := by decide +kernel
theorem dL_copy_17 : decode cL_copy 17 = .ok (.astore 4, 2) := by decide +kernel
theorem dL_copy_19 : decode cL_copy 19 = .ok (.iconst 2, 1) := by decide +kernel
theorem dL_copy_20 : decode cL_copy 20 = .ok (.ireturn, 1) := by decide +kernel
theorem dL_copy_21 : decode cL_copy 21 = .ok (.iconst 0, 1) := by decide +kernel
theorem dL_copy_22 : decode cL_copy 22 = .ok (.ireturn, 1) := by decide +kernel
theorem dL_scale_0 : decode cL_scale 0 = .ok (.aload_n 3, 1) := by decide +kernel
theorem dL_scale_1 : decode cL_scale 1 = .ok (.iconst 0, 1) := by decide +kernel
theorem dL_scale_2 : decode cL_scale 2 = .ok (.aload_n 0, 1) := by decide +kernel
theorem dL_scale_3 : decode cL_scale 3 = .ok (.iload_n 1, 1) := by decide +kernel
theorem dL_scale_4 : decode cL_scale 4 = .ok (.iload_n 2, 1) := by decide +kernel
theorem dL_scale_5 : decode cL_scale 5 = .ok (.invokevirtual 36, 3) := by decide +kernel
theorem dL_scale_8 : decode cL_scale 8 = .ok (.i2l, 1) := by decide +kernel
theorem dL_scale_9 : decode cL_scale 9 = .ok (.lastore, 1) := by decide +kernel
theorem dL_scale_10 : decode cL_scale 10 = .ok (.goto 19, 3) := by decide +kernel
theorem dL_scale_13 : decode cL_scale 13 = .ok (.astore 4, 2) := by decide +kernel
theorem dL_scale_15 : decode cL_scale 15 = .ok (.iconst 1, 1) := by decide +kernel
theorem dL_scale_16 : decode cL_scale 16 = .ok (.ireturn, 1) := by decide +kernel
theorem dL_scale_17 : decode cL_scale 17 = .ok (.astore 4, 2) := by decide +kernel
theorem dL_scale_19 : decode cL_scale 19 = .ok (.iconst 2, 1) := by decide +kernel
theorem dL_scale_20 : decode cL_scale 20 = .ok (.ireturn, 1) := by decide +kernel
theorem dL_scale_21 : decode cL_scale 21 = .ok (.astore 4, 2) := by decide +kernel
theorem dL_scale_23 : decode cL_scale 23 = .ok (.iconst 3, 1) := by decide +kernel
theorem dL_scale_24 : decode cL_scale 24 = .ok (.ireturn, 1) := by decide +kernel
theorem dL_scale_25 : decode cL_scale 25 = .ok (.astore 4, 2) := by decide +kernel
theorem dL_scale_27 : decode cL_scale 27 = .ok (.iconst 4, 1) := by decide +kernel
theorem dL_scale_28 : decode cL_scale 28 = .ok (.ireturn, 1) := by decide +kernel
theorem dL_scale_29 : decode cL_scale 29 = .ok (.iconst 0, 1) := by decide +kernel
theorem dL_scale_30 : decode cL_scale 30 = .ok (.ireturn, 1) := by decide +kernel
theorem dL_reduce_0 : decode cL_reduce 0 = .ok (.aload_n 2, 1) := by decide +kernel
theorem dL_reduce_1 : decode cL_reduce 1 = .ok (.iconst 0, 1) := by decide +kernel
theorem dL_reduce_2 : decode cL_reduce 2 = .ok (.aload_n 0, 1) := by decide +kernel
theorem dL_reduce_3 : decode cL_reduce 3 = .ok (.iload_n 1, 1) := by decide +kernel
theorem dL_reduce_4 : decode cL_reduce 4 = .ok (.invokevirtual 39, 3) := by decide +kernel
theorem dL_reduce_7 : decode cL_reduce 7 = .ok (.i2l, 1) := by decide +kernel
theorem dL_reduce_8 : decode cL_reduce 8 = .ok (.lastore, 1) := by decide +kernel
theorem dL_reduce_9 : decode cL_reduce 9 = .ok (.goto 9, 3) := by decide +kernel
theorem dL_reduce_12 : decode cL_reduce 12 = .ok (.astore_n 3, 1) := by decide +kernel
theorem dL_reduce_13 : decode cL_reduce 13 = .ok (.iconst 1, 1) := by decide +kernel
theorem dL_reduce_14 : decode cL_reduce 14 = .ok (.ireturn, 1) := by decide +kernel
theorem dL_reduce_15 : decode cL_reduce 15 = .ok (.astore_n 3, 1) := by decide +kernel
theorem dL_reduce_16 : decode cL_reduce 16 = .ok (.iconst 2, 1) := by decide +kernel
theorem dL_reduce_17 : decode cL_reduce 17 = .ok (.ireturn, 1) := by decide +kernel
theorem dL_reduce_18 : decode cL_reduce 18 = .ok (.iconst 0, 1) := by decide +kernel
theorem dL_reduce_19 : decode cL_reduce 19 = .ok (.ireturn, 1) := by decide +kernel
theorem dL_join_0 : decode cL_join 0 = .ok (.aload 4, 2) := by decide +kernel
theorem dL_join_2 : decode cL_join 2 = .ok (.iconst 0, 1) := by decide +kernel
theorem dL_join_3 : decode cL_join 3 = .ok (.aload_n 0, 1) := by decide +kernel
theorem dL_join_4 : decode cL_join 4 = .ok (.iload_n 1, 1) := by decide +kernel
theorem dL_join_5 : decode cL_join 5 = .ok (.iload_n 2, 1) := by decide +kernel
theorem dL_join_6 : decode cL_join 6 = .ok (.iload_n 3, 1) := by decide +kernel
theorem dL_join_7 : decode cL_join 7 = .ok (.invokevirtual 42, 3) := by decide +kernel
theorem dL_join_10 : decode cL_join 10 = .ok (.i2l, 1) := by decide +kernel
theorem dL_join_11 : decode cL_join 11 = .ok (.lastore, 1) := by decide +kernel
theorem dL_join_12 : decode cL_join 12 = .ok (.goto 15, 3) := by decide +kernel
theorem dL_join_15 : decode cL_join 15 = .ok (.astore 5, 2) := by decide +kernel
theorem dL_join_17 : decode cL_join 17 = .ok (.iconst 1, 1) := by decide +kernel
theorem dL_join_18 : decode cL_join 18 = .ok (.ireturn, 1) := by decide +kernel
theorem dL_join_19 : decode cL_join 19 = .ok (.astore 5, 2) := by decide +kernel
theorem dL_join_21 : decode cL_join 21 = .ok (.iconst 2, 1) := by decide +kernel
theorem dL_join_22 : decode cL_join 22 = .ok (.ireturn, 1) := by decide +kernel
theorem dL_join_23 : decode cL_join 23 = .ok (.astore 5, 2) := by decide +kernel
theorem dL_join_25 : decode cL_join 25 = .ok (.iconst 3, 1) := by decide +kernel
theorem dL_join_26 : decode cL_join 26 = .ok (.ireturn, 1) := by decide +kernel
theorem dL_join_27 : decode cL_join 27 = .ok (.iconst 0, 1) := by decide +kernel
theorem dL_join_28 : decode cL_join 28 = .ok (.ireturn, 1) := by decide +kernel
theorem dL_kind_0 : decode cL_kind 0 = .ok (.aload_n 2, 1) := by decide +kernel
theorem dL_kind_1 : decode cL_kind 1 = .ok (.iconst 0, 1) := by decide +kernel
theorem dL_kind_2 : decode cL_kind 2 = .ok (.aload_n 0, 1) := by decide +kernel
theorem dL_kind_3 : decode cL_kind 3 = .ok (.iload_n 1, 1) := by decide +kernel
theorem dL_kind_4 : decode cL_kind 4 = .ok (.invokevirtual 46, 3) := by decide +kernel
theorem dL_kind_7 : decode cL_kind 7 = .ok (.i2l, 1) := by decide +kernel
theorem dL_kind_8 : decode cL_kind 8 = .ok (.lastore, 1) := by decide +kernel
theorem dL_kind_9 : decode cL_kind 9 = .ok (.goto 9, 3) := by decide +kernel
theorem dL_kind_12 : decode cL_kind 12 = .ok (.astore_n 3, 1) := by decide +kernel
theorem dL_kind_13 : decode cL_kind 13 = .ok (.iconst 1, 1) := by decide +kernel
theorem dL_kind_14 : decode cL_kind 14 = .ok (.ireturn, 1) := by decide +kernel
theorem dL_kind_15 : decode cL_kind 15 = .ok (.astore_n 3, 1) := by decide +kernel
theorem dL_kind_16 : decode cL_kind 16 = .ok (.iconst 2, 1) := by decide +kernel
theorem dL_kind_17 : decode cL_kind 17 = .ok (.ireturn, 1) := by decide +kernel
theorem dL_kind_18 : decode cL_kind 18 = .ok (.iconst 0, 1) := by decide +kernel
theorem dL_kind_19 : decode cL_kind 19 = .ok (.ireturn, 1) := by decide +kernel
theorem dL_angle_0 : decode cL_angle 0 = .ok (.aload_n 3, 1) := by decide +kernel
theorem dL_angle_1 : decode cL_angle 1 = .ok (.iconst 0, 1) := by decide +kernel
theorem dL_angle_2 : decode cL_angle 2 = .ok (.aload_n 0, 1) := by decide +kernel
theorem dL_angle_3 : decode cL_angle 3 = .ok (.iload_n 1, 1) := by decide +kernel
theorem dL_angle_4 : decode cL_angle 4 = .ok (.iload_n 2, 1) := by decide +kernel
theorem dL_angle_5 : decode cL_angle 5 = .ok (.invokevirtual 49, 3) := by decide +kernel
theorem dL_angle_8 : decode cL_angle 8 = .ok (.i2l, 1) := by decide +kernel
theorem dL_angle_9 : decode cL_angle 9 = .ok (.lastore, 1) := by decide +kernel
theorem dL_angle_10 : decode cL_angle 10 = .ok (.goto 11, 3) := by decide +kernel
theorem dL_angle_13 : decode cL_angle 13 = .ok (.astore 4, 2) := by decide +kernel
theorem dL_angle_15 : decode cL_angle 15 = .ok (.iconst 1, 1) := by decide +kernel
theorem dL_angle_16 : decode cL_angle 16 = .ok (.ireturn, 1) := by decide +kernel
theorem dL_angle_17 : decode cL_angle 17 = .ok (.astore 4, 2) := by decide +kernel
theorem dL_angle_19 : decode cL_angle 19 = .ok (.iconst 2, 1) := by decide +kernel
theorem dL_angle_20 : decode cL_angle 20 = .ok (.ireturn, 1) := by decide +kernel
theorem dL_angle_21 : decode cL_angle 21 = .ok (.iconst 0, 1) := by decide +kernel
theorem dL_angle_22 : decode cL_angle 22 = .ok (.ireturn, 1) := by decide +kernel
theorem dL_areaIsWhole_0 : decode cL_areaIsWhole 0 = .ok (.aload_n 2, 1) := by decide +kernel
theorem dL_areaIsWhole_1 : decode cL_areaIsWhole 1 = .ok (.iconst 0, 1) := by decide +kernel
theorem dL_areaIsWhole_2 : decode cL_areaIsWhole 2 = .ok (.aload_n 0, 1) := by decide +kernel
theorem dL_areaIsWhole_3 : decode cL_areaIsWhole 3 = .ok (.iload_n 1, 1) := by decide +kernel
theorem dL_areaIsWhole_4 : decode cL_areaIsWhole 4 = .ok (.invokevirtual 52, 3) := by decide +kernel
theorem dL_areaIsWhole_7 : decode cL_areaIsWhole 7 = .ok (.ifCond .eq 7, 3) := by decide +kernel
theorem dL_areaIsWhole_10 : decode cL_areaIsWhole 10 = .ok (.lconst 1, 1) := by decide +kernel
theorem dL_areaIsWhole_11 : decode cL_areaIsWhole 11 = .ok (.goto 4, 3) := by decide +kernel
theorem dL_areaIsWhole_14 : decode cL_areaIsWhole 14 = .ok (.lconst 0, 1) := by decide +kernel
theorem dL_areaIsWhole_15 : decode cL_areaIsWhole 15 = .ok (.lastore, 1) := by decide +kernel
theorem dL_areaIsWhole_16 : decode cL_areaIsWhole 16 = .ok (.goto 9, 3) := by decide +kernel
theorem dL_areaIsWhole_19 : decode cL_areaIsWhole 19 = .ok (.astore_n 3, 1) := by decide +kernel
theorem dL_areaIsWhole_20 : decode cL_areaIsWhole 20 = .ok (.iconst 1, 1) := by decide +kernel
theorem dL_areaIsWhole_21 : decode cL_areaIsWhole 21 = .ok (.ireturn, 1) := by decide +kernel
theorem dL_areaIsWhole_22 : decode cL_areaIsWhole 22 = .ok (.astore_n 3, 1) := by decide +kernel
theorem dL_areaIsWhole_23 : decode cL_areaIsWhole 23 = .ok (.iconst 2, 1) := by decide +kernel
theorem dL_areaIsWhole_24 : decode cL_areaIsWhole 24 = .ok (.ireturn, 1) := by decide +kernel
theorem dL_areaIsWhole_25 : decode cL_areaIsWhole 25 = .ok (.iconst 0, 1) := by decide +kernel
theorem dL_areaIsWhole_26 : decode cL_areaIsWhole 26 = .ok (.ireturn, 1) := by decide +kernel
theorem dL_area_0 : decode cL_area 0 = .ok (.aload_n 2, 1) := by decide +kernel
theorem dL_area_1 : decode cL_area 1 = .ok (.iconst 0, 1) := by decide +kernel
theorem dL_area_2 : decode cL_area 2 = .ok (.aload_n 0, 1) := by decide +kernel
theorem dL_area_3 : decode cL_area 3 = .ok (.iload_n 1, 1) := by decide +kernel
theorem dL_area_4 : decode cL_area 4 = .ok (.invokevirtual 55, 3) := by decide +kernel
theorem dL_area_7 : decode cL_area 7 = .ok (.lastore, 1) := by decide +kernel
theorem dL_area_8 : decode cL_area 8 = .ok (.goto 12, 3) := by decide +kernel
theorem dL_area_11 : decode cL_area 11 = .ok (.astore_n 3, 1) := by decide +kernel
theorem dL_area_12 : decode cL_area 12 = .ok (.iconst 1, 1) := by decide +kernel
theorem dL_area_13 : decode cL_area 13 = .ok (.ireturn, 1) := by decide +kernel
theorem dL_area_14 : decode cL_area 14 = .ok (.astore_n 3, 1) := by decide +kernel
theorem dL_area_15 : decode cL_area 15 = .ok (.iconst 2, 1) := by decide +kernel
theorem dL_area_16 : decode cL_area 16 = .ok (.ireturn, 1) := by decide +kernel
theorem dL_area_17 : decode cL_area 17 = .ok (.astore_n 3, 1) := by decide +kernel
theorem dL_area_18 : decode cL_area 18 = .ok (.iconst 3, 1) := by decide +kernel
theorem dL_area_19 : decode cL_area 19 = .ok (.ireturn, 1) := by decide +kernel
theorem dL_area_20 : decode cL_area 20 = .ok (.iconst 0, 1) := by decide +kernel
theorem dL_area_21 : decode cL_area 21 = .ok (.ireturn, 1) := by decide +kernel
theorem dL_circle_0 : decode cL_circle 0 = .ok (.aload_n 3, 1) := by decide +kernel
theorem dL_circle_1 : decode cL_circle 1 = .ok (.iconst 0, 1) := by decide +kernel
theorem dL_circle_2 : decode cL_circle 2 = .ok (.aload_n 0, 1) := by decide +kernel
theorem dL_circle_3 : decode cL_circle 3 = .ok (.iload_n 1, 1) := by decide +kernel
theorem dL_circle_4 : decode cL_circle 4 = .ok (.iload_n 2, 1) := by decide +kernel
theorem dL_circle_5 : decode cL_circle 5 = .ok (.invokevirtual 59, 3) := by decide +kernel
theorem dL_circle_8 : decode cL_circle 8 = .ok (.lastore, 1) := by decide +kernel
theorem dL_circle_9 : decode cL_circle 9 = .ok (.goto 19, 3) := by decide +kernel
theorem dL_circle_12 : decode cL_circle 12 = .ok (.astore 4, 2) := by decide +kernel
theorem dL_circle_14 : decode cL_circle 14 = .ok (.iconst 1, 1) := by decide +kernel
theorem dL_circle_15 : decode cL_circle 15 = .ok (.ireturn, 1) := by decide +kernel
theorem dL_circle_16 : decode cL_circle 16 = .ok (.astore 4, 2) := by decide +kernel
theorem dL_circle_18 : decode cL_circle 18 = .ok (.iconst 2, 1) := by decide +kernel
theorem dL_circle_19 : decode cL_circle 19 = .ok (.ireturn, 1) := by decide +kernel
theorem dL_circle_20 : decode cL_circle 20 = .ok (.astore 4, 2) := by decide +kernel
theorem dL_circle_22 : decode cL_circle 22 = .ok (.iconst 3, 1) := by decide +kernel
theorem dL_circle_23 : decode cL_circle 23 = .ok (.ireturn, 1) := by decide +kernel
theorem dL_circle_24 : decode cL_circle 24 = .ok (.astore 4, 2) := by decide +kernel
theorem dL_circle_26 : decode cL_circle 26 = .ok (.iconst 4, 1) := by decide +kernel
theorem dL_circle_27 : decode cL_circle 27 = .ok (.ireturn, 1) := by decide +kernel
theorem dL_circle_28 : decode cL_circle 28 = .ok (.iconst 0, 1) := by decide +kernel
theorem dL_circle_29 : decode cL_circle 29 = .ok (.ireturn, 1) := by decide +kernel
theorem dL_compareAreas_0 : decode cL_compareAreas 0 = .ok (.aload_n 3, 1) := by decide +kernel
theorem dL_compareAreas_1 : decode cL_compareAreas 1 = .ok (.iconst 0, 1) := by decide +kernel
theorem dL_compareAreas_2 : decode cL_compareAreas 2 = .ok (.aload_n 0, 1) := by decide +kernel
theorem dL_compareAreas_3 : decode cL_compareAreas 3 = .ok (.iload_n 1, 1) := by decide +kernel
theorem dL_compareAreas_4 : decode cL_compareAreas 4 = .ok (.iload_n 2, 1) := by decide +kernel
theorem dL_compareAreas_5 : decode cL_compareAreas 5 = .ok (.invokevirtual 63, 3) := by decide +kernel
theorem dL_compareAreas_8 : decode cL_compareAreas 8 = .ok (.i2l, 1) := by decide +kernel
theorem dL_compareAreas_9 : decode cL_compareAreas 9 = .ok (.lastore, 1) := by decide +kernel
theorem dL_compareAreas_10 : decode cL_compareAreas 10 = .ok (.goto 11, 3) := by decide +kernel
theorem dL_compareAreas_13 : decode cL_compareAreas 13 = .ok (.astore 4, 2) := by decide +kernel
theorem dL_compareAreas_15 : decode cL_compareAreas 15 = .ok (.iconst 1, 1) := by decide +kernel
theorem dL_compareAreas_16 : decode cL_compareAreas 16 = .ok (.ireturn, 1) := by decide +kernel
theorem dL_compareAreas_17 : decode cL_compareAreas 17 = .ok (.astore 4, 2) := by decide +kernel
theorem dL_compareAreas_19 : decode cL_compareAreas 19 = .ok (.iconst 2, 1) := by decide +kernel
theorem dL_compareAreas_20 : decode cL_compareAreas 20 = .ok (.ireturn, 1) := by decide +kernel
theorem dL_compareAreas_21 : decode cL_compareAreas 21 = .ok (.iconst 0, 1) := by decide +kernel
theorem dL_compareAreas_22 : decode cL_compareAreas 22 = .ok (.ireturn, 1) := by decide +kernel
theorem dL_product_0 : decode cL_product 0 = .ok (.aload_n 2, 1) := by decide +kernel
theorem dL_product_1 : decode cL_product 1 = .ok (.iconst 0, 1) := by decide +kernel
theorem dL_product_2 : decode cL_product 2 = .ok (.aload_n 0, 1) := by decide +kernel
theorem dL_product_3 : decode cL_product 3 = .ok (.iload_n 1, 1) := by decide +kernel
theorem dL_product_4 : decode cL_product 4 = .ok (.invokevirtual 66, 3) := by decide +kernel
theorem dL_product_7 : decode cL_product 7 = .ok (.lastore, 1) := by decide +kernel
theorem dL_product_8 : decode cL_product 8 = .ok (.goto 9, 3) := by decide +kernel
theorem dL_product_11 : decode cL_product 11 = .ok (.astore_n 3, 1) := by decide +kernel
theorem dL_product_12 : decode cL_product 12 = .ok (.iconst 1, 1) := by decide +kernel
theorem dL_product_13 : decode cL_product 13 = .ok (.ireturn, 1) := by decide +kernel
theorem dL_product_14 : decode cL_product 14 = .ok (.astore_n 3, 1) := by decide +kernel
theorem dL_product_15 : decode cL_product 15 = .ok (.iconst 2, 1) := by decide +kernel
theorem dL_product_16 : decode cL_product 16 = .ok (.ireturn, 1) := by decide +kernel
theorem dL_product_17 : decode cL_product 17 = .ok (.iconst 0, 1) := by decide +kernel
theorem dL_product_18 : decode cL_product 18 = .ok (.ireturn, 1) := by decide +kernel
theorem dL_bits_0 : decode cL_bits 0 = .ok (.aload_n 2, 1) := by decide +kernel
theorem dL_bits_1 : decode cL_bits 1 = .ok (.iconst 0, 1) := by decide +kernel
theorem dL_bits_2 : decode cL_bits 2 = .ok (.aload_n 0, 1) := by decide +kernel
theorem dL_bits_3 : decode cL_bits 3 = .ok (.iload_n 1, 1) := by decide +kernel
theorem dL_bits_4 : decode cL_bits 4 = .ok (.invokevirtual 69, 3) := by decide +kernel
theorem dL_bits_7 : decode cL_bits 7 = .ok (.i2l, 1) := by decide +kernel
theorem dL_bits_8 : decode cL_bits 8 = .ok (.lastore, 1) := by decide +kernel
theorem dL_bits_9 : decode cL_bits 9 = .ok (.goto 9, 3) := by decide +kernel
theorem dL_bits_12 : decode cL_bits 12 = .ok (.astore_n 3, 1) := by decide +kernel
theorem dL_bits_13 : decode cL_bits 13 = .ok (.iconst 1, 1) := by decide +kernel
theorem dL_bits_14 : decode cL_bits 14 = .ok (.ireturn, 1) := by decide +kernel
theorem dL_bits_15 : decode cL_bits 15 = .ok (.astore_n 3, 1) := by decide +kernel
theorem dL_bits_16 : decode cL_bits 16 = .ok (.iconst 2, 1) := by decide +kernel
theorem dL_bits_17 : decode cL_bits 17 = .ok (.ireturn, 1) := by decide +kernel
theorem dL_bits_18 : decode cL_bits 18 = .ok (.iconst 0, 1) := by decide +kernel
theorem dL_bits_19 : decode cL_bits 19 = .ok (.ireturn, 1) := by decide +kernel
theorem dL_hypot_0 : decode cL_hypot 0 = .ok (.aload 4, 2) := by decide +kernel
theorem dL_hypot_2 : decode cL_hypot 2 = .ok (.iconst 0, 1) := by decide +kernel
theorem dL_hypot_3 : decode cL_hypot 3 = .ok (.aload_n 0, 1) := by decide +kernel
theorem dL_hypot_4 : decode cL_hypot 4 = .ok (.iload_n 1, 1) := by decide +kernel
theorem dL_hypot_5 : decode cL_hypot 5 = .ok (.iload_n 2, 1) := by decide +kernel
theorem dL_hypot_6 : decode cL_hypot 6 = .ok (.iload_n 3, 1) := by decide +kernel
theorem dL_hypot_7 : decode cL_hypot 7 = .ok (.invokevirtual 72, 3) := by decide +kernel
theorem dL_hypot_10 : decode cL_hypot 10 = .ok (.dastore, 1) := by decide +kernel
theorem dL_hypot_11 : decode cL_hypot 11 = .ok (.goto 11, 3) := by decide +kernel
theorem dL_hypot_14 : decode cL_hypot 14 = .ok (.astore 5, 2) := by decide +kernel
theorem dL_hypot_16 : decode cL_hypot 16 = .ok (.iconst 1, 1) := by decide +kernel
theorem dL_hypot_17 : decode cL_hypot 17 = .ok (.ireturn, 1) := by decide +kernel
theorem dL_hypot_18 : decode cL_hypot 18 = .ok (.astore 5, 2) := by decide +kernel
theorem dL_hypot_20 : decode cL_hypot 20 = .ok (.iconst 2, 1) := by decide +kernel
theorem dL_hypot_21 : decode cL_hypot 21 = .ok (.ireturn, 1) := by decide +kernel
theorem dL_hypot_22 : decode cL_hypot 22 = .ok (.iconst 0, 1) := by decide +kernel
theorem dL_hypot_23 : decode cL_hypot 23 = .ok (.ireturn, 1) := by decide +kernel
theorem dL_root_0 : decode cL_root 0 = .ok (.aload_n 3, 1) := by decide +kernel
theorem dL_root_1 : decode cL_root 1 = .ok (.iconst 0, 1) := by decide +kernel
theorem dL_root_2 : decode cL_root 2 = .ok (.aload_n 0, 1) := by decide +kernel
theorem dL_root_3 : decode cL_root 3 = .ok (.lload_n 1, 1) := by decide +kernel
theorem dL_root_4 : decode cL_root 4 = .ok (.invokevirtual 76, 3) := by decide +kernel
theorem dL_root_7 : decode cL_root 7 = .ok (.dastore, 1) := by decide +kernel
theorem dL_root_8 : decode cL_root 8 = .ok (.goto 7, 3) := by decide +kernel
theorem dL_root_11 : decode cL_root 11 = .ok (.astore 4, 2) := by decide +kernel
theorem dL_root_13 : decode cL_root 13 = .ok (.iconst 1, 1) := by decide +kernel
theorem dL_root_14 : decode cL_root 14 = .ok (.ireturn, 1) := by decide +kernel
theorem dL_root_15 : decode cL_root 15 = .ok (.iconst 0, 1) := by decide +kernel
theorem dL_root_16 : decode cL_root 16 = .ok (.ireturn, 1) := by decide +kernel
theorem dL_shape_0 : decode cL_shape 0 = .ok (.aload_n 2, 1) := by decide +kernel
theorem dL_shape_1 : decode cL_shape 1 = .ok (.iconst 0, 1) := by decide +kernel
theorem dL_shape_2 : decode cL_shape 2 = .ok (.aload_n 0, 1) := by decide +kernel
theorem dL_shape_3 : decode cL_shape 3 = .ok (.iload_n 1, 1) := by decide +kernel
theorem dL_shape_4 : decode cL_shape 4 = .ok (.invokevirtual 80, 3) := by decide +kernel
theorem dL_shape_7 : decode cL_shape 7 = .ok (.f2d, 1) := by decide +kernel
theorem dL_shape_8 : decode cL_shape 8 = .ok (.dastore, 1) := by decide +kernel
theorem dL_shape_9 : decode cL_shape 9 = .ok (.goto 9, 3) := by decide +kernel
theorem dL_shape_12 : decode cL_shape 12 = .ok (.astore_n 3, 1) := by decide +kernel
theorem dL_shape_13 : decode cL_shape 13 = .ok (.iconst 1, 1) := by decide +kernel
theorem dL_shape_14 : decode cL_shape 14 = .ok (.ireturn, 1) := by decide +kernel
theorem dL_shape_15 : decode cL_shape 15 = .ok (.astore_n 3, 1) := by decide +kernel
theorem dL_shape_16 : decode cL_shape 16 = .ok (.iconst 2, 1) := by decide +kernel
theorem dL_shape_17 : decode cL_shape 17 = .ok (.ireturn, 1) := by decide +kernel
theorem dL_shape_18 : decode cL_shape 18 = .ok (.iconst 0, 1) := by decide +kernel
theorem dL_shape_19 : decode cL_shape 19 = .ok (.ireturn, 1) := by decide +kernel
theorem dL_euclid_0 : decode cL_euclid 0 = .ok (.aload 4, 2) := by decide +kernel
theorem dL_euclid_2 : decode cL_euclid 2 = .ok (.iconst 0, 1) := by decide +kernel
theorem dL_euclid_3 : decode cL_euclid 3 = .ok (.aload_n 0, 1) := by decide +kernel
theorem dL_euclid_4 : decode cL_euclid 4 = .ok (.iload_n 1, 1) := by decide +kernel
theorem dL_euclid_5 : decode cL_euclid 5 = .ok (.iload_n 2, 1) := by decide +kernel
theorem dL_euclid_6 : decode cL_euclid 6 = .ok (.iload_n 3, 1) := by decide +kernel
theorem dL_euclid_7 : decode cL_euclid 7 = .ok (.invokevirtual 84, 3) := by decide +kernel
theorem dL_euclid_10 : decode cL_euclid 10 = .ok (.i2l, 1) := by decide +kernel
theorem dL_euclid_11 : decode cL_euclid 11 = .ok (.lastore, 1) := by decide +kernel
theorem dL_euclid_12 : decode cL_euclid 12 = .ok (.goto 15, 3) := by decide +kernel
theorem dL_euclid_15 : decode cL_euclid 15 = .ok (.astore 5, 2) := by decide +kernel
theorem dL_euclid_17 : decode cL_euclid 17 = .ok (.iconst 1, 1) := by decide +kernel
theorem dL_euclid_18 : decode cL_euclid 18 = .ok (.ireturn, 1) := by decide +kernel
theorem dL_euclid_19 : decode cL_euclid 19 = .ok (.astore 5, 2) := by decide +kernel
theorem dL_euclid_21 : decode cL_euclid 21 = .ok (.iconst 2, 1) := by decide +kernel
theorem dL_euclid_22 : decode cL_euclid 22 = .ok (.ireturn, 1) := by decide +kernel
theorem dL_euclid_23 : decode cL_euclid 23 = .ok (.astore 5, 2) := by decide +kernel
theorem dL_euclid_25 : decode cL_euclid 25 = .ok (.iconst 3, 1) := by decide +kernel
theorem dL_euclid_26 : decode cL_euclid 26 = .ok (.ireturn, 1) := by decide +kernel
theorem dL_euclid_27 : decode cL_euclid 27 = .ok (.iconst 0, 1) := by decide +kernel
theorem dL_euclid_28 : decode cL_euclid 28 = .ok (.ireturn, 1) := by decide +kernel
theorem dL_step_0 : decode cL_step 0 = .ok (.aload_n 3, 1) := by decide +kernel
theorem dL_step_1 : decode cL_step 1 = .ok (.iconst 0, 1) := by decide +kernel
theorem dL_step_2 : decode cL_step 2 = .ok (.aload_n 0, 1) := by decide +kernel
theorem dL_step_3 : decode cL_step 3 = .ok (.iload_n 1, 1) := by decide +kernel
theorem dL_step_4 : decode cL_step 4 = .ok (.iload_n 2, 1) := by decide +kernel
theorem dL_step_5 : decode cL_step 5 = .ok (.invokevirtual 87, 3) := by decide +kernel
theorem dL_step_8 : decode cL_step 8 = .ok (.i2l, 1) := by decide +kernel
theorem dL_step_9 : decode cL_step 9 = .ok (.lastore, 1) := by decide +kernel
theorem dL_step_10 : decode cL_step 10 = .ok (.goto 19, 3) := by decide +kernel
theorem dL_step_13 : decode cL_step 13 = .ok (.astore 4, 2) := by decide +kernel
theorem dL_step_15 : decode cL_step 15 = .ok (.iconst 1, 1) := by decide +kernel
theorem dL_step_16 : decode cL_step 16 = .ok (.ireturn, 1) := by decide +kernel
theorem dL_step_17 : decode cL_step 17 = .ok (.astore 4, 2) := by decide +kernel
theorem dL_step_19 : decode cL_step 19 = .ok (.iconst 2, 1) := by decide +kernel
theorem dL_step_20 : decode cL_step 20 = .ok (.ireturn, 1) := by decide +kernel
theorem dL_step_21 : decode cL_step 21 = .ok (.astore 4, 2) := by decide +kernel
theorem dL_step_23 : decode cL_step 23 = .ok (.iconst 3, 1) := by decide +kernel
theorem dL_step_24 : decode cL_step 24 = .ok (.ireturn, 1) := by decide +kernel
theorem dL_step_25 : decode cL_step 25 = .ok (.astore 4, 2) := by decide +kernel
theorem dL_step_27 : decode cL_step 27 = .ok (.iconst 4, 1) := by decide +kernel
theorem dL_step_28 : decode cL_step 28 = .ok (.ireturn, 1) := by decide +kernel
theorem dL_step_29 : decode cL_step 29 = .ok (.iconst 0, 1) := by decide +kernel
theorem dL_step_30 : decode cL_step 30 = .ok (.ireturn, 1) := by decide +kernel
theorem dL_depth_0 : decode cL_depth 0 = .ok (.aload_n 2, 1) := by decide +kernel
theorem dL_depth_1 : decode cL_depth 1 = .ok (.iconst 0, 1) := by decide +kernel
theorem dL_depth_2 : decode cL_depth 2 = .ok (.aload_n 0, 1) := by decide +kernel
theorem dL_depth_3 : decode cL_depth 3 = .ok (.iload_n 1, 1) := by decide +kernel
theorem dL_depth_4 : decode cL_depth 4 = .ok (.invokevirtual 91, 3) := by decide +kernel
theorem dL_depth_7 : decode cL_depth 7 = .ok (.i2l, 1) := by decide +kernel
theorem dL_depth_8 : decode cL_depth 8 = .ok (.lastore, 1) := by decide +kernel
theorem dL_depth_9 : decode cL_depth 9 = .ok (.goto 12, 3) := by decide +kernel
theorem dL_depth_12 : decode cL_depth 12 = .ok (.astore_n 3, 1) := by decide +kernel
theorem dL_depth_13 : decode cL_depth 13 = .ok (.iconst 1, 1) := by decide +kernel
theorem dL_depth_14 : decode cL_depth 14 = .ok (.ireturn, 1) := by decide +kernel
theorem dL_depth_15 : decode cL_depth 15 = .ok (.astore_n 3, 1) := by decide +kernel
theorem dL_depth_16 : decode cL_depth 16 = .ok (.iconst 2, 1) := by decide +kernel
theorem dL_depth_17 : decode cL_depth 17 = .ok (.ireturn, 1) := by decide +kernel
theorem dL_depth_18 : decode cL_depth 18 = .ok (.astore_n 3, 1) := by decide +kernel
theorem dL_depth_19 : decode cL_depth 19 = .ok (.iconst 3, 1) := by decide +kernel
theorem dL_depth_20 : decode cL_depth 20 = .ok (.ireturn, 1) := by decide +kernel
theorem dL_depth_21 : decode cL_depth 21 = .ok (.iconst 0, 1) := by decide +kernel
theorem dL_depth_22 : decode cL_depth 22 = .ok (.ireturn, 1) := by decide +kernel
theorem dL_generator_0 : decode cL_generator 0 = .ok (.aload_n 3, 1) := by decide +kernel
theorem dL_generator_1 : decode cL_generator 1 = .ok (.iconst 0, 1) := by decide +kernel
theorem dL_generator_2 : decode cL_generator 2 = .ok (.aload_n 0, 1) := by decide +kernel
theorem dL_generator_3 : decode cL_generator 3 = .ok (.iload_n 1, 1) := by decide +kernel
theorem dL_generator_4 : decode cL_generator 4 = .ok (.iload_n 2, 1) := by decide +kernel
theorem dL_generator_5 : decode cL_generator 5 = .ok (.invokevirtual 94, 3) := by decide +kernel
theorem dL_generator_8 : decode cL_generator 8 = .ok (.i2l, 1) := by decide +kernel
theorem dL_generator_9 : decode cL_generator 9 = .ok (.lastore, 1) := by decide +kernel
theorem dL_generator_10 : decode cL_generator 10 = .ok (.goto 19, 3) := by decide +kernel
theorem dL_generator_13 : decode cL_generator 13 = .ok (.astore 4, 2) := by decide +kernel
theorem dL_generator_15 : decode cL_generator 15 = .ok (.iconst 1, 1) := by decide +kernel
theorem dL_generator_16 : decode cL_generator 16 = .ok (.ireturn, 1) := by decide +kernel
theorem dL_generator_17 : decode cL_generator 17 = .ok (.astore 4, 2) := by decide +kernel
theorem dL_generator_19 : decode cL_generator 19 = .ok (.iconst 2, 1) := by decide +kernel
theorem dL_generator_20 : decode cL_generator 20 = .ok (.ireturn, 1) := by decide +kernel
theorem dL_generator_21 : decode cL_generator 21 = .ok (.astore 4, 2) := by decide +kernel
theorem dL_generator_23 : decode cL_generator 23 = .ok (.iconst 3, 1) := by decide +kernel
theorem dL_generator_24 : decode cL_generator 24 = .ok (.ireturn, 1) := by decide +kernel
theorem dL_generator_25 : decode cL_generator 25 = .ok (.astore 4, 2) := by decide +kernel
theorem dL_generator_27 : decode cL_generator 27 = .ok (.iconst 4, 1) := by decide +kernel
theorem dL_generator_28 : decode cL_generator 28 = .ok (.ireturn, 1) := by decide +kernel
theorem dL_generator_29 : decode cL_generator 29 = .ok (.iconst 0, 1) := by decide +kernel
theorem dL_generator_30 : decode cL_generator 30 = .ok (.ireturn, 1) := by decide +kernel
theorem dL_list_0 : decode cL_list 0 = .ok (.aload_n 3, 1) := by decide +kernel
theorem dL_list_1 : decode cL_list 1 = .ok (.iconst 0, 1) := by decide +kernel
theorem dL_list_2 : decode cL_list 2 = .ok (.aload_n 0, 1) := by decide +kernel
theorem dL_list_3 : decode cL_list 3 = .ok (.iload_n 1, 1) := by decide +kernel
theorem dL_list_4 : decode cL_list 4 = .ok (.iload_n 2, 1) := by decide +kernel
theorem dL_list_5 : decode cL_list 5 = .ok (.invokevirtual 97, 3) := by decide +kernel
theorem dL_list_8 : decode cL_list 8 = .ok (.i2l, 1) := by decide +kernel
theorem dL_list_9 : decode cL_list 9 = .ok (.lastore, 1) := by decide +kernel
theorem dL_list_10 : decode cL_list 10 = .ok (.goto 7, 3) := by decide +kernel
theorem dL_list_13 : decode cL_list 13 = .ok (.astore 4, 2) := by decide +kernel
theorem dL_list_15 : decode cL_list 15 = .ok (.iconst 1, 1) := by decide +kernel
theorem dL_list_16 : decode cL_list 16 = .ok (.ireturn, 1) := by decide +kernel
theorem dL_list_17 : decode cL_list 17 = .ok (.iconst 0, 1) := by decide +kernel
theorem dL_list_18 : decode cL_list 18 = .ok (.ireturn, 1) := by decide +kernel
theorem dL_listed_0 : decode cL_listed 0 = .ok (.aload_n 3, 1) := by decide +kernel
theorem dL_listed_1 : decode cL_listed 1 = .ok (.iconst 0, 1) := by decide +kernel
theorem dL_listed_2 : decode cL_listed 2 = .ok (.aload_n 0, 1) := by decide +kernel
theorem dL_listed_3 : decode cL_listed 3 = .ok (.iload_n 1, 1) := by decide +kernel
theorem dL_listed_4 : decode cL_listed 4 = .ok (.iload_n 2, 1) := by decide +kernel
theorem dL_listed_5 : decode cL_listed 5 = .ok (.invokevirtual 101, 3) := by decide +kernel
theorem dL_listed_8 : decode cL_listed 8 = .ok (.i2l, 1) := by decide +kernel
theorem dL_listed_9 : decode cL_listed 9 = .ok (.lastore, 1) := by decide +kernel
theorem dL_listed_10 : decode cL_listed 10 = .ok (.goto 7, 3) := by decide +kernel
theorem dL_listed_13 : decode cL_listed 13 = .ok (.astore 4, 2) := by decide +kernel
theorem dL_listed_15 : decode cL_listed 15 = .ok (.iconst 1, 1) := by decide +kernel
theorem dL_listed_16 : decode cL_listed 16 = .ok (.ireturn, 1) := by decide +kernel
theorem dL_listed_17 : decode cL_listed 17 = .ok (.iconst 0, 1) := by decide +kernel
theorem dL_listed_18 : decode cL_listed 18 = .ok (.ireturn, 1) := by decide +kernel
theorem dL_counts_0 : decode cL_counts 0 = .ok (.aload_n 3, 1) := by decide +kernel
theorem dL_counts_1 : decode cL_counts 1 = .ok (.iconst 0, 1) := by decide +kernel
theorem dL_counts_2 : decode cL_counts 2 = .ok (.aload_n 0, 1) := by decide +kernel
theorem dL_counts_3 : decode cL_counts 3 = .ok (.iload_n 1, 1) := by decide +kernel
theorem dL_counts_4 : decode cL_counts 4 = .ok (.iload_n 2, 1) := by decide +kernel
theorem dL_counts_5 : decode cL_counts 5 = .ok (.invokevirtual 104, 3) := by decide +kernel
theorem dL_counts_8 : decode cL_counts 8 = .ok (.i2l, 1) := by decide +kernel
theorem dL_counts_9 : decode cL_counts 9 = .ok (.lastore, 1) := by decide +kernel
theorem dL_counts_10 : decode cL_counts 10 = .ok (.goto 7, 3) := by decide +kernel
theorem dL_counts_13 : decode cL_counts 13 = .ok (.astore 4, 2) := by decide +kernel
theorem dL_counts_15 : decode cL_counts 15 = .ok (.iconst 1, 1) := by decide +kernel
theorem dL_counts_16 : decode cL_counts 16 = .ok (.ireturn, 1) := by decide +kernel
theorem dL_counts_17 : decode cL_counts 17 = .ok (.iconst 0, 1) := by decide +kernel
theorem dL_counts_18 : decode cL_counts 18 = .ok (.ireturn, 1) := by decide +kernel
theorem dL_sort_0 : decode cL_sort 0 = .ok (.aload_n 2, 1) := by decide +kernel
theorem dL_sort_1 : decode cL_sort 1 = .ok (.iconst 0, 1) := by decide +kernel
theorem dL_sort_2 : decode cL_sort 2 = .ok (.aload_n 0, 1) := by decide +kernel
theorem dL_sort_3 : decode cL_sort 3 = .ok (.iload_n 1, 1) := by decide +kernel
theorem dL_sort_4 : decode cL_sort 4 = .ok (.invokevirtual 107, 3) := by decide +kernel
theorem dL_sort_7 : decode cL_sort 7 = .ok (.i2l, 1) := by decide +kernel
theorem dL_sort_8 : decode cL_sort 8 = .ok (.lastore, 1) := by decide +kernel
theorem dL_sort_9 : decode cL_sort 9 = .ok (.goto 6, 3) := by decide +kernel
theorem dL_sort_12 : decode cL_sort 12 = .ok (.astore_n 3, 1) := by decide +kernel
theorem dL_sort_13 : decode cL_sort 13 = .ok (.iconst 1, 1) := by decide +kernel
theorem dL_sort_14 : decode cL_sort 14 = .ok (.ireturn, 1) := by decide +kernel
theorem dL_sort_15 : decode cL_sort 15 = .ok (.iconst 0, 1) := by decide +kernel
theorem dL_sort_16 : decode cL_sort 16 = .ok (.ireturn, 1) := by decide +kernel
theorem dL_sorted_0 : decode cL_sorted 0 = .ok (.aload_n 2, 1) := by decide +kernel
theorem dL_sorted_1 : decode cL_sorted 1 = .ok (.iconst 0, 1) := by decide +kernel
theorem dL_sorted_2 : decode cL_sorted 2 = .ok (.aload_n 0, 1) := by decide +kernel
theorem dL_sorted_3 : decode cL_sorted 3 = .ok (.iload_n 1, 1) := by decide +kernel
theorem dL_sorted_4 : decode cL_sorted 4 = .ok (.invokevirtual 111, 3) := by decide +kernel
theorem dL_sorted_7 : decode cL_sorted 7 = .ok (.i2l, 1) := by decide +kernel
theorem dL_sorted_8 : decode cL_sorted 8 = .ok (.lastore, 1) := by decide +kernel
theorem dL_sorted_9 : decode cL_sorted 9 = .ok (.goto 6, 3) := by decide +kernel
theorem dL_sorted_12 : decode cL_sorted 12 = .ok (.astore_n 3, 1) := by decide +kernel
theorem dL_sorted_13 : decode cL_sorted 13 = .ok (.iconst 1, 1) := by decide +kernel
theorem dL_sorted_14 : decode cL_sorted 14 = .ok (.ireturn, 1) := by decide +kernel
theorem dL_sorted_15 : decode cL_sorted 15 = .ok (.iconst 0, 1) := by decide +kernel
theorem dL_sorted_16 : decode cL_sorted 16 = .ok (.ireturn, 1) := by decide +kernel
theorem dL_isTrue_0 : decode cL_isTrue 0 = .ok (.aload_n 2, 1) := by decide +kernel
theorem dL_isTrue_1 : decode cL_isTrue 1 = .ok (.iconst 0, 1) := by decide +kernel
theorem dL_isTrue_2 : decode cL_isTrue 2 = .ok (.aload_n 0, 1) := by decide +kernel
theorem dL_isTrue_3 : decode cL_isTrue 3 = .ok (.iload_n 1, 1) := by decide +kernel
theorem dL_isTrue_4 : decode cL_isTrue 4 = .ok (.invokevirtual 114, 3) := by decide +kernel
theorem dL_isTrue_7 : decode cL_isTrue 7 = .ok (.ifCond .eq 7, 3) := by decide +kernel
theorem dL_isTrue_10 : decode cL_isTrue 10 = .ok (.lconst 1, 1) := by decide +kernel
theorem dL_isTrue_11 : decode cL_isTrue 11 = .ok (.goto 4, 3) := by decide +kernel
theorem dL_isTrue_14 : decode cL_isTrue 14 = .ok (.lconst 0, 1) := by decide +kernel
theorem dL_isTrue_15 : decode cL_isTrue 15 = .ok (.lastore, 1) := by decide +kernel
theorem dL_isTrue_16 : decode cL_isTrue 16 = .ok (.goto 9, 3) := by decide +kernel
theorem dL_isTrue_19 : decode cL_isTrue 19 = .ok (.astore_n 3, 1) := by decide +kernel
theorem dL_isTrue_20 : decode cL_isTrue 20 = .ok (.iconst 1, 1) := by decide +kernel
theorem dL_isTrue_21 : decode cL_isTrue 21 = .ok (.ireturn, 1) := by decide +kernel
theorem dL_isTrue_22 : decode cL_isTrue 22 = .ok (.astore_n 3, 1) := by decide +kernel
theorem dL_isTrue_23 : decode cL_isTrue 23 = .ok (.iconst 2, 1) := by decide +kernel
theorem dL_isTrue_24 : decode cL_isTrue 24 = .ok (.ireturn, 1) := by decide +kernel
theorem dL_isTrue_25 : decode cL_isTrue 25 = .ok (.iconst 0, 1) := by decide +kernel
theorem dL_isTrue_26 : decode cL_isTrue 26 = .ok (.ireturn, 1) := by decide +kernel
theorem dL_rootIsTrue_0 : decode cL_rootIsTrue 0 = .ok (.aload_n 3, 1) := by decide +kernel
theorem dL_rootIsTrue_1 : decode cL_rootIsTrue 1 = .ok (.iconst 0, 1) := by decide +kernel
theorem dL_rootIsTrue_2 : decode cL_rootIsTrue 2 = .ok (.aload_n 0, 1) := by decide +kernel
theorem dL_rootIsTrue_3 : decode cL_rootIsTrue 3 = .ok (.lload_n 1, 1) := by decide +kernel
theorem dL_rootIsTrue_4 : decode cL_rootIsTrue 4 = .ok (.invokevirtual 117, 3) := by decide +kernel
theorem dL_rootIsTrue_7 : decode cL_rootIsTrue 7 = .ok (.ifCond .eq 7, 3) := by decide +kernel
theorem dL_rootIsTrue_10 : decode cL_rootIsTrue 10 = .ok (.lconst 1, 1) := by decide +kernel
theorem dL_rootIsTrue_11 : decode cL_rootIsTrue 11 = .ok (.goto 4, 3) := by decide +kernel
theorem dL_rootIsTrue_14 : decode cL_rootIsTrue 14 = .ok (.lconst 0, 1) := by decide +kernel
theorem dL_rootIsTrue_15 : decode cL_rootIsTrue 15 = .ok (.lastore, 1) := by decide +kernel
theorem dL_rootIsTrue_16 : decode cL_rootIsTrue 16 = .ok (.goto 7, 3) := by decide +kernel
theorem dL_rootIsTrue_19 : decode cL_rootIsTrue 19 = .ok (.astore 4, 2) := by decide +kernel
theorem dL_rootIsTrue_21 : decode cL_rootIsTrue 21 = .ok (.iconst 1, 1) := by decide +kernel
theorem dL_rootIsTrue_22 : decode cL_rootIsTrue 22 = .ok (.ireturn, 1) := by decide +kernel
theorem dL_rootIsTrue_23 : decode cL_rootIsTrue 23 = .ok (.iconst 0, 1) := by decide +kernel
theorem dL_rootIsTrue_24 : decode cL_rootIsTrue 24 = .ok (.ireturn, 1) := by decide +kernel
theorem dL_hypotIsTrue_0 : decode cL_hypotIsTrue 0 = .ok (.aload_n 3, 1) := by decide +kernel
theorem dL_hypotIsTrue_1 : decode cL_hypotIsTrue 1 = .ok (.iconst 0, 1) := by decide +kernel
theorem dL_hypotIsTrue_2 : decode cL_hypotIsTrue 2 = .ok (.aload_n 0, 1) := by decide +kernel
theorem dL_hypotIsTrue_3 : decode cL_hypotIsTrue 3 = .ok (.iload_n 1, 1) := by decide +kernel
theorem dL_hypotIsTrue_4 : decode cL_hypotIsTrue 4 = .ok (.iload_n 2, 1) := by decide +kernel
theorem dL_hypotIsTrue_5 : decode cL_hypotIsTrue 5 = .ok (.invokevirtual 121, 3) := by decide +kernel
theorem dL_hypotIsTrue_8 : decode cL_hypotIsTrue 8 = .ok (.ifCond .eq 7, 3) := by decide +kernel
theorem dL_hypotIsTrue_11 : decode cL_hypotIsTrue 11 = .ok (.lconst 1, 1) := by decide +kernel
theorem dL_hypotIsTrue_12 : decode cL_hypotIsTrue 12 = .ok (.goto 4, 3) := by decide +kernel
theorem dL_hypotIsTrue_15 : decode cL_hypotIsTrue 15 = .ok (.lconst 0, 1) := by decide +kernel
theorem dL_hypotIsTrue_16 : decode cL_hypotIsTrue 16 = .ok (.lastore, 1) := by decide +kernel
theorem dL_hypotIsTrue_17 : decode cL_hypotIsTrue 17 = .ok (.goto 7, 3) := by decide +kernel
theorem dL_hypotIsTrue_20 : decode cL_hypotIsTrue 20 = .ok (.astore 4, 2) := by decide +kernel
theorem dL_hypotIsTrue_22 : decode cL_hypotIsTrue 22 = .ok (.iconst 1, 1) := by decide +kernel
theorem dL_hypotIsTrue_23 : decode cL_hypotIsTrue 23 = .ok (.ireturn, 1) := by decide +kernel
theorem dL_hypotIsTrue_24 : decode cL_hypotIsTrue 24 = .ok (.iconst 0, 1) := by decide +kernel
theorem dL_hypotIsTrue_25 : decode cL_hypotIsTrue 25 = .ok (.ireturn, 1) := by decide +kernel
theorem dL_listIsTrue_0 : decode cL_listIsTrue 0 = .ok (.aload_n 2, 1) := by decide +kernel
theorem dL_listIsTrue_1 : decode cL_listIsTrue 1 = .ok (.iconst 0, 1) := by decide +kernel
theorem dL_listIsTrue_2 : decode cL_listIsTrue 2 = .ok (.aload_n 0, 1) := by decide +kernel
theorem dL_listIsTrue_3 : decode cL_listIsTrue 3 = .ok (.iload_n 1, 1) := by decide +kernel
theorem dL_listIsTrue_4 : decode cL_listIsTrue 4 = .ok (.invokevirtual 125, 3) := by decide +kernel
theorem dL_listIsTrue_7 : decode cL_listIsTrue 7 = .ok (.ifCond .eq 7, 3) := by decide +kernel
theorem dL_listIsTrue_10 : decode cL_listIsTrue 10 = .ok (.lconst 1, 1) := by decide +kernel
theorem dL_listIsTrue_11 : decode cL_listIsTrue 11 = .ok (.goto 4, 3) := by decide +kernel
theorem dL_listIsTrue_14 : decode cL_listIsTrue 14 = .ok (.lconst 0, 1) := by decide +kernel
theorem dL_listIsTrue_15 : decode cL_listIsTrue 15 = .ok (.lastore, 1) := by decide +kernel
theorem dL_listIsTrue_16 : decode cL_listIsTrue 16 = .ok (.goto 6, 3) := by decide +kernel
theorem dL_listIsTrue_19 : decode cL_listIsTrue 19 = .ok (.astore_n 3, 1) := by decide +kernel
theorem dL_listIsTrue_20 : decode cL_listIsTrue 20 = .ok (.iconst 1, 1) := by decide +kernel
theorem dL_listIsTrue_21 : decode cL_listIsTrue 21 = .ok (.ireturn, 1) := by decide +kernel
theorem dL_listIsTrue_22 : decode cL_listIsTrue 22 = .ok (.iconst 0, 1) := by decide +kernel
theorem dL_listIsTrue_23 : decode cL_listIsTrue 23 = .ok (.ireturn, 1) := by decide +kernel
theorem dL_countIsTrue_0 : decode cL_countIsTrue 0 = .ok (.aload_n 2, 1) := by decide +kernel
theorem dL_countIsTrue_1 : decode cL_countIsTrue 1 = .ok (.iconst 0, 1) := by decide +kernel
theorem dL_countIsTrue_2 : decode cL_countIsTrue 2 = .ok (.aload_n 0, 1) := by decide +kernel
theorem dL_countIsTrue_3 : decode cL_countIsTrue 3 = .ok (.iload_n 1, 1) := by decide +kernel
theorem dL_countIsTrue_4 : decode cL_countIsTrue 4 = .ok (.invokevirtual 128, 3) := by decide +kernel
theorem dL_countIsTrue_7 : decode cL_countIsTrue 7 = .ok (.ifCond .eq 7, 3) := by decide +kernel
theorem dL_countIsTrue_10 : decode cL_countIsTrue 10 = .ok (.lconst 1, 1) := by decide +kernel
theorem dL_countIsTrue_11 : decode cL_countIsTrue 11 = .ok (.goto 4, 3) := by decide +kernel
theorem dL_countIsTrue_14 : decode cL_countIsTrue 14 = .ok (.lconst 0, 1) := by decide +kernel
theorem dL_countIsTrue_15 : decode cL_countIsTrue 15 = .ok (.lastore, 1) := by decide +kernel
theorem dL_countIsTrue_16 : decode cL_countIsTrue 16 = .ok (.goto 6, 3) := by decide +kernel
theorem dL_countIsTrue_19 : decode cL_countIsTrue 19 = .ok (.astore_n 3, 1) := by decide +kernel
theorem dL_countIsTrue_20 : decode cL_countIsTrue 20 = .ok (.iconst 1, 1) := by decide +kernel
theorem dL_countIsTrue_21 : decode cL_countIsTrue 21 = .ok (.ireturn, 1) := by decide +kernel
theorem dL_countIsTrue_22 : decode cL_countIsTrue 22 = .ok (.iconst 0, 1) := by decide +kernel
theorem dL_countIsTrue_23 : decode cL_countIsTrue 23 = .ok (.ireturn, 1) := by decide +kernel
end
section
theorem dL_law_0 : decode cL_law 0 = .ok (.new 8, 3) := by decide +kernel
theorem dL_law_3 : decode cL_law 3 = .ok (.dup, 1) := by decide +kernel
theorem dL_law_4 : decode cL_law 4 = .ok (.invokespecial 131, 3) := by decide +kernel
theorem dL_law_7 : decode cL_law 7 = .ok (.astore_n 1, 1) := by decide +kernel
theorem dL_law_8 : decode cL_law 8 = .ok (.new 132, 3) := by decide +kernel
theorem dL_law_11 : decode cL_law 11 = .ok (.dup, 1) := by decide +kernel
theorem dL_law_12 : decode cL_law 12 = .ok (.invokespecial 134, 3) := by decide +kernel
theorem dL_law_15 : decode cL_law 15 = .ok (.astore_n 2, 1) := by decide +kernel
theorem dL_law_16 : decode cL_law 16 = .ok (.iconst 1, 1) := by decide +kernel
theorem dL_law_17 : decode cL_law 17 = .ok (.newarray .long, 2) := by decide +kernel
theorem dL_law_19 : decode cL_law 19 = .ok (.astore_n 3, 1) := by decide +kernel
theorem dL_law_20 : decode cL_law 20 = .ok (.iconst 1, 1) := by decide +kernel
theorem dL_law_21 : decode cL_law 21 = .ok (.newarray .double, 2) := by decide +kernel
theorem dL_law_23 : decode cL_law 23 = .ok (.astore 4, 2) := by decide +kernel
theorem dL_law_25 : decode cL_law 25 = .ok (.iconst 0, 1) := by decide +kernel
theorem dL_law_26 : decode cL_law 26 = .ok (.istore 5, 2) := by decide +kernel
theorem dL_law_28 : decode cL_law 28 = .ok (.iload 5, 2) := by decide +kernel
theorem dL_law_30 : decode cL_law 30 = .ok (.aload_n 0, 1) := by decide +kernel
theorem dL_law_31 : decode cL_law 31 = .ok (.arraylength, 1) := by decide +kernel
theorem dL_law_32 : decode cL_law 32 = .ok (.iconst 5, 1) := by decide +kernel
theorem dL_law_33 : decode cL_law 33 = .ok (.isub, 1) := by decide +kernel
theorem dL_law_34 : decode cL_law 34 = .ok (.if_icmp .gt 2513, 3) := by decide +kernel
theorem dL_law_37 : decode cL_law 37 = .ok (.aload_n 0, 1) := by decide +kernel
theorem dL_law_38 : decode cL_law 38 = .ok (.iload 5, 2) := by decide +kernel
theorem dL_law_40 : decode cL_law 40 = .ok (.iaload, 1) := by decide +kernel
theorem dL_law_41 : decode cL_law 41 = .ok (.bipush 63, 2) := by decide +kernel
theorem dL_law_43 : decode cL_law 43 = .ok (.iand, 1) := by decide +kernel
theorem dL_law_44 : decode cL_law 44 = .ok (.tableswitch 2497 0 34 #[156, 248, 304, 367, 435, 503, 571, 627, 707, 763, 831, 894, 949, 1018, 1086, 1141, 1197, 1298, 1407, 1485, 1526, 1606, 1676, 1732, 1802, 1872, 1940, 2010, 2068, 2124, 2138, 2201, 2296, 2371, 2434], 156) := by decide +kernel
theorem dL_law_200 : decode cL_law 200 = .ok (.aload_n 1, 1) := by decide +kernel
theorem dL_law_201 : decode cL_law 201 = .ok (.aload_n 0, 1) := by decide +kernel
theorem dL_law_202 : decode cL_law 202 = .ok (.iload 5, 2) := by decide +kernel
theorem dL_law_204 : decode cL_law 204 = .ok (.iconst 1, 1) := by decide +kernel
theorem dL_law_205 : decode cL_law 205 = .ok (.iadd, 1) := by decide +kernel
theorem dL_law_206 : decode cL_law 206 = .ok (.iaload, 1) := by decide +kernel
theorem dL_law_207 : decode cL_law 207 = .ok (.aload_n 0, 1) := by decide +kernel
theorem dL_law_208 : decode cL_law 208 = .ok (.iload 5, 2) := by decide +kernel
theorem dL_law_210 : decode cL_law 210 = .ok (.iconst 2, 1) := by decide +kernel
theorem dL_law_211 : decode cL_law 211 = .ok (.iadd, 1) := by decide +kernel
theorem dL_law_212 : decode cL_law 212 = .ok (.iaload, 1) := by decide +kernel
theorem dL_law_213 : decode cL_law 213 = .ok (.aload_n 0, 1) := by decide +kernel
theorem dL_law_214 : decode cL_law 214 = .ok (.iload 5, 2) := by decide +kernel
theorem dL_law_216 : decode cL_law 216 = .ok (.iconst 3, 1) := by decide +kernel
theorem dL_law_217 : decode cL_law 217 = .ok (.iadd, 1) := by decide +kernel
theorem dL_law_218 : decode cL_law 218 = .ok (.iaload, 1) := by decide +kernel
theorem dL_law_219 : decode cL_law 219 = .ok (.aload_n 0, 1) := by decide +kernel
theorem dL_law_220 : decode cL_law 220 = .ok (.iload 5, 2) := by decide +kernel
theorem dL_law_222 : decode cL_law 222 = .ok (.iconst 4, 1) := by decide +kernel
theorem dL_law_223 : decode cL_law 223 = .ok (.iadd, 1) := by decide +kernel
theorem dL_law_224 : decode cL_law 224 = .ok (.iaload, 1) := by decide +kernel
theorem dL_law_225 : decode cL_law 225 = .ok (.aload_n 3, 1) := by decide +kernel
theorem dL_law_226 : decode cL_law 226 = .ok (.invokestatic 135, 3) := by decide +kernel
theorem dL_law_229 : decode cL_law 229 = .ok (.istore 6, 2) := by decide +kernel
theorem dL_law_231 : decode cL_law 231 = .ok (.aload_n 2, 1) := by decide +kernel
theorem dL_law_232 : decode cL_law 232 = .ok (.aload_n 0, 1) := by decide +kernel
theorem dL_law_233 : decode cL_law 233 = .ok (.iload 5, 2) := by decide +kernel
theorem dL_law_235 : decode cL_law 235 = .ok (.iconst 1, 1) := by decide +kernel
theorem dL_law_236 : decode cL_law 236 = .ok (.iadd, 1) := by decide +kernel
theorem dL_law_237 : decode cL_law 237 = .ok (.iaload, 1) := by decide +kernel
theorem dL_law_238 : decode cL_law 238 = .ok (.aload_n 0, 1) := by decide +kernel
theorem dL_law_239 : decode cL_law 239 = .ok (.iload 5, 2) := by decide +kernel
theorem dL_law_241 : decode cL_law 241 = .ok (.iconst 2, 1) := by decide +kernel
theorem dL_law_242 : decode cL_law 242 = .ok (.iadd, 1) := by decide +kernel
theorem dL_law_243 : decode cL_law 243 = .ok (.iaload, 1) := by decide +kernel
theorem dL_law_244 : decode cL_law 244 = .ok (.aload_n 0, 1) := by decide +kernel
theorem dL_law_245 : decode cL_law 245 = .ok (.iload 5, 2) := by decide +kernel
theorem dL_law_247 : decode cL_law 247 = .ok (.iconst 3, 1) := by decide +kernel
theorem dL_law_248 : decode cL_law 248 = .ok (.iadd, 1) := by decide +kernel
theorem dL_law_249 : decode cL_law 249 = .ok (.iaload, 1) := by decide +kernel
theorem dL_law_250 : decode cL_law 250 = .ok (.aload_n 0, 1) := by decide +kernel
theorem dL_law_251 : decode cL_law 251 = .ok (.iload 5, 2) := by decide +kernel
theorem dL_law_253 : decode cL_law 253 = .ok (.iconst 4, 1) := by decide +kernel
theorem dL_law_254 : decode cL_law 254 = .ok (.iadd, 1) := by decide +kernel
theorem dL_law_255 : decode cL_law 255 = .ok (.iaload, 1) := by decide +kernel
theorem dL_law_256 : decode cL_law 256 = .ok (.invokevirtual 140, 3) := by decide +kernel
theorem dL_law_259 : decode cL_law 259 = .ok (.istore 7, 2) := by decide +kernel
theorem dL_law_261 : decode cL_law 261 = .ok (.aload_n 2, 1) := by decide +kernel
theorem dL_law_262 : decode cL_law 262 = .ok (.invokevirtual 141, 3) := by decide +kernel
theorem dL_law_265 : decode cL_law 265 = .ok (.iload 6, 2) := by decide +kernel
theorem dL_law_267 : decode cL_law 267 = .ok (.if_icmp .eq 5, 3) := by decide +kernel
theorem dL_law_270 : decode cL_law 270 = .ok (.iconst 0, 1) := by decide +kernel
theorem dL_law_271 : decode cL_law 271 = .ok (.ireturn, 1) := by decide +kernel
theorem dL_law_272 : decode cL_law 272 = .ok (.iload 6, 2) := by decide +kernel
theorem dL_law_274 : decode cL_law 274 = .ok (.ifCond .ne 15, 3) := by decide +kernel
theorem dL_law_277 : decode cL_law 277 = .ok (.aload_n 3, 1) := by decide +kernel
theorem dL_law_278 : decode cL_law 278 = .ok (.iconst 0, 1) := by decide +kernel
theorem dL_law_279 : decode cL_law 279 = .ok (.laload, 1) := by decide +kernel
theorem dL_law_280 : decode cL_law 280 = .ok (.iload 7, 2) := by decide +kernel
theorem dL_law_282 : decode cL_law 282 = .ok (.i2l, 1) := by decide +kernel
theorem dL_law_283 : decode cL_law 283 = .ok (.lcmp, 1) := by decide +kernel
theorem dL_law_284 : decode cL_law 284 = .ok (.ifCond .eq 5, 3) := by decide +kernel
theorem dL_law_287 : decode cL_law 287 = .ok (.iconst 0, 1) := by decide +kernel
theorem dL_law_288 : decode cL_law 288 = .ok (.ireturn, 1) := by decide +kernel
theorem dL_law_289 : decode cL_law 289 = .ok (.goto 2252, 3) := by decide +kernel
theorem dL_law_292 : decode cL_law 292 = .ok (.aload_n 1, 1) := by decide +kernel
theorem dL_law_293 : decode cL_law 293 = .ok (.aload_n 0, 1) := by decide +kernel
theorem dL_law_294 : decode cL_law 294 = .ok (.iload 5, 2) := by decide +kernel
theorem dL_law_296 : decode cL_law 296 = .ok (.iconst 1, 1) := by decide +kernel
theorem dL_law_297 : decode cL_law 297 = .ok (.iadd, 1) := by decide +kernel
theorem dL_law_298 : decode cL_law 298 = .ok (.iaload, 1) := by decide +kernel
theorem dL_law_299 : decode cL_law 299 = .ok (.aload_n 3, 1) := by decide +kernel
theorem dL_law_300 : decode cL_law 300 = .ok (.invokestatic 145, 3) := by decide +kernel
theorem dL_law_303 : decode cL_law 303 = .ok (.istore 6, 2) := by decide +kernel
theorem dL_law_305 : decode cL_law 305 = .ok (.aload_n 2, 1) := by decide +kernel
theorem dL_law_306 : decode cL_law 306 = .ok (.aload_n 0, 1) := by decide +kernel
theorem dL_law_307 : decode cL_law 307 = .ok (.iload 5, 2) := by decide +kernel
theorem dL_law_309 : decode cL_law 309 = .ok (.iconst 1, 1) := by decide +kernel
theorem dL_law_310 : decode cL_law 310 = .ok (.iadd, 1) := by decide +kernel
theorem dL_law_311 : decode cL_law 311 = .ok (.iaload, 1) := by decide +kernel
theorem dL_law_312 : decode cL_law 312 = .ok (.invokevirtual 148, 3) := by decide +kernel
theorem dL_law_315 : decode cL_law 315 = .ok (.istore 7, 2) := by decide +kernel
theorem dL_law_317 : decode cL_law 317 = .ok (.aload_n 2, 1) := by decide +kernel
theorem dL_law_318 : decode cL_law 318 = .ok (.invokevirtual 141, 3) := by decide +kernel
theorem dL_law_321 : decode cL_law 321 = .ok (.iload 6, 2) := by decide +kernel
theorem dL_law_323 : decode cL_law 323 = .ok (.if_icmp .eq 5, 3) := by decide +kernel
theorem dL_law_326 : decode cL_law 326 = .ok (.iconst 0, 1) := by decide +kernel
theorem dL_law_327 : decode cL_law 327 = .ok (.ireturn, 1) := by decide +kernel
theorem dL_law_328 : decode cL_law 328 = .ok (.iload 6, 2) := by decide +kernel
theorem dL_law_330 : decode cL_law 330 = .ok (.ifCond .ne 15, 3) := by decide +kernel
theorem dL_law_333 : decode cL_law 333 = .ok (.aload_n 3, 1) := by decide +kernel
theorem dL_law_334 : decode cL_law 334 = .ok (.iconst 0, 1) := by decide +kernel
theorem dL_law_335 : decode cL_law 335 = .ok (.laload, 1) := by decide +kernel
theorem dL_law_336 : decode cL_law 336 = .ok (.iload 7, 2) := by decide +kernel
theorem dL_law_338 : decode cL_law 338 = .ok (.i2l, 1) := by decide +kernel
theorem dL_law_339 : decode cL_law 339 = .ok (.lcmp, 1) := by decide +kernel
theorem dL_law_340 : decode cL_law 340 = .ok (.ifCond .eq 5, 3) := by decide +kernel
theorem dL_law_343 : decode cL_law 343 = .ok (.iconst 0, 1) := by decide +kernel
theorem dL_law_344 : decode cL_law 344 = .ok (.ireturn, 1) := by decide +kernel
theorem dL_law_345 : decode cL_law 345 = .ok (.goto 2196, 3) := by decide +kernel
theorem dL_law_348 : decode cL_law 348 = .ok (.aload_n 1, 1) := by decide +kernel
theorem dL_law_349 : decode cL_law 349 = .ok (.aload_n 0, 1) := by decide +kernel
theorem dL_law_350 : decode cL_law 350 = .ok (.iload 5, 2) := by decide +kernel
theorem dL_law_352 : decode cL_law 352 = .ok (.iconst 1, 1) := by decide +kernel
theorem dL_law_353 : decode cL_law 353 = .ok (.iadd, 1) := by decide +kernel
theorem dL_law_354 : decode cL_law 354 = .ok (.iaload, 1) := by decide +kernel
theorem dL_law_355 : decode cL_law 355 = .ok (.aload_n 3, 1) := by decide +kernel
theorem dL_law_356 : decode cL_law 356 = .ok (.invokestatic 149, 3) := by decide +kernel
theorem dL_law_359 : decode cL_law 359 = .ok (.istore 6, 2) := by decide +kernel
theorem dL_law_361 : decode cL_law 361 = .ok (.aload_n 2, 1) := by decide +kernel
theorem dL_law_362 : decode cL_law 362 = .ok (.aload_n 0, 1) := by decide +kernel
theorem dL_law_363 : decode cL_law 363 = .ok (.iload 5, 2) := by decide +kernel
theorem dL_law_365 : decode cL_law 365 = .ok (.iconst 1, 1) := by decide +kernel
theorem dL_law_366 : decode cL_law 366 = .ok (.iadd, 1) := by decide +kernel
theorem dL_law_367 : decode cL_law 367 = .ok (.iaload, 1) := by decide +kernel
theorem dL_law_368 : decode cL_law 368 = .ok (.invokevirtual 151, 3) := by decide +kernel
theorem dL_law_371 : decode cL_law 371 = .ok (.istore 7, 2) := by decide +kernel
theorem dL_law_373 : decode cL_law 373 = .ok (.aload_n 2, 1) := by decide +kernel
theorem dL_law_374 : decode cL_law 374 = .ok (.invokevirtual 141, 3) := by decide +kernel
theorem dL_law_377 : decode cL_law 377 = .ok (.iload 6, 2) := by decide +kernel
theorem dL_law_379 : decode cL_law 379 = .ok (.if_icmp .eq 5, 3) := by decide +kernel
theorem dL_law_382 : decode cL_law 382 = .ok (.iconst 0, 1) := by decide +kernel
theorem dL_law_383 : decode cL_law 383 = .ok (.ireturn, 1) := by decide +kernel
theorem dL_law_384 : decode cL_law 384 = .ok (.iload 6, 2) := by decide +kernel
theorem dL_law_386 : decode cL_law 386 = .ok (.ifCond .ne 22, 3) := by decide +kernel
theorem dL_law_389 : decode cL_law 389 = .ok (.aload_n 3, 1) := by decide +kernel
theorem dL_law_390 : decode cL_law 390 = .ok (.iconst 0, 1) := by decide +kernel
theorem dL_law_391 : decode cL_law 391 = .ok (.laload, 1) := by decide +kernel
theorem dL_law_392 : decode cL_law 392 = .ok (.iload 7, 2) := by decide +kernel
theorem dL_law_394 : decode cL_law 394 = .ok (.ifCond .eq 7, 3) := by decide +kernel
theorem dL_law_397 : decode cL_law 397 = .ok (.lconst 1, 1) := by decide +kernel
theorem dL_law_398 : decode cL_law 398 = .ok (.goto 4, 3) := by decide +kernel
theorem dL_law_401 : decode cL_law 401 = .ok (.lconst 0, 1) := by decide +kernel
theorem dL_law_402 : decode cL_law 402 = .ok (.lcmp, 1) := by decide +kernel
theorem dL_law_403 : decode cL_law 403 = .ok (.ifCond .eq 5, 3) := by decide +kernel
theorem dL_law_406 : decode cL_law 406 = .ok (.iconst 0, 1) := by decide +kernel
theorem dL_law_407 : decode cL_law 407 = .ok (.ireturn, 1) := by decide +kernel
theorem dL_law_408 : decode cL_law 408 = .ok (.goto 2133, 3) := by decide +kernel
theorem dL_law_411 : decode cL_law 411 = .ok (.aload_n 1, 1) := by decide +kernel
theorem dL_law_412 : decode cL_law 412 = .ok (.aload_n 0, 1) := by decide +kernel
theorem dL_law_413 : decode cL_law 413 = .ok (.iload 5, 2) := by decide +kernel
theorem dL_law_415 : decode cL_law 415 = .ok (.iconst 1, 1) := by decide +kernel
theorem dL_law_416 : decode cL_law 416 = .ok (.iadd, 1) := by decide +kernel
theorem dL_law_417 : decode cL_law 417 = .ok (.iaload, 1) := by decide +kernel
theorem dL_law_418 : decode cL_law 418 = .ok (.aload_n 0, 1) := by decide +kernel
theorem dL_law_419 : decode cL_law 419 = .ok (.iload 5, 2) := by decide +kernel
theorem dL_law_421 : decode cL_law 421 = .ok (.iconst 2, 1) := by decide +kernel
theorem dL_law_422 : decode cL_law 422 = .ok (.iadd, 1) := by decide +kernel
theorem dL_law_423 : decode cL_law 423 = .ok (.iaload, 1) := by decide +kernel
theorem dL_law_424 : decode cL_law 424 = .ok (.aload_n 3, 1) := by decide +kernel
theorem dL_law_425 : decode cL_law 425 = .ok (.invokestatic 152, 3) := by decide +kernel
theorem dL_law_428 : decode cL_law 428 = .ok (.istore 6, 2) := by decide +kernel
theorem dL_law_430 : decode cL_law 430 = .ok (.aload_n 2, 1) := by decide +kernel
theorem dL_law_431 : decode cL_law 431 = .ok (.aload_n 0, 1) := by decide +kernel
theorem dL_law_432 : decode cL_law 432 = .ok (.iload 5, 2) := by decide +kernel
theorem dL_law_434 : decode cL_law 434 = .ok (.iconst 1, 1) := by decide +kernel
theorem dL_law_435 : decode cL_law 435 = .ok (.iadd, 1) := by decide +kernel
theorem dL_law_436 : decode cL_law 436 = .ok (.iaload, 1) := by decide +kernel
theorem dL_law_437 : decode cL_law 437 = .ok (.aload_n 0, 1) := by decide +kernel
theorem dL_law_438 : decode cL_law 438 = .ok (.iload 5, 2) := by decide +kernel
theorem dL_law_440 : decode cL_law 440 = .ok (.iconst 2, 1) := by decide +kernel
theorem dL_law_441 : decode cL_law 441 = .ok (.iadd, 1) := by decide +kernel
theorem dL_law_442 : decode cL_law 442 = .ok (.iaload, 1) := by decide +kernel
theorem dL_law_443 : decode cL_law 443 = .ok (.invokevirtual 155, 3) := by decide +kernel
theorem dL_law_446 : decode cL_law 446 = .ok (.istore 7, 2) := by decide +kernel
theorem dL_law_448 : decode cL_law 448 = .ok (.aload_n 2, 1) := by decide +kernel
theorem dL_law_449 : decode cL_law 449 = .ok (.invokevirtual 141, 3) := by decide +kernel
theorem dL_law_452 : decode cL_law 452 = .ok (.iload 6, 2) := by decide +kernel
theorem dL_law_454 : decode cL_law 454 = .ok (.if_icmp .eq 5, 3) := by decide +kernel
theorem dL_law_457 : decode cL_law 457 = .ok (.iconst 0, 1) := by decide +kernel
theorem dL_law_458 : decode cL_law 458 = .ok (.ireturn, 1) := by decide +kernel
theorem dL_law_459 : decode cL_law 459 = .ok (.iload 6, 2) := by decide +kernel
theorem dL_law_461 : decode cL_law 461 = .ok (.ifCond .ne 15, 3) := by decide +kernel
theorem dL_law_464 : decode cL_law 464 = .ok (.aload_n 3, 1) := by decide +kernel
theorem dL_law_465 : decode cL_law 465 = .ok (.iconst 0, 1) := by decide +kernel
theorem dL_law_466 : decode cL_law 466 = .ok (.laload, 1) := by decide +kernel
theorem dL_law_467 : decode cL_law 467 = .ok (.iload 7, 2) := by decide +kernel
theorem dL_law_469 : decode cL_law 469 = .ok (.i2l, 1) := by decide +kernel
theorem dL_law_470 : decode cL_law 470 = .ok (.lcmp, 1) := by decide +kernel
theorem dL_law_471 : decode cL_law 471 = .ok (.ifCond .eq 5, 3) := by decide +kernel
theorem dL_law_474 : decode cL_law 474 = .ok (.iconst 0, 1) := by decide +kernel
theorem dL_law_475 : decode cL_law 475 = .ok (.ireturn, 1) := by decide +kernel
theorem dL_law_476 : decode cL_law 476 = .ok (.goto 2065, 3) := by decide +kernel
theorem dL_law_479 : decode cL_law 479 = .ok (.aload_n 1, 1) := by decide +kernel
theorem dL_law_480 : decode cL_law 480 = .ok (.aload_n 0, 1) := by decide +kernel
theorem dL_law_481 : decode cL_law 481 = .ok (.iload 5, 2) := by decide +kernel
theorem dL_law_483 : decode cL_law 483 = .ok (.iconst 1, 1) := by decide +kernel
theorem dL_law_484 : decode cL_law 484 = .ok (.iadd, 1) := by decide +kernel
theorem dL_law_485 : decode cL_law 485 = .ok (.iaload, 1) := by decide +kernel
theorem dL_law_486 : decode cL_law 486 = .ok (.aload_n 0, 1) := by decide +kernel
theorem dL_law_487 : decode cL_law 487 = .ok (.iload 5, 2) := by decide +kernel
theorem dL_law_489 : decode cL_law 489 = .ok (.iconst 2, 1) := by decide +kernel
theorem dL_law_490 : decode cL_law 490 = .ok (.iadd, 1) := by decide +kernel
theorem dL_law_491 : decode cL_law 491 = .ok (.iaload, 1) := by decide +kernel
theorem dL_law_492 : decode cL_law 492 = .ok (.aload_n 3, 1) := by decide +kernel
theorem dL_law_493 : decode cL_law 493 = .ok (.invokestatic 156, 3) := by decide +kernel
theorem dL_law_496 : decode cL_law 496 = .ok (.istore 6, 2) := by decide +kernel
theorem dL_law_498 : decode cL_law 498 = .ok (.aload_n 2, 1) := by decide +kernel
theorem dL_law_499 : decode cL_law 499 = .ok (.aload_n 0, 1) := by decide +kernel
theorem dL_law_500 : decode cL_law 500 = .ok (.iload 5, 2) := by decide +kernel
theorem dL_law_502 : decode cL_law 502 = .ok (.iconst 1, 1) := by decide +kernel
theorem dL_law_503 : decode cL_law 503 = .ok (.iadd, 1) := by decide +kernel
theorem dL_law_504 : decode cL_law 504 = .ok (.iaload, 1) := by decide +kernel
theorem dL_law_505 : decode cL_law 505 = .ok (.aload_n 0, 1) := by decide +kernel
theorem dL_law_506 : decode cL_law 506 = .ok (.iload 5, 2) := by decide +kernel
theorem dL_law_508 : decode cL_law 508 = .ok (.iconst 2, 1) := by decide +kernel
theorem dL_law_509 : decode cL_law 509 = .ok (.iadd, 1) := by decide +kernel
theorem dL_law_510 : decode cL_law 510 = .ok (.iaload, 1) := by decide +kernel
theorem dL_law_511 : decode cL_law 511 = .ok (.invokevirtual 158, 3) := by decide +kernel
theorem dL_law_514 : decode cL_law 514 = .ok (.istore 7, 2) := by decide +kernel
theorem dL_law_516 : decode cL_law 516 = .ok (.aload_n 2, 1) := by decide +kernel
theorem dL_law_517 : decode cL_law 517 = .ok (.invokevirtual 141, 3) := by decide +kernel
theorem dL_law_520 : decode cL_law 520 = .ok (.iload 6, 2) := by decide +kernel
theorem dL_law_522 : decode cL_law 522 = .ok (.if_icmp .eq 5, 3) := by decide +kernel
theorem dL_law_525 : decode cL_law 525 = .ok (.iconst 0, 1) := by decide +kernel
theorem dL_law_526 : decode cL_law 526 = .ok (.ireturn, 1) := by decide +kernel
theorem dL_law_527 : decode cL_law 527 = .ok (.iload 6, 2) := by decide +kernel
theorem dL_law_529 : decode cL_law 529 = .ok (.ifCond .ne 15, 3) := by decide +kernel
theorem dL_law_532 : decode cL_law 532 = .ok (.aload_n 3, 1) := by decide +kernel
theorem dL_law_533 : decode cL_law 533 = .ok (.iconst 0, 1) := by decide +kernel
theorem dL_law_534 : decode cL_law 534 = .ok (.laload, 1) := by decide +kernel
theorem dL_law_535 : decode cL_law 535 = .ok (.iload 7, 2) := by decide +kernel
theorem dL_law_537 : decode cL_law 537 = .ok (.i2l, 1) := by decide +kernel
theorem dL_law_538 : decode cL_law 538 = .ok (.lcmp, 1) := by decide +kernel
theorem dL_law_539 : decode cL_law 539 = .ok (.ifCond .eq 5, 3) := by decide +kernel
theorem dL_law_542 : decode cL_law 542 = .ok (.iconst 0, 1) := by decide +kernel
theorem dL_law_543 : decode cL_law 543 = .ok (.ireturn, 1) := by decide +kernel
theorem dL_law_544 : decode cL_law 544 = .ok (.goto 1997, 3) := by decide +kernel
theorem dL_law_547 : decode cL_law 547 = .ok (.aload_n 1, 1) := by decide +kernel
theorem dL_law_548 : decode cL_law 548 = .ok (.aload_n 0, 1) := by decide +kernel
theorem dL_law_549 : decode cL_law 549 = .ok (.iload 5, 2) := by decide +kernel
theorem dL_law_551 : decode cL_law 551 = .ok (.iconst 1, 1) := by decide +kernel
theorem dL_law_552 : decode cL_law 552 = .ok (.iadd, 1) := by decide +kernel
theorem dL_law_553 : decode cL_law 553 = .ok (.iaload, 1) := by decide +kernel
theorem dL_law_554 : decode cL_law 554 = .ok (.aload_n 0, 1) := by decide +kernel
theorem dL_law_555 : decode cL_law 555 = .ok (.iload 5, 2) := by decide +kernel
theorem dL_law_557 : decode cL_law 557 = .ok (.iconst 2, 1) := by decide +kernel
theorem dL_law_558 : decode cL_law 558 = .ok (.iadd, 1) := by decide +kernel
theorem dL_law_559 : decode cL_law 559 = .ok (.iaload, 1) := by decide +kernel
theorem dL_law_560 : decode cL_law 560 = .ok (.aload_n 3, 1) := by decide +kernel
theorem dL_law_561 : decode cL_law 561 = .ok (.invokestatic 159, 3) := by decide +kernel
theorem dL_law_564 : decode cL_law 564 = .ok (.istore 6, 2) := by decide +kernel
theorem dL_law_566 : decode cL_law 566 = .ok (.aload_n 2, 1) := by decide +kernel
theorem dL_law_567 : decode cL_law 567 = .ok (.aload_n 0, 1) := by decide +kernel
theorem dL_law_568 : decode cL_law 568 = .ok (.iload 5, 2) := by decide +kernel
theorem dL_law_570 : decode cL_law 570 = .ok (.iconst 1, 1) := by decide +kernel
theorem dL_law_571 : decode cL_law 571 = .ok (.iadd, 1) := by decide +kernel
theorem dL_law_572 : decode cL_law 572 = .ok (.iaload, 1) := by decide +kernel
theorem dL_law_573 : decode cL_law 573 = .ok (.aload_n 0, 1) := by decide +kernel
theorem dL_law_574 : decode cL_law 574 = .ok (.iload 5, 2) := by decide +kernel
theorem dL_law_576 : decode cL_law 576 = .ok (.iconst 2, 1) := by decide +kernel
theorem dL_law_577 : decode cL_law 577 = .ok (.iadd, 1) := by decide +kernel
theorem dL_law_578 : decode cL_law 578 = .ok (.iaload, 1) := by decide +kernel
theorem dL_law_579 : decode cL_law 579 = .ok (.invokevirtual 161, 3) := by decide +kernel
theorem dL_law_582 : decode cL_law 582 = .ok (.istore 7, 2) := by decide +kernel
theorem dL_law_584 : decode cL_law 584 = .ok (.aload_n 2, 1) := by decide +kernel
theorem dL_law_585 : decode cL_law 585 = .ok (.invokevirtual 141, 3) := by decide +kernel
theorem dL_law_588 : decode cL_law 588 = .ok (.iload 6, 2) := by decide +kernel
theorem dL_law_590 : decode cL_law 590 = .ok (.if_icmp .eq 5, 3) := by decide +kernel
theorem dL_law_593 : decode cL_law 593 = .ok (.iconst 0, 1) := by decide +kernel
theorem dL_law_594 : decode cL_law 594 = .ok (.ireturn, 1) := by decide +kernel
theorem dL_law_595 : decode cL_law 595 = .ok (.iload 6, 2) := by decide +kernel
theorem dL_law_597 : decode cL_law 597 = .ok (.ifCond .ne 15, 3) := by decide +kernel
theorem dL_law_600 : decode cL_law 600 = .ok (.aload_n 3, 1) := by decide +kernel
theorem dL_law_601 : decode cL_law 601 = .ok (.iconst 0, 1) := by decide +kernel
theorem dL_law_602 : decode cL_law 602 = .ok (.laload, 1) := by decide +kernel
theorem dL_law_603 : decode cL_law 603 = .ok (.iload 7, 2) := by decide +kernel
theorem dL_law_605 : decode cL_law 605 = .ok (.i2l, 1) := by decide +kernel
theorem dL_law_606 : decode cL_law 606 = .ok (.lcmp, 1) := by decide +kernel
theorem dL_law_607 : decode cL_law 607 = .ok (.ifCond .eq 5, 3) := by decide +kernel
theorem dL_law_610 : decode cL_law 610 = .ok (.iconst 0, 1) := by decide +kernel
theorem dL_law_611 : decode cL_law 611 = .ok (.ireturn, 1) := by decide +kernel
theorem dL_law_612 : decode cL_law 612 = .ok (.goto 1929, 3) := by decide +kernel
theorem dL_law_615 : decode cL_law 615 = .ok (.aload_n 1, 1) := by decide +kernel
theorem dL_law_616 : decode cL_law 616 = .ok (.aload_n 0, 1) := by decide +kernel
theorem dL_law_617 : decode cL_law 617 = .ok (.iload 5, 2) := by decide +kernel
theorem dL_law_619 : decode cL_law 619 = .ok (.iconst 1, 1) := by decide +kernel
theorem dL_law_620 : decode cL_law 620 = .ok (.iadd, 1) := by decide +kernel
theorem dL_law_621 : decode cL_law 621 = .ok (.iaload, 1) := by decide +kernel
theorem dL_law_622 : decode cL_law 622 = .ok (.aload_n 3, 1) := by decide +kernel
theorem dL_law_623 : decode cL_law 623 = .ok (.invokestatic 162, 3) := by decide +kernel
theorem dL_law_626 : decode cL_law 626 = .ok (.istore 6, 2) := by decide +kernel
theorem dL_law_628 : decode cL_law 628 = .ok (.aload_n 2, 1) := by decide +kernel
theorem dL_law_629 : decode cL_law 629 = .ok (.aload_n 0, 1) := by decide +kernel
theorem dL_law_630 : decode cL_law 630 = .ok (.iload 5, 2) := by decide +kernel
theorem dL_law_632 : decode cL_law 632 = .ok (.iconst 1, 1) := by decide +kernel
theorem dL_law_633 : decode cL_law 633 = .ok (.iadd, 1) := by decide +kernel
theorem dL_law_634 : decode cL_law 634 = .ok (.iaload, 1) := by decide +kernel
theorem dL_law_635 : decode cL_law 635 = .ok (.invokevirtual 164, 3) := by decide +kernel
theorem dL_law_638 : decode cL_law 638 = .ok (.istore 7, 2) := by decide +kernel
theorem dL_law_640 : decode cL_law 640 = .ok (.aload_n 2, 1) := by decide +kernel
theorem dL_law_641 : decode cL_law 641 = .ok (.invokevirtual 141, 3) := by decide +kernel
theorem dL_law_644 : decode cL_law 644 = .ok (.iload 6, 2) := by decide +kernel
theorem dL_law_646 : decode cL_law 646 = .ok (.if_icmp .eq 5, 3) := by decide +kernel
theorem dL_law_649 : decode cL_law 649 = .ok (.iconst 0, 1) := by decide +kernel
theorem dL_law_650 : decode cL_law 650 = .ok (.ireturn, 1) := by decide +kernel
theorem dL_law_651 : decode cL_law 651 = .ok (.iload 6, 2) := by decide +kernel
theorem dL_law_653 : decode cL_law 653 = .ok (.ifCond .ne 15, 3) := by decide +kernel
theorem dL_law_656 : decode cL_law 656 = .ok (.aload_n 3, 1) := by decide +kernel
theorem dL_law_657 : decode cL_law 657 = .ok (.iconst 0, 1) := by decide +kernel
theorem dL_law_658 : decode cL_law 658 = .ok (.laload, 1) := by decide +kernel
theorem dL_law_659 : decode cL_law 659 = .ok (.iload 7, 2) := by decide +kernel
theorem dL_law_661 : decode cL_law 661 = .ok (.i2l, 1) := by decide +kernel
theorem dL_law_662 : decode cL_law 662 = .ok (.lcmp, 1) := by decide +kernel
theorem dL_law_663 : decode cL_law 663 = .ok (.ifCond .eq 5, 3) := by decide +kernel
theorem dL_law_666 : decode cL_law 666 = .ok (.iconst 0, 1) := by decide +kernel
theorem dL_law_667 : decode cL_law 667 = .ok (.ireturn, 1) := by decide +kernel
theorem dL_law_668 : decode cL_law 668 = .ok (.goto 1873, 3) := by decide +kernel
theorem dL_law_671 : decode cL_law 671 = .ok (.aload_n 1, 1) := by decide +kernel
theorem dL_law_672 : decode cL_law 672 = .ok (.aload_n 0, 1) := by decide +kernel
theorem dL_law_673 : decode cL_law 673 = .ok (.iload 5, 2) := by decide +kernel
theorem dL_law_675 : decode cL_law 675 = .ok (.iconst 1, 1) := by decide +kernel
theorem dL_law_676 : decode cL_law 676 = .ok (.iadd, 1) := by decide +kernel
theorem dL_law_677 : decode cL_law 677 = .ok (.iaload, 1) := by decide +kernel
theorem dL_law_678 : decode cL_law 678 = .ok (.aload_n 0, 1) := by decide +kernel
theorem dL_law_679 : decode cL_law 679 = .ok (.iload 5, 2) := by decide +kernel
theorem dL_law_681 : decode cL_law 681 = .ok (.iconst 2, 1) := by decide +kernel
theorem dL_law_682 : decode cL_law 682 = .ok (.iadd, 1) := by decide +kernel
theorem dL_law_683 : decode cL_law 683 = .ok (.iaload, 1) := by decide +kernel
theorem dL_law_684 : decode cL_law 684 = .ok (.aload_n 0, 1) := by decide +kernel
theorem dL_law_685 : decode cL_law 685 = .ok (.iload 5, 2) := by decide +kernel
theorem dL_law_687 : decode cL_law 687 = .ok (.iconst 3, 1) := by decide +kernel
theorem dL_law_688 : decode cL_law 688 = .ok (.iadd, 1) := by decide +kernel
theorem dL_law_689 : decode cL_law 689 = .ok (.iaload, 1) := by decide +kernel
theorem dL_law_690 : decode cL_law 690 = .ok (.aload_n 3, 1) := by decide +kernel
theorem dL_law_691 : decode cL_law 691 = .ok (.invokestatic 165, 3) := by decide +kernel
theorem dL_law_694 : decode cL_law 694 = .ok (.istore 6, 2) := by decide +kernel
theorem dL_law_696 : decode cL_law 696 = .ok (.aload_n 2, 1) := by decide +kernel
theorem dL_law_697 : decode cL_law 697 = .ok (.aload_n 0, 1) := by decide +kernel
theorem dL_law_698 : decode cL_law 698 = .ok (.iload 5, 2) := by decide +kernel
theorem dL_law_700 : decode cL_law 700 = .ok (.iconst 1, 1) := by decide +kernel
theorem dL_law_701 : decode cL_law 701 = .ok (.iadd, 1) := by decide +kernel
theorem dL_law_702 : decode cL_law 702 = .ok (.iaload, 1) := by decide +kernel
theorem dL_law_703 : decode cL_law 703 = .ok (.aload_n 0, 1) := by decide +kernel
theorem dL_law_704 : decode cL_law 704 = .ok (.iload 5, 2) := by decide +kernel
theorem dL_law_706 : decode cL_law 706 = .ok (.iconst 2, 1) := by decide +kernel
theorem dL_law_707 : decode cL_law 707 = .ok (.iadd, 1) := by decide +kernel
theorem dL_law_708 : decode cL_law 708 = .ok (.iaload, 1) := by decide +kernel
theorem dL_law_709 : decode cL_law 709 = .ok (.aload_n 0, 1) := by decide +kernel
theorem dL_law_710 : decode cL_law 710 = .ok (.iload 5, 2) := by decide +kernel
theorem dL_law_712 : decode cL_law 712 = .ok (.iconst 3, 1) := by decide +kernel
theorem dL_law_713 : decode cL_law 713 = .ok (.iadd, 1) := by decide +kernel
theorem dL_law_714 : decode cL_law 714 = .ok (.iaload, 1) := by decide +kernel
theorem dL_law_715 : decode cL_law 715 = .ok (.invokevirtual 168, 3) := by decide +kernel
theorem dL_law_718 : decode cL_law 718 = .ok (.istore 7, 2) := by decide +kernel
theorem dL_law_720 : decode cL_law 720 = .ok (.aload_n 2, 1) := by decide +kernel
theorem dL_law_721 : decode cL_law 721 = .ok (.invokevirtual 141, 3) := by decide +kernel
theorem dL_law_724 : decode cL_law 724 = .ok (.iload 6, 2) := by decide +kernel
theorem dL_law_726 : decode cL_law 726 = .ok (.if_icmp .eq 5, 3) := by decide +kernel
theorem dL_law_729 : decode cL_law 729 = .ok (.iconst 0, 1) := by decide +kernel
theorem dL_law_730 : decode cL_law 730 = .ok (.ireturn, 1) := by decide +kernel
theorem dL_law_731 : decode cL_law 731 = .ok (.iload 6, 2) := by decide +kernel
theorem dL_law_733 : decode cL_law 733 = .ok (.ifCond .ne 15, 3) := by decide +kernel
theorem dL_law_736 : decode cL_law 736 = .ok (.aload_n 3, 1) := by decide +kernel
theorem dL_law_737 : decode cL_law 737 = .ok (.iconst 0, 1) := by decide +kernel
theorem dL_law_738 : decode cL_law 738 = .ok (.laload, 1) := by decide +kernel
theorem dL_law_739 : decode cL_law 739 = .ok (.iload 7, 2) := by decide +kernel
end
section
theorem dL_law_741 : decode cL_law 741 = .ok (.i2l, 1) := by decide +kernel
theorem dL_law_742 : decode cL_law 742 = .ok (.lcmp, 1) := by decide +kernel
theorem dL_law_743 : decode cL_law 743 = .ok (.ifCond .eq 5, 3) := by decide +kernel
theorem dL_law_746 : decode cL_law 746 = .ok (.iconst 0, 1) := by decide +kernel
theorem dL_law_747 : decode cL_law 747 = .ok (.ireturn, 1) := by decide +kernel
theorem dL_law_748 : decode cL_law 748 = .ok (.goto 1793, 3) := by decide +kernel
theorem dL_law_751 : decode cL_law 751 = .ok (.aload_n 1, 1) := by decide +kernel
theorem dL_law_752 : decode cL_law 752 = .ok (.aload_n 0, 1) := by decide +kernel
theorem dL_law_753 : decode cL_law 753 = .ok (.iload 5, 2) := by decide +kernel
theorem dL_law_755 : decode cL_law 755 = .ok (.iconst 1, 1) := by decide +kernel
theorem dL_law_756 : decode cL_law 756 = .ok (.iadd, 1) := by decide +kernel
theorem dL_law_757 : decode cL_law 757 = .ok (.iaload, 1) := by decide +kernel
theorem dL_law_758 : decode cL_law 758 = .ok (.aload_n 3, 1) := by decide +kernel
theorem dL_law_759 : decode cL_law 759 = .ok (.invokestatic 169, 3) := by decide +kernel
theorem dL_law_762 : decode cL_law 762 = .ok (.istore 6, 2) := by decide +kernel
theorem dL_law_764 : decode cL_law 764 = .ok (.aload_n 2, 1) := by decide +kernel
theorem dL_law_765 : decode cL_law 765 = .ok (.aload_n 0, 1) := by decide +kernel
theorem dL_law_766 : decode cL_law 766 = .ok (.iload 5, 2) := by decide +kernel
theorem dL_law_768 : decode cL_law 768 = .ok (.iconst 1, 1) := by decide +kernel
theorem dL_law_769 : decode cL_law 769 = .ok (.iadd, 1) := by decide +kernel
theorem dL_law_770 : decode cL_law 770 = .ok (.iaload, 1) := by decide +kernel
theorem dL_law_771 : decode cL_law 771 = .ok (.invokevirtual 171, 3) := by decide +kernel
theorem dL_law_774 : decode cL_law 774 = .ok (.istore 7, 2) := by decide +kernel
theorem dL_law_776 : decode cL_law 776 = .ok (.aload_n 2, 1) := by decide +kernel
theorem dL_law_777 : decode cL_law 777 = .ok (.invokevirtual 141, 3) := by decide +kernel
theorem dL_law_780 : decode cL_law 780 = .ok (.iload 6, 2) := by decide +kernel
theorem dL_law_782 : decode cL_law 782 = .ok (.if_icmp .eq 5, 3) := by decide +kernel
theorem dL_law_785 : decode cL_law 785 = .ok (.iconst 0, 1) := by decide +kernel
theorem dL_law_786 : decode cL_law 786 = .ok (.ireturn, 1) := by decide +kernel
theorem dL_law_787 : decode cL_law 787 = .ok (.iload 6, 2) := by decide +kernel
theorem dL_law_789 : decode cL_law 789 = .ok (.ifCond .ne 15, 3) := by decide +kernel
theorem dL_law_792 : decode cL_law 792 = .ok (.aload_n 3, 1) := by decide +kernel
theorem dL_law_793 : decode cL_law 793 = .ok (.iconst 0, 1) := by decide +kernel
theorem dL_law_794 : decode cL_law 794 = .ok (.laload, 1) := by decide +kernel
theorem dL_law_795 : decode cL_law 795 = .ok (.iload 7, 2) := by decide +kernel
theorem dL_law_797 : decode cL_law 797 = .ok (.i2l, 1) := by decide +kernel
theorem dL_law_798 : decode cL_law 798 = .ok (.lcmp, 1) := by decide +kernel
theorem dL_law_799 : decode cL_law 799 = .ok (.ifCond .eq 5, 3) := by decide +kernel
theorem dL_law_802 : decode cL_law 802 = .ok (.iconst 0, 1) := by decide +kernel
theorem dL_law_803 : decode cL_law 803 = .ok (.ireturn, 1) := by decide +kernel
theorem dL_law_804 : decode cL_law 804 = .ok (.goto 1737, 3) := by decide +kernel
theorem dL_law_807 : decode cL_law 807 = .ok (.aload_n 1, 1) := by decide +kernel
theorem dL_law_808 : decode cL_law 808 = .ok (.aload_n 0, 1) := by decide +kernel
theorem dL_law_809 : decode cL_law 809 = .ok (.iload 5, 2) := by decide +kernel
theorem dL_law_811 : decode cL_law 811 = .ok (.iconst 1, 1) := by decide +kernel
theorem dL_law_812 : decode cL_law 812 = .ok (.iadd, 1) := by decide +kernel
theorem dL_law_813 : decode cL_law 813 = .ok (.iaload, 1) := by decide +kernel
theorem dL_law_814 : decode cL_law 814 = .ok (.aload_n 0, 1) := by decide +kernel
theorem dL_law_815 : decode cL_law 815 = .ok (.iload 5, 2) := by decide +kernel
theorem dL_law_817 : decode cL_law 817 = .ok (.iconst 2, 1) := by decide +kernel
theorem dL_law_818 : decode cL_law 818 = .ok (.iadd, 1) := by decide +kernel
theorem dL_law_819 : decode cL_law 819 = .ok (.iaload, 1) := by decide +kernel
theorem dL_law_820 : decode cL_law 820 = .ok (.aload_n 3, 1) := by decide +kernel
theorem dL_law_821 : decode cL_law 821 = .ok (.invokestatic 172, 3) := by decide +kernel
theorem dL_law_824 : decode cL_law 824 = .ok (.istore 6, 2) := by decide +kernel
theorem dL_law_826 : decode cL_law 826 = .ok (.aload_n 2, 1) := by decide +kernel
theorem dL_law_827 : decode cL_law 827 = .ok (.aload_n 0, 1) := by decide +kernel
theorem dL_law_828 : decode cL_law 828 = .ok (.iload 5, 2) := by decide +kernel
theorem dL_law_830 : decode cL_law 830 = .ok (.iconst 1, 1) := by decide +kernel
theorem dL_law_831 : decode cL_law 831 = .ok (.iadd, 1) := by decide +kernel
theorem dL_law_832 : decode cL_law 832 = .ok (.iaload, 1) := by decide +kernel
theorem dL_law_833 : decode cL_law 833 = .ok (.aload_n 0, 1) := by decide +kernel
theorem dL_law_834 : decode cL_law 834 = .ok (.iload 5, 2) := by decide +kernel
theorem dL_law_836 : decode cL_law 836 = .ok (.iconst 2, 1) := by decide +kernel
theorem dL_law_837 : decode cL_law 837 = .ok (.iadd, 1) := by decide +kernel
theorem dL_law_838 : decode cL_law 838 = .ok (.iaload, 1) := by decide +kernel
theorem dL_law_839 : decode cL_law 839 = .ok (.invokevirtual 174, 3) := by decide +kernel
theorem dL_law_842 : decode cL_law 842 = .ok (.istore 7, 2) := by decide +kernel
theorem dL_law_844 : decode cL_law 844 = .ok (.aload_n 2, 1) := by decide +kernel
theorem dL_law_845 : decode cL_law 845 = .ok (.invokevirtual 141, 3) := by decide +kernel
theorem dL_law_848 : decode cL_law 848 = .ok (.iload 6, 2) := by decide +kernel
theorem dL_law_850 : decode cL_law 850 = .ok (.if_icmp .eq 5, 3) := by decide +kernel
theorem dL_law_853 : decode cL_law 853 = .ok (.iconst 0, 1) := by decide +kernel
theorem dL_law_854 : decode cL_law 854 = .ok (.ireturn, 1) := by decide +kernel
theorem dL_law_855 : decode cL_law 855 = .ok (.iload 6, 2) := by decide +kernel
theorem dL_law_857 : decode cL_law 857 = .ok (.ifCond .ne 15, 3) := by decide +kernel
theorem dL_law_860 : decode cL_law 860 = .ok (.aload_n 3, 1) := by decide +kernel
theorem dL_law_861 : decode cL_law 861 = .ok (.iconst 0, 1) := by decide +kernel
theorem dL_law_862 : decode cL_law 862 = .ok (.laload, 1) := by decide +kernel
theorem dL_law_863 : decode cL_law 863 = .ok (.iload 7, 2) := by decide +kernel
theorem dL_law_865 : decode cL_law 865 = .ok (.i2l, 1) := by decide +kernel
theorem dL_law_866 : decode cL_law 866 = .ok (.lcmp, 1) := by decide +kernel
theorem dL_law_867 : decode cL_law 867 = .ok (.ifCond .eq 5, 3) := by decide +kernel
theorem dL_law_870 : decode cL_law 870 = .ok (.iconst 0, 1) := by decide +kernel
theorem dL_law_871 : decode cL_law 871 = .ok (.ireturn, 1) := by decide +kernel
theorem dL_law_872 : decode cL_law 872 = .ok (.goto 1669, 3) := by decide +kernel
theorem dL_law_875 : decode cL_law 875 = .ok (.aload_n 1, 1) := by decide +kernel
theorem dL_law_876 : decode cL_law 876 = .ok (.aload_n 0, 1) := by decide +kernel
theorem dL_law_877 : decode cL_law 877 = .ok (.iload 5, 2) := by decide +kernel
theorem dL_law_879 : decode cL_law 879 = .ok (.iconst 1, 1) := by decide +kernel
theorem dL_law_880 : decode cL_law 880 = .ok (.iadd, 1) := by decide +kernel
theorem dL_law_881 : decode cL_law 881 = .ok (.iaload, 1) := by decide +kernel
theorem dL_law_882 : decode cL_law 882 = .ok (.aload_n 3, 1) := by decide +kernel
theorem dL_law_883 : decode cL_law 883 = .ok (.invokestatic 175, 3) := by decide +kernel
theorem dL_law_886 : decode cL_law 886 = .ok (.istore 6, 2) := by decide +kernel
theorem dL_law_888 : decode cL_law 888 = .ok (.aload_n 2, 1) := by decide +kernel
theorem dL_law_889 : decode cL_law 889 = .ok (.aload_n 0, 1) := by decide +kernel
theorem dL_law_890 : decode cL_law 890 = .ok (.iload 5, 2) := by decide +kernel
theorem dL_law_892 : decode cL_law 892 = .ok (.iconst 1, 1) := by decide +kernel
theorem dL_law_893 : decode cL_law 893 = .ok (.iadd, 1) := by decide +kernel
theorem dL_law_894 : decode cL_law 894 = .ok (.iaload, 1) := by decide +kernel
theorem dL_law_895 : decode cL_law 895 = .ok (.invokevirtual 177, 3) := by decide +kernel
theorem dL_law_898 : decode cL_law 898 = .ok (.istore 7, 2) := by decide +kernel
theorem dL_law_900 : decode cL_law 900 = .ok (.aload_n 2, 1) := by decide +kernel
theorem dL_law_901 : decode cL_law 901 = .ok (.invokevirtual 141, 3) := by decide +kernel
theorem dL_law_904 : decode cL_law 904 = .ok (.iload 6, 2) := by decide +kernel
theorem dL_law_906 : decode cL_law 906 = .ok (.if_icmp .eq 5, 3) := by decide +kernel
theorem dL_law_909 : decode cL_law 909 = .ok (.iconst 0, 1) := by decide +kernel
theorem dL_law_910 : decode cL_law 910 = .ok (.ireturn, 1) := by decide +kernel
theorem dL_law_911 : decode cL_law 911 = .ok (.iload 6, 2) := by decide +kernel
theorem dL_law_913 : decode cL_law 913 = .ok (.ifCond .ne 22, 3) := by decide +kernel
theorem dL_law_916 : decode cL_law 916 = .ok (.aload_n 3, 1) := by decide +kernel
theorem dL_law_917 : decode cL_law 917 = .ok (.iconst 0, 1) := by decide +kernel
theorem dL_law_918 : decode cL_law 918 = .ok (.laload, 1) := by decide +kernel
theorem dL_law_919 : decode cL_law 919 = .ok (.iload 7, 2) := by decide +kernel
theorem dL_law_921 : decode cL_law 921 = .ok (.ifCond .eq 7, 3) := by decide +kernel
theorem dL_law_924 : decode cL_law 924 = .ok (.lconst 1, 1) := by decide +kernel
theorem dL_law_925 : decode cL_law 925 = .ok (.goto 4, 3) := by decide +kernel
theorem dL_law_928 : decode cL_law 928 = .ok (.lconst 0, 1) := by decide +kernel
theorem dL_law_929 : decode cL_law 929 = .ok (.lcmp, 1) := by decide +kernel
theorem dL_law_930 : decode cL_law 930 = .ok (.ifCond .eq 5, 3) := by decide +kernel
theorem dL_law_933 : decode cL_law 933 = .ok (.iconst 0, 1) := by decide +kernel
theorem dL_law_934 : decode cL_law 934 = .ok (.ireturn, 1) := by decide +kernel
theorem dL_law_935 : decode cL_law 935 = .ok (.goto 1606, 3) := by decide +kernel
theorem dL_law_938 : decode cL_law 938 = .ok (.aload_n 1, 1) := by decide +kernel
theorem dL_law_939 : decode cL_law 939 = .ok (.aload_n 0, 1) := by decide +kernel
theorem dL_law_940 : decode cL_law 940 = .ok (.iload 5, 2) := by decide +kernel
theorem dL_law_942 : decode cL_law 942 = .ok (.iconst 1, 1) := by decide +kernel
theorem dL_law_943 : decode cL_law 943 = .ok (.iadd, 1) := by decide +kernel
theorem dL_law_944 : decode cL_law 944 = .ok (.iaload, 1) := by decide +kernel
theorem dL_law_945 : decode cL_law 945 = .ok (.aload_n 3, 1) := by decide +kernel
theorem dL_law_946 : decode cL_law 946 = .ok (.invokestatic 178, 3) := by decide +kernel
theorem dL_law_949 : decode cL_law 949 = .ok (.istore 6, 2) := by decide +kernel
theorem dL_law_951 : decode cL_law 951 = .ok (.aload_n 2, 1) := by decide +kernel
theorem dL_law_952 : decode cL_law 952 = .ok (.aload_n 0, 1) := by decide +kernel
theorem dL_law_953 : decode cL_law 953 = .ok (.iload 5, 2) := by decide +kernel
theorem dL_law_955 : decode cL_law 955 = .ok (.iconst 1, 1) := by decide +kernel
theorem dL_law_956 : decode cL_law 956 = .ok (.iadd, 1) := by decide +kernel
theorem dL_law_957 : decode cL_law 957 = .ok (.iaload, 1) := by decide +kernel
theorem dL_law_958 : decode cL_law 958 = .ok (.invokevirtual 180, 3) := by decide +kernel
theorem dL_law_961 : decode cL_law 961 = .ok (.lstore 7, 2) := by decide +kernel
theorem dL_law_963 : decode cL_law 963 = .ok (.aload_n 2, 1) := by decide +kernel
theorem dL_law_964 : decode cL_law 964 = .ok (.invokevirtual 141, 3) := by decide +kernel
theorem dL_law_967 : decode cL_law 967 = .ok (.iload 6, 2) := by decide +kernel
theorem dL_law_969 : decode cL_law 969 = .ok (.if_icmp .eq 5, 3) := by decide +kernel
theorem dL_law_972 : decode cL_law 972 = .ok (.iconst 0, 1) := by decide +kernel
theorem dL_law_973 : decode cL_law 973 = .ok (.ireturn, 1) := by decide +kernel
theorem dL_law_974 : decode cL_law 974 = .ok (.iload 6, 2) := by decide +kernel
theorem dL_law_976 : decode cL_law 976 = .ok (.ifCond .ne 14, 3) := by decide +kernel
theorem dL_law_979 : decode cL_law 979 = .ok (.aload_n 3, 1) := by decide +kernel
theorem dL_law_980 : decode cL_law 980 = .ok (.iconst 0, 1) := by decide +kernel
theorem dL_law_981 : decode cL_law 981 = .ok (.laload, 1) := by decide +kernel
theorem dL_law_982 : decode cL_law 982 = .ok (.lload 7, 2) := by decide +kernel
theorem dL_law_984 : decode cL_law 984 = .ok (.lcmp, 1) := by decide +kernel
theorem dL_law_985 : decode cL_law 985 = .ok (.ifCond .eq 5, 3) := by decide +kernel
theorem dL_law_988 : decode cL_law 988 = .ok (.iconst 0, 1) := by decide +kernel
theorem dL_law_989 : decode cL_law 989 = .ok (.ireturn, 1) := by decide +kernel
theorem dL_law_990 : decode cL_law 990 = .ok (.goto 1551, 3) := by decide +kernel
theorem dL_law_993 : decode cL_law 993 = .ok (.aload_n 1, 1) := by decide +kernel
theorem dL_law_994 : decode cL_law 994 = .ok (.aload_n 0, 1) := by decide +kernel
theorem dL_law_995 : decode cL_law 995 = .ok (.iload 5, 2) := by decide +kernel
theorem dL_law_997 : decode cL_law 997 = .ok (.iconst 1, 1) := by decide +kernel
theorem dL_law_998 : decode cL_law 998 = .ok (.iadd, 1) := by decide +kernel
theorem dL_law_999 : decode cL_law 999 = .ok (.iaload, 1) := by decide +kernel
theorem dL_law_1000 : decode cL_law 1000 = .ok (.aload_n 0, 1) := by decide +kernel
theorem dL_law_1001 : decode cL_law 1001 = .ok (.iload 5, 2) := by decide +kernel
theorem dL_law_1003 : decode cL_law 1003 = .ok (.iconst 2, 1) := by decide +kernel
theorem dL_law_1004 : decode cL_law 1004 = .ok (.iadd, 1) := by decide +kernel
theorem dL_law_1005 : decode cL_law 1005 = .ok (.iaload, 1) := by decide +kernel
theorem dL_law_1006 : decode cL_law 1006 = .ok (.i2c, 1) := by decide +kernel
theorem dL_law_1007 : decode cL_law 1007 = .ok (.aload_n 3, 1) := by decide +kernel
theorem dL_law_1008 : decode cL_law 1008 = .ok (.invokestatic 181, 3) := by decide +kernel
theorem dL_law_1011 : decode cL_law 1011 = .ok (.istore 6, 2) := by decide +kernel
theorem dL_law_1013 : decode cL_law 1013 = .ok (.aload_n 2, 1) := by decide +kernel
theorem dL_law_1014 : decode cL_law 1014 = .ok (.aload_n 0, 1) := by decide +kernel
theorem dL_law_1015 : decode cL_law 1015 = .ok (.iload 5, 2) := by decide +kernel
theorem dL_law_1017 : decode cL_law 1017 = .ok (.iconst 1, 1) := by decide +kernel
theorem dL_law_1018 : decode cL_law 1018 = .ok (.iadd, 1) := by decide +kernel
theorem dL_law_1019 : decode cL_law 1019 = .ok (.iaload, 1) := by decide +kernel
theorem dL_law_1020 : decode cL_law 1020 = .ok (.aload_n 0, 1) := by decide +kernel
theorem dL_law_1021 : decode cL_law 1021 = .ok (.iload 5, 2) := by decide +kernel
theorem dL_law_1023 : decode cL_law 1023 = .ok (.iconst 2, 1) := by decide +kernel
theorem dL_law_1024 : decode cL_law 1024 = .ok (.iadd, 1) := by decide +kernel
theorem dL_law_1025 : decode cL_law 1025 = .ok (.iaload, 1) := by decide +kernel
theorem dL_law_1026 : decode cL_law 1026 = .ok (.i2c, 1) := by decide +kernel
theorem dL_law_1027 : decode cL_law 1027 = .ok (.invokevirtual 184, 3) := by decide +kernel
theorem dL_law_1030 : decode cL_law 1030 = .ok (.lstore 7, 2) := by decide +kernel
theorem dL_law_1032 : decode cL_law 1032 = .ok (.aload_n 2, 1) := by decide +kernel
theorem dL_law_1033 : decode cL_law 1033 = .ok (.invokevirtual 141, 3) := by decide +kernel
theorem dL_law_1036 : decode cL_law 1036 = .ok (.iload 6, 2) := by decide +kernel
theorem dL_law_1038 : decode cL_law 1038 = .ok (.if_icmp .eq 5, 3) := by decide +kernel
theorem dL_law_1041 : decode cL_law 1041 = .ok (.iconst 0, 1) := by decide +kernel
theorem dL_law_1042 : decode cL_law 1042 = .ok (.ireturn, 1) := by decide +kernel
theorem dL_law_1043 : decode cL_law 1043 = .ok (.iload 6, 2) := by decide +kernel
theorem dL_law_1045 : decode cL_law 1045 = .ok (.ifCond .ne 14, 3) := by decide +kernel
theorem dL_law_1048 : decode cL_law 1048 = .ok (.aload_n 3, 1) := by decide +kernel
theorem dL_law_1049 : decode cL_law 1049 = .ok (.iconst 0, 1) := by decide +kernel
theorem dL_law_1050 : decode cL_law 1050 = .ok (.laload, 1) := by decide +kernel
theorem dL_law_1051 : decode cL_law 1051 = .ok (.lload 7, 2) := by decide +kernel
theorem dL_law_1053 : decode cL_law 1053 = .ok (.lcmp, 1) := by decide +kernel
theorem dL_law_1054 : decode cL_law 1054 = .ok (.ifCond .eq 5, 3) := by decide +kernel
theorem dL_law_1057 : decode cL_law 1057 = .ok (.iconst 0, 1) := by decide +kernel
theorem dL_law_1058 : decode cL_law 1058 = .ok (.ireturn, 1) := by decide +kernel
theorem dL_law_1059 : decode cL_law 1059 = .ok (.goto 1482, 3) := by decide +kernel
theorem dL_law_1062 : decode cL_law 1062 = .ok (.aload_n 1, 1) := by decide +kernel
theorem dL_law_1063 : decode cL_law 1063 = .ok (.aload_n 0, 1) := by decide +kernel
theorem dL_law_1064 : decode cL_law 1064 = .ok (.iload 5, 2) := by decide +kernel
theorem dL_law_1066 : decode cL_law 1066 = .ok (.iconst 1, 1) := by decide +kernel
theorem dL_law_1067 : decode cL_law 1067 = .ok (.iadd, 1) := by decide +kernel
theorem dL_law_1068 : decode cL_law 1068 = .ok (.iaload, 1) := by decide +kernel
theorem dL_law_1069 : decode cL_law 1069 = .ok (.aload_n 0, 1) := by decide +kernel
theorem dL_law_1070 : decode cL_law 1070 = .ok (.iload 5, 2) := by decide +kernel
theorem dL_law_1072 : decode cL_law 1072 = .ok (.iconst 2, 1) := by decide +kernel
theorem dL_law_1073 : decode cL_law 1073 = .ok (.iadd, 1) := by decide +kernel
theorem dL_law_1074 : decode cL_law 1074 = .ok (.iaload, 1) := by decide +kernel
theorem dL_law_1075 : decode cL_law 1075 = .ok (.aload_n 3, 1) := by decide +kernel
theorem dL_law_1076 : decode cL_law 1076 = .ok (.invokestatic 185, 3) := by decide +kernel
theorem dL_law_1079 : decode cL_law 1079 = .ok (.istore 6, 2) := by decide +kernel
theorem dL_law_1081 : decode cL_law 1081 = .ok (.aload_n 2, 1) := by decide +kernel
theorem dL_law_1082 : decode cL_law 1082 = .ok (.aload_n 0, 1) := by decide +kernel
theorem dL_law_1083 : decode cL_law 1083 = .ok (.iload 5, 2) := by decide +kernel
theorem dL_law_1085 : decode cL_law 1085 = .ok (.iconst 1, 1) := by decide +kernel
theorem dL_law_1086 : decode cL_law 1086 = .ok (.iadd, 1) := by decide +kernel
theorem dL_law_1087 : decode cL_law 1087 = .ok (.iaload, 1) := by decide +kernel
theorem dL_law_1088 : decode cL_law 1088 = .ok (.aload_n 0, 1) := by decide +kernel
theorem dL_law_1089 : decode cL_law 1089 = .ok (.iload 5, 2) := by decide +kernel
theorem dL_law_1091 : decode cL_law 1091 = .ok (.iconst 2, 1) := by decide +kernel
theorem dL_law_1092 : decode cL_law 1092 = .ok (.iadd, 1) := by decide +kernel
theorem dL_law_1093 : decode cL_law 1093 = .ok (.iaload, 1) := by decide +kernel
theorem dL_law_1094 : decode cL_law 1094 = .ok (.invokevirtual 187, 3) := by decide +kernel
theorem dL_law_1097 : decode cL_law 1097 = .ok (.istore 7, 2) := by decide +kernel
theorem dL_law_1099 : decode cL_law 1099 = .ok (.aload_n 2, 1) := by decide +kernel
theorem dL_law_1100 : decode cL_law 1100 = .ok (.invokevirtual 141, 3) := by decide +kernel
theorem dL_law_1103 : decode cL_law 1103 = .ok (.iload 6, 2) := by decide +kernel
theorem dL_law_1105 : decode cL_law 1105 = .ok (.if_icmp .eq 5, 3) := by decide +kernel
theorem dL_law_1108 : decode cL_law 1108 = .ok (.iconst 0, 1) := by decide +kernel
theorem dL_law_1109 : decode cL_law 1109 = .ok (.ireturn, 1) := by decide +kernel
theorem dL_law_1110 : decode cL_law 1110 = .ok (.iload 6, 2) := by decide +kernel
theorem dL_law_1112 : decode cL_law 1112 = .ok (.ifCond .ne 15, 3) := by decide +kernel
theorem dL_law_1115 : decode cL_law 1115 = .ok (.aload_n 3, 1) := by decide +kernel
theorem dL_law_1116 : decode cL_law 1116 = .ok (.iconst 0, 1) := by decide +kernel
theorem dL_law_1117 : decode cL_law 1117 = .ok (.laload, 1) := by decide +kernel
theorem dL_law_1118 : decode cL_law 1118 = .ok (.iload 7, 2) := by decide +kernel
theorem dL_law_1120 : decode cL_law 1120 = .ok (.i2l, 1) := by decide +kernel
theorem dL_law_1121 : decode cL_law 1121 = .ok (.lcmp, 1) := by decide +kernel
theorem dL_law_1122 : decode cL_law 1122 = .ok (.ifCond .eq 5, 3) := by decide +kernel
theorem dL_law_1125 : decode cL_law 1125 = .ok (.iconst 0, 1) := by decide +kernel
theorem dL_law_1126 : decode cL_law 1126 = .ok (.ireturn, 1) := by decide +kernel
theorem dL_law_1127 : decode cL_law 1127 = .ok (.goto 1414, 3) := by decide +kernel
theorem dL_law_1130 : decode cL_law 1130 = .ok (.aload_n 1, 1) := by decide +kernel
theorem dL_law_1131 : decode cL_law 1131 = .ok (.aload_n 0, 1) := by decide +kernel
theorem dL_law_1132 : decode cL_law 1132 = .ok (.iload 5, 2) := by decide +kernel
theorem dL_law_1134 : decode cL_law 1134 = .ok (.iconst 1, 1) := by decide +kernel
theorem dL_law_1135 : decode cL_law 1135 = .ok (.iadd, 1) := by decide +kernel
theorem dL_law_1136 : decode cL_law 1136 = .ok (.iaload, 1) := by decide +kernel
theorem dL_law_1137 : decode cL_law 1137 = .ok (.aload_n 3, 1) := by decide +kernel
theorem dL_law_1138 : decode cL_law 1138 = .ok (.invokestatic 188, 3) := by decide +kernel
theorem dL_law_1141 : decode cL_law 1141 = .ok (.istore 6, 2) := by decide +kernel
theorem dL_law_1143 : decode cL_law 1143 = .ok (.aload_n 2, 1) := by decide +kernel
theorem dL_law_1144 : decode cL_law 1144 = .ok (.aload_n 0, 1) := by decide +kernel
theorem dL_law_1145 : decode cL_law 1145 = .ok (.iload 5, 2) := by decide +kernel
theorem dL_law_1147 : decode cL_law 1147 = .ok (.iconst 1, 1) := by decide +kernel
theorem dL_law_1148 : decode cL_law 1148 = .ok (.iadd, 1) := by decide +kernel
theorem dL_law_1149 : decode cL_law 1149 = .ok (.iaload, 1) := by decide +kernel
theorem dL_law_1150 : decode cL_law 1150 = .ok (.invokevirtual 190, 3) := by decide +kernel
theorem dL_law_1153 : decode cL_law 1153 = .ok (.lstore 7, 2) := by decide +kernel
theorem dL_law_1155 : decode cL_law 1155 = .ok (.aload_n 2, 1) := by decide +kernel
theorem dL_law_1156 : decode cL_law 1156 = .ok (.invokevirtual 141, 3) := by decide +kernel
theorem dL_law_1159 : decode cL_law 1159 = .ok (.iload 6, 2) := by decide +kernel
theorem dL_law_1161 : decode cL_law 1161 = .ok (.if_icmp .eq 5, 3) := by decide +kernel
theorem dL_law_1164 : decode cL_law 1164 = .ok (.iconst 0, 1) := by decide +kernel
theorem dL_law_1165 : decode cL_law 1165 = .ok (.ireturn, 1) := by decide +kernel
theorem dL_law_1166 : decode cL_law 1166 = .ok (.iload 6, 2) := by decide +kernel
theorem dL_law_1168 : decode cL_law 1168 = .ok (.ifCond .ne 14, 3) := by decide +kernel
theorem dL_law_1171 : decode cL_law 1171 = .ok (.aload_n 3, 1) := by decide +kernel
theorem dL_law_1172 : decode cL_law 1172 = .ok (.iconst 0, 1) := by decide +kernel
theorem dL_law_1173 : decode cL_law 1173 = .ok (.laload, 1) := by decide +kernel
theorem dL_law_1174 : decode cL_law 1174 = .ok (.lload 7, 2) := by decide +kernel
theorem dL_law_1176 : decode cL_law 1176 = .ok (.lcmp, 1) := by decide +kernel
theorem dL_law_1177 : decode cL_law 1177 = .ok (.ifCond .eq 5, 3) := by decide +kernel
theorem dL_law_1180 : decode cL_law 1180 = .ok (.iconst 0, 1) := by decide +kernel
theorem dL_law_1181 : decode cL_law 1181 = .ok (.ireturn, 1) := by decide +kernel
theorem dL_law_1182 : decode cL_law 1182 = .ok (.goto 1359, 3) := by decide +kernel
theorem dL_law_1185 : decode cL_law 1185 = .ok (.aload_n 1, 1) := by decide +kernel
theorem dL_law_1186 : decode cL_law 1186 = .ok (.aload_n 0, 1) := by decide +kernel
theorem dL_law_1187 : decode cL_law 1187 = .ok (.iload 5, 2) := by decide +kernel
theorem dL_law_1189 : decode cL_law 1189 = .ok (.iconst 1, 1) := by decide +kernel
theorem dL_law_1190 : decode cL_law 1190 = .ok (.iadd, 1) := by decide +kernel
theorem dL_law_1191 : decode cL_law 1191 = .ok (.iaload, 1) := by decide +kernel
theorem dL_law_1192 : decode cL_law 1192 = .ok (.aload_n 3, 1) := by decide +kernel
theorem dL_law_1193 : decode cL_law 1193 = .ok (.invokestatic 191, 3) := by decide +kernel
theorem dL_law_1196 : decode cL_law 1196 = .ok (.istore 6, 2) := by decide +kernel
theorem dL_law_1198 : decode cL_law 1198 = .ok (.aload_n 2, 1) := by decide +kernel
theorem dL_law_1199 : decode cL_law 1199 = .ok (.aload_n 0, 1) := by decide +kernel
theorem dL_law_1200 : decode cL_law 1200 = .ok (.iload 5, 2) := by decide +kernel
theorem dL_law_1202 : decode cL_law 1202 = .ok (.iconst 1, 1) := by decide +kernel
theorem dL_law_1203 : decode cL_law 1203 = .ok (.iadd, 1) := by decide +kernel
theorem dL_law_1204 : decode cL_law 1204 = .ok (.iaload, 1) := by decide +kernel
theorem dL_law_1205 : decode cL_law 1205 = .ok (.invokevirtual 193, 3) := by decide +kernel
theorem dL_law_1208 : decode cL_law 1208 = .ok (.istore 7, 2) := by decide +kernel
theorem dL_law_1210 : decode cL_law 1210 = .ok (.aload_n 2, 1) := by decide +kernel
theorem dL_law_1211 : decode cL_law 1211 = .ok (.invokevirtual 141, 3) := by decide +kernel
theorem dL_law_1214 : decode cL_law 1214 = .ok (.iload 6, 2) := by decide +kernel
theorem dL_law_1216 : decode cL_law 1216 = .ok (.if_icmp .eq 5, 3) := by decide +kernel
theorem dL_law_1219 : decode cL_law 1219 = .ok (.iconst 0, 1) := by decide +kernel
theorem dL_law_1220 : decode cL_law 1220 = .ok (.ireturn, 1) := by decide +kernel
theorem dL_law_1221 : decode cL_law 1221 = .ok (.iload 6, 2) := by decide +kernel
theorem dL_law_1223 : decode cL_law 1223 = .ok (.ifCond .ne 15, 3) := by decide +kernel
theorem dL_law_1226 : decode cL_law 1226 = .ok (.aload_n 3, 1) := by decide +kernel
theorem dL_law_1227 : decode cL_law 1227 = .ok (.iconst 0, 1) := by decide +kernel
theorem dL_law_1228 : decode cL_law 1228 = .ok (.laload, 1) := by decide +kernel
theorem dL_law_1229 : decode cL_law 1229 = .ok (.iload 7, 2) := by decide +kernel
theorem dL_law_1231 : decode cL_law 1231 = .ok (.i2l, 1) := by decide +kernel
theorem dL_law_1232 : decode cL_law 1232 = .ok (.lcmp, 1) := by decide +kernel
theorem dL_law_1233 : decode cL_law 1233 = .ok (.ifCond .eq 5, 3) := by decide +kernel
theorem dL_law_1236 : decode cL_law 1236 = .ok (.iconst 0, 1) := by decide +kernel
theorem dL_law_1237 : decode cL_law 1237 = .ok (.ireturn, 1) := by decide +kernel
theorem dL_law_1238 : decode cL_law 1238 = .ok (.goto 1303, 3) := by decide +kernel
theorem dL_law_1241 : decode cL_law 1241 = .ok (.aload_n 1, 1) := by decide +kernel
theorem dL_law_1242 : decode cL_law 1242 = .ok (.aload_n 0, 1) := by decide +kernel
theorem dL_law_1243 : decode cL_law 1243 = .ok (.iload 5, 2) := by decide +kernel
theorem dL_law_1245 : decode cL_law 1245 = .ok (.iconst 1, 1) := by decide +kernel
theorem dL_law_1246 : decode cL_law 1246 = .ok (.iadd, 1) := by decide +kernel
theorem dL_law_1247 : decode cL_law 1247 = .ok (.iaload, 1) := by decide +kernel
theorem dL_law_1248 : decode cL_law 1248 = .ok (.aload_n 0, 1) := by decide +kernel
theorem dL_law_1249 : decode cL_law 1249 = .ok (.iload 5, 2) := by decide +kernel
theorem dL_law_1251 : decode cL_law 1251 = .ok (.iconst 2, 1) := by decide +kernel
theorem dL_law_1252 : decode cL_law 1252 = .ok (.iadd, 1) := by decide +kernel
theorem dL_law_1253 : decode cL_law 1253 = .ok (.iaload, 1) := by decide +kernel
theorem dL_law_1254 : decode cL_law 1254 = .ok (.aload_n 0, 1) := by decide +kernel
theorem dL_law_1255 : decode cL_law 1255 = .ok (.iload 5, 2) := by decide +kernel
theorem dL_law_1257 : decode cL_law 1257 = .ok (.iconst 3, 1) := by decide +kernel
theorem dL_law_1258 : decode cL_law 1258 = .ok (.iadd, 1) := by decide +kernel
theorem dL_law_1259 : decode cL_law 1259 = .ok (.iaload, 1) := by decide +kernel
theorem dL_law_1260 : decode cL_law 1260 = .ok (.aload 4, 2) := by decide +kernel
theorem dL_law_1262 : decode cL_law 1262 = .ok (.invokestatic 194, 3) := by decide +kernel
theorem dL_law_1265 : decode cL_law 1265 = .ok (.istore 6, 2) := by decide +kernel
theorem dL_law_1267 : decode cL_law 1267 = .ok (.aload_n 2, 1) := by decide +kernel
theorem dL_law_1268 : decode cL_law 1268 = .ok (.aload_n 0, 1) := by decide +kernel
theorem dL_law_1269 : decode cL_law 1269 = .ok (.iload 5, 2) := by decide +kernel
theorem dL_law_1271 : decode cL_law 1271 = .ok (.iconst 1, 1) := by decide +kernel
theorem dL_law_1272 : decode cL_law 1272 = .ok (.iadd, 1) := by decide +kernel
theorem dL_law_1273 : decode cL_law 1273 = .ok (.iaload, 1) := by decide +kernel
theorem dL_law_1274 : decode cL_law 1274 = .ok (.aload_n 0, 1) := by decide +kernel
theorem dL_law_1275 : decode cL_law 1275 = .ok (.iload 5, 2) := by decide +kernel
theorem dL_law_1277 : decode cL_law 1277 = .ok (.iconst 2, 1) := by decide +kernel
theorem dL_law_1278 : decode cL_law 1278 = .ok (.iadd, 1) := by decide +kernel
theorem dL_law_1279 : decode cL_law 1279 = .ok (.iaload, 1) := by decide +kernel
theorem dL_law_1280 : decode cL_law 1280 = .ok (.aload_n 0, 1) := by decide +kernel
theorem dL_law_1281 : decode cL_law 1281 = .ok (.iload 5, 2) := by decide +kernel
theorem dL_law_1283 : decode cL_law 1283 = .ok (.iconst 3, 1) := by decide +kernel
theorem dL_law_1284 : decode cL_law 1284 = .ok (.iadd, 1) := by decide +kernel
theorem dL_law_1285 : decode cL_law 1285 = .ok (.iaload, 1) := by decide +kernel
theorem dL_law_1286 : decode cL_law 1286 = .ok (.invokevirtual 197, 3) := by decide +kernel
theorem dL_law_1289 : decode cL_law 1289 = .ok (.dstore 7, 2) := by decide +kernel
theorem dL_law_1291 : decode cL_law 1291 = .ok (.aload_n 2, 1) := by decide +kernel
theorem dL_law_1292 : decode cL_law 1292 = .ok (.invokevirtual 141, 3) := by decide +kernel
theorem dL_law_1295 : decode cL_law 1295 = .ok (.iload 6, 2) := by decide +kernel
theorem dL_law_1297 : decode cL_law 1297 = .ok (.if_icmp .eq 5, 3) := by decide +kernel
theorem dL_law_1300 : decode cL_law 1300 = .ok (.iconst 0, 1) := by decide +kernel
theorem dL_law_1301 : decode cL_law 1301 = .ok (.ireturn, 1) := by decide +kernel
theorem dL_law_1302 : decode cL_law 1302 = .ok (.iload 6, 2) := by decide +kernel
theorem dL_law_1304 : decode cL_law 1304 = .ok (.ifCond .ne 35, 3) := by decide +kernel
theorem dL_law_1307 : decode cL_law 1307 = .ok (.aload 4, 2) := by decide +kernel
theorem dL_law_1309 : decode cL_law 1309 = .ok (.iconst 0, 1) := by decide +kernel
theorem dL_law_1310 : decode cL_law 1310 = .ok (.daload, 1) := by decide +kernel
theorem dL_law_1311 : decode cL_law 1311 = .ok (.dload 7, 2) := by decide +kernel
theorem dL_law_1313 : decode cL_law 1313 = .ok (.dcmp .l, 1) := by decide +kernel
theorem dL_law_1314 : decode cL_law 1314 = .ok (.ifCond .eq 25, 3) := by decide +kernel
theorem dL_law_1317 : decode cL_law 1317 = .ok (.aload 4, 2) := by decide +kernel
theorem dL_law_1319 : decode cL_law 1319 = .ok (.iconst 0, 1) := by decide +kernel
theorem dL_law_1320 : decode cL_law 1320 = .ok (.daload, 1) := by decide +kernel
theorem dL_law_1321 : decode cL_law 1321 = .ok (.aload 4, 2) := by decide +kernel
theorem dL_law_1323 : decode cL_law 1323 = .ok (.iconst 0, 1) := by decide +kernel
theorem dL_law_1324 : decode cL_law 1324 = .ok (.daload, 1) := by decide +kernel
theorem dL_law_1325 : decode cL_law 1325 = .ok (.dcmp .l, 1) := by decide +kernel
theorem dL_law_1326 : decode cL_law 1326 = .ok (.ifCond .eq 11, 3) := by decide +kernel
theorem dL_law_1329 : decode cL_law 1329 = .ok (.dload 7, 2) := by decide +kernel
theorem dL_law_1331 : decode cL_law 1331 = .ok (.dload 7, 2) := by decide +kernel
theorem dL_law_1333 : decode cL_law 1333 = .ok (.dcmp .l, 1) := by decide +kernel
theorem dL_law_1334 : decode cL_law 1334 = .ok (.ifCond .ne 5, 3) := by decide +kernel
theorem dL_law_1337 : decode cL_law 1337 = .ok (.iconst 0, 1) := by decide +kernel
theorem dL_law_1338 : decode cL_law 1338 = .ok (.ireturn, 1) := by decide +kernel
theorem dL_law_1339 : decode cL_law 1339 = .ok (.goto 1202, 3) := by decide +kernel
theorem dL_law_1342 : decode cL_law 1342 = .ok (.aload_n 1, 1) := by decide +kernel
end
section
theorem dL_law_1343 : decode cL_law 1343 = .ok (.aload_n 0, 1) := by decide +kernel
theorem dL_law_1344 : decode cL_law 1344 = .ok (.iload 5, 2) := by decide +kernel
theorem dL_law_1346 : decode cL_law 1346 = .ok (.iconst 1, 1) := by decide +kernel
theorem dL_law_1347 : decode cL_law 1347 = .ok (.iadd, 1) := by decide +kernel
theorem dL_law_1348 : decode cL_law 1348 = .ok (.iaload, 1) := by decide +kernel
theorem dL_law_1349 : decode cL_law 1349 = .ok (.i2l, 1) := by decide +kernel
theorem dL_law_1350 : decode cL_law 1350 = .ok (.bipush 32, 2) := by decide +kernel
theorem dL_law_1352 : decode cL_law 1352 = .ok (.lshl, 1) := by decide +kernel
theorem dL_law_1353 : decode cL_law 1353 = .ok (.aload_n 0, 1) := by decide +kernel
theorem dL_law_1354 : decode cL_law 1354 = .ok (.iload 5, 2) := by decide +kernel
theorem dL_law_1356 : decode cL_law 1356 = .ok (.iconst 2, 1) := by decide +kernel
theorem dL_law_1357 : decode cL_law 1357 = .ok (.iadd, 1) := by decide +kernel
theorem dL_law_1358 : decode cL_law 1358 = .ok (.iaload, 1) := by decide +kernel
theorem dL_law_1359 : decode cL_law 1359 = .ok (.i2l, 1) := by decide +kernel
theorem dL_law_1360 : decode cL_law 1360 = .ok (.ldc2_w 198, 3) := by decide +kernel
theorem dL_law_1363 : decode cL_law 1363 = .ok (.land, 1) := by decide +kernel
theorem dL_law_1364 : decode cL_law 1364 = .ok (.lor, 1) := by decide +kernel
theorem dL_law_1365 : decode cL_law 1365 = .ok (.aload 4, 2) := by decide +kernel
theorem dL_law_1367 : decode cL_law 1367 = .ok (.invokestatic 200, 3) := by decide +kernel
theorem dL_law_1370 : decode cL_law 1370 = .ok (.istore 6, 2) := by decide +kernel
theorem dL_law_1372 : decode cL_law 1372 = .ok (.aload_n 2, 1) := by decide +kernel
theorem dL_law_1373 : decode cL_law 1373 = .ok (.aload_n 0, 1) := by decide +kernel
theorem dL_law_1374 : decode cL_law 1374 = .ok (.iload 5, 2) := by decide +kernel
theorem dL_law_1376 : decode cL_law 1376 = .ok (.iconst 1, 1) := by decide +kernel
theorem dL_law_1377 : decode cL_law 1377 = .ok (.iadd, 1) := by decide +kernel
theorem dL_law_1378 : decode cL_law 1378 = .ok (.iaload, 1) := by decide +kernel
theorem dL_law_1379 : decode cL_law 1379 = .ok (.i2l, 1) := by decide +kernel
theorem dL_law_1380 : decode cL_law 1380 = .ok (.bipush 32, 2) := by decide +kernel
theorem dL_law_1382 : decode cL_law 1382 = .ok (.lshl, 1) := by decide +kernel
theorem dL_law_1383 : decode cL_law 1383 = .ok (.aload_n 0, 1) := by decide +kernel
theorem dL_law_1384 : decode cL_law 1384 = .ok (.iload 5, 2) := by decide +kernel
theorem dL_law_1386 : decode cL_law 1386 = .ok (.iconst 2, 1) := by decide +kernel
theorem dL_law_1387 : decode cL_law 1387 = .ok (.iadd, 1) := by decide +kernel
theorem dL_law_1388 : decode cL_law 1388 = .ok (.iaload, 1) := by decide +kernel
theorem dL_law_1389 : decode cL_law 1389 = .ok (.i2l, 1) := by decide +kernel
theorem dL_law_1390 : decode cL_law 1390 = .ok (.ldc2_w 198, 3) := by decide +kernel
theorem dL_law_1393 : decode cL_law 1393 = .ok (.land, 1) := by decide +kernel
theorem dL_law_1394 : decode cL_law 1394 = .ok (.lor, 1) := by decide +kernel
theorem dL_law_1395 : decode cL_law 1395 = .ok (.invokevirtual 203, 3) := by decide +kernel
theorem dL_law_1398 : decode cL_law 1398 = .ok (.dstore 7, 2) := by decide +kernel
theorem dL_law_1400 : decode cL_law 1400 = .ok (.aload_n 2, 1) := by decide +kernel
theorem dL_law_1401 : decode cL_law 1401 = .ok (.invokevirtual 141, 3) := by decide +kernel
theorem dL_law_1404 : decode cL_law 1404 = .ok (.iload 6, 2) := by decide +kernel
theorem dL_law_1406 : decode cL_law 1406 = .ok (.if_icmp .eq 5, 3) := by decide +kernel
theorem dL_law_1409 : decode cL_law 1409 = .ok (.iconst 0, 1) := by decide +kernel
theorem dL_law_1410 : decode cL_law 1410 = .ok (.ireturn, 1) := by decide +kernel
theorem dL_law_1411 : decode cL_law 1411 = .ok (.iload 6, 2) := by decide +kernel
theorem dL_law_1413 : decode cL_law 1413 = .ok (.ifCond .ne 35, 3) := by decide +kernel
theorem dL_law_1416 : decode cL_law 1416 = .ok (.aload 4, 2) := by decide +kernel
theorem dL_law_1418 : decode cL_law 1418 = .ok (.iconst 0, 1) := by decide +kernel
theorem dL_law_1419 : decode cL_law 1419 = .ok (.daload, 1) := by decide +kernel
theorem dL_law_1420 : decode cL_law 1420 = .ok (.dload 7, 2) := by decide +kernel
theorem dL_law_1422 : decode cL_law 1422 = .ok (.dcmp .l, 1) := by decide +kernel
theorem dL_law_1423 : decode cL_law 1423 = .ok (.ifCond .eq 25, 3) := by decide +kernel
theorem dL_law_1426 : decode cL_law 1426 = .ok (.aload 4, 2) := by decide +kernel
theorem dL_law_1428 : decode cL_law 1428 = .ok (.iconst 0, 1) := by decide +kernel
theorem dL_law_1429 : decode cL_law 1429 = .ok (.daload, 1) := by decide +kernel
theorem dL_law_1430 : decode cL_law 1430 = .ok (.aload 4, 2) := by decide +kernel
theorem dL_law_1432 : decode cL_law 1432 = .ok (.iconst 0, 1) := by decide +kernel
theorem dL_law_1433 : decode cL_law 1433 = .ok (.daload, 1) := by decide +kernel
theorem dL_law_1434 : decode cL_law 1434 = .ok (.dcmp .l, 1) := by decide +kernel
theorem dL_law_1435 : decode cL_law 1435 = .ok (.ifCond .eq 11, 3) := by decide +kernel
theorem dL_law_1438 : decode cL_law 1438 = .ok (.dload 7, 2) := by decide +kernel
theorem dL_law_1440 : decode cL_law 1440 = .ok (.dload 7, 2) := by decide +kernel
theorem dL_law_1442 : decode cL_law 1442 = .ok (.dcmp .l, 1) := by decide +kernel
theorem dL_law_1443 : decode cL_law 1443 = .ok (.ifCond .ne 5, 3) := by decide +kernel
theorem dL_law_1446 : decode cL_law 1446 = .ok (.iconst 0, 1) := by decide +kernel
theorem dL_law_1447 : decode cL_law 1447 = .ok (.ireturn, 1) := by decide +kernel
theorem dL_law_1448 : decode cL_law 1448 = .ok (.goto 1093, 3) := by decide +kernel
theorem dL_law_1451 : decode cL_law 1451 = .ok (.aload_n 1, 1) := by decide +kernel
theorem dL_law_1452 : decode cL_law 1452 = .ok (.aload_n 0, 1) := by decide +kernel
theorem dL_law_1453 : decode cL_law 1453 = .ok (.iload 5, 2) := by decide +kernel
theorem dL_law_1455 : decode cL_law 1455 = .ok (.iconst 1, 1) := by decide +kernel
theorem dL_law_1456 : decode cL_law 1456 = .ok (.iadd, 1) := by decide +kernel
theorem dL_law_1457 : decode cL_law 1457 = .ok (.iaload, 1) := by decide +kernel
theorem dL_law_1458 : decode cL_law 1458 = .ok (.aload 4, 2) := by decide +kernel
theorem dL_law_1460 : decode cL_law 1460 = .ok (.invokestatic 204, 3) := by decide +kernel
theorem dL_law_1463 : decode cL_law 1463 = .ok (.istore 6, 2) := by decide +kernel
theorem dL_law_1465 : decode cL_law 1465 = .ok (.aload_n 2, 1) := by decide +kernel
theorem dL_law_1466 : decode cL_law 1466 = .ok (.aload_n 0, 1) := by decide +kernel
theorem dL_law_1467 : decode cL_law 1467 = .ok (.iload 5, 2) := by decide +kernel
theorem dL_law_1469 : decode cL_law 1469 = .ok (.iconst 1, 1) := by decide +kernel
theorem dL_law_1470 : decode cL_law 1470 = .ok (.iadd, 1) := by decide +kernel
theorem dL_law_1471 : decode cL_law 1471 = .ok (.iaload, 1) := by decide +kernel
theorem dL_law_1472 : decode cL_law 1472 = .ok (.invokevirtual 207, 3) := by decide +kernel
theorem dL_law_1475 : decode cL_law 1475 = .ok (.fstore 7, 2) := by decide +kernel
theorem dL_law_1477 : decode cL_law 1477 = .ok (.aload_n 2, 1) := by decide +kernel
theorem dL_law_1478 : decode cL_law 1478 = .ok (.invokevirtual 141, 3) := by decide +kernel
theorem dL_law_1481 : decode cL_law 1481 = .ok (.iload 6, 2) := by decide +kernel
theorem dL_law_1483 : decode cL_law 1483 = .ok (.if_icmp .eq 5, 3) := by decide +kernel
theorem dL_law_1486 : decode cL_law 1486 = .ok (.iconst 0, 1) := by decide +kernel
theorem dL_law_1487 : decode cL_law 1487 = .ok (.ireturn, 1) := by decide +kernel
theorem dL_law_1488 : decode cL_law 1488 = .ok (.iload 6, 2) := by decide +kernel
theorem dL_law_1490 : decode cL_law 1490 = .ok (.ifCond .ne 36, 3) := by decide +kernel
theorem dL_law_1493 : decode cL_law 1493 = .ok (.aload 4, 2) := by decide +kernel
theorem dL_law_1495 : decode cL_law 1495 = .ok (.iconst 0, 1) := by decide +kernel
theorem dL_law_1496 : decode cL_law 1496 = .ok (.daload, 1) := by decide +kernel
theorem dL_law_1497 : decode cL_law 1497 = .ok (.fload 7, 2) := by decide +kernel
theorem dL_law_1499 : decode cL_law 1499 = .ok (.f2d, 1) := by decide +kernel
theorem dL_law_1500 : decode cL_law 1500 = .ok (.dcmp .l, 1) := by decide +kernel
theorem dL_law_1501 : decode cL_law 1501 = .ok (.ifCond .eq 25, 3) := by decide +kernel
theorem dL_law_1504 : decode cL_law 1504 = .ok (.aload 4, 2) := by decide +kernel
theorem dL_law_1506 : decode cL_law 1506 = .ok (.iconst 0, 1) := by decide +kernel
theorem dL_law_1507 : decode cL_law 1507 = .ok (.daload, 1) := by decide +kernel
theorem dL_law_1508 : decode cL_law 1508 = .ok (.aload 4, 2) := by decide +kernel
theorem dL_law_1510 : decode cL_law 1510 = .ok (.iconst 0, 1) := by decide +kernel
theorem dL_law_1511 : decode cL_law 1511 = .ok (.daload, 1) := by decide +kernel
theorem dL_law_1512 : decode cL_law 1512 = .ok (.dcmp .l, 1) := by decide +kernel
theorem dL_law_1513 : decode cL_law 1513 = .ok (.ifCond .eq 11, 3) := by decide +kernel
theorem dL_law_1516 : decode cL_law 1516 = .ok (.fload 7, 2) := by decide +kernel
theorem dL_law_1518 : decode cL_law 1518 = .ok (.fload 7, 2) := by decide +kernel
theorem dL_law_1520 : decode cL_law 1520 = .ok (.fcmp .l, 1) := by decide +kernel
theorem dL_law_1521 : decode cL_law 1521 = .ok (.ifCond .ne 5, 3) := by decide +kernel
theorem dL_law_1524 : decode cL_law 1524 = .ok (.iconst 0, 1) := by decide +kernel
theorem dL_law_1525 : decode cL_law 1525 = .ok (.ireturn, 1) := by decide +kernel
theorem dL_law_1526 : decode cL_law 1526 = .ok (.goto 1015, 3) := by decide +kernel
theorem dL_law_1529 : decode cL_law 1529 = .ok (.aload_n 1, 1) := by decide +kernel
theorem dL_law_1530 : decode cL_law 1530 = .ok (.invokevirtual 208, 3) := by decide +kernel
theorem dL_law_1533 : decode cL_law 1533 = .ok (.dstore 6, 2) := by decide +kernel
theorem dL_law_1535 : decode cL_law 1535 = .ok (.aload_n 2, 1) := by decide +kernel
theorem dL_law_1536 : decode cL_law 1536 = .ok (.invokevirtual 212, 3) := by decide +kernel
theorem dL_law_1539 : decode cL_law 1539 = .ok (.dstore 8, 2) := by decide +kernel
theorem dL_law_1541 : decode cL_law 1541 = .ok (.dload 6, 2) := by decide +kernel
theorem dL_law_1543 : decode cL_law 1543 = .ok (.dload 8, 2) := by decide +kernel
theorem dL_law_1545 : decode cL_law 1545 = .ok (.dcmp .l, 1) := by decide +kernel
theorem dL_law_1546 : decode cL_law 1546 = .ok (.ifCond .eq 21, 3) := by decide +kernel
theorem dL_law_1549 : decode cL_law 1549 = .ok (.dload 6, 2) := by decide +kernel
theorem dL_law_1551 : decode cL_law 1551 = .ok (.dload 6, 2) := by decide +kernel
theorem dL_law_1553 : decode cL_law 1553 = .ok (.dcmp .l, 1) := by decide +kernel
theorem dL_law_1554 : decode cL_law 1554 = .ok (.ifCond .eq 11, 3) := by decide +kernel
theorem dL_law_1557 : decode cL_law 1557 = .ok (.dload 8, 2) := by decide +kernel
theorem dL_law_1559 : decode cL_law 1559 = .ok (.dload 8, 2) := by decide +kernel
theorem dL_law_1561 : decode cL_law 1561 = .ok (.dcmp .l, 1) := by decide +kernel
theorem dL_law_1562 : decode cL_law 1562 = .ok (.ifCond .ne 5, 3) := by decide +kernel
theorem dL_law_1565 : decode cL_law 1565 = .ok (.iconst 0, 1) := by decide +kernel
theorem dL_law_1566 : decode cL_law 1566 = .ok (.ireturn, 1) := by decide +kernel
theorem dL_law_1567 : decode cL_law 1567 = .ok (.goto 974, 3) := by decide +kernel
theorem dL_law_1570 : decode cL_law 1570 = .ok (.aload_n 1, 1) := by decide +kernel
theorem dL_law_1571 : decode cL_law 1571 = .ok (.aload_n 0, 1) := by decide +kernel
theorem dL_law_1572 : decode cL_law 1572 = .ok (.iload 5, 2) := by decide +kernel
theorem dL_law_1574 : decode cL_law 1574 = .ok (.iconst 1, 1) := by decide +kernel
theorem dL_law_1575 : decode cL_law 1575 = .ok (.iadd, 1) := by decide +kernel
theorem dL_law_1576 : decode cL_law 1576 = .ok (.iaload, 1) := by decide +kernel
theorem dL_law_1577 : decode cL_law 1577 = .ok (.aload_n 0, 1) := by decide +kernel
theorem dL_law_1578 : decode cL_law 1578 = .ok (.iload 5, 2) := by decide +kernel
theorem dL_law_1580 : decode cL_law 1580 = .ok (.iconst 2, 1) := by decide +kernel
theorem dL_law_1581 : decode cL_law 1581 = .ok (.iadd, 1) := by decide +kernel
theorem dL_law_1582 : decode cL_law 1582 = .ok (.iaload, 1) := by decide +kernel
theorem dL_law_1583 : decode cL_law 1583 = .ok (.aload_n 0, 1) := by decide +kernel
theorem dL_law_1584 : decode cL_law 1584 = .ok (.iload 5, 2) := by decide +kernel
theorem dL_law_1586 : decode cL_law 1586 = .ok (.iconst 3, 1) := by decide +kernel
theorem dL_law_1587 : decode cL_law 1587 = .ok (.iadd, 1) := by decide +kernel
theorem dL_law_1588 : decode cL_law 1588 = .ok (.iaload, 1) := by decide +kernel
theorem dL_law_1589 : decode cL_law 1589 = .ok (.aload_n 3, 1) := by decide +kernel
theorem dL_law_1590 : decode cL_law 1590 = .ok (.invokestatic 213, 3) := by decide +kernel
theorem dL_law_1593 : decode cL_law 1593 = .ok (.istore 6, 2) := by decide +kernel
theorem dL_law_1595 : decode cL_law 1595 = .ok (.aload_n 2, 1) := by decide +kernel
theorem dL_law_1596 : decode cL_law 1596 = .ok (.aload_n 0, 1) := by decide +kernel
theorem dL_law_1597 : decode cL_law 1597 = .ok (.iload 5, 2) := by decide +kernel
theorem dL_law_1599 : decode cL_law 1599 = .ok (.iconst 1, 1) := by decide +kernel
theorem dL_law_1600 : decode cL_law 1600 = .ok (.iadd, 1) := by decide +kernel
theorem dL_law_1601 : decode cL_law 1601 = .ok (.iaload, 1) := by decide +kernel
theorem dL_law_1602 : decode cL_law 1602 = .ok (.aload_n 0, 1) := by decide +kernel
theorem dL_law_1603 : decode cL_law 1603 = .ok (.iload 5, 2) := by decide +kernel
theorem dL_law_1605 : decode cL_law 1605 = .ok (.iconst 2, 1) := by decide +kernel
theorem dL_law_1606 : decode cL_law 1606 = .ok (.iadd, 1) := by decide +kernel
theorem dL_law_1607 : decode cL_law 1607 = .ok (.iaload, 1) := by decide +kernel
theorem dL_law_1608 : decode cL_law 1608 = .ok (.aload_n 0, 1) := by decide +kernel
theorem dL_law_1609 : decode cL_law 1609 = .ok (.iload 5, 2) := by decide +kernel
theorem dL_law_1611 : decode cL_law 1611 = .ok (.iconst 3, 1) := by decide +kernel
theorem dL_law_1612 : decode cL_law 1612 = .ok (.iadd, 1) := by decide +kernel
theorem dL_law_1613 : decode cL_law 1613 = .ok (.iaload, 1) := by decide +kernel
theorem dL_law_1614 : decode cL_law 1614 = .ok (.invokevirtual 215, 3) := by decide +kernel
theorem dL_law_1617 : decode cL_law 1617 = .ok (.istore 7, 2) := by decide +kernel
theorem dL_law_1619 : decode cL_law 1619 = .ok (.aload_n 2, 1) := by decide +kernel
theorem dL_law_1620 : decode cL_law 1620 = .ok (.invokevirtual 141, 3) := by decide +kernel
theorem dL_law_1623 : decode cL_law 1623 = .ok (.iload 6, 2) := by decide +kernel
theorem dL_law_1625 : decode cL_law 1625 = .ok (.if_icmp .eq 5, 3) := by decide +kernel
theorem dL_law_1628 : decode cL_law 1628 = .ok (.iconst 0, 1) := by decide +kernel
theorem dL_law_1629 : decode cL_law 1629 = .ok (.ireturn, 1) := by decide +kernel
theorem dL_law_1630 : decode cL_law 1630 = .ok (.iload 6, 2) := by decide +kernel
theorem dL_law_1632 : decode cL_law 1632 = .ok (.ifCond .ne 15, 3) := by decide +kernel
theorem dL_law_1635 : decode cL_law 1635 = .ok (.aload_n 3, 1) := by decide +kernel
theorem dL_law_1636 : decode cL_law 1636 = .ok (.iconst 0, 1) := by decide +kernel
theorem dL_law_1637 : decode cL_law 1637 = .ok (.laload, 1) := by decide +kernel
theorem dL_law_1638 : decode cL_law 1638 = .ok (.iload 7, 2) := by decide +kernel
theorem dL_law_1640 : decode cL_law 1640 = .ok (.i2l, 1) := by decide +kernel
theorem dL_law_1641 : decode cL_law 1641 = .ok (.lcmp, 1) := by decide +kernel
theorem dL_law_1642 : decode cL_law 1642 = .ok (.ifCond .eq 5, 3) := by decide +kernel
theorem dL_law_1645 : decode cL_law 1645 = .ok (.iconst 0, 1) := by decide +kernel
theorem dL_law_1646 : decode cL_law 1646 = .ok (.ireturn, 1) := by decide +kernel
theorem dL_law_1647 : decode cL_law 1647 = .ok (.goto 894, 3) := by decide +kernel
theorem dL_law_1650 : decode cL_law 1650 = .ok (.aload_n 1, 1) := by decide +kernel
theorem dL_law_1651 : decode cL_law 1651 = .ok (.aload_n 0, 1) := by decide +kernel
theorem dL_law_1652 : decode cL_law 1652 = .ok (.iload 5, 2) := by decide +kernel
theorem dL_law_1654 : decode cL_law 1654 = .ok (.iconst 1, 1) := by decide +kernel
theorem dL_law_1655 : decode cL_law 1655 = .ok (.iadd, 1) := by decide +kernel
theorem dL_law_1656 : decode cL_law 1656 = .ok (.iaload, 1) := by decide +kernel
theorem dL_law_1657 : decode cL_law 1657 = .ok (.aload_n 0, 1) := by decide +kernel
theorem dL_law_1658 : decode cL_law 1658 = .ok (.iload 5, 2) := by decide +kernel
theorem dL_law_1660 : decode cL_law 1660 = .ok (.iconst 2, 1) := by decide +kernel
theorem dL_law_1661 : decode cL_law 1661 = .ok (.iadd, 1) := by decide +kernel
theorem dL_law_1662 : decode cL_law 1662 = .ok (.iaload, 1) := by decide +kernel
theorem dL_law_1663 : decode cL_law 1663 = .ok (.i2c, 1) := by decide +kernel
theorem dL_law_1664 : decode cL_law 1664 = .ok (.aload_n 3, 1) := by decide +kernel
theorem dL_law_1665 : decode cL_law 1665 = .ok (.invokestatic 216, 3) := by decide +kernel
theorem dL_law_1668 : decode cL_law 1668 = .ok (.istore 6, 2) := by decide +kernel
theorem dL_law_1670 : decode cL_law 1670 = .ok (.aload_n 2, 1) := by decide +kernel
theorem dL_law_1671 : decode cL_law 1671 = .ok (.aload_n 0, 1) := by decide +kernel
theorem dL_law_1672 : decode cL_law 1672 = .ok (.iload 5, 2) := by decide +kernel
theorem dL_law_1674 : decode cL_law 1674 = .ok (.iconst 1, 1) := by decide +kernel
theorem dL_law_1675 : decode cL_law 1675 = .ok (.iadd, 1) := by decide +kernel
theorem dL_law_1676 : decode cL_law 1676 = .ok (.iaload, 1) := by decide +kernel
theorem dL_law_1677 : decode cL_law 1677 = .ok (.aload_n 0, 1) := by decide +kernel
theorem dL_law_1678 : decode cL_law 1678 = .ok (.iload 5, 2) := by decide +kernel
theorem dL_law_1680 : decode cL_law 1680 = .ok (.iconst 2, 1) := by decide +kernel
theorem dL_law_1681 : decode cL_law 1681 = .ok (.iadd, 1) := by decide +kernel
theorem dL_law_1682 : decode cL_law 1682 = .ok (.iaload, 1) := by decide +kernel
theorem dL_law_1683 : decode cL_law 1683 = .ok (.i2c, 1) := by decide +kernel
theorem dL_law_1684 : decode cL_law 1684 = .ok (.invokevirtual 218, 3) := by decide +kernel
theorem dL_law_1687 : decode cL_law 1687 = .ok (.istore 7, 2) := by decide +kernel
theorem dL_law_1689 : decode cL_law 1689 = .ok (.aload_n 2, 1) := by decide +kernel
theorem dL_law_1690 : decode cL_law 1690 = .ok (.invokevirtual 141, 3) := by decide +kernel
theorem dL_law_1693 : decode cL_law 1693 = .ok (.iload 6, 2) := by decide +kernel
theorem dL_law_1695 : decode cL_law 1695 = .ok (.if_icmp .eq 5, 3) := by decide +kernel
theorem dL_law_1698 : decode cL_law 1698 = .ok (.iconst 0, 1) := by decide +kernel
theorem dL_law_1699 : decode cL_law 1699 = .ok (.ireturn, 1) := by decide +kernel
theorem dL_law_1700 : decode cL_law 1700 = .ok (.iload 6, 2) := by decide +kernel
theorem dL_law_1702 : decode cL_law 1702 = .ok (.ifCond .ne 15, 3) := by decide +kernel
theorem dL_law_1705 : decode cL_law 1705 = .ok (.aload_n 3, 1) := by decide +kernel
theorem dL_law_1706 : decode cL_law 1706 = .ok (.iconst 0, 1) := by decide +kernel
theorem dL_law_1707 : decode cL_law 1707 = .ok (.laload, 1) := by decide +kernel
theorem dL_law_1708 : decode cL_law 1708 = .ok (.iload 7, 2) := by decide +kernel
theorem dL_law_1710 : decode cL_law 1710 = .ok (.i2l, 1) := by decide +kernel
theorem dL_law_1711 : decode cL_law 1711 = .ok (.lcmp, 1) := by decide +kernel
theorem dL_law_1712 : decode cL_law 1712 = .ok (.ifCond .eq 5, 3) := by decide +kernel
theorem dL_law_1715 : decode cL_law 1715 = .ok (.iconst 0, 1) := by decide +kernel
theorem dL_law_1716 : decode cL_law 1716 = .ok (.ireturn, 1) := by decide +kernel
theorem dL_law_1717 : decode cL_law 1717 = .ok (.goto 824, 3) := by decide +kernel
theorem dL_law_1720 : decode cL_law 1720 = .ok (.aload_n 1, 1) := by decide +kernel
theorem dL_law_1721 : decode cL_law 1721 = .ok (.aload_n 0, 1) := by decide +kernel
theorem dL_law_1722 : decode cL_law 1722 = .ok (.iload 5, 2) := by decide +kernel
theorem dL_law_1724 : decode cL_law 1724 = .ok (.iconst 1, 1) := by decide +kernel
theorem dL_law_1725 : decode cL_law 1725 = .ok (.iadd, 1) := by decide +kernel
theorem dL_law_1726 : decode cL_law 1726 = .ok (.iaload, 1) := by decide +kernel
theorem dL_law_1727 : decode cL_law 1727 = .ok (.aload_n 3, 1) := by decide +kernel
theorem dL_law_1728 : decode cL_law 1728 = .ok (.invokestatic 219, 3) := by decide +kernel
theorem dL_law_1731 : decode cL_law 1731 = .ok (.istore 6, 2) := by decide +kernel
theorem dL_law_1733 : decode cL_law 1733 = .ok (.aload_n 2, 1) := by decide +kernel
theorem dL_law_1734 : decode cL_law 1734 = .ok (.aload_n 0, 1) := by decide +kernel
theorem dL_law_1735 : decode cL_law 1735 = .ok (.iload 5, 2) := by decide +kernel
theorem dL_law_1737 : decode cL_law 1737 = .ok (.iconst 1, 1) := by decide +kernel
theorem dL_law_1738 : decode cL_law 1738 = .ok (.iadd, 1) := by decide +kernel
theorem dL_law_1739 : decode cL_law 1739 = .ok (.iaload, 1) := by decide +kernel
theorem dL_law_1740 : decode cL_law 1740 = .ok (.invokevirtual 221, 3) := by decide +kernel
theorem dL_law_1743 : decode cL_law 1743 = .ok (.istore 7, 2) := by decide +kernel
theorem dL_law_1745 : decode cL_law 1745 = .ok (.aload_n 2, 1) := by decide +kernel
theorem dL_law_1746 : decode cL_law 1746 = .ok (.invokevirtual 141, 3) := by decide +kernel
theorem dL_law_1749 : decode cL_law 1749 = .ok (.iload 6, 2) := by decide +kernel
theorem dL_law_1751 : decode cL_law 1751 = .ok (.if_icmp .eq 5, 3) := by decide +kernel
theorem dL_law_1754 : decode cL_law 1754 = .ok (.iconst 0, 1) := by decide +kernel
theorem dL_law_1755 : decode cL_law 1755 = .ok (.ireturn, 1) := by decide +kernel
theorem dL_law_1756 : decode cL_law 1756 = .ok (.iload 6, 2) := by decide +kernel
theorem dL_law_1758 : decode cL_law 1758 = .ok (.ifCond .ne 15, 3) := by decide +kernel
theorem dL_law_1761 : decode cL_law 1761 = .ok (.aload_n 3, 1) := by decide +kernel
theorem dL_law_1762 : decode cL_law 1762 = .ok (.iconst 0, 1) := by decide +kernel
theorem dL_law_1763 : decode cL_law 1763 = .ok (.laload, 1) := by decide +kernel
theorem dL_law_1764 : decode cL_law 1764 = .ok (.iload 7, 2) := by decide +kernel
theorem dL_law_1766 : decode cL_law 1766 = .ok (.i2l, 1) := by decide +kernel
theorem dL_law_1767 : decode cL_law 1767 = .ok (.lcmp, 1) := by decide +kernel
theorem dL_law_1768 : decode cL_law 1768 = .ok (.ifCond .eq 5, 3) := by decide +kernel
theorem dL_law_1771 : decode cL_law 1771 = .ok (.iconst 0, 1) := by decide +kernel
theorem dL_law_1772 : decode cL_law 1772 = .ok (.ireturn, 1) := by decide +kernel
theorem dL_law_1773 : decode cL_law 1773 = .ok (.goto 768, 3) := by decide +kernel
theorem dL_law_1776 : decode cL_law 1776 = .ok (.aload_n 1, 1) := by decide +kernel
theorem dL_law_1777 : decode cL_law 1777 = .ok (.aload_n 0, 1) := by decide +kernel
theorem dL_law_1778 : decode cL_law 1778 = .ok (.iload 5, 2) := by decide +kernel
theorem dL_law_1780 : decode cL_law 1780 = .ok (.iconst 1, 1) := by decide +kernel
theorem dL_law_1781 : decode cL_law 1781 = .ok (.iadd, 1) := by decide +kernel
theorem dL_law_1782 : decode cL_law 1782 = .ok (.iaload, 1) := by decide +kernel
theorem dL_law_1783 : decode cL_law 1783 = .ok (.aload_n 0, 1) := by decide +kernel
theorem dL_law_1784 : decode cL_law 1784 = .ok (.iload 5, 2) := by decide +kernel
theorem dL_law_1786 : decode cL_law 1786 = .ok (.iconst 2, 1) := by decide +kernel
theorem dL_law_1787 : decode cL_law 1787 = .ok (.iadd, 1) := by decide +kernel
theorem dL_law_1788 : decode cL_law 1788 = .ok (.iaload, 1) := by decide +kernel
theorem dL_law_1789 : decode cL_law 1789 = .ok (.i2c, 1) := by decide +kernel
theorem dL_law_1790 : decode cL_law 1790 = .ok (.aload_n 3, 1) := by decide +kernel
theorem dL_law_1791 : decode cL_law 1791 = .ok (.invokestatic 222, 3) := by decide +kernel
theorem dL_law_1794 : decode cL_law 1794 = .ok (.istore 6, 2) := by decide +kernel
theorem dL_law_1796 : decode cL_law 1796 = .ok (.aload_n 2, 1) := by decide +kernel
theorem dL_law_1797 : decode cL_law 1797 = .ok (.aload_n 0, 1) := by decide +kernel
theorem dL_law_1798 : decode cL_law 1798 = .ok (.iload 5, 2) := by decide +kernel
theorem dL_law_1800 : decode cL_law 1800 = .ok (.iconst 1, 1) := by decide +kernel
theorem dL_law_1801 : decode cL_law 1801 = .ok (.iadd, 1) := by decide +kernel
theorem dL_law_1802 : decode cL_law 1802 = .ok (.iaload, 1) := by decide +kernel
theorem dL_law_1803 : decode cL_law 1803 = .ok (.aload_n 0, 1) := by decide +kernel
theorem dL_law_1804 : decode cL_law 1804 = .ok (.iload 5, 2) := by decide +kernel
theorem dL_law_1806 : decode cL_law 1806 = .ok (.iconst 2, 1) := by decide +kernel
theorem dL_law_1807 : decode cL_law 1807 = .ok (.iadd, 1) := by decide +kernel
theorem dL_law_1808 : decode cL_law 1808 = .ok (.iaload, 1) := by decide +kernel
theorem dL_law_1809 : decode cL_law 1809 = .ok (.i2c, 1) := by decide +kernel
theorem dL_law_1810 : decode cL_law 1810 = .ok (.invokevirtual 224, 3) := by decide +kernel
theorem dL_law_1813 : decode cL_law 1813 = .ok (.istore 7, 2) := by decide +kernel
theorem dL_law_1815 : decode cL_law 1815 = .ok (.aload_n 2, 1) := by decide +kernel
theorem dL_law_1816 : decode cL_law 1816 = .ok (.invokevirtual 141, 3) := by decide +kernel
theorem dL_law_1819 : decode cL_law 1819 = .ok (.iload 6, 2) := by decide +kernel
theorem dL_law_1821 : decode cL_law 1821 = .ok (.if_icmp .eq 5, 3) := by decide +kernel
theorem dL_law_1824 : decode cL_law 1824 = .ok (.iconst 0, 1) := by decide +kernel
theorem dL_law_1825 : decode cL_law 1825 = .ok (.ireturn, 1) := by decide +kernel
theorem dL_law_1826 : decode cL_law 1826 = .ok (.iload 6, 2) := by decide +kernel
theorem dL_law_1828 : decode cL_law 1828 = .ok (.ifCond .ne 15, 3) := by decide +kernel
theorem dL_law_1831 : decode cL_law 1831 = .ok (.aload_n 3, 1) := by decide +kernel
theorem dL_law_1832 : decode cL_law 1832 = .ok (.iconst 0, 1) := by decide +kernel
theorem dL_law_1833 : decode cL_law 1833 = .ok (.laload, 1) := by decide +kernel
theorem dL_law_1834 : decode cL_law 1834 = .ok (.iload 7, 2) := by decide +kernel
theorem dL_law_1836 : decode cL_law 1836 = .ok (.i2l, 1) := by decide +kernel
theorem dL_law_1837 : decode cL_law 1837 = .ok (.lcmp, 1) := by decide +kernel
theorem dL_law_1838 : decode cL_law 1838 = .ok (.ifCond .eq 5, 3) := by decide +kernel
theorem dL_law_1841 : decode cL_law 1841 = .ok (.iconst 0, 1) := by decide +kernel
theorem dL_law_1842 : decode cL_law 1842 = .ok (.ireturn, 1) := by decide +kernel
theorem dL_law_1843 : decode cL_law 1843 = .ok (.goto 698, 3) := by decide +kernel
theorem dL_law_1846 : decode cL_law 1846 = .ok (.aload_n 1, 1) := by decide +kernel
theorem dL_law_1847 : decode cL_law 1847 = .ok (.aload_n 0, 1) := by decide +kernel
theorem dL_law_1848 : decode cL_law 1848 = .ok (.iload 5, 2) := by decide +kernel
theorem dL_law_1850 : decode cL_law 1850 = .ok (.iconst 1, 1) := by decide +kernel
theorem dL_law_1851 : decode cL_law 1851 = .ok (.iadd, 1) := by decide +kernel
theorem dL_law_1852 : decode cL_law 1852 = .ok (.iaload, 1) := by decide +kernel
theorem dL_law_1853 : decode cL_law 1853 = .ok (.i2c, 1) := by decide +kernel
theorem dL_law_1854 : decode cL_law 1854 = .ok (.aload_n 0, 1) := by decide +kernel
theorem dL_law_1855 : decode cL_law 1855 = .ok (.iload 5, 2) := by decide +kernel
theorem dL_law_1857 : decode cL_law 1857 = .ok (.iconst 2, 1) := by decide +kernel
theorem dL_law_1858 : decode cL_law 1858 = .ok (.iadd, 1) := by decide +kernel
theorem dL_law_1859 : decode cL_law 1859 = .ok (.iaload, 1) := by decide +kernel
theorem dL_law_1860 : decode cL_law 1860 = .ok (.aload_n 3, 1) := by decide +kernel
theorem dL_law_1861 : decode cL_law 1861 = .ok (.invokestatic 225, 3) := by decide +kernel
theorem dL_law_1864 : decode cL_law 1864 = .ok (.istore 6, 2) := by decide +kernel
theorem dL_law_1866 : decode cL_law 1866 = .ok (.aload_n 2, 1) := by decide +kernel
theorem dL_law_1867 : decode cL_law 1867 = .ok (.aload_n 0, 1) := by decide +kernel
theorem dL_law_1868 : decode cL_law 1868 = .ok (.iload 5, 2) := by decide +kernel
theorem dL_law_1870 : decode cL_law 1870 = .ok (.iconst 1, 1) := by decide +kernel
theorem dL_law_1871 : decode cL_law 1871 = .ok (.iadd, 1) := by decide +kernel
theorem dL_law_1872 : decode cL_law 1872 = .ok (.iaload, 1) := by decide +kernel
theorem dL_law_1873 : decode cL_law 1873 = .ok (.i2c, 1) := by decide +kernel
theorem dL_law_1874 : decode cL_law 1874 = .ok (.aload_n 0, 1) := by decide +kernel
theorem dL_law_1875 : decode cL_law 1875 = .ok (.iload 5, 2) := by decide +kernel
theorem dL_law_1877 : decode cL_law 1877 = .ok (.iconst 2, 1) := by decide +kernel
theorem dL_law_1878 : decode cL_law 1878 = .ok (.iadd, 1) := by decide +kernel
theorem dL_law_1879 : decode cL_law 1879 = .ok (.iaload, 1) := by decide +kernel
theorem dL_law_1880 : decode cL_law 1880 = .ok (.invokevirtual 228, 3) := by decide +kernel
theorem dL_law_1883 : decode cL_law 1883 = .ok (.istore 7, 2) := by decide +kernel
theorem dL_law_1885 : decode cL_law 1885 = .ok (.aload_n 2, 1) := by decide +kernel
theorem dL_law_1886 : decode cL_law 1886 = .ok (.invokevirtual 141, 3) := by decide +kernel
theorem dL_law_1889 : decode cL_law 1889 = .ok (.iload 6, 2) := by decide +kernel
theorem dL_law_1891 : decode cL_law 1891 = .ok (.if_icmp .eq 5, 3) := by decide +kernel
theorem dL_law_1894 : decode cL_law 1894 = .ok (.iconst 0, 1) := by decide +kernel
theorem dL_law_1895 : decode cL_law 1895 = .ok (.ireturn, 1) := by decide +kernel
theorem dL_law_1896 : decode cL_law 1896 = .ok (.iload 6, 2) := by decide +kernel
theorem dL_law_1898 : decode cL_law 1898 = .ok (.ifCond .ne 15, 3) := by decide +kernel
theorem dL_law_1901 : decode cL_law 1901 = .ok (.aload_n 3, 1) := by decide +kernel
theorem dL_law_1902 : decode cL_law 1902 = .ok (.iconst 0, 1) := by decide +kernel
theorem dL_law_1903 : decode cL_law 1903 = .ok (.laload, 1) := by decide +kernel
theorem dL_law_1904 : decode cL_law 1904 = .ok (.iload 7, 2) := by decide +kernel
theorem dL_law_1906 : decode cL_law 1906 = .ok (.i2l, 1) := by decide +kernel
theorem dL_law_1907 : decode cL_law 1907 = .ok (.lcmp, 1) := by decide +kernel
theorem dL_law_1908 : decode cL_law 1908 = .ok (.ifCond .eq 5, 3) := by decide +kernel
theorem dL_law_1911 : decode cL_law 1911 = .ok (.iconst 0, 1) := by decide +kernel
theorem dL_law_1912 : decode cL_law 1912 = .ok (.ireturn, 1) := by decide +kernel
theorem dL_law_1913 : decode cL_law 1913 = .ok (.goto 628, 3) := by decide +kernel
theorem dL_law_1916 : decode cL_law 1916 = .ok (.aload_n 1, 1) := by decide +kernel
theorem dL_law_1917 : decode cL_law 1917 = .ok (.aload_n 0, 1) := by decide +kernel
theorem dL_law_1918 : decode cL_law 1918 = .ok (.iload 5, 2) := by decide +kernel
theorem dL_law_1920 : decode cL_law 1920 = .ok (.iconst 1, 1) := by decide +kernel
theorem dL_law_1921 : decode cL_law 1921 = .ok (.iadd, 1) := by decide +kernel
theorem dL_law_1922 : decode cL_law 1922 = .ok (.iaload, 1) := by decide +kernel
theorem dL_law_1923 : decode cL_law 1923 = .ok (.aload_n 0, 1) := by decide +kernel
theorem dL_law_1924 : decode cL_law 1924 = .ok (.iload 5, 2) := by decide +kernel
theorem dL_law_1926 : decode cL_law 1926 = .ok (.iconst 2, 1) := by decide +kernel
theorem dL_law_1927 : decode cL_law 1927 = .ok (.iadd, 1) := by decide +kernel
theorem dL_law_1928 : decode cL_law 1928 = .ok (.iaload, 1) := by decide +kernel
theorem dL_law_1929 : decode cL_law 1929 = .ok (.aload_n 3, 1) := by decide +kernel
theorem dL_law_1930 : decode cL_law 1930 = .ok (.invokestatic 229, 3) := by decide +kernel
theorem dL_law_1933 : decode cL_law 1933 = .ok (.istore 6, 2) := by decide +kernel
theorem dL_law_1935 : decode cL_law 1935 = .ok (.aload_n 2, 1) := by decide +kernel
theorem dL_law_1936 : decode cL_law 1936 = .ok (.aload_n 0, 1) := by decide +kernel
theorem dL_law_1937 : decode cL_law 1937 = .ok (.iload 5, 2) := by decide +kernel
end
section
theorem dL_law_1939 : decode cL_law 1939 = .ok (.iconst 1, 1) := by decide +kernel
theorem dL_law_1940 : decode cL_law 1940 = .ok (.iadd, 1) := by decide +kernel
theorem dL_law_1941 : decode cL_law 1941 = .ok (.iaload, 1) := by decide +kernel
theorem dL_law_1942 : decode cL_law 1942 = .ok (.aload_n 0, 1) := by decide +kernel
theorem dL_law_1943 : decode cL_law 1943 = .ok (.iload 5, 2) := by decide +kernel
theorem dL_law_1945 : decode cL_law 1945 = .ok (.iconst 2, 1) := by decide +kernel
theorem dL_law_1946 : decode cL_law 1946 = .ok (.iadd, 1) := by decide +kernel
theorem dL_law_1947 : decode cL_law 1947 = .ok (.iaload, 1) := by decide +kernel
theorem dL_law_1948 : decode cL_law 1948 = .ok (.invokevirtual 231, 3) := by decide +kernel
theorem dL_law_1951 : decode cL_law 1951 = .ok (.istore 7, 2) := by decide +kernel
theorem dL_law_1953 : decode cL_law 1953 = .ok (.aload_n 2, 1) := by decide +kernel
theorem dL_law_1954 : decode cL_law 1954 = .ok (.invokevirtual 141, 3) := by decide +kernel
theorem dL_law_1957 : decode cL_law 1957 = .ok (.iload 6, 2) := by decide +kernel
theorem dL_law_1959 : decode cL_law 1959 = .ok (.if_icmp .eq 5, 3) := by decide +kernel
theorem dL_law_1962 : decode cL_law 1962 = .ok (.iconst 0, 1) := by decide +kernel
theorem dL_law_1963 : decode cL_law 1963 = .ok (.ireturn, 1) := by decide +kernel
theorem dL_law_1964 : decode cL_law 1964 = .ok (.iload 6, 2) := by decide +kernel
theorem dL_law_1966 : decode cL_law 1966 = .ok (.ifCond .ne 15, 3) := by decide +kernel
theorem dL_law_1969 : decode cL_law 1969 = .ok (.aload_n 3, 1) := by decide +kernel
theorem dL_law_1970 : decode cL_law 1970 = .ok (.iconst 0, 1) := by decide +kernel
theorem dL_law_1971 : decode cL_law 1971 = .ok (.laload, 1) := by decide +kernel
theorem dL_law_1972 : decode cL_law 1972 = .ok (.iload 7, 2) := by decide +kernel
theorem dL_law_1974 : decode cL_law 1974 = .ok (.i2l, 1) := by decide +kernel
theorem dL_law_1975 : decode cL_law 1975 = .ok (.lcmp, 1) := by decide +kernel
theorem dL_law_1976 : decode cL_law 1976 = .ok (.ifCond .eq 5, 3) := by decide +kernel
theorem dL_law_1979 : decode cL_law 1979 = .ok (.iconst 0, 1) := by decide +kernel
theorem dL_law_1980 : decode cL_law 1980 = .ok (.ireturn, 1) := by decide +kernel
theorem dL_law_1981 : decode cL_law 1981 = .ok (.goto 560, 3) := by decide +kernel
theorem dL_law_1984 : decode cL_law 1984 = .ok (.aload_n 1, 1) := by decide +kernel
theorem dL_law_1985 : decode cL_law 1985 = .ok (.aload_n 0, 1) := by decide +kernel
theorem dL_law_1986 : decode cL_law 1986 = .ok (.iload 5, 2) := by decide +kernel
theorem dL_law_1988 : decode cL_law 1988 = .ok (.iconst 1, 1) := by decide +kernel
theorem dL_law_1989 : decode cL_law 1989 = .ok (.iadd, 1) := by decide +kernel
theorem dL_law_1990 : decode cL_law 1990 = .ok (.iaload, 1) := by decide +kernel
theorem dL_law_1991 : decode cL_law 1991 = .ok (.i2c, 1) := by decide +kernel
theorem dL_law_1992 : decode cL_law 1992 = .ok (.aload_n 0, 1) := by decide +kernel
theorem dL_law_1993 : decode cL_law 1993 = .ok (.iload 5, 2) := by decide +kernel
theorem dL_law_1995 : decode cL_law 1995 = .ok (.iconst 2, 1) := by decide +kernel
theorem dL_law_1996 : decode cL_law 1996 = .ok (.iadd, 1) := by decide +kernel
theorem dL_law_1997 : decode cL_law 1997 = .ok (.iaload, 1) := by decide +kernel
theorem dL_law_1998 : decode cL_law 1998 = .ok (.aload_n 3, 1) := by decide +kernel
theorem dL_law_1999 : decode cL_law 1999 = .ok (.invokestatic 232, 3) := by decide +kernel
theorem dL_law_2002 : decode cL_law 2002 = .ok (.istore 6, 2) := by decide +kernel
theorem dL_law_2004 : decode cL_law 2004 = .ok (.aload_n 2, 1) := by decide +kernel
theorem dL_law_2005 : decode cL_law 2005 = .ok (.aload_n 0, 1) := by decide +kernel
theorem dL_law_2006 : decode cL_law 2006 = .ok (.iload 5, 2) := by decide +kernel
theorem dL_law_2008 : decode cL_law 2008 = .ok (.iconst 1, 1) := by decide +kernel
theorem dL_law_2009 : decode cL_law 2009 = .ok (.iadd, 1) := by decide +kernel
theorem dL_law_2010 : decode cL_law 2010 = .ok (.iaload, 1) := by decide +kernel
theorem dL_law_2011 : decode cL_law 2011 = .ok (.i2c, 1) := by decide +kernel
theorem dL_law_2012 : decode cL_law 2012 = .ok (.aload_n 0, 1) := by decide +kernel
theorem dL_law_2013 : decode cL_law 2013 = .ok (.iload 5, 2) := by decide +kernel
theorem dL_law_2015 : decode cL_law 2015 = .ok (.iconst 2, 1) := by decide +kernel
theorem dL_law_2016 : decode cL_law 2016 = .ok (.iadd, 1) := by decide +kernel
theorem dL_law_2017 : decode cL_law 2017 = .ok (.iaload, 1) := by decide +kernel
theorem dL_law_2018 : decode cL_law 2018 = .ok (.invokevirtual 234, 3) := by decide +kernel
theorem dL_law_2021 : decode cL_law 2021 = .ok (.istore 7, 2) := by decide +kernel
theorem dL_law_2023 : decode cL_law 2023 = .ok (.aload_n 2, 1) := by decide +kernel
theorem dL_law_2024 : decode cL_law 2024 = .ok (.invokevirtual 141, 3) := by decide +kernel
theorem dL_law_2027 : decode cL_law 2027 = .ok (.iload 6, 2) := by decide +kernel
theorem dL_law_2029 : decode cL_law 2029 = .ok (.if_icmp .eq 5, 3) := by decide +kernel
theorem dL_law_2032 : decode cL_law 2032 = .ok (.iconst 0, 1) := by decide +kernel
theorem dL_law_2033 : decode cL_law 2033 = .ok (.ireturn, 1) := by decide +kernel
theorem dL_law_2034 : decode cL_law 2034 = .ok (.iload 6, 2) := by decide +kernel
theorem dL_law_2036 : decode cL_law 2036 = .ok (.ifCond .ne 15, 3) := by decide +kernel
theorem dL_law_2039 : decode cL_law 2039 = .ok (.aload_n 3, 1) := by decide +kernel
theorem dL_law_2040 : decode cL_law 2040 = .ok (.iconst 0, 1) := by decide +kernel
theorem dL_law_2041 : decode cL_law 2041 = .ok (.laload, 1) := by decide +kernel
theorem dL_law_2042 : decode cL_law 2042 = .ok (.iload 7, 2) := by decide +kernel
theorem dL_law_2044 : decode cL_law 2044 = .ok (.i2l, 1) := by decide +kernel
theorem dL_law_2045 : decode cL_law 2045 = .ok (.lcmp, 1) := by decide +kernel
theorem dL_law_2046 : decode cL_law 2046 = .ok (.ifCond .eq 5, 3) := by decide +kernel
theorem dL_law_2049 : decode cL_law 2049 = .ok (.iconst 0, 1) := by decide +kernel
theorem dL_law_2050 : decode cL_law 2050 = .ok (.ireturn, 1) := by decide +kernel
theorem dL_law_2051 : decode cL_law 2051 = .ok (.goto 490, 3) := by decide +kernel
theorem dL_law_2054 : decode cL_law 2054 = .ok (.aload_n 1, 1) := by decide +kernel
theorem dL_law_2055 : decode cL_law 2055 = .ok (.aload_n 0, 1) := by decide +kernel
theorem dL_law_2056 : decode cL_law 2056 = .ok (.iload 5, 2) := by decide +kernel
theorem dL_law_2058 : decode cL_law 2058 = .ok (.iconst 1, 1) := by decide +kernel
theorem dL_law_2059 : decode cL_law 2059 = .ok (.iadd, 1) := by decide +kernel
theorem dL_law_2060 : decode cL_law 2060 = .ok (.iaload, 1) := by decide +kernel
theorem dL_law_2061 : decode cL_law 2061 = .ok (.i2c, 1) := by decide +kernel
theorem dL_law_2062 : decode cL_law 2062 = .ok (.aload_n 3, 1) := by decide +kernel
theorem dL_law_2063 : decode cL_law 2063 = .ok (.invokestatic 235, 3) := by decide +kernel
theorem dL_law_2066 : decode cL_law 2066 = .ok (.istore 6, 2) := by decide +kernel
theorem dL_law_2068 : decode cL_law 2068 = .ok (.aload_n 2, 1) := by decide +kernel
theorem dL_law_2069 : decode cL_law 2069 = .ok (.aload_n 0, 1) := by decide +kernel
theorem dL_law_2070 : decode cL_law 2070 = .ok (.iload 5, 2) := by decide +kernel
theorem dL_law_2072 : decode cL_law 2072 = .ok (.iconst 1, 1) := by decide +kernel
theorem dL_law_2073 : decode cL_law 2073 = .ok (.iadd, 1) := by decide +kernel
theorem dL_law_2074 : decode cL_law 2074 = .ok (.iaload, 1) := by decide +kernel
theorem dL_law_2075 : decode cL_law 2075 = .ok (.i2c, 1) := by decide +kernel
theorem dL_law_2076 : decode cL_law 2076 = .ok (.invokevirtual 238, 3) := by decide +kernel
theorem dL_law_2079 : decode cL_law 2079 = .ok (.istore 7, 2) := by decide +kernel
theorem dL_law_2081 : decode cL_law 2081 = .ok (.aload_n 2, 1) := by decide +kernel
theorem dL_law_2082 : decode cL_law 2082 = .ok (.invokevirtual 141, 3) := by decide +kernel
theorem dL_law_2085 : decode cL_law 2085 = .ok (.iload 6, 2) := by decide +kernel
theorem dL_law_2087 : decode cL_law 2087 = .ok (.if_icmp .eq 5, 3) := by decide +kernel
theorem dL_law_2090 : decode cL_law 2090 = .ok (.iconst 0, 1) := by decide +kernel
theorem dL_law_2091 : decode cL_law 2091 = .ok (.ireturn, 1) := by decide +kernel
theorem dL_law_2092 : decode cL_law 2092 = .ok (.iload 6, 2) := by decide +kernel
theorem dL_law_2094 : decode cL_law 2094 = .ok (.ifCond .ne 15, 3) := by decide +kernel
theorem dL_law_2097 : decode cL_law 2097 = .ok (.aload_n 3, 1) := by decide +kernel
theorem dL_law_2098 : decode cL_law 2098 = .ok (.iconst 0, 1) := by decide +kernel
theorem dL_law_2099 : decode cL_law 2099 = .ok (.laload, 1) := by decide +kernel
theorem dL_law_2100 : decode cL_law 2100 = .ok (.iload 7, 2) := by decide +kernel
theorem dL_law_2102 : decode cL_law 2102 = .ok (.i2l, 1) := by decide +kernel
theorem dL_law_2103 : decode cL_law 2103 = .ok (.lcmp, 1) := by decide +kernel
theorem dL_law_2104 : decode cL_law 2104 = .ok (.ifCond .eq 5, 3) := by decide +kernel
theorem dL_law_2107 : decode cL_law 2107 = .ok (.iconst 0, 1) := by decide +kernel
theorem dL_law_2108 : decode cL_law 2108 = .ok (.ireturn, 1) := by decide +kernel
theorem dL_law_2109 : decode cL_law 2109 = .ok (.goto 432, 3) := by decide +kernel
theorem dL_law_2112 : decode cL_law 2112 = .ok (.aload_n 1, 1) := by decide +kernel
theorem dL_law_2113 : decode cL_law 2113 = .ok (.aload_n 0, 1) := by decide +kernel
theorem dL_law_2114 : decode cL_law 2114 = .ok (.iload 5, 2) := by decide +kernel
theorem dL_law_2116 : decode cL_law 2116 = .ok (.iconst 1, 1) := by decide +kernel
theorem dL_law_2117 : decode cL_law 2117 = .ok (.iadd, 1) := by decide +kernel
theorem dL_law_2118 : decode cL_law 2118 = .ok (.iaload, 1) := by decide +kernel
theorem dL_law_2119 : decode cL_law 2119 = .ok (.aload_n 3, 1) := by decide +kernel
theorem dL_law_2120 : decode cL_law 2120 = .ok (.invokestatic 239, 3) := by decide +kernel
theorem dL_law_2123 : decode cL_law 2123 = .ok (.istore 6, 2) := by decide +kernel
theorem dL_law_2125 : decode cL_law 2125 = .ok (.aload_n 2, 1) := by decide +kernel
theorem dL_law_2126 : decode cL_law 2126 = .ok (.aload_n 0, 1) := by decide +kernel
theorem dL_law_2127 : decode cL_law 2127 = .ok (.iload 5, 2) := by decide +kernel
theorem dL_law_2129 : decode cL_law 2129 = .ok (.iconst 1, 1) := by decide +kernel
theorem dL_law_2130 : decode cL_law 2130 = .ok (.iadd, 1) := by decide +kernel
theorem dL_law_2131 : decode cL_law 2131 = .ok (.iaload, 1) := by decide +kernel
theorem dL_law_2132 : decode cL_law 2132 = .ok (.invokevirtual 241, 3) := by decide +kernel
theorem dL_law_2135 : decode cL_law 2135 = .ok (.istore 7, 2) := by decide +kernel
theorem dL_law_2137 : decode cL_law 2137 = .ok (.aload_n 2, 1) := by decide +kernel
theorem dL_law_2138 : decode cL_law 2138 = .ok (.invokevirtual 141, 3) := by decide +kernel
theorem dL_law_2141 : decode cL_law 2141 = .ok (.iload 6, 2) := by decide +kernel
theorem dL_law_2143 : decode cL_law 2143 = .ok (.if_icmp .eq 5, 3) := by decide +kernel
theorem dL_law_2146 : decode cL_law 2146 = .ok (.iconst 0, 1) := by decide +kernel
theorem dL_law_2147 : decode cL_law 2147 = .ok (.ireturn, 1) := by decide +kernel
theorem dL_law_2148 : decode cL_law 2148 = .ok (.iload 6, 2) := by decide +kernel
theorem dL_law_2150 : decode cL_law 2150 = .ok (.ifCond .ne 15, 3) := by decide +kernel
theorem dL_law_2153 : decode cL_law 2153 = .ok (.aload_n 3, 1) := by decide +kernel
theorem dL_law_2154 : decode cL_law 2154 = .ok (.iconst 0, 1) := by decide +kernel
theorem dL_law_2155 : decode cL_law 2155 = .ok (.laload, 1) := by decide +kernel
theorem dL_law_2156 : decode cL_law 2156 = .ok (.iload 7, 2) := by decide +kernel
theorem dL_law_2158 : decode cL_law 2158 = .ok (.i2l, 1) := by decide +kernel
theorem dL_law_2159 : decode cL_law 2159 = .ok (.lcmp, 1) := by decide +kernel
theorem dL_law_2160 : decode cL_law 2160 = .ok (.ifCond .eq 5, 3) := by decide +kernel
theorem dL_law_2163 : decode cL_law 2163 = .ok (.iconst 0, 1) := by decide +kernel
theorem dL_law_2164 : decode cL_law 2164 = .ok (.ireturn, 1) := by decide +kernel
theorem dL_law_2165 : decode cL_law 2165 = .ok (.goto 376, 3) := by decide +kernel
theorem dL_law_2168 : decode cL_law 2168 = .ok (.aload_n 1, 1) := by decide +kernel
theorem dL_law_2169 : decode cL_law 2169 = .ok (.invokevirtual 242, 3) := by decide +kernel
theorem dL_law_2172 : decode cL_law 2172 = .ok (.aload_n 2, 1) := by decide +kernel
theorem dL_law_2173 : decode cL_law 2173 = .ok (.invokevirtual 246, 3) := by decide +kernel
theorem dL_law_2176 : decode cL_law 2176 = .ok (.lcmp, 1) := by decide +kernel
theorem dL_law_2177 : decode cL_law 2177 = .ok (.ifCond .eq 364, 3) := by decide +kernel
theorem dL_law_2180 : decode cL_law 2180 = .ok (.iconst 0, 1) := by decide +kernel
theorem dL_law_2181 : decode cL_law 2181 = .ok (.ireturn, 1) := by decide +kernel
theorem dL_law_2182 : decode cL_law 2182 = .ok (.aload_n 1, 1) := by decide +kernel
theorem dL_law_2183 : decode cL_law 2183 = .ok (.aload_n 0, 1) := by decide +kernel
theorem dL_law_2184 : decode cL_law 2184 = .ok (.iload 5, 2) := by decide +kernel
theorem dL_law_2186 : decode cL_law 2186 = .ok (.iconst 1, 1) := by decide +kernel
theorem dL_law_2187 : decode cL_law 2187 = .ok (.iadd, 1) := by decide +kernel
theorem dL_law_2188 : decode cL_law 2188 = .ok (.iaload, 1) := by decide +kernel
theorem dL_law_2189 : decode cL_law 2189 = .ok (.aload_n 3, 1) := by decide +kernel
theorem dL_law_2190 : decode cL_law 2190 = .ok (.invokestatic 247, 3) := by decide +kernel
theorem dL_law_2193 : decode cL_law 2193 = .ok (.istore 6, 2) := by decide +kernel
theorem dL_law_2195 : decode cL_law 2195 = .ok (.aload_n 2, 1) := by decide +kernel
theorem dL_law_2196 : decode cL_law 2196 = .ok (.aload_n 0, 1) := by decide +kernel
theorem dL_law_2197 : decode cL_law 2197 = .ok (.iload 5, 2) := by decide +kernel
theorem dL_law_2199 : decode cL_law 2199 = .ok (.iconst 1, 1) := by decide +kernel
theorem dL_law_2200 : decode cL_law 2200 = .ok (.iadd, 1) := by decide +kernel
theorem dL_law_2201 : decode cL_law 2201 = .ok (.iaload, 1) := by decide +kernel
theorem dL_law_2202 : decode cL_law 2202 = .ok (.invokevirtual 249, 3) := by decide +kernel
theorem dL_law_2205 : decode cL_law 2205 = .ok (.istore 7, 2) := by decide +kernel
theorem dL_law_2207 : decode cL_law 2207 = .ok (.aload_n 2, 1) := by decide +kernel
theorem dL_law_2208 : decode cL_law 2208 = .ok (.invokevirtual 141, 3) := by decide +kernel
theorem dL_law_2211 : decode cL_law 2211 = .ok (.iload 6, 2) := by decide +kernel
theorem dL_law_2213 : decode cL_law 2213 = .ok (.if_icmp .eq 5, 3) := by decide +kernel
theorem dL_law_2216 : decode cL_law 2216 = .ok (.iconst 0, 1) := by decide +kernel
theorem dL_law_2217 : decode cL_law 2217 = .ok (.ireturn, 1) := by decide +kernel
theorem dL_law_2218 : decode cL_law 2218 = .ok (.iload 6, 2) := by decide +kernel
theorem dL_law_2220 : decode cL_law 2220 = .ok (.ifCond .ne 22, 3) := by decide +kernel
theorem dL_law_2223 : decode cL_law 2223 = .ok (.aload_n 3, 1) := by decide +kernel
theorem dL_law_2224 : decode cL_law 2224 = .ok (.iconst 0, 1) := by decide +kernel
theorem dL_law_2225 : decode cL_law 2225 = .ok (.laload, 1) := by decide +kernel
theorem dL_law_2226 : decode cL_law 2226 = .ok (.iload 7, 2) := by decide +kernel
theorem dL_law_2228 : decode cL_law 2228 = .ok (.ifCond .eq 7, 3) := by decide +kernel
theorem dL_law_2231 : decode cL_law 2231 = .ok (.lconst 1, 1) := by decide +kernel
theorem dL_law_2232 : decode cL_law 2232 = .ok (.goto 4, 3) := by decide +kernel
theorem dL_law_2235 : decode cL_law 2235 = .ok (.lconst 0, 1) := by decide +kernel
theorem dL_law_2236 : decode cL_law 2236 = .ok (.lcmp, 1) := by decide +kernel
theorem dL_law_2237 : decode cL_law 2237 = .ok (.ifCond .eq 5, 3) := by decide +kernel
theorem dL_law_2240 : decode cL_law 2240 = .ok (.iconst 0, 1) := by decide +kernel
theorem dL_law_2241 : decode cL_law 2241 = .ok (.ireturn, 1) := by decide +kernel
theorem dL_law_2242 : decode cL_law 2242 = .ok (.goto 299, 3) := by decide +kernel
theorem dL_law_2245 : decode cL_law 2245 = .ok (.aload_n 1, 1) := by decide +kernel
theorem dL_law_2246 : decode cL_law 2246 = .ok (.aload_n 0, 1) := by decide +kernel
theorem dL_law_2247 : decode cL_law 2247 = .ok (.iload 5, 2) := by decide +kernel
theorem dL_law_2249 : decode cL_law 2249 = .ok (.iconst 1, 1) := by decide +kernel
theorem dL_law_2250 : decode cL_law 2250 = .ok (.iadd, 1) := by decide +kernel
theorem dL_law_2251 : decode cL_law 2251 = .ok (.iaload, 1) := by decide +kernel
theorem dL_law_2252 : decode cL_law 2252 = .ok (.i2l, 1) := by decide +kernel
theorem dL_law_2253 : decode cL_law 2253 = .ok (.bipush 32, 2) := by decide +kernel
theorem dL_law_2255 : decode cL_law 2255 = .ok (.lshl, 1) := by decide +kernel
theorem dL_law_2256 : decode cL_law 2256 = .ok (.aload_n 0, 1) := by decide +kernel
theorem dL_law_2257 : decode cL_law 2257 = .ok (.iload 5, 2) := by decide +kernel
theorem dL_law_2259 : decode cL_law 2259 = .ok (.iconst 2, 1) := by decide +kernel
theorem dL_law_2260 : decode cL_law 2260 = .ok (.iadd, 1) := by decide +kernel
theorem dL_law_2261 : decode cL_law 2261 = .ok (.iaload, 1) := by decide +kernel
theorem dL_law_2262 : decode cL_law 2262 = .ok (.i2l, 1) := by decide +kernel
theorem dL_law_2263 : decode cL_law 2263 = .ok (.ldc2_w 198, 3) := by decide +kernel
theorem dL_law_2266 : decode cL_law 2266 = .ok (.land, 1) := by decide +kernel
theorem dL_law_2267 : decode cL_law 2267 = .ok (.lor, 1) := by decide +kernel
theorem dL_law_2268 : decode cL_law 2268 = .ok (.aload_n 3, 1) := by decide +kernel
theorem dL_law_2269 : decode cL_law 2269 = .ok (.invokestatic 250, 3) := by decide +kernel
theorem dL_law_2272 : decode cL_law 2272 = .ok (.istore 6, 2) := by decide +kernel
theorem dL_law_2274 : decode cL_law 2274 = .ok (.aload_n 2, 1) := by decide +kernel
theorem dL_law_2275 : decode cL_law 2275 = .ok (.aload_n 0, 1) := by decide +kernel
theorem dL_law_2276 : decode cL_law 2276 = .ok (.iload 5, 2) := by decide +kernel
theorem dL_law_2278 : decode cL_law 2278 = .ok (.iconst 1, 1) := by decide +kernel
theorem dL_law_2279 : decode cL_law 2279 = .ok (.iadd, 1) := by decide +kernel
theorem dL_law_2280 : decode cL_law 2280 = .ok (.iaload, 1) := by decide +kernel
theorem dL_law_2281 : decode cL_law 2281 = .ok (.i2l, 1) := by decide +kernel
theorem dL_law_2282 : decode cL_law 2282 = .ok (.bipush 32, 2) := by decide +kernel
theorem dL_law_2284 : decode cL_law 2284 = .ok (.lshl, 1) := by decide +kernel
theorem dL_law_2285 : decode cL_law 2285 = .ok (.aload_n 0, 1) := by decide +kernel
theorem dL_law_2286 : decode cL_law 2286 = .ok (.iload 5, 2) := by decide +kernel
theorem dL_law_2288 : decode cL_law 2288 = .ok (.iconst 2, 1) := by decide +kernel
theorem dL_law_2289 : decode cL_law 2289 = .ok (.iadd, 1) := by decide +kernel
theorem dL_law_2290 : decode cL_law 2290 = .ok (.iaload, 1) := by decide +kernel
theorem dL_law_2291 : decode cL_law 2291 = .ok (.i2l, 1) := by decide +kernel
theorem dL_law_2292 : decode cL_law 2292 = .ok (.ldc2_w 198, 3) := by decide +kernel
theorem dL_law_2295 : decode cL_law 2295 = .ok (.land, 1) := by decide +kernel
theorem dL_law_2296 : decode cL_law 2296 = .ok (.lor, 1) := by decide +kernel
theorem dL_law_2297 : decode cL_law 2297 = .ok (.invokevirtual 253, 3) := by decide +kernel
theorem dL_law_2300 : decode cL_law 2300 = .ok (.istore 7, 2) := by decide +kernel
theorem dL_law_2302 : decode cL_law 2302 = .ok (.aload_n 2, 1) := by decide +kernel
theorem dL_law_2303 : decode cL_law 2303 = .ok (.invokevirtual 141, 3) := by decide +kernel
theorem dL_law_2306 : decode cL_law 2306 = .ok (.iload 6, 2) := by decide +kernel
theorem dL_law_2308 : decode cL_law 2308 = .ok (.if_icmp .eq 5, 3) := by decide +kernel
theorem dL_law_2311 : decode cL_law 2311 = .ok (.iconst 0, 1) := by decide +kernel
theorem dL_law_2312 : decode cL_law 2312 = .ok (.ireturn, 1) := by decide +kernel
theorem dL_law_2313 : decode cL_law 2313 = .ok (.iload 6, 2) := by decide +kernel
theorem dL_law_2315 : decode cL_law 2315 = .ok (.ifCond .ne 22, 3) := by decide +kernel
theorem dL_law_2318 : decode cL_law 2318 = .ok (.aload_n 3, 1) := by decide +kernel
theorem dL_law_2319 : decode cL_law 2319 = .ok (.iconst 0, 1) := by decide +kernel
theorem dL_law_2320 : decode cL_law 2320 = .ok (.laload, 1) := by decide +kernel
theorem dL_law_2321 : decode cL_law 2321 = .ok (.iload 7, 2) := by decide +kernel
theorem dL_law_2323 : decode cL_law 2323 = .ok (.ifCond .eq 7, 3) := by decide +kernel
theorem dL_law_2326 : decode cL_law 2326 = .ok (.lconst 1, 1) := by decide +kernel
theorem dL_law_2327 : decode cL_law 2327 = .ok (.goto 4, 3) := by decide +kernel
theorem dL_law_2330 : decode cL_law 2330 = .ok (.lconst 0, 1) := by decide +kernel
theorem dL_law_2331 : decode cL_law 2331 = .ok (.lcmp, 1) := by decide +kernel
theorem dL_law_2332 : decode cL_law 2332 = .ok (.ifCond .eq 5, 3) := by decide +kernel
theorem dL_law_2335 : decode cL_law 2335 = .ok (.iconst 0, 1) := by decide +kernel
theorem dL_law_2336 : decode cL_law 2336 = .ok (.ireturn, 1) := by decide +kernel
theorem dL_law_2337 : decode cL_law 2337 = .ok (.goto 204, 3) := by decide +kernel
theorem dL_law_2340 : decode cL_law 2340 = .ok (.aload_n 1, 1) := by decide +kernel
theorem dL_law_2341 : decode cL_law 2341 = .ok (.aload_n 0, 1) := by decide +kernel
theorem dL_law_2342 : decode cL_law 2342 = .ok (.iload 5, 2) := by decide +kernel
theorem dL_law_2344 : decode cL_law 2344 = .ok (.iconst 1, 1) := by decide +kernel
theorem dL_law_2345 : decode cL_law 2345 = .ok (.iadd, 1) := by decide +kernel
theorem dL_law_2346 : decode cL_law 2346 = .ok (.iaload, 1) := by decide +kernel
theorem dL_law_2347 : decode cL_law 2347 = .ok (.aload_n 0, 1) := by decide +kernel
theorem dL_law_2348 : decode cL_law 2348 = .ok (.iload 5, 2) := by decide +kernel
theorem dL_law_2350 : decode cL_law 2350 = .ok (.iconst 2, 1) := by decide +kernel
theorem dL_law_2351 : decode cL_law 2351 = .ok (.iadd, 1) := by decide +kernel
theorem dL_law_2352 : decode cL_law 2352 = .ok (.iaload, 1) := by decide +kernel
theorem dL_law_2353 : decode cL_law 2353 = .ok (.aload_n 3, 1) := by decide +kernel
theorem dL_law_2354 : decode cL_law 2354 = .ok (.invokestatic 254, 3) := by decide +kernel
theorem dL_law_2357 : decode cL_law 2357 = .ok (.istore 6, 2) := by decide +kernel
theorem dL_law_2359 : decode cL_law 2359 = .ok (.aload_n 2, 1) := by decide +kernel
theorem dL_law_2360 : decode cL_law 2360 = .ok (.aload_n 0, 1) := by decide +kernel
theorem dL_law_2361 : decode cL_law 2361 = .ok (.iload 5, 2) := by decide +kernel
theorem dL_law_2363 : decode cL_law 2363 = .ok (.iconst 1, 1) := by decide +kernel
theorem dL_law_2364 : decode cL_law 2364 = .ok (.iadd, 1) := by decide +kernel
theorem dL_law_2365 : decode cL_law 2365 = .ok (.iaload, 1) := by decide +kernel
theorem dL_law_2366 : decode cL_law 2366 = .ok (.aload_n 0, 1) := by decide +kernel
theorem dL_law_2367 : decode cL_law 2367 = .ok (.iload 5, 2) := by decide +kernel
theorem dL_law_2369 : decode cL_law 2369 = .ok (.iconst 2, 1) := by decide +kernel
theorem dL_law_2370 : decode cL_law 2370 = .ok (.iadd, 1) := by decide +kernel
theorem dL_law_2371 : decode cL_law 2371 = .ok (.iaload, 1) := by decide +kernel
theorem dL_law_2372 : decode cL_law 2372 = .ok (.invokevirtual 256, 3) := by decide +kernel
theorem dL_law_2375 : decode cL_law 2375 = .ok (.istore 7, 2) := by decide +kernel
theorem dL_law_2377 : decode cL_law 2377 = .ok (.aload_n 2, 1) := by decide +kernel
theorem dL_law_2378 : decode cL_law 2378 = .ok (.invokevirtual 141, 3) := by decide +kernel
theorem dL_law_2381 : decode cL_law 2381 = .ok (.iload 6, 2) := by decide +kernel
theorem dL_law_2383 : decode cL_law 2383 = .ok (.if_icmp .eq 5, 3) := by decide +kernel
theorem dL_law_2386 : decode cL_law 2386 = .ok (.iconst 0, 1) := by decide +kernel
theorem dL_law_2387 : decode cL_law 2387 = .ok (.ireturn, 1) := by decide +kernel
theorem dL_law_2388 : decode cL_law 2388 = .ok (.iload 6, 2) := by decide +kernel
theorem dL_law_2390 : decode cL_law 2390 = .ok (.ifCond .ne 22, 3) := by decide +kernel
theorem dL_law_2393 : decode cL_law 2393 = .ok (.aload_n 3, 1) := by decide +kernel
theorem dL_law_2394 : decode cL_law 2394 = .ok (.iconst 0, 1) := by decide +kernel
theorem dL_law_2395 : decode cL_law 2395 = .ok (.laload, 1) := by decide +kernel
theorem dL_law_2396 : decode cL_law 2396 = .ok (.iload 7, 2) := by decide +kernel
theorem dL_law_2398 : decode cL_law 2398 = .ok (.ifCond .eq 7, 3) := by decide +kernel
theorem dL_law_2401 : decode cL_law 2401 = .ok (.lconst 1, 1) := by decide +kernel
theorem dL_law_2402 : decode cL_law 2402 = .ok (.goto 4, 3) := by decide +kernel
theorem dL_law_2405 : decode cL_law 2405 = .ok (.lconst 0, 1) := by decide +kernel
theorem dL_law_2406 : decode cL_law 2406 = .ok (.lcmp, 1) := by decide +kernel
theorem dL_law_2407 : decode cL_law 2407 = .ok (.ifCond .eq 5, 3) := by decide +kernel
theorem dL_law_2410 : decode cL_law 2410 = .ok (.iconst 0, 1) := by decide +kernel
theorem dL_law_2411 : decode cL_law 2411 = .ok (.ireturn, 1) := by decide +kernel
theorem dL_law_2412 : decode cL_law 2412 = .ok (.goto 129, 3) := by decide +kernel
theorem dL_law_2415 : decode cL_law 2415 = .ok (.aload_n 1, 1) := by decide +kernel
theorem dL_law_2416 : decode cL_law 2416 = .ok (.aload_n 0, 1) := by decide +kernel
theorem dL_law_2417 : decode cL_law 2417 = .ok (.iload 5, 2) := by decide +kernel
theorem dL_law_2419 : decode cL_law 2419 = .ok (.iconst 1, 1) := by decide +kernel
theorem dL_law_2420 : decode cL_law 2420 = .ok (.iadd, 1) := by decide +kernel
theorem dL_law_2421 : decode cL_law 2421 = .ok (.iaload, 1) := by decide +kernel
theorem dL_law_2422 : decode cL_law 2422 = .ok (.aload_n 3, 1) := by decide +kernel
theorem dL_law_2423 : decode cL_law 2423 = .ok (.invokestatic 257, 3) := by decide +kernel
theorem dL_law_2426 : decode cL_law 2426 = .ok (.istore 6, 2) := by decide +kernel
theorem dL_law_2428 : decode cL_law 2428 = .ok (.aload_n 2, 1) := by decide +kernel
theorem dL_law_2429 : decode cL_law 2429 = .ok (.aload_n 0, 1) := by decide +kernel
theorem dL_law_2430 : decode cL_law 2430 = .ok (.iload 5, 2) := by decide +kernel
theorem dL_law_2432 : decode cL_law 2432 = .ok (.iconst 1, 1) := by decide +kernel
theorem dL_law_2433 : decode cL_law 2433 = .ok (.iadd, 1) := by decide +kernel
theorem dL_law_2434 : decode cL_law 2434 = .ok (.iaload, 1) := by decide +kernel
theorem dL_law_2435 : decode cL_law 2435 = .ok (.invokevirtual 259, 3) := by decide +kernel
theorem dL_law_2438 : decode cL_law 2438 = .ok (.istore 7, 2) := by decide +kernel
theorem dL_law_2440 : decode cL_law 2440 = .ok (.aload_n 2, 1) := by decide +kernel
theorem dL_law_2441 : decode cL_law 2441 = .ok (.invokevirtual 141, 3) := by decide +kernel
theorem dL_law_2444 : decode cL_law 2444 = .ok (.iload 6, 2) := by decide +kernel
theorem dL_law_2446 : decode cL_law 2446 = .ok (.if_icmp .eq 5, 3) := by decide +kernel
theorem dL_law_2449 : decode cL_law 2449 = .ok (.iconst 0, 1) := by decide +kernel
theorem dL_law_2450 : decode cL_law 2450 = .ok (.ireturn, 1) := by decide +kernel
theorem dL_law_2451 : decode cL_law 2451 = .ok (.iload 6, 2) := by decide +kernel
theorem dL_law_2453 : decode cL_law 2453 = .ok (.ifCond .ne 22, 3) := by decide +kernel
theorem dL_law_2456 : decode cL_law 2456 = .ok (.aload_n 3, 1) := by decide +kernel
theorem dL_law_2457 : decode cL_law 2457 = .ok (.iconst 0, 1) := by decide +kernel
theorem dL_law_2458 : decode cL_law 2458 = .ok (.laload, 1) := by decide +kernel
theorem dL_law_2459 : decode cL_law 2459 = .ok (.iload 7, 2) := by decide +kernel
theorem dL_law_2461 : decode cL_law 2461 = .ok (.ifCond .eq 7, 3) := by decide +kernel
theorem dL_law_2464 : decode cL_law 2464 = .ok (.lconst 1, 1) := by decide +kernel
theorem dL_law_2465 : decode cL_law 2465 = .ok (.goto 4, 3) := by decide +kernel
theorem dL_law_2468 : decode cL_law 2468 = .ok (.lconst 0, 1) := by decide +kernel
theorem dL_law_2469 : decode cL_law 2469 = .ok (.lcmp, 1) := by decide +kernel
theorem dL_law_2470 : decode cL_law 2470 = .ok (.ifCond .eq 5, 3) := by decide +kernel
theorem dL_law_2473 : decode cL_law 2473 = .ok (.iconst 0, 1) := by decide +kernel
theorem dL_law_2474 : decode cL_law 2474 = .ok (.ireturn, 1) := by decide +kernel
theorem dL_law_2475 : decode cL_law 2475 = .ok (.goto 66, 3) := by decide +kernel
theorem dL_law_2478 : decode cL_law 2478 = .ok (.aload_n 1, 1) := by decide +kernel
theorem dL_law_2479 : decode cL_law 2479 = .ok (.aload_n 0, 1) := by decide +kernel
theorem dL_law_2480 : decode cL_law 2480 = .ok (.iload 5, 2) := by decide +kernel
theorem dL_law_2482 : decode cL_law 2482 = .ok (.iconst 1, 1) := by decide +kernel
theorem dL_law_2483 : decode cL_law 2483 = .ok (.iadd, 1) := by decide +kernel
theorem dL_law_2484 : decode cL_law 2484 = .ok (.iaload, 1) := by decide +kernel
theorem dL_law_2485 : decode cL_law 2485 = .ok (.aload_n 3, 1) := by decide +kernel
theorem dL_law_2486 : decode cL_law 2486 = .ok (.invokestatic 260, 3) := by decide +kernel
theorem dL_law_2489 : decode cL_law 2489 = .ok (.istore 6, 2) := by decide +kernel
theorem dL_law_2491 : decode cL_law 2491 = .ok (.aload_n 2, 1) := by decide +kernel
theorem dL_law_2492 : decode cL_law 2492 = .ok (.aload_n 0, 1) := by decide +kernel
theorem dL_law_2493 : decode cL_law 2493 = .ok (.iload 5, 2) := by decide +kernel
theorem dL_law_2495 : decode cL_law 2495 = .ok (.iconst 1, 1) := by decide +kernel
theorem dL_law_2496 : decode cL_law 2496 = .ok (.iadd, 1) := by decide +kernel
theorem dL_law_2497 : decode cL_law 2497 = .ok (.iaload, 1) := by decide +kernel
theorem dL_law_2498 : decode cL_law 2498 = .ok (.invokevirtual 262, 3) := by decide +kernel
theorem dL_law_2501 : decode cL_law 2501 = .ok (.istore 7, 2) := by decide +kernel
theorem dL_law_2503 : decode cL_law 2503 = .ok (.aload_n 2, 1) := by decide +kernel
theorem dL_law_2504 : decode cL_law 2504 = .ok (.invokevirtual 141, 3) := by decide +kernel
theorem dL_law_2507 : decode cL_law 2507 = .ok (.iload 6, 2) := by decide +kernel
theorem dL_law_2509 : decode cL_law 2509 = .ok (.if_icmp .eq 5, 3) := by decide +kernel
theorem dL_law_2512 : decode cL_law 2512 = .ok (.iconst 0, 1) := by decide +kernel
theorem dL_law_2513 : decode cL_law 2513 = .ok (.ireturn, 1) := by decide +kernel
theorem dL_law_2514 : decode cL_law 2514 = .ok (.iload 6, 2) := by decide +kernel
theorem dL_law_2516 : decode cL_law 2516 = .ok (.ifCond .ne 22, 3) := by decide +kernel
theorem dL_law_2519 : decode cL_law 2519 = .ok (.aload_n 3, 1) := by decide +kernel
theorem dL_law_2520 : decode cL_law 2520 = .ok (.iconst 0, 1) := by decide +kernel
theorem dL_law_2521 : decode cL_law 2521 = .ok (.laload, 1) := by decide +kernel
theorem dL_law_2522 : decode cL_law 2522 = .ok (.iload 7, 2) := by decide +kernel
theorem dL_law_2524 : decode cL_law 2524 = .ok (.ifCond .eq 7, 3) := by decide +kernel
theorem dL_law_2527 : decode cL_law 2527 = .ok (.lconst 1, 1) := by decide +kernel
theorem dL_law_2528 : decode cL_law 2528 = .ok (.goto 4, 3) := by decide +kernel
theorem dL_law_2531 : decode cL_law 2531 = .ok (.lconst 0, 1) := by decide +kernel
theorem dL_law_2532 : decode cL_law 2532 = .ok (.lcmp, 1) := by decide +kernel
theorem dL_law_2533 : decode cL_law 2533 = .ok (.ifCond .eq 5, 3) := by decide +kernel
theorem dL_law_2536 : decode cL_law 2536 = .ok (.iconst 0, 1) := by decide +kernel
theorem dL_law_2537 : decode cL_law 2537 = .ok (.ireturn, 1) := by decide +kernel
theorem dL_law_2538 : decode cL_law 2538 = .ok (.goto 3, 3) := by decide +kernel
theorem dL_law_2541 : decode cL_law 2541 = .ok (.iinc 5 5, 3) := by decide +kernel
theorem dL_law_2544 : decode cL_law 2544 = .ok (.goto (-2516), 3) := by decide +kernel
theorem dL_law_2547 : decode cL_law 2547 = .ok (.iconst 1, 1) := by decide +kernel
theorem dL_law_2548 : decode cL_law 2548 = .ok (.ireturn, 1) := by decide +kernel
end
section
/-! MY LAYER over the kit: a heap that is tracked by a function of addresses, values that are whole numbers, one row an instruction -/
abbrev Hp : Type := Nat → Option va_E
def iv (a : Int) : Value := .int (Int32.ofInt a)
def jv (a : Int) : Value := .long (Int64.ofInt a)
abbrev I32 (a : Int) : Prop := -2147483648 ≤ a ∧ a < 2147483648
abbrev I64 (a : Int) : Prop := -9223372036854775808 ≤ a ∧ a < 9223372036854775808
abbrev cls4 : List vw_C := [(RX6, TX6, 6), (RX2, TX2, 2), (RX5, TX5, 5), (RX7, TX7, 14)]
abbrev tysD (D : va_G) : List (ClassId × FieldType) := [(D.1 100, .int), (D.1 101, .long), (D.1 102, .double), (D.1 103, .object RX5)]
/-- the cells that are tracked lie in the heap as told, none of them older than z0 -/
def Hd (D : va_G) (z0 : Nat) (h : Hp) (H : Heap) : Prop := ∀ (q : Nat) (e : va_E), h q = some e → z0 ≤ q ∧ va_at D cls4 (q, e) H
/-- the cells that a method may write -/
abbrev Fr (z0 : Nat) : Nat → Prop := fun q => z0 ≤ q
def strs : List (String × Nat × String) := [("Trigonyard", 282, "there is no such place"), ("Trigonyard", 46, "a side is out of range"), ("Trigonyard", 53, "a side is not less than the sum of the two others"), ("Trigonyard", 294, "none is held there"), ("Trigonyard", 284, "there is no such side"), ("Trigonyard", 81, "the number is out of range"), ("Trigonyard", 302, "a side would be above 65535"), ("Trigonyard", 102, "one of the two is not right"), ("Trigonyard", 107, "they have no leg of the same length"), ("Trigonyard", 119, "the area is no whole number"), ("Trigonyard", 121, "there is nothing such"), ("Trigonyard", 129, "the length is no whole number"), ("Trigonyard", 158, "m or n is out of range"), ("Trigonyard", 160, "there is no such how"), ("Trigonyard", 300, "it is not primitive"), ("Trigonyard", 181, "3, 4, 5 comes of none"), ("Trigonyard", 201, "there is no such which"), ("Trigonyard", 207, "there is no such way"), ("Trigonyard", 288, "the bound is out of range"), ("Trigonyard", 221, "there is no such number"), ("Trigonyard", 290, "the length is out of range"), ("Trigonyard", 238, "there is no such by"), ("Trigonyard", 244, "there is none"), ("Trigonyard", 262, "one is out of range")]
def ncs : List (String × String) := [("Trigonyard", "java/lang/IndexOutOfBoundsException"), ("Trigonyard$Primitives", "java/lang/IndexOutOfBoundsException"), ("TrigonyardModel", "java/lang/IndexOutOfBoundsException"), ("java/lang/IllegalArgumentException", "java/lang/IndexOutOfBoundsException"), ("java/lang/IllegalStateException", "java/lang/IndexOutOfBoundsException"), ("Trigonyard$Triangle", "java/lang/IndexOutOfBoundsException"), ("java/util/NoSuchElementException", "java/lang/IndexOutOfBoundsException"), ("Trigonyard", "java/lang/IllegalArgumentException"), ("Trigonyard$Primitives", "java/lang/IllegalArgumentException"), ("TrigonyardModel", "java/lang/IllegalArgumentException"), ("java/lang/IndexOutOfBoundsException", "java/lang/IllegalArgumentException"), ("java/lang/IllegalStateException", "java/lang/IllegalArgumentException"), ("Trigonyard$Triangle", "java/lang/IllegalArgumentException"), ("java/util/NoSuchElementException", "java/lang/IllegalArgumentException"), ("Trigonyard", "java/lang/IllegalStateException"), ("Trigonyard$Primitives", "java/lang/IllegalStateException"), ("TrigonyardModel", "java/lang/IllegalStateException"), ("java/lang/IndexOutOfBoundsException", "java/lang/IllegalStateException"), ("java/lang/IllegalArgumentException", "java/lang/IllegalStateException"), ("Trigonyard$Triangle", "java/lang/IllegalStateException"), ("java/util/NoSuchElementException", "java/lang/IllegalStateException"), ("Trigonyard", "java/util/NoSuchElementException"), ("Trigonyard$Primitives", "java/util/NoSuchElementException"), ("TrigonyardModel", "java/util/NoSuchElementException"), ("java/lang/IndexOutOfBoundsException", "java/util/NoSuchElementException"), ("java/lang/IllegalArgumentException", "java/util/NoSuchElementException"), ("java/lang/IllegalStateException", "java/util/NoSuchElementException"), ("Trigonyard$Triangle", "java/util/NoSuchElementException")]
def nwC : List (String × String) := [("java/lang/IndexOutOfBoundsException", "java/lang/IndexOutOfBoundsException"), ("java/lang/IllegalArgumentException", "java/lang/IllegalArgumentException"), ("java/lang/IllegalStateException", "java/lang/IllegalStateException"), ("java/util/NoSuchElementException", "java/util/NoSuchElementException"), ("Trigonyard", "java/lang/Object"), ("Trigonyard$Primitives", "java/lang/Object"), ("TrigonyardModel", "java/lang/Object"), ("java/lang/IndexOutOfBoundsException", "java/lang/Object"), ("java/lang/IllegalArgumentException", "java/lang/Object"), ("java/lang/IllegalStateException", "java/lang/Object"), ("Trigonyard$Triangle", "java/lang/Object"), ("java/util/NoSuchElementException", "java/lang/Object"), ("java/lang/Throwable", "java/lang/Object"), ("java/lang/String", "java/lang/Object")]
def nwD : List MethodName := [⟨"java/lang/RuntimeException", "<init>", "()V"⟩, ⟨"java/lang/RuntimeException", "<init>", "(Ljava/lang/String;)V"⟩, ⟨"java/lang/Exception", "<init>", "()V"⟩, ⟨"java/lang/Exception", "<init>", "(Ljava/lang/String;)V"⟩, ⟨"java/lang/Throwable", "<init>", "()V"⟩, ⟨"java/lang/Throwable", "<init>", "(Ljava/lang/String;)V"⟩]
/-- what never changes -/
def Fx (D : va_G) (z0 : Nat) (U : State) : Prop :=
  va_K D cls4 (tysD D) U ∧ vx_Zq Bundle.tN "UNASSIGNED_STACK" Bundle.steD (Fr z0) U U.heap ∧ vx_Zq Bundle.tN "SUPPRESSED_SENTINEL" Bundle.listD (Fr z0) U U.heap ∧
  (∀ q ∈ strs, ∃ sa, vk_R q.1 q.2.1 q.2.2 sa U) ∧ (∀ q ∈ ncs, va_Nc q.1 q.2 U) ∧ va_AO RX5 U ∧ z0 ≤ U.heap.size ∧ (∀ q ∈ nwC, va_Nw (.castable q.1 q.2) U) ∧ (∀ q ∈ nwD, va_Nw (.declares q) U)
theorem Nc_moved {C T : String} {u U : State} (hvm : u.vm.Alike U.vm) (h : va_Nc C T u) : va_Nc C T U := by
  first
    | exact va_Nc.moved hvm h
    | (obtain ⟨c, t, h1, h2, h3⟩ := h
       exact ⟨c, t, by rw [hvm.findClass]; exact h1, by rw [hvm.findClass]; exact h2, by rw [← hvm.assignable]; exact h3⟩)
theorem Fx_call {D : va_G} {z0 : Nat} {s U : State} {H : Heap} {locs : List Loc} (h : Fx D z0 s) (hS : va_S (Fr z0) s.heap H locs) (hU : U.heap = H) (hW : s.WarmedH U.vm) : Fx D z0 U := by
  obtain ⟨h1, h2, h3, h4, h5, h6, h7, h8, h9⟩ := h
  refine ⟨va_K.moved hW.alike h1, ?_, ?_, fun q hq => ?_, fun q hq => Nc_moved hW.alike (h5 q hq), va_AO.moved hW.alike h6, ?_, fun q hq => va_Nw.warmC hW (h8 q hq), fun q hq => va_Nw.warmD hW (h9 q hq)⟩
  · rw [hU]; exact vx_Zq.moved hW.alike (vx_Zq.kept h2 hS.2.1)
  · rw [hU]; exact vx_Zq.moved hW.alike (vx_Zq.kept h3 hS.2.1)
  · obtain ⟨sa, hsa⟩ := h4 q hq
    exact ⟨sa, vk_R.warm hW hsa⟩
  · rw [hU]; exact Nat.le_trans h7 hS.1
theorem Fx_calling {D : va_G} {z0 : Nat} {U : State} (h : Fx D z0 U) (g : JFrame) (mk : MethodId) (a : Array Value) : Fx D z0 (U.calling g mk a) := by
  obtain ⟨h1, h2, h3, h4, h5, h6, h7, h8, h9⟩ := h
  refine ⟨va_K.moved (u := U) (U := U.calling g mk a) (Vm.Alike.refl U.vm) h1, vx_Zq.moved (u := U) (U := U.calling g mk a) (Vm.Alike.refl U.vm) h2, vx_Zq.moved (u := U) (U := U.calling g mk a) (Vm.Alike.refl U.vm) h3, fun q hq => ?_, fun q hq => Nc_moved (u := U) (U := U.calling g mk a) (Vm.Alike.refl U.vm) (h5 q hq), va_AO.moved (u := U) (U := U.calling g mk a) (Vm.Alike.refl U.vm) h6, h7, fun q hq => va_Nw.same (u := U) (U := U.calling g mk a) rfl rfl (h8 q hq), fun q hq => va_Nw.same (u := U) (U := U.calling g mk a) rfl rfl (h9 q hq)⟩
  obtain ⟨sa, hsa⟩ := h4 q hq
  exact ⟨sa, vk_R.same (u := U) (U := U.calling g mk a) rfl hsa⟩
/-- a method's start -/
def Pw (D : va_G) (z0 : Nat) (h : Hp) (U : State) : Prop := Hd D z0 h U.heap ∧ Fx D z0 U
/-- its end: an answer, or what is thrown, and the tracked heap behind it -/
def QQ (D : va_G) (z0 : Nat) (Φ : Option Value → Hp → Prop) : Array Value → State → Outcome → State → Prop := fun _ st o t => (∃ (v : Option Value) (h' : Hp), o = .returned v ∧ Φ v h' ∧ Hd D z0 h' t.heap) ∧ va_F (Fr z0) st t
def XX (D : va_G) (z0 : Nat) (Ψ : String → Hp → Prop) : String → State → State → Prop := fun E st t => (∃ h' : Hp, Ψ E h' ∧ Hd D z0 h' t.heap) ∧ va_F (Fr z0) st t
/-- a CONTRACT -/
def CC (l : Launch) (y : MethodName) (cc : ByteArray) (nL : Nat) (ret : Option FieldType) (rm : Room) (D : va_G) (z0 : Nat) (h : Hp) (As : List Value) (Φ : Option Value → Hp → Prop) (Ψ : String → Hp → Prop) : Prop :=
  vx_Met l y (Cond.code y cc nL ret :: WS) rm (va_Pc As (Pw D z0 h)) (QQ D z0 Φ) (XX D z0 Ψ) rm.cells rm.slots (Fr z0)
/-- where a method stands -/
abbrev KT : Type := Program × Launch × Env × Room × State × MethodId × Array Value × List Frame × Method × Code × (State → Prop)
def CX : KT → va_G → Nat → ByteArray → Nat → String → Room → Prop
  | (p, l, _, R, s, m, args, _, meth, c, _), D, z0, cc, nL, own, rm => p.tables.exec = Jvm.exec ∧ c.code = cc ∧ c.maxLocals = nL ∧ s.vm.findClass own = some m.cls ∧ (∀ w ∈ WS, w.before args s = true) ∧ l.stackTraces = false ∧ meth.locks = false ∧ Fx D z0 s ∧ R = rm
def EX : KT → va_G → Nat → Option FieldType → (Option Value → Hp → Prop) → (String → Hp → Prop) → Nat → Nat → Prop
  | (_, _, _, _, s, _, args, below, meth, _, Q), D, z0, ret, Φ, Ψ, mc, ms => meth.sig.returnType = ret ∧ Q = vx_MQ below (QQ D z0 Φ) (XX D z0 Ψ) args s mc ms (Fr z0)
def MN : KT → String → Prop
  | (_, _, _, _, _, _, _, _, meth, _, _), nm => meth.name = nm
def NT : KT → Prop
  | (_, _, _, _, _, _, _, _, _, c, _) => ∀ x ∈ c.exceptionTable.toList, False
/-- the machine, from here on, comes to its end as it should -/
def WW : KT → va_G → Nat → Nat → Hp → Nat → Nat → Nat → List (Nat × Value) → List Value → Prop
  | (p, l, e, R, s, m, args, below, meth, c, Q), D, z0, nL, h, kc, ks, pc, L, st => ∀ (H : Heap) (locs : List Loc) (cells slots : Nat) (ls : Array Slot), cells ≤ kc → slots ≤ ks → Hd D z0 h H → va_S (Fr z0) s.heap H locs → lv_has ls nL L → W p l e R s m args below meth c H locs cells slots Q (F0 m pc ls st)
theorem CC_of {l : Launch} {y : MethodName} {cc : ByteArray} {nL : Nat} {ret : Option FieldType} {rm : Room} {D : va_G} {z0 : Nat} {h : Hp} {As : List Value} {Φ : Option Value → Hp → Prop} {Ψ : String → Hp → Prop}
    (own : String) (hl : l.stackTraces = false) (hy : plainName y.cls = true) (ho : y.cls = own) (hn : (lg_sl As).length ≤ nL)
    (body : ∀ K : KT, CX K D z0 cc nL own rm → EX K D z0 ret Φ Ψ rm.cells rm.slots → NT K → MN K y.name → K.2.1 = l → WW K D z0 nL h 0 0 0 (lv_args 0 As) []) : CC l y cc nL ret rm D z0 h As Φ Ψ := by
  subst ho
  refine vx_ofW (cc := cc) (maxL := nL) (ret := ret) hy rfl ?_
  intro p e s m args below meth c s₁ B hml ht hv
  obtain ⟨rfl, hH, hF⟩ := hv
  have hts : ∀ w ∈ WS, w.before As.toArray s = true := fun w hw => atoms_spec (ws := Cond.code y cc nL ret :: WS) B.pre w (List.mem_cons_of_mem _ hw)
  have key := body (p, l, e, rm, s, m, As.toArray, below, meth, c, vx_MQ below (QQ D z0 Φ) (XX D z0 Ψ) As.toArray s rm.cells rm.slots (Fr z0))
    ⟨B.exec, B.bytes, hml, findClass_of_methodNamed B.named, hts, hl, B.notSynchronized, hF, rfl⟩ ⟨B.returns, rfl⟩ ht (name_of_methodNamed B.named B.method).1 rfl
  rw [lg_entry_eq]
  exact key s.heap [] 0 0 _ (Nat.le_refl 0) (Nat.le_refl 0) hH va_S.rf (lv_entry As hn)
theorem WW_h {K : KT} {D : va_G} {z0 nL : Nat} {h h' : Hp} {kc ks pc : Nat} {L : List (Nat × Value)} {st : List Value} (e : h = h') (k : WW K D z0 nL h' kc ks pc L st) : WW K D z0 nL h kc ks pc L st := e ▸ k
theorem WW_sub {K : KT} {D : va_G} {z0 nL : Nat} {h : Hp} {kc ks pc : Nat} {L L' : List (Nat × Value)} {st : List Value} (ps : List Nat) (e : lv_pick L ps = L') (k : WW K D z0 nL h kc ks pc L' st) : WW K D z0 nL h kc ks pc L st := by
  obtain ⟨p, l, e', R, s, m, args, below, meth, c, Q⟩ := K
  intro H locs cells slots ls h1 h2 h3 h4 h5
  exact k H locs cells slots ls h1 h2 h3 h4 (lv_sub h5 ps e)
theorem WW_room {K : KT} {D : va_G} {z0 nL : Nat} {h : Hp} {kc ks kc' ks' pc : Nat} {L : List (Nat × Value)} {st : List Value} (e1 : kc ≤ kc') (e2 : ks ≤ ks') (k : WW K D z0 nL h kc' ks' pc L st) : WW K D z0 nL h kc ks pc L st := by
  obtain ⟨p, l, e', R, s, m, args, below, meth, c, Q⟩ := K
  intro H locs cells slots ls h1 h2 h3 h4 h5
  exact k H locs cells slots ls (Nat.le_trans h1 e1) (Nat.le_trans h2 e2) h3 h4 h5
/-! whole numbers and the machine's -/
theorem i32_toInt {a : Int} (h : I32 a) : (Int32.ofInt a).toInt = a := Int32.toInt_ofInt_of_le (by have := h.1; omega) (by have := h.2; omega)
theorem i64_toInt {a : Int} (h : I64 a) : (Int64.ofInt a).toInt = a := Int64.toInt_ofInt_of_le (by have := h.1; omega) (by have := h.2; omega)
theorem i32_lt {a b : Int} (ha : I32 a) (hb : I32 b) : Int32.ofInt a < Int32.ofInt b ↔ a < b := by rw [Int32.lt_iff_toInt_lt, i32_toInt ha, i32_toInt hb]
theorem i32_le {a b : Int} (ha : I32 a) (hb : I32 b) : Int32.ofInt a ≤ Int32.ofInt b ↔ a ≤ b := by rw [Int32.le_iff_toInt_le, i32_toInt ha, i32_toInt hb]
theorem i32_eq {a b : Int} (ha : I32 a) (hb : I32 b) : Int32.ofInt a = Int32.ofInt b ↔ a = b := by rw [← Int32.toInt_inj, i32_toInt ha, i32_toInt hb]
theorem i64_lt {a b : Int} (ha : I64 a) (hb : I64 b) : Int64.ofInt a < Int64.ofInt b ↔ a < b := by rw [Int64.lt_iff_toInt_lt, i64_toInt ha, i64_toInt hb]
theorem i64_le {a b : Int} (ha : I64 a) (hb : I64 b) : Int64.ofInt a ≤ Int64.ofInt b ↔ a ≤ b := by rw [Int64.le_iff_toInt_le, i64_toInt ha, i64_toInt hb]
theorem i64_eq {a b : Int} (ha : I64 a) (hb : I64 b) : Int64.ofInt a = Int64.ofInt b ↔ a = b := by rw [← Int64.toInt_inj, i64_toInt ha, i64_toInt hb]
theorem i32_zero : (0 : Int32) = Int32.ofInt 0 := rfl
theorem i32_of (x : Int32) : ∃ a : Int, I32 a ∧ x = Int32.ofInt a := ⟨x.toInt, ⟨Int32.le_toInt x, Int32.toInt_lt x⟩, (Int32.ofInt_toInt x).symm⟩
theorem i64_of_32 {a : Int} (h : I32 a) : (Int32.ofInt a).toInt64 = Int64.ofInt a := by
  rw [← Int64.toInt_inj, Int32.toInt_toInt64, i32_toInt h, i64_toInt ⟨by have := h.1; omega, by have := h.2; omega⟩]
theorem i32_of_64 (a : Int) : (Int64.ofInt a).toInt32 = Int32.ofInt a := by simp
theorem i64_neg1 {a b : Int} (ha : I64 a) (hb : I64 b) : (lg_cmp (Int64.ofInt a) (Int64.ofInt b) = 1 ∧ b < a) ∨ (lg_cmp (Int64.ofInt a) (Int64.ofInt b) = 0 ∧ a = b) ∨ (lg_cmp (Int64.ofInt a) (Int64.ofInt b) = -1 ∧ a < b) := by
  unfold lg_cmp
  by_cases h1 : b < a
  · refine Or.inl ⟨?_, h1⟩
    rw [if_pos ((i64_lt hb ha).mpr h1)]
  · rw [if_neg (fun z => h1 ((i64_lt hb ha).mp z))]
    by_cases h2 : a = b
    · refine Or.inr (Or.inl ⟨?_, h2⟩)
      rw [if_pos (by rw [h2])]
    · refine Or.inr (Or.inr ⟨?_, by omega⟩)
      rw [if_neg (fun z => h2 ((i64_eq ha hb).mp z))]
theorem i32_div {a b : Int} (ha : 0 ≤ a ∧ a < 2147483648) (hb : 0 < b ∧ b < 2147483648) : Int32.ofInt a / Int32.ofInt b = Int32.ofInt (a / b) := by
  have h1 := Int.ediv_le_self b ha.1
  have h2 := Int.ediv_nonneg ha.1 (Int.le_of_lt hb.1)
  rw [← Int32.toInt_inj, Int32.toInt_div_of_ne_right _ _ (fun z => by rw [← Int32.toInt_inj, i32_toInt ⟨by omega, by omega⟩] at z; have : (-1 : Int32).toInt = -1 := rfl; omega),
    i32_toInt ⟨by omega, by omega⟩, i32_toInt ⟨by omega, by omega⟩, i32_toInt ⟨by omega, by omega⟩, Int.tdiv_eq_ediv_of_nonneg ha.1]
theorem i64_div {a b : Int} (ha : 0 ≤ a ∧ a < 9223372036854775808) (hb : 0 < b ∧ b < 9223372036854775808) : Int64.ofInt a / Int64.ofInt b = Int64.ofInt (a / b) := by
  have h1 := Int.ediv_le_self b ha.1
  have h2 := Int.ediv_nonneg ha.1 (Int.le_of_lt hb.1)
  rw [← Int64.toInt_inj, Int64.toInt_div_of_ne_right _ _ (fun z => by rw [← Int64.toInt_inj, i64_toInt ⟨by omega, by omega⟩] at z; have : (-1 : Int64).toInt = -1 := rfl; omega),
    i64_toInt ⟨by omega, by omega⟩, i64_toInt ⟨by omega, by omega⟩, i64_toInt ⟨by omega, by omega⟩, Int.tdiv_eq_ediv_of_nonneg ha.1]
theorem i32_rem {a b : Int} (ha : 0 ≤ a ∧ a < 2147483648) (hb : 0 < b ∧ b < 2147483648) : Int32.ofInt a - Int32.ofInt a / Int32.ofInt b * Int32.ofInt b = Int32.ofInt (a % b) := by
  rw [i32_div ha hb, ← Int32.ofInt_mul, ← Int32.ofInt_sub, Int.emod_def, Int.mul_comm]
theorem i64_rem {a b : Int} (ha : 0 ≤ a ∧ a < 9223372036854775808) (hb : 0 < b ∧ b < 9223372036854775808) : Int64.ofInt a - Int64.ofInt a / Int64.ofInt b * Int64.ofInt b = Int64.ofInt (a % b) := by
  rw [i64_div ha hb, ← Int64.ofInt_mul, ← Int64.ofInt_sub, Int.emod_def, Int.mul_comm]
theorem i32_ne0 {b : Int} (hb : 0 < b ∧ b < 2147483648) : ¬ Int32.ofInt b = 0 := fun z => by
  have := (i32_eq (a := b) (b := 0) ⟨by omega, by omega⟩ ⟨by omega, by omega⟩).mp z
  omega
theorem i64_ne0 {b : Int} (hb : 0 < b ∧ b < 9223372036854775808) : ¬ Int64.ofInt b = 0 := fun z => by
  have := (i64_eq (a := b) (b := 0) ⟨by omega, by omega⟩ ⟨by omega, by omega⟩).mp z
  omega
section Rows1
variable {K : KT} {D : va_G} {z0 nL : Nat} {h : Hp} {kc ks pc : Nat} {L : List (Nat × Value)} {st : List Value} {cc : ByteArray} {own : String} {rm : Room}
theorem r_iconst {n : Int} (X : CX K D z0 cc nL own rm) (d : decode cc pc = .ok (.iconst n, 1)) (k : WW K D z0 nL h kc ks (pc + 1) L (iv n :: st)) : WW K D z0 nL h kc ks pc L st := by
  obtain ⟨p, l, e, R, s, m, args, below, meth, c, Q⟩ := K
  obtain ⟨hx, hb, hml, hown, hts, hl, hlk, hF, hR⟩ := X
  intro H locs cells slots ls h1 h2 h3 h4 h5
  exact lv_iconst hx hb d rfl (k H locs cells slots ls h1 h2 h3 h4 h5)
theorem r_bipush {n : Int} (X : CX K D z0 cc nL own rm) (d : decode cc pc = .ok (.bipush n, 2)) (hn : (Int8.ofInt n).toInt32 = Int32.ofInt n) (k : WW K D z0 nL h kc ks (pc + 2) L (iv n :: st)) : WW K D z0 nL h kc ks pc L st := by
  obtain ⟨p, l, e, R, s, m, args, below, meth, c, Q⟩ := K
  obtain ⟨hx, hb, hml, hown, hts, hl, hlk, hF, hR⟩ := X
  intro H locs cells slots ls h1 h2 h3 h4 h5
  exact lv_bipush hx hb d hn (k H locs cells slots ls h1 h2 h3 h4 h5)
theorem r_sipush {n : Int} (X : CX K D z0 cc nL own rm) (d : decode cc pc = .ok (.sipush n, 3)) (hn : (Int16.ofInt n).toInt32 = Int32.ofInt n) (k : WW K D z0 nL h kc ks (pc + 3) L (iv n :: st)) : WW K D z0 nL h kc ks pc L st := by
  obtain ⟨p, l, e, R, s, m, args, below, meth, c, Q⟩ := K
  obtain ⟨hx, hb, hml, hown, hts, hl, hlk, hF, hR⟩ := X
  intro H locs cells slots ls h1 h2 h3 h4 h5
  exact lv_sipush hx hb d hn (k H locs cells slots ls h1 h2 h3 h4 h5)
theorem r_lconst {n : Fin 2} (a : Int) (X : CX K D z0 cc nL own rm) (d : decode cc pc = .ok (.lconst n, 1)) (ha : Int64.ofNat (n : Nat) = Int64.ofInt a) (k : WW K D z0 nL h kc ks (pc + 1) L (jv a :: st)) : WW K D z0 nL h kc ks pc L st := by
  obtain ⟨p, l, e, R, s, m, args, below, meth, c, Q⟩ := K
  obtain ⟨hx, hb, hml, hown, hts, hl, hlk, hF, hR⟩ := X
  intro H locs cells slots ls h1 h2 h3 h4 h5
  exact lv_lconst hx hb d ha (k H locs cells slots ls h1 h2 h3 h4 h5)
theorem r_dconst0 (X : CX K D z0 cc nL own rm) (d : decode cc pc = .ok (.dconst 0, 1)) (k : WW K D z0 nL h kc ks (pc + 1) L (.double FP.dconst0 :: st)) : WW K D z0 nL h kc ks pc L st := by
  obtain ⟨p, l, e, R, s, m, args, below, meth, c, Q⟩ := K
  obtain ⟨hx, hb, hml, hown, hts, hl, hlk, hF, hR⟩ := X
  intro H locs cells slots ls h1 h2 h3 h4 h5
  exact lv_dconst0 hx hb d (k H locs cells slots ls h1 h2 h3 h4 h5)
theorem r_fconst0 (X : CX K D z0 cc nL own rm) (d : decode cc pc = .ok (.fconst 0, 1)) (k : WW K D z0 nL h kc ks (pc + 1) L (.float FP.fconst0 :: st)) : WW K D z0 nL h kc ks pc L st := by
  obtain ⟨p, l, e, R, s, m, args, below, meth, c, Q⟩ := K
  obtain ⟨hx, hb, hml, hown, hts, hl, hlk, hF, hR⟩ := X
  intro H locs cells slots ls h1 h2 h3 h4 h5
  exact lv_fconst0 hx hb d (k H locs cells slots ls h1 h2 h3 h4 h5)
theorem r_null (X : CX K D z0 cc nL own rm) (d : decode cc pc = .ok (.aconst_null, 1)) (k : WW K D z0 nL h kc ks (pc + 1) L (.null :: st)) : WW K D z0 nL h kc ks pc L st := by
  obtain ⟨p, l, e, R, s, m, args, below, meth, c, Q⟩ := K
  obtain ⟨hx, hb, hml, hown, hts, hl, hlk, hF, hR⟩ := X
  intro H locs cells slots ls h1 h2 h3 h4 h5
  exact lv_null hx hb d (k H locs cells slots ls h1 h2 h3 h4 h5)
theorem r_ldc {i : Nat} {v : Int32} (a : Int) (X : CX K D z0 cc nL own rm) (d : decode cc pc = .ok (.ldc i, 2)) (hc : Cond.constant own i v ∈ WS) (ha : v = Int32.ofInt a) (k : WW K D z0 nL h kc ks (pc + 2) L (iv a :: st)) : WW K D z0 nL h kc ks pc L st := by
  obtain ⟨p, l, e, R, s, m, args, below, meth, c, Q⟩ := K
  obtain ⟨hx, hb, hml, hown, hts, hl, hlk, hF, hR⟩ := X
  intro H locs cells slots ls h1 h2 h3 h4 h5
  subst ha
  exact lv_ldc hx hb hown (hts _ hc) d (k H locs cells slots ls h1 h2 h3 h4 h5)
theorem r_ldcw {i : Nat} {v : Int32} (a : Int) (X : CX K D z0 cc nL own rm) (d : decode cc pc = .ok (.ldc_w i, 3)) (hc : Cond.constant own i v ∈ WS) (ha : v = Int32.ofInt a) (k : WW K D z0 nL h kc ks (pc + 3) L (iv a :: st)) : WW K D z0 nL h kc ks pc L st := by
  obtain ⟨p, l, e, R, s, m, args, below, meth, c, Q⟩ := K
  obtain ⟨hx, hb, hml, hown, hts, hl, hlk, hF, hR⟩ := X
  intro H locs cells slots ls h1 h2 h3 h4 h5
  subst ha
  exact lv_ldcw hx hb hown (hts _ hc) d (k H locs cells slots ls h1 h2 h3 h4 h5)
theorem r_ldc2 {i : Nat} {v : Int64} (a : Int) (X : CX K D z0 cc nL own rm) (d : decode cc pc = .ok (.ldc2_w i, 3)) (hc : Cond.constantLong own i v ∈ WS) (ha : v = Int64.ofInt a) (k : WW K D z0 nL h kc ks (pc + 3) L (jv a :: st)) : WW K D z0 nL h kc ks pc L st := by
  obtain ⟨p, l, e, R, s, m, args, below, meth, c, Q⟩ := K
  obtain ⟨hx, hb, hml, hown, hts, hl, hlk, hF, hR⟩ := X
  intro H locs cells slots ls h1 h2 h3 h4 h5
  subst ha
  exact lv_ldc2 hx hb hown (hts _ hc) d (k H locs cells slots ls h1 h2 h3 h4 h5)
theorem r_ldc2d {i : Nat} {v : UInt64} (X : CX K D z0 cc nL own rm) (d : decode cc pc = .ok (.ldc2_w i, 3)) (hc : Cond.constantDouble own i v ∈ WS) (k : WW K D z0 nL h kc ks (pc + 3) L (.double v :: st)) : WW K D z0 nL h kc ks pc L st := by
  obtain ⟨p, l, e, R, s, m, args, below, meth, c, Q⟩ := K
  obtain ⟨hx, hb, hml, hown, hts, hl, hlk, hF, hR⟩ := X
  intro H locs cells slots ls h1 h2 h3 h4 h5
  exact lv_ldc2d hx hb hown (hts _ hc) d (k H locs cells slots ls h1 h2 h3 h4 h5)
theorem r_iload_n {j : Fin 4} {a : Int} (i : Nat) (X : CX K D z0 cc nL own rm) (d : decode cc pc = .ok (.iload_n j, 1)) (hk : L[i]? = some ((j : Nat), iv a)) (k : WW K D z0 nL h kc ks (pc + 1) L (iv a :: st)) : WW K D z0 nL h kc ks pc L st := by
  obtain ⟨p, l, e, R, s, m, args, below, meth, c, Q⟩ := K
  obtain ⟨hx, hb, hml, hown, hts, hl, hlk, hF, hR⟩ := X
  intro H locs cells slots ls h1 h2 h3 h4 h5
  exact lv_iload_n hx hb d rfl (lv_at h5 i hk) (k H locs cells slots ls h1 h2 h3 h4 h5)
theorem r_iload {j : Nat} {a : Int} (i : Nat) (X : CX K D z0 cc nL own rm) (d : decode cc pc = .ok (.iload j, 2)) (hk : L[i]? = some (j, iv a)) (k : WW K D z0 nL h kc ks (pc + 2) L (iv a :: st)) : WW K D z0 nL h kc ks pc L st := by
  obtain ⟨p, l, e, R, s, m, args, below, meth, c, Q⟩ := K
  obtain ⟨hx, hb, hml, hown, hts, hl, hlk, hF, hR⟩ := X
  intro H locs cells slots ls h1 h2 h3 h4 h5
  exact lv_iload hx hb d (lv_at h5 i hk) (k H locs cells slots ls h1 h2 h3 h4 h5)
theorem r_lload_n {j : Fin 4} {a : Int} (i : Nat) (X : CX K D z0 cc nL own rm) (d : decode cc pc = .ok (.lload_n j, 1)) (hk : L[i]? = some ((j : Nat), jv a)) (k : WW K D z0 nL h kc ks (pc + 1) L (jv a :: st)) : WW K D z0 nL h kc ks pc L st := by
  obtain ⟨p, l, e, R, s, m, args, below, meth, c, Q⟩ := K
  obtain ⟨hx, hb, hml, hown, hts, hl, hlk, hF, hR⟩ := X
  intro H locs cells slots ls h1 h2 h3 h4 h5
  exact lv_lload_n hx hb d rfl (lv_at h5 i hk) (k H locs cells slots ls h1 h2 h3 h4 h5)
theorem r_lload {j : Nat} {a : Int} (i : Nat) (X : CX K D z0 cc nL own rm) (d : decode cc pc = .ok (.lload j, 2)) (hk : L[i]? = some (j, jv a)) (k : WW K D z0 nL h kc ks (pc + 2) L (jv a :: st)) : WW K D z0 nL h kc ks pc L st := by
  obtain ⟨p, l, e, R, s, m, args, below, meth, c, Q⟩ := K
  obtain ⟨hx, hb, hml, hown, hts, hl, hlk, hF, hR⟩ := X
  intro H locs cells slots ls h1 h2 h3 h4 h5
  exact lv_lload hx hb d (lv_at h5 i hk) (k H locs cells slots ls h1 h2 h3 h4 h5)
theorem r_dload_n {j : Fin 4} {a : UInt64} (i : Nat) (X : CX K D z0 cc nL own rm) (d : decode cc pc = .ok (.dload_n j, 1)) (hk : L[i]? = some ((j : Nat), .double a)) (k : WW K D z0 nL h kc ks (pc + 1) L (.double a :: st)) : WW K D z0 nL h kc ks pc L st := by
  obtain ⟨p, l, e, R, s, m, args, below, meth, c, Q⟩ := K
  obtain ⟨hx, hb, hml, hown, hts, hl, hlk, hF, hR⟩ := X
  intro H locs cells slots ls h1 h2 h3 h4 h5
  exact lv_dload_n hx hb d rfl (lv_at h5 i hk) (k H locs cells slots ls h1 h2 h3 h4 h5)
theorem r_dload {j : Nat} {a : UInt64} (i : Nat) (X : CX K D z0 cc nL own rm) (d : decode cc pc = .ok (.dload j, 2)) (hk : L[i]? = some (j, .double a)) (k : WW K D z0 nL h kc ks (pc + 2) L (.double a :: st)) : WW K D z0 nL h kc ks pc L st := by
  obtain ⟨p, l, e, R, s, m, args, below, meth, c, Q⟩ := K
  obtain ⟨hx, hb, hml, hown, hts, hl, hlk, hF, hR⟩ := X
  intro H locs cells slots ls h1 h2 h3 h4 h5
  exact lv_dload hx hb d (lv_at h5 i hk) (k H locs cells slots ls h1 h2 h3 h4 h5)
theorem r_fload_n {j : Fin 4} {a : UInt32} (i : Nat) (X : CX K D z0 cc nL own rm) (d : decode cc pc = .ok (.fload_n j, 1)) (hk : L[i]? = some ((j : Nat), .float a)) (k : WW K D z0 nL h kc ks (pc + 1) L (.float a :: st)) : WW K D z0 nL h kc ks pc L st := by
  obtain ⟨p, l, e, R, s, m, args, below, meth, c, Q⟩ := K
  obtain ⟨hx, hb, hml, hown, hts, hl, hlk, hF, hR⟩ := X
  intro H locs cells slots ls h1 h2 h3 h4 h5
  exact lv_fload_n hx hb d rfl (lv_at h5 i hk) (k H locs cells slots ls h1 h2 h3 h4 h5)
theorem r_fload {j : Nat} {a : UInt32} (i : Nat) (X : CX K D z0 cc nL own rm) (d : decode cc pc = .ok (.fload j, 2)) (hk : L[i]? = some (j, .float a)) (k : WW K D z0 nL h kc ks (pc + 2) L (.float a :: st)) : WW K D z0 nL h kc ks pc L st := by
  obtain ⟨p, l, e, R, s, m, args, below, meth, c, Q⟩ := K
  obtain ⟨hx, hb, hml, hown, hts, hl, hlk, hF, hR⟩ := X
  intro H locs cells slots ls h1 h2 h3 h4 h5
  exact lv_fload hx hb d (lv_at h5 i hk) (k H locs cells slots ls h1 h2 h3 h4 h5)
theorem r_aload_n {j : Fin 4} {a : Nat} (i : Nat) (X : CX K D z0 cc nL own rm) (d : decode cc pc = .ok (.aload_n j, 1)) (hk : L[i]? = some ((j : Nat), .ref a)) (k : WW K D z0 nL h kc ks (pc + 1) L (.ref a :: st)) : WW K D z0 nL h kc ks pc L st := by
  obtain ⟨p, l, e, R, s, m, args, below, meth, c, Q⟩ := K
  obtain ⟨hx, hb, hml, hown, hts, hl, hlk, hF, hR⟩ := X
  intro H locs cells slots ls h1 h2 h3 h4 h5
  exact lv_aload_n hx hb d rfl (lv_at h5 i hk) (k H locs cells slots ls h1 h2 h3 h4 h5)
theorem r_aload {j : Nat} {a : Nat} (i : Nat) (X : CX K D z0 cc nL own rm) (d : decode cc pc = .ok (.aload j, 2)) (hk : L[i]? = some (j, .ref a)) (k : WW K D z0 nL h kc ks (pc + 2) L (.ref a :: st)) : WW K D z0 nL h kc ks pc L st := by
  obtain ⟨p, l, e, R, s, m, args, below, meth, c, Q⟩ := K
  obtain ⟨hx, hb, hml, hown, hts, hl, hlk, hF, hR⟩ := X
  intro H locs cells slots ls h1 h2 h3 h4 h5
  exact lv_aload hx hb d (lv_at h5 i hk) (k H locs cells slots ls h1 h2 h3 h4 h5)
theorem r_aloadN_n {j : Fin 4}  (i : Nat) (X : CX K D z0 cc nL own rm) (d : decode cc pc = .ok (.aload_n j, 1)) (hk : L[i]? = some ((j : Nat), .null)) (k : WW K D z0 nL h kc ks (pc + 1) L (.null :: st)) : WW K D z0 nL h kc ks pc L st := by
  obtain ⟨p, l, e, R, s, m, args, below, meth, c, Q⟩ := K
  obtain ⟨hx, hb, hml, hown, hts, hl, hlk, hF, hR⟩ := X
  intro H locs cells slots ls h1 h2 h3 h4 h5
  exact lv_aload_nN hx hb d rfl (lv_at h5 i hk) (k H locs cells slots ls h1 h2 h3 h4 h5)
theorem r_aloadN {j : Nat}  (i : Nat) (X : CX K D z0 cc nL own rm) (d : decode cc pc = .ok (.aload j, 2)) (hk : L[i]? = some (j, .null)) (k : WW K D z0 nL h kc ks (pc + 2) L (.null :: st)) : WW K D z0 nL h kc ks pc L st := by
  obtain ⟨p, l, e, R, s, m, args, below, meth, c, Q⟩ := K
  obtain ⟨hx, hb, hml, hown, hts, hl, hlk, hF, hR⟩ := X
  intro H locs cells slots ls h1 h2 h3 h4 h5
  exact lv_aloadN hx hb d (lv_at h5 i hk) (k H locs cells slots ls h1 h2 h3 h4 h5)
theorem r_istore_n {j : Fin 4} {a : Int} {L' : List (Nat × Value)} (X : CX K D z0 cc nL own rm) (d : decode cc pc = .ok (.istore_n j, 1)) (hn : (j : Nat) < nL) (hL : ((j : Nat), iv a) :: L.filter (fun q => !(q.1 == (j : Nat)) && !(q.1 + 1 == (j : Nat) && q.2.category == 2)) = L') (k : WW K D z0 nL h kc ks (pc + 1) L' st) : WW K D z0 nL h kc ks pc L (iv a :: st) := by
  obtain ⟨p, l, e, R, s, m, args, below, meth, c, Q⟩ := K
  obtain ⟨hx, hb, hml, hown, hts, hl, hlk, hF, hR⟩ := X
  intro H locs cells slots ls h1 h2 h3 h4 h5
  exact lv_istore_n hx hb d rfl h5 hn hL (fun ls h5 => k H locs cells slots ls h1 h2 h3 h4 h5)
theorem r_istore {j : Nat} {a : Int} {L' : List (Nat × Value)} (X : CX K D z0 cc nL own rm) (d : decode cc pc = .ok (.istore j, 2)) (hn : j < nL) (hL : (j, iv a) :: L.filter (fun q => !(q.1 == j) && !(q.1 + 1 == j && q.2.category == 2)) = L') (k : WW K D z0 nL h kc ks (pc + 2) L' st) : WW K D z0 nL h kc ks pc L (iv a :: st) := by
  obtain ⟨p, l, e, R, s, m, args, below, meth, c, Q⟩ := K
  obtain ⟨hx, hb, hml, hown, hts, hl, hlk, hF, hR⟩ := X
  intro H locs cells slots ls h1 h2 h3 h4 h5
  exact lv_istore hx hb d h5 hn hL (fun ls h5 => k H locs cells slots ls h1 h2 h3 h4 h5)
theorem r_lstore_n {j : Fin 4} {a : Int} {L' : List (Nat × Value)} (X : CX K D z0 cc nL own rm) (d : decode cc pc = .ok (.lstore_n j, 1)) (hn : (j : Nat) + 1 < nL) (hL : ((j : Nat), jv a) :: L.filter (fun q => !(q.1 == (j : Nat)) && (!(q.1 == (j : Nat) + 1) && !(q.1 + 1 == (j : Nat) && q.2.category == 2))) = L') (k : WW K D z0 nL h kc ks (pc + 1) L' st) : WW K D z0 nL h kc ks pc L (jv a :: st) := by
  obtain ⟨p, l, e, R, s, m, args, below, meth, c, Q⟩ := K
  obtain ⟨hx, hb, hml, hown, hts, hl, hlk, hF, hR⟩ := X
  intro H locs cells slots ls h1 h2 h3 h4 h5
  exact lv_lstore_n hx hb d rfl h5 hn hL (fun ls h5 => k H locs cells slots ls h1 h2 h3 h4 h5)
theorem r_lstore {j : Nat} {a : Int} {L' : List (Nat × Value)} (X : CX K D z0 cc nL own rm) (d : decode cc pc = .ok (.lstore j, 2)) (hn : j + 1 < nL) (hL : (j, jv a) :: L.filter (fun q => !(q.1 == j) && (!(q.1 == j + 1) && !(q.1 + 1 == j && q.2.category == 2))) = L') (k : WW K D z0 nL h kc ks (pc + 2) L' st) : WW K D z0 nL h kc ks pc L (jv a :: st) := by
  obtain ⟨p, l, e, R, s, m, args, below, meth, c, Q⟩ := K
  obtain ⟨hx, hb, hml, hown, hts, hl, hlk, hF, hR⟩ := X
  intro H locs cells slots ls h1 h2 h3 h4 h5
  exact lv_lstore hx hb d h5 hn hL (fun ls h5 => k H locs cells slots ls h1 h2 h3 h4 h5)
theorem r_dstore_n {j : Fin 4} {a : UInt64} {L' : List (Nat × Value)} (X : CX K D z0 cc nL own rm) (d : decode cc pc = .ok (.dstore_n j, 1)) (hn : (j : Nat) + 1 < nL) (hL : ((j : Nat), .double a) :: L.filter (fun q => !(q.1 == (j : Nat)) && (!(q.1 == (j : Nat) + 1) && !(q.1 + 1 == (j : Nat) && q.2.category == 2))) = L') (k : WW K D z0 nL h kc ks (pc + 1) L' st) : WW K D z0 nL h kc ks pc L (.double a :: st) := by
  obtain ⟨p, l, e, R, s, m, args, below, meth, c, Q⟩ := K
  obtain ⟨hx, hb, hml, hown, hts, hl, hlk, hF, hR⟩ := X
  intro H locs cells slots ls h1 h2 h3 h4 h5
  exact lv_dstore_n hx hb d rfl h5 hn hL (fun ls h5 => k H locs cells slots ls h1 h2 h3 h4 h5)
theorem r_dstore {j : Nat} {a : UInt64} {L' : List (Nat × Value)} (X : CX K D z0 cc nL own rm) (d : decode cc pc = .ok (.dstore j, 2)) (hn : j + 1 < nL) (hL : (j, .double a) :: L.filter (fun q => !(q.1 == j) && (!(q.1 == j + 1) && !(q.1 + 1 == j && q.2.category == 2))) = L') (k : WW K D z0 nL h kc ks (pc + 2) L' st) : WW K D z0 nL h kc ks pc L (.double a :: st) := by
  obtain ⟨p, l, e, R, s, m, args, below, meth, c, Q⟩ := K
  obtain ⟨hx, hb, hml, hown, hts, hl, hlk, hF, hR⟩ := X
  intro H locs cells slots ls h1 h2 h3 h4 h5
  exact lv_dstore hx hb d h5 hn hL (fun ls h5 => k H locs cells slots ls h1 h2 h3 h4 h5)
theorem r_fstore_n {j : Fin 4} {a : UInt32} {L' : List (Nat × Value)} (X : CX K D z0 cc nL own rm) (d : decode cc pc = .ok (.fstore_n j, 1)) (hn : (j : Nat) < nL) (hL : ((j : Nat), .float a) :: L.filter (fun q => !(q.1 == (j : Nat)) && !(q.1 + 1 == (j : Nat) && q.2.category == 2)) = L') (k : WW K D z0 nL h kc ks (pc + 1) L' st) : WW K D z0 nL h kc ks pc L (.float a :: st) := by
  obtain ⟨p, l, e, R, s, m, args, below, meth, c, Q⟩ := K
  obtain ⟨hx, hb, hml, hown, hts, hl, hlk, hF, hR⟩ := X
  intro H locs cells slots ls h1 h2 h3 h4 h5
  exact lv_fstore_n hx hb d rfl h5 hn hL (fun ls h5 => k H locs cells slots ls h1 h2 h3 h4 h5)
theorem r_fstore {j : Nat} {a : UInt32} {L' : List (Nat × Value)} (X : CX K D z0 cc nL own rm) (d : decode cc pc = .ok (.fstore j, 2)) (hn : j < nL) (hL : (j, .float a) :: L.filter (fun q => !(q.1 == j) && !(q.1 + 1 == j && q.2.category == 2)) = L') (k : WW K D z0 nL h kc ks (pc + 2) L' st) : WW K D z0 nL h kc ks pc L (.float a :: st) := by
  obtain ⟨p, l, e, R, s, m, args, below, meth, c, Q⟩ := K
  obtain ⟨hx, hb, hml, hown, hts, hl, hlk, hF, hR⟩ := X
  intro H locs cells slots ls h1 h2 h3 h4 h5
  exact lv_fstore hx hb d h5 hn hL (fun ls h5 => k H locs cells slots ls h1 h2 h3 h4 h5)
theorem r_astore_n {j : Fin 4} {a : Nat} {L' : List (Nat × Value)} (X : CX K D z0 cc nL own rm) (d : decode cc pc = .ok (.astore_n j, 1)) (hn : (j : Nat) < nL) (hL : ((j : Nat), .ref a) :: L.filter (fun q => !(q.1 == (j : Nat)) && !(q.1 + 1 == (j : Nat) && q.2.category == 2)) = L') (k : WW K D z0 nL h kc ks (pc + 1) L' st) : WW K D z0 nL h kc ks pc L (.ref a :: st) := by
  obtain ⟨p, l, e, R, s, m, args, below, meth, c, Q⟩ := K
  obtain ⟨hx, hb, hml, hown, hts, hl, hlk, hF, hR⟩ := X
  intro H locs cells slots ls h1 h2 h3 h4 h5
  exact lv_astore_n hx hb d rfl h5 hn hL (fun ls h5 => k H locs cells slots ls h1 h2 h3 h4 h5)
theorem r_astore {j : Nat} {a : Nat} {L' : List (Nat × Value)} (X : CX K D z0 cc nL own rm) (d : decode cc pc = .ok (.astore j, 2)) (hn : j < nL) (hL : (j, .ref a) :: L.filter (fun q => !(q.1 == j) && !(q.1 + 1 == j && q.2.category == 2)) = L') (k : WW K D z0 nL h kc ks (pc + 2) L' st) : WW K D z0 nL h kc ks pc L (.ref a :: st) := by
  obtain ⟨p, l, e, R, s, m, args, below, meth, c, Q⟩ := K
  obtain ⟨hx, hb, hml, hown, hts, hl, hlk, hF, hR⟩ := X
  intro H locs cells slots ls h1 h2 h3 h4 h5
  exact lv_astore hx hb d h5 hn hL (fun ls h5 => k H locs cells slots ls h1 h2 h3 h4 h5)
theorem r_astoreN_n {j : Fin 4}  {L' : List (Nat × Value)} (X : CX K D z0 cc nL own rm) (d : decode cc pc = .ok (.astore_n j, 1)) (hn : (j : Nat) < nL) (hL : ((j : Nat), .null) :: L.filter (fun q => !(q.1 == (j : Nat)) && !(q.1 + 1 == (j : Nat) && q.2.category == 2)) = L') (k : WW K D z0 nL h kc ks (pc + 1) L' st) : WW K D z0 nL h kc ks pc L (.null :: st) := by
  obtain ⟨p, l, e, R, s, m, args, below, meth, c, Q⟩ := K
  obtain ⟨hx, hb, hml, hown, hts, hl, hlk, hF, hR⟩ := X
  intro H locs cells slots ls h1 h2 h3 h4 h5
  exact lv_astore_nN hx hb d rfl h5 hn hL (fun ls h5 => k H locs cells slots ls h1 h2 h3 h4 h5)
theorem r_astoreN {j : Nat}  {L' : List (Nat × Value)} (X : CX K D z0 cc nL own rm) (d : decode cc pc = .ok (.astore j, 2)) (hn : j < nL) (hL : (j, .null) :: L.filter (fun q => !(q.1 == j) && !(q.1 + 1 == j && q.2.category == 2)) = L') (k : WW K D z0 nL h kc ks (pc + 2) L' st) : WW K D z0 nL h kc ks pc L (.null :: st) := by
  obtain ⟨p, l, e, R, s, m, args, below, meth, c, Q⟩ := K
  obtain ⟨hx, hb, hml, hown, hts, hl, hlk, hF, hR⟩ := X
  intro H locs cells slots ls h1 h2 h3 h4 h5
  exact lv_astoreN hx hb d h5 hn hL (fun ls h5 => k H locs cells slots ls h1 h2 h3 h4 h5)
theorem r_iinc {j : Nat} {n a : Int} (i : Nat) {L' : List (Nat × Value)} (X : CX K D z0 cc nL own rm) (d : decode cc pc = .ok (.iinc j n, 3)) (hk : L[i]? = some (j, iv a)) (hn : j < nL) (hL : (j, iv (a + n)) :: L.filter (fun q => !(q.1 == j) && !(q.1 + 1 == j && q.2.category == 2)) = L') (k : WW K D z0 nL h kc ks (pc + 3) L' st) : WW K D z0 nL h kc ks pc L st := by
  obtain ⟨p, l, e, R, s, m, args, below, meth, c, Q⟩ := K
  obtain ⟨hx, hb, hml, hown, hts, hl, hlk, hF, hR⟩ := X
  intro H locs cells slots ls h1 h2 h3 h4 h5
  exact lv_iinc hx hb d h5 (k := i) hk (by rw [← Int32.ofInt_add]) hn hL (fun ls h5 => k H locs cells slots ls h1 h2 h3 h4 h5)
theorem r_iadd {a b : Int} (X : CX K D z0 cc nL own rm) (d : decode cc pc = .ok (.iadd, 1)) (k : WW K D z0 nL h kc ks (pc + 1) L (iv (a + b) :: st)) : WW K D z0 nL h kc ks pc L (iv b :: iv a :: st) := by
  obtain ⟨p, l, e, R, s, m, args, below, meth, c, Q⟩ := K
  obtain ⟨hx, hb, hml, hown, hts, hl, hlk, hF, hR⟩ := X
  intro H locs cells slots ls h1 h2 h3 h4 h5
  refine lv_iadd hx hb d ?_
  rw [← Int32.ofInt_add]
  exact k H locs cells slots ls h1 h2 h3 h4 h5
theorem r_isub {a b : Int} (X : CX K D z0 cc nL own rm) (d : decode cc pc = .ok (.isub, 1)) (k : WW K D z0 nL h kc ks (pc + 1) L (iv (a - b) :: st)) : WW K D z0 nL h kc ks pc L (iv b :: iv a :: st) := by
  obtain ⟨p, l, e, R, s, m, args, below, meth, c, Q⟩ := K
  obtain ⟨hx, hb, hml, hown, hts, hl, hlk, hF, hR⟩ := X
  intro H locs cells slots ls h1 h2 h3 h4 h5
  refine lv_isub hx hb d ?_
  rw [← Int32.ofInt_sub]
  exact k H locs cells slots ls h1 h2 h3 h4 h5
theorem r_imul {a b : Int} (X : CX K D z0 cc nL own rm) (d : decode cc pc = .ok (.imul, 1)) (k : WW K D z0 nL h kc ks (pc + 1) L (iv (a * b) :: st)) : WW K D z0 nL h kc ks pc L (iv b :: iv a :: st) := by
  obtain ⟨p, l, e, R, s, m, args, below, meth, c, Q⟩ := K
  obtain ⟨hx, hb, hml, hown, hts, hl, hlk, hF, hR⟩ := X
  intro H locs cells slots ls h1 h2 h3 h4 h5
  refine lv_imul hx hb d ?_
  rw [← Int32.ofInt_mul]
  exact k H locs cells slots ls h1 h2 h3 h4 h5
theorem r_ladd {a b : Int} (X : CX K D z0 cc nL own rm) (d : decode cc pc = .ok (.ladd, 1)) (k : WW K D z0 nL h kc ks (pc + 1) L (jv (a + b) :: st)) : WW K D z0 nL h kc ks pc L (jv b :: jv a :: st) := by
  obtain ⟨p, l, e, R, s, m, args, below, meth, c, Q⟩ := K
  obtain ⟨hx, hb, hml, hown, hts, hl, hlk, hF, hR⟩ := X
  intro H locs cells slots ls h1 h2 h3 h4 h5
  refine lv_ladd hx hb d ?_
  rw [← Int64.ofInt_add]
  exact k H locs cells slots ls h1 h2 h3 h4 h5
theorem r_lsub {a b : Int} (X : CX K D z0 cc nL own rm) (d : decode cc pc = .ok (.lsub, 1)) (k : WW K D z0 nL h kc ks (pc + 1) L (jv (a - b) :: st)) : WW K D z0 nL h kc ks pc L (jv b :: jv a :: st) := by
  obtain ⟨p, l, e, R, s, m, args, below, meth, c, Q⟩ := K
  obtain ⟨hx, hb, hml, hown, hts, hl, hlk, hF, hR⟩ := X
  intro H locs cells slots ls h1 h2 h3 h4 h5
  refine lv_lsub hx hb d ?_
  rw [← Int64.ofInt_sub]
  exact k H locs cells slots ls h1 h2 h3 h4 h5
theorem r_lmul {a b : Int} (X : CX K D z0 cc nL own rm) (d : decode cc pc = .ok (.lmul, 1)) (k : WW K D z0 nL h kc ks (pc + 1) L (jv (a * b) :: st)) : WW K D z0 nL h kc ks pc L (jv b :: jv a :: st) := by
  obtain ⟨p, l, e, R, s, m, args, below, meth, c, Q⟩ := K
  obtain ⟨hx, hb, hml, hown, hts, hl, hlk, hF, hR⟩ := X
  intro H locs cells slots ls h1 h2 h3 h4 h5
  refine lv_lmul hx hb d ?_
  rw [← Int64.ofInt_mul]
  exact k H locs cells slots ls h1 h2 h3 h4 h5
theorem r_ineg {a : Int} (X : CX K D z0 cc nL own rm) (d : decode cc pc = .ok (.ineg, 1)) (k : WW K D z0 nL h kc ks (pc + 1) L (iv (-a) :: st)) : WW K D z0 nL h kc ks pc L (iv a :: st) := by
  obtain ⟨p, l, e, R, s, m, args, below, meth, c, Q⟩ := K
  obtain ⟨hx, hb, hml, hown, hts, hl, hlk, hF, hR⟩ := X
  intro H locs cells slots ls h1 h2 h3 h4 h5
  refine lv_ineg hx hb d ?_
  rw [← Int32.ofInt_neg]
  exact k H locs cells slots ls h1 h2 h3 h4 h5
theorem r_lneg {a : Int} (X : CX K D z0 cc nL own rm) (d : decode cc pc = .ok (.lneg, 1)) (k : WW K D z0 nL h kc ks (pc + 1) L (jv (-a) :: st)) : WW K D z0 nL h kc ks pc L (jv a :: st) := by
  obtain ⟨p, l, e, R, s, m, args, below, meth, c, Q⟩ := K
  obtain ⟨hx, hb, hml, hown, hts, hl, hlk, hF, hR⟩ := X
  intro H locs cells slots ls h1 h2 h3 h4 h5
  refine lv_lneg hx hb d ?_
  rw [← Int64.ofInt_neg]
  exact k H locs cells slots ls h1 h2 h3 h4 h5
theorem r_idiv {a b : Int} (X : CX K D z0 cc nL own rm) (d : decode cc pc = .ok (.idiv, 1)) (ha : 0 ≤ a ∧ a < 2147483648) (hb0 : 0 < b ∧ b < 2147483648) (k : WW K D z0 nL h kc ks (pc + 1) L (iv (a / b) :: st)) : WW K D z0 nL h kc ks pc L (iv b :: iv a :: st) := by
  obtain ⟨p, l, e, R, s, m, args, below, meth, c, Q⟩ := K
  obtain ⟨hx, hb, hml, hown, hts, hl, hlk, hF, hR⟩ := X
  intro H locs cells slots ls h1 h2 h3 h4 h5
  refine lv_idiv hx hb d (i32_ne0 hb0) ?_
  rw [i32_div ha hb0]
  exact k H locs cells slots ls h1 h2 h3 h4 h5
theorem r_irem {a b : Int} (X : CX K D z0 cc nL own rm) (d : decode cc pc = .ok (.irem, 1)) (ha : 0 ≤ a ∧ a < 2147483648) (hb0 : 0 < b ∧ b < 2147483648) (k : WW K D z0 nL h kc ks (pc + 1) L (iv (a % b) :: st)) : WW K D z0 nL h kc ks pc L (iv b :: iv a :: st) := by
  obtain ⟨p, l, e, R, s, m, args, below, meth, c, Q⟩ := K
  obtain ⟨hx, hb, hml, hown, hts, hl, hlk, hF, hR⟩ := X
  intro H locs cells slots ls h1 h2 h3 h4 h5
  refine lv_irem hx hb d (i32_ne0 hb0) ?_
  rw [i32_rem ha hb0]
  exact k H locs cells slots ls h1 h2 h3 h4 h5
theorem r_ldiv {a b : Int} (X : CX K D z0 cc nL own rm) (d : decode cc pc = .ok (.ldiv, 1)) (ha : 0 ≤ a ∧ a < 9223372036854775808) (hb0 : 0 < b ∧ b < 9223372036854775808) (k : WW K D z0 nL h kc ks (pc + 1) L (jv (a / b) :: st)) : WW K D z0 nL h kc ks pc L (jv b :: jv a :: st) := by
  obtain ⟨p, l, e, R, s, m, args, below, meth, c, Q⟩ := K
  obtain ⟨hx, hb, hml, hown, hts, hl, hlk, hF, hR⟩ := X
  intro H locs cells slots ls h1 h2 h3 h4 h5
  refine lv_ldiv hx hb d (i64_ne0 hb0) ?_
  rw [i64_div ha hb0]
  exact k H locs cells slots ls h1 h2 h3 h4 h5
theorem r_lrem {a b : Int} (X : CX K D z0 cc nL own rm) (d : decode cc pc = .ok (.lrem, 1)) (ha : 0 ≤ a ∧ a < 9223372036854775808) (hb0 : 0 < b ∧ b < 9223372036854775808) (k : WW K D z0 nL h kc ks (pc + 1) L (jv (a % b) :: st)) : WW K D z0 nL h kc ks pc L (jv b :: jv a :: st) := by
  obtain ⟨p, l, e, R, s, m, args, below, meth, c, Q⟩ := K
  obtain ⟨hx, hb, hml, hown, hts, hl, hlk, hF, hR⟩ := X
  intro H locs cells slots ls h1 h2 h3 h4 h5
  refine lv_lrem hx hb d (i64_ne0 hb0) ?_
  rw [i64_rem ha hb0]
  exact k H locs cells slots ls h1 h2 h3 h4 h5
theorem r_i2l {a : Int} (X : CX K D z0 cc nL own rm) (d : decode cc pc = .ok (.i2l, 1)) (ha : I32 a) (k : WW K D z0 nL h kc ks (pc + 1) L (jv a :: st)) : WW K D z0 nL h kc ks pc L (iv a :: st) := by
  obtain ⟨p, l, e, R, s, m, args, below, meth, c, Q⟩ := K
  obtain ⟨hx, hb, hml, hown, hts, hl, hlk, hF, hR⟩ := X
  intro H locs cells slots ls h1 h2 h3 h4 h5
  exact lv_i2l hx hb d (i64_of_32 ha) (k H locs cells slots ls h1 h2 h3 h4 h5)
theorem r_l2i {a : Int} (X : CX K D z0 cc nL own rm) (d : decode cc pc = .ok (.l2i, 1)) (k : WW K D z0 nL h kc ks (pc + 1) L (iv a :: st)) : WW K D z0 nL h kc ks pc L (jv a :: st) := by
  obtain ⟨p, l, e, R, s, m, args, below, meth, c, Q⟩ := K
  obtain ⟨hx, hb, hml, hown, hts, hl, hlk, hF, hR⟩ := X
  intro H locs cells slots ls h1 h2 h3 h4 h5
  exact lv_l2i hx hb d (i32_of_64 a) (k H locs cells slots ls h1 h2 h3 h4 h5)
theorem r_dup {v : Value} (X : CX K D z0 cc nL own rm) (d : decode cc pc = .ok (.dup, 1)) (hv : v.category = 1) (k : WW K D z0 nL h kc ks (pc + 1) L (v :: v :: st)) : WW K D z0 nL h kc ks pc L (v :: st) := by
  obtain ⟨p, l, e, R, s, m, args, below, meth, c, Q⟩ := K
  obtain ⟨hx, hb, hml, hown, hts, hl, hlk, hF, hR⟩ := X
  intro H locs cells slots ls h1 h2 h3 h4 h5
  exact lv_dup hx hb d hv (k H locs cells slots ls h1 h2 h3 h4 h5)
theorem r_pop {v : Value} (X : CX K D z0 cc nL own rm) (d : decode cc pc = .ok (.pop, 1)) (hv : v.category = 1) (k : WW K D z0 nL h kc ks (pc + 1) L st) : WW K D z0 nL h kc ks pc L (v :: st) := by
  obtain ⟨p, l, e, R, s, m, args, below, meth, c, Q⟩ := K
  obtain ⟨hx, hb, hml, hown, hts, hl, hlk, hF, hR⟩ := X
  intro H locs cells slots ls h1 h2 h3 h4 h5
  exact lv_pop hx hb d hv (k H locs cells slots ls h1 h2 h3 h4 h5)
theorem r_goto {off : Int} (tgt : Nat) (X : CX K D z0 cc nL own rm) (d : decode cc pc = .ok (.goto off, 3)) (ht : (pc : Int) + off = (tgt : Int)) (k : WW K D z0 nL h kc ks tgt L st) : WW K D z0 nL h kc ks pc L st := by
  obtain ⟨p, l, e, R, s, m, args, below, meth, c, Q⟩ := K
  obtain ⟨hx, hb, hml, hown, hts, hl, hlk, hF, hR⟩ := X
  intro H locs cells slots ls h1 h2 h3 h4 h5
  exact lv_goto hx hb d ht (k H locs cells slots ls h1 h2 h3 h4 h5)
theorem r_i2d {a : Int} (X : CX K D z0 cc nL own rm) (d : decode cc pc = .ok (.i2d, 1)) (k : WW K D z0 nL h kc ks (pc + 1) L (.double (FP.i2d (Int32.ofInt a)) :: st)) : WW K D z0 nL h kc ks pc L (iv a :: st) := by
  obtain ⟨p, l, e, R, s, m, args, below, meth, c, Q⟩ := K
  obtain ⟨hx, hb, hml, hown, hts, hl, hlk, hF, hR⟩ := X
  intro H locs cells slots ls h1 h2 h3 h4 h5
  exact lv_i2d hx hb d (k H locs cells slots ls h1 h2 h3 h4 h5)
theorem r_l2d {a : Int} (X : CX K D z0 cc nL own rm) (d : decode cc pc = .ok (.l2d, 1)) (k : WW K D z0 nL h kc ks (pc + 1) L (.double (FP.l2d (Int64.ofInt a)) :: st)) : WW K D z0 nL h kc ks pc L (jv a :: st) := by
  obtain ⟨p, l, e, R, s, m, args, below, meth, c, Q⟩ := K
  obtain ⟨hx, hb, hml, hown, hts, hl, hlk, hF, hR⟩ := X
  intro H locs cells slots ls h1 h2 h3 h4 h5
  exact lv_l2d hx hb d (k H locs cells slots ls h1 h2 h3 h4 h5)
theorem r_i2f {a : Int} (X : CX K D z0 cc nL own rm) (d : decode cc pc = .ok (.i2f, 1)) (k : WW K D z0 nL h kc ks (pc + 1) L (.float (FP.i2f (Int32.ofInt a)) :: st)) : WW K D z0 nL h kc ks pc L (iv a :: st) := by
  obtain ⟨p, l, e, R, s, m, args, below, meth, c, Q⟩ := K
  obtain ⟨hx, hb, hml, hown, hts, hl, hlk, hF, hR⟩ := X
  intro H locs cells slots ls h1 h2 h3 h4 h5
  exact lv_i2f hx hb d (k H locs cells slots ls h1 h2 h3 h4 h5)
theorem r_d2l {a : UInt64} (n : Int) (X : CX K D z0 cc nL own rm) (d : decode cc pc = .ok (.d2l, 1)) (hn : FP.d2l a = Int64.ofInt n) (k : WW K D z0 nL h kc ks (pc + 1) L (jv n :: st)) : WW K D z0 nL h kc ks pc L (.double a :: st) := by
  obtain ⟨p, l, e, R, s, m, args, below, meth, c, Q⟩ := K
  obtain ⟨hx, hb, hml, hown, hts, hl, hlk, hF, hR⟩ := X
  intro H locs cells slots ls h1 h2 h3 h4 h5
  refine lv_d2l hx hb d ?_
  rw [hn]
  exact k H locs cells slots ls h1 h2 h3 h4 h5
theorem r_dadd {a b : UInt64} (r : UInt64) (X : CX K D z0 cc nL own rm) (d : decode cc pc = .ok (.dadd, 1)) (hr : FP.dadd a b = r) (hne : vf_n64 r) (k : WW K D z0 nL h kc ks (pc + 1) L (.double r :: st)) : WW K D z0 nL h kc ks pc L (.double b :: .double a :: st) := by
  obtain ⟨p, l, e, R, s, m, args, below, meth, c, Q⟩ := K
  obtain ⟨hx, hb, hml, hown, hts, hl, hlk, hF, hR⟩ := X
  intro H locs cells slots ls h1 h2 h3 h4 h5
  subst hr
  exact lv_dadd hx hb d hne (k H locs cells slots ls h1 h2 h3 h4 h5)
theorem r_dsub {a b : UInt64} (r : UInt64) (X : CX K D z0 cc nL own rm) (d : decode cc pc = .ok (.dsub, 1)) (hr : FP.dsub a b = r) (hne : vf_n64 r) (k : WW K D z0 nL h kc ks (pc + 1) L (.double r :: st)) : WW K D z0 nL h kc ks pc L (.double b :: .double a :: st) := by
  obtain ⟨p, l, e, R, s, m, args, below, meth, c, Q⟩ := K
  obtain ⟨hx, hb, hml, hown, hts, hl, hlk, hF, hR⟩ := X
  intro H locs cells slots ls h1 h2 h3 h4 h5
  subst hr
  exact lv_dsub hx hb d hne (k H locs cells slots ls h1 h2 h3 h4 h5)
theorem r_dmul {a b : UInt64} (r : UInt64) (X : CX K D z0 cc nL own rm) (d : decode cc pc = .ok (.dmul, 1)) (hr : FP.dmul a b = r) (hne : vf_n64 r) (k : WW K D z0 nL h kc ks (pc + 1) L (.double r :: st)) : WW K D z0 nL h kc ks pc L (.double b :: .double a :: st) := by
  obtain ⟨p, l, e, R, s, m, args, below, meth, c, Q⟩ := K
  obtain ⟨hx, hb, hml, hown, hts, hl, hlk, hF, hR⟩ := X
  intro H locs cells slots ls h1 h2 h3 h4 h5
  subst hr
  exact lv_dmul hx hb d hne (k H locs cells slots ls h1 h2 h3 h4 h5)
theorem r_ddiv {a b : UInt64} (r : UInt64) (X : CX K D z0 cc nL own rm) (d : decode cc pc = .ok (.ddiv, 1)) (hr : FP.ddiv a b = r) (hne : vf_n64 r) (k : WW K D z0 nL h kc ks (pc + 1) L (.double r :: st)) : WW K D z0 nL h kc ks pc L (.double b :: .double a :: st) := by
  obtain ⟨p, l, e, R, s, m, args, below, meth, c, Q⟩ := K
  obtain ⟨hx, hb, hml, hown, hts, hl, hlk, hF, hR⟩ := X
  intro H locs cells slots ls h1 h2 h3 h4 h5
  subst hr
  exact lv_ddiv hx hb d hne (k H locs cells slots ls h1 h2 h3 h4 h5)
theorem r_fdiv {a b : UInt32} (r : UInt32) (X : CX K D z0 cc nL own rm) (d : decode cc pc = .ok (.fdiv, 1)) (hr : FP.fdiv a b = r) (hne : vf_n32 r) (k : WW K D z0 nL h kc ks (pc + 1) L (.float r :: st)) : WW K D z0 nL h kc ks pc L (.float b :: .float a :: st) := by
  obtain ⟨p, l, e, R, s, m, args, below, meth, c, Q⟩ := K
  obtain ⟨hx, hb, hml, hown, hts, hl, hlk, hF, hR⟩ := X
  intro H locs cells slots ls h1 h2 h3 h4 h5
  subst hr
  exact lv_fdiv hx hb d hne (k H locs cells slots ls h1 h2 h3 h4 h5)
theorem r_f2d {a : UInt32} (r : UInt64) (X : CX K D z0 cc nL own rm) (d : decode cc pc = .ok (.f2d, 1)) (hr : FP.f2d a = r) (hne : vf_n64 r) (k : WW K D z0 nL h kc ks (pc + 1) L (.double r :: st)) : WW K D z0 nL h kc ks pc L (.float a :: st) := by
  obtain ⟨p, l, e, R, s, m, args, below, meth, c, Q⟩ := K
  obtain ⟨hx, hb, hml, hown, hts, hl, hlk, hF, hR⟩ := X
  intro H locs cells slots ls h1 h2 h3 h4 h5
  subst hr
  exact lv_f2d hx hb d hne (k H locs cells slots ls h1 h2 h3 h4 h5)
theorem r_icmp_eq {a b off : Int} (tgt : Nat) (X : CX K D z0 cc nL own rm) (d : decode cc pc = .ok (.if_icmp .eq off, 3)) (ht : (pc : Int) + off = (tgt : Int)) (ha : I32 a) (hb0 : I32 b) (kt : a = b → WW K D z0 nL h kc ks tgt L st) (kf : ¬ (a = b) → WW K D z0 nL h kc ks (pc + 3) L st) : WW K D z0 nL h kc ks pc L (iv b :: iv a :: st) := by
  obtain ⟨p, l, e, R, s, m, args, below, meth, c, Q⟩ := K
  obtain ⟨hx, hb, hml, hown, hts, hl, hlk, hF, hR⟩ := X
  intro H locs cells slots ls h1 h2 h3 h4 h5
  have hi := i32_eq ha hb0
  exact lv_icmp_eq hx hb d ht (fun z => kt (hi.mp z) H locs cells slots ls h1 h2 h3 h4 h5) (fun z => kf (fun y => z (hi.mpr y)) H locs cells slots ls h1 h2 h3 h4 h5)
theorem r_icmp_ne {a b off : Int} (tgt : Nat) (X : CX K D z0 cc nL own rm) (d : decode cc pc = .ok (.if_icmp .ne off, 3)) (ht : (pc : Int) + off = (tgt : Int)) (ha : I32 a) (hb0 : I32 b) (kt : ¬ a = b → WW K D z0 nL h kc ks tgt L st) (kf : a = b → WW K D z0 nL h kc ks (pc + 3) L st) : WW K D z0 nL h kc ks pc L (iv b :: iv a :: st) := by
  obtain ⟨p, l, e, R, s, m, args, below, meth, c, Q⟩ := K
  obtain ⟨hx, hb, hml, hown, hts, hl, hlk, hF, hR⟩ := X
  intro H locs cells slots ls h1 h2 h3 h4 h5
  have hi := i32_eq ha hb0
  exact lv_icmp_ne hx hb d ht (fun z => kt (fun y => z (hi.mpr y)) H locs cells slots ls h1 h2 h3 h4 h5) (fun z => kf (hi.mp z) H locs cells slots ls h1 h2 h3 h4 h5)
theorem r_icmp_lt {a b off : Int} (tgt : Nat) (X : CX K D z0 cc nL own rm) (d : decode cc pc = .ok (.if_icmp .lt off, 3)) (ht : (pc : Int) + off = (tgt : Int)) (ha : I32 a) (hb0 : I32 b) (kt : a < b → WW K D z0 nL h kc ks tgt L st) (kf : ¬ (a < b) → WW K D z0 nL h kc ks (pc + 3) L st) : WW K D z0 nL h kc ks pc L (iv b :: iv a :: st) := by
  obtain ⟨p, l, e, R, s, m, args, below, meth, c, Q⟩ := K
  obtain ⟨hx, hb, hml, hown, hts, hl, hlk, hF, hR⟩ := X
  intro H locs cells slots ls h1 h2 h3 h4 h5
  have hi := i32_lt ha hb0
  exact lv_icmp_lt hx hb d ht (fun z => kt (hi.mp z) H locs cells slots ls h1 h2 h3 h4 h5) (fun z => kf (fun y => z (hi.mpr y)) H locs cells slots ls h1 h2 h3 h4 h5)
theorem r_icmp_ge {a b off : Int} (tgt : Nat) (X : CX K D z0 cc nL own rm) (d : decode cc pc = .ok (.if_icmp .ge off, 3)) (ht : (pc : Int) + off = (tgt : Int)) (ha : I32 a) (hb0 : I32 b) (kt : b ≤ a → WW K D z0 nL h kc ks tgt L st) (kf : ¬ (b ≤ a) → WW K D z0 nL h kc ks (pc + 3) L st) : WW K D z0 nL h kc ks pc L (iv b :: iv a :: st) := by
  obtain ⟨p, l, e, R, s, m, args, below, meth, c, Q⟩ := K
  obtain ⟨hx, hb, hml, hown, hts, hl, hlk, hF, hR⟩ := X
  intro H locs cells slots ls h1 h2 h3 h4 h5
  have hi := i32_le hb0 ha
  exact lv_icmp_ge hx hb d ht (fun z => kt (hi.mp z) H locs cells slots ls h1 h2 h3 h4 h5) (fun z => kf (fun y => z (hi.mpr y)) H locs cells slots ls h1 h2 h3 h4 h5)
theorem r_icmp_gt {a b off : Int} (tgt : Nat) (X : CX K D z0 cc nL own rm) (d : decode cc pc = .ok (.if_icmp .gt off, 3)) (ht : (pc : Int) + off = (tgt : Int)) (ha : I32 a) (hb0 : I32 b) (kt : b < a → WW K D z0 nL h kc ks tgt L st) (kf : ¬ (b < a) → WW K D z0 nL h kc ks (pc + 3) L st) : WW K D z0 nL h kc ks pc L (iv b :: iv a :: st) := by
  obtain ⟨p, l, e, R, s, m, args, below, meth, c, Q⟩ := K
  obtain ⟨hx, hb, hml, hown, hts, hl, hlk, hF, hR⟩ := X
  intro H locs cells slots ls h1 h2 h3 h4 h5
  have hi := i32_lt hb0 ha
  exact lv_icmp_gt hx hb d ht (fun z => kt (hi.mp z) H locs cells slots ls h1 h2 h3 h4 h5) (fun z => kf (fun y => z (hi.mpr y)) H locs cells slots ls h1 h2 h3 h4 h5)
theorem r_icmp_le {a b off : Int} (tgt : Nat) (X : CX K D z0 cc nL own rm) (d : decode cc pc = .ok (.if_icmp .le off, 3)) (ht : (pc : Int) + off = (tgt : Int)) (ha : I32 a) (hb0 : I32 b) (kt : a ≤ b → WW K D z0 nL h kc ks tgt L st) (kf : ¬ (a ≤ b) → WW K D z0 nL h kc ks (pc + 3) L st) : WW K D z0 nL h kc ks pc L (iv b :: iv a :: st) := by
  obtain ⟨p, l, e, R, s, m, args, below, meth, c, Q⟩ := K
  obtain ⟨hx, hb, hml, hown, hts, hl, hlk, hF, hR⟩ := X
  intro H locs cells slots ls h1 h2 h3 h4 h5
  have hi := i32_le ha hb0
  exact lv_icmp_le hx hb d ht (fun z => kt (hi.mp z) H locs cells slots ls h1 h2 h3 h4 h5) (fun z => kf (fun y => z (hi.mpr y)) H locs cells slots ls h1 h2 h3 h4 h5)
theorem r_if_eq {a off : Int} (tgt : Nat) (X : CX K D z0 cc nL own rm) (d : decode cc pc = .ok (.ifCond .eq off, 3)) (ht : (pc : Int) + off = (tgt : Int)) (ha : I32 a) (kt : a = 0 → WW K D z0 nL h kc ks tgt L st) (kf : ¬ (a = 0) → WW K D z0 nL h kc ks (pc + 3) L st) : WW K D z0 nL h kc ks pc L (iv a :: st) := by
  obtain ⟨p, l, e, R, s, m, args, below, meth, c, Q⟩ := K
  obtain ⟨hx, hb, hml, hown, hts, hl, hlk, hF, hR⟩ := X
  intro H locs cells slots ls h1 h2 h3 h4 h5
  have hi := i32_eq ha (⟨by decide, by decide⟩ : I32 0)
  exact lv_if_eq hx hb d ht (fun z => kt (hi.mp z) H locs cells slots ls h1 h2 h3 h4 h5) (fun z => kf (fun y => z (hi.mpr y)) H locs cells slots ls h1 h2 h3 h4 h5)
theorem r_if_ne {a off : Int} (tgt : Nat) (X : CX K D z0 cc nL own rm) (d : decode cc pc = .ok (.ifCond .ne off, 3)) (ht : (pc : Int) + off = (tgt : Int)) (ha : I32 a) (kt : ¬ a = 0 → WW K D z0 nL h kc ks tgt L st) (kf : a = 0 → WW K D z0 nL h kc ks (pc + 3) L st) : WW K D z0 nL h kc ks pc L (iv a :: st) := by
  obtain ⟨p, l, e, R, s, m, args, below, meth, c, Q⟩ := K
  obtain ⟨hx, hb, hml, hown, hts, hl, hlk, hF, hR⟩ := X
  intro H locs cells slots ls h1 h2 h3 h4 h5
  have hi := i32_eq ha (⟨by decide, by decide⟩ : I32 0)
  exact lv_if_ne hx hb d ht (fun z => kt (fun y => z (hi.mpr y)) H locs cells slots ls h1 h2 h3 h4 h5) (fun z => kf (hi.mp z) H locs cells slots ls h1 h2 h3 h4 h5)
theorem r_if_lt {a off : Int} (tgt : Nat) (X : CX K D z0 cc nL own rm) (d : decode cc pc = .ok (.ifCond .lt off, 3)) (ht : (pc : Int) + off = (tgt : Int)) (ha : I32 a) (kt : a < 0 → WW K D z0 nL h kc ks tgt L st) (kf : ¬ (a < 0) → WW K D z0 nL h kc ks (pc + 3) L st) : WW K D z0 nL h kc ks pc L (iv a :: st) := by
  obtain ⟨p, l, e, R, s, m, args, below, meth, c, Q⟩ := K
  obtain ⟨hx, hb, hml, hown, hts, hl, hlk, hF, hR⟩ := X
  intro H locs cells slots ls h1 h2 h3 h4 h5
  have hi := i32_lt ha (⟨by decide, by decide⟩ : I32 0)
  exact lv_if_lt hx hb d ht (fun z => kt (hi.mp z) H locs cells slots ls h1 h2 h3 h4 h5) (fun z => kf (fun y => z (hi.mpr y)) H locs cells slots ls h1 h2 h3 h4 h5)
theorem r_if_ge {a off : Int} (tgt : Nat) (X : CX K D z0 cc nL own rm) (d : decode cc pc = .ok (.ifCond .ge off, 3)) (ht : (pc : Int) + off = (tgt : Int)) (ha : I32 a) (kt : 0 ≤ a → WW K D z0 nL h kc ks tgt L st) (kf : ¬ (0 ≤ a) → WW K D z0 nL h kc ks (pc + 3) L st) : WW K D z0 nL h kc ks pc L (iv a :: st) := by
  obtain ⟨p, l, e, R, s, m, args, below, meth, c, Q⟩ := K
  obtain ⟨hx, hb, hml, hown, hts, hl, hlk, hF, hR⟩ := X
  intro H locs cells slots ls h1 h2 h3 h4 h5
  have hi := i32_le (⟨by decide, by decide⟩ : I32 0) ha
  exact lv_if_ge hx hb d ht (fun z => kt (hi.mp z) H locs cells slots ls h1 h2 h3 h4 h5) (fun z => kf (fun y => z (hi.mpr y)) H locs cells slots ls h1 h2 h3 h4 h5)
theorem r_if_gt {a off : Int} (tgt : Nat) (X : CX K D z0 cc nL own rm) (d : decode cc pc = .ok (.ifCond .gt off, 3)) (ht : (pc : Int) + off = (tgt : Int)) (ha : I32 a) (kt : 0 < a → WW K D z0 nL h kc ks tgt L st) (kf : ¬ (0 < a) → WW K D z0 nL h kc ks (pc + 3) L st) : WW K D z0 nL h kc ks pc L (iv a :: st) := by
  obtain ⟨p, l, e, R, s, m, args, below, meth, c, Q⟩ := K
  obtain ⟨hx, hb, hml, hown, hts, hl, hlk, hF, hR⟩ := X
  intro H locs cells slots ls h1 h2 h3 h4 h5
  have hi := i32_lt (⟨by decide, by decide⟩ : I32 0) ha
  exact lv_if_gt hx hb d ht (fun z => kt (hi.mp z) H locs cells slots ls h1 h2 h3 h4 h5) (fun z => kf (fun y => z (hi.mpr y)) H locs cells slots ls h1 h2 h3 h4 h5)
theorem r_if_le {a off : Int} (tgt : Nat) (X : CX K D z0 cc nL own rm) (d : decode cc pc = .ok (.ifCond .le off, 3)) (ht : (pc : Int) + off = (tgt : Int)) (ha : I32 a) (kt : a ≤ 0 → WW K D z0 nL h kc ks tgt L st) (kf : ¬ (a ≤ 0) → WW K D z0 nL h kc ks (pc + 3) L st) : WW K D z0 nL h kc ks pc L (iv a :: st) := by
  obtain ⟨p, l, e, R, s, m, args, below, meth, c, Q⟩ := K
  obtain ⟨hx, hb, hml, hown, hts, hl, hlk, hF, hR⟩ := X
  intro H locs cells slots ls h1 h2 h3 h4 h5
  have hi := i32_le ha (⟨by decide, by decide⟩ : I32 0)
  exact lv_if_le hx hb d ht (fun z => kt (hi.mp z) H locs cells slots ls h1 h2 h3 h4 h5) (fun z => kf (fun y => z (hi.mpr y)) H locs cells slots ls h1 h2 h3 h4 h5)
theorem r_ifb_eq {P : Prop} [Decidable P] {off : Int} (tgt : Nat) (X : CX K D z0 cc nL own rm) (d : decode cc pc = .ok (.ifCond .eq off, 3)) (ht : (pc : Int) + off = (tgt : Int)) (kt : ¬ P → WW K D z0 nL h kc ks tgt L st) (kf : P → WW K D z0 nL h kc ks (pc + 3) L st) : WW K D z0 nL h kc ks pc L (iv (if P then 1 else 0) :: st) := by
  obtain ⟨p, l, e, R, s, m, args, below, meth, c, Q⟩ := K
  obtain ⟨hx, hb, hml, hown, hts, hl, hlk, hF, hR⟩ := X
  intro H locs cells slots ls h1 h2 h3 h4 h5
  by_cases hP : P
  · rw [if_pos hP]
    exact lv_if_eq hx hb d ht (fun z => absurd z (by decide)) (fun z => kf hP H locs cells slots ls h1 h2 h3 h4 h5)
  · rw [if_neg hP]
    exact lv_if_eq hx hb d ht (fun z => kt hP H locs cells slots ls h1 h2 h3 h4 h5) (fun z => absurd rfl z)
theorem r_ifb_ne {P : Prop} [Decidable P] {off : Int} (tgt : Nat) (X : CX K D z0 cc nL own rm) (d : decode cc pc = .ok (.ifCond .ne off, 3)) (ht : (pc : Int) + off = (tgt : Int)) (kt : P → WW K D z0 nL h kc ks tgt L st) (kf : ¬ P → WW K D z0 nL h kc ks (pc + 3) L st) : WW K D z0 nL h kc ks pc L (iv (if P then 1 else 0) :: st) := by
  obtain ⟨p, l, e, R, s, m, args, below, meth, c, Q⟩ := K
  obtain ⟨hx, hb, hml, hown, hts, hl, hlk, hF, hR⟩ := X
  intro H locs cells slots ls h1 h2 h3 h4 h5
  by_cases hP : P
  · rw [if_pos hP]
    exact lv_if_ne hx hb d ht (fun z => kt hP H locs cells slots ls h1 h2 h3 h4 h5) (fun z => absurd z (by decide))
  · rw [if_neg hP]
    exact lv_if_ne hx hb d ht (fun z => absurd rfl z) (fun z => kf hP H locs cells slots ls h1 h2 h3 h4 h5)
theorem r_lcmp_eq {a b off : Int} (tgt : Nat) (X : CX K D z0 cc nL own rm) (d : decode cc pc = .ok (.lcmp, 1)) (d2 : decode cc (pc + 1) = .ok (.ifCond .eq off, 3)) (ht : ((pc + 1 : Nat) : Int) + off = (tgt : Int)) (ha : I64 a) (hb0 : I64 b) (kt : a = b → WW K D z0 nL h kc ks tgt L st) (kf : ¬ (a = b) → WW K D z0 nL h kc ks (pc + 4) L st) : WW K D z0 nL h kc ks pc L (jv b :: jv a :: st) := by
  obtain ⟨p, l, e, R, s, m, args, below, meth, c, Q⟩ := K
  obtain ⟨hx, hb, hml, hown, hts, hl, hlk, hF, hR⟩ := X
  intro H locs cells slots ls h1 h2 h3 h4 h5
  refine W.lcmp hx hb d ?_
  rcases i64_neg1 ha hb0 with ⟨e1, e2⟩ | ⟨e1, e2⟩ | ⟨e1, e2⟩ <;> rw [e1]
  · exact lv_if_eq hx hb d2 ht (fun z => absurd z (by decide)) (fun z => kf (by omega) H locs cells slots ls h1 h2 h3 h4 h5)
  · exact lv_if_eq hx hb d2 ht (fun z => kt (by omega) H locs cells slots ls h1 h2 h3 h4 h5) (fun z => absurd (by decide) z)
  · exact lv_if_eq hx hb d2 ht (fun z => absurd z (by decide)) (fun z => kf (by omega) H locs cells slots ls h1 h2 h3 h4 h5)
theorem r_lcmp_ne {a b off : Int} (tgt : Nat) (X : CX K D z0 cc nL own rm) (d : decode cc pc = .ok (.lcmp, 1)) (d2 : decode cc (pc + 1) = .ok (.ifCond .ne off, 3)) (ht : ((pc + 1 : Nat) : Int) + off = (tgt : Int)) (ha : I64 a) (hb0 : I64 b) (kt : ¬ a = b → WW K D z0 nL h kc ks tgt L st) (kf : a = b → WW K D z0 nL h kc ks (pc + 4) L st) : WW K D z0 nL h kc ks pc L (jv b :: jv a :: st) := by
  obtain ⟨p, l, e, R, s, m, args, below, meth, c, Q⟩ := K
  obtain ⟨hx, hb, hml, hown, hts, hl, hlk, hF, hR⟩ := X
  intro H locs cells slots ls h1 h2 h3 h4 h5
  refine W.lcmp hx hb d ?_
  rcases i64_neg1 ha hb0 with ⟨e1, e2⟩ | ⟨e1, e2⟩ | ⟨e1, e2⟩ <;> rw [e1]
  · exact lv_if_ne hx hb d2 ht (fun z => kt (by omega) H locs cells slots ls h1 h2 h3 h4 h5) (fun z => absurd z (by decide))
  · exact lv_if_ne hx hb d2 ht (fun z => absurd z (by decide)) (fun z => kf (by omega) H locs cells slots ls h1 h2 h3 h4 h5)
  · exact lv_if_ne hx hb d2 ht (fun z => kt (by omega) H locs cells slots ls h1 h2 h3 h4 h5) (fun z => absurd z (by decide))
theorem r_lcmp_lt {a b off : Int} (tgt : Nat) (X : CX K D z0 cc nL own rm) (d : decode cc pc = .ok (.lcmp, 1)) (d2 : decode cc (pc + 1) = .ok (.ifCond .lt off, 3)) (ht : ((pc + 1 : Nat) : Int) + off = (tgt : Int)) (ha : I64 a) (hb0 : I64 b) (kt : a < b → WW K D z0 nL h kc ks tgt L st) (kf : ¬ (a < b) → WW K D z0 nL h kc ks (pc + 4) L st) : WW K D z0 nL h kc ks pc L (jv b :: jv a :: st) := by
  obtain ⟨p, l, e, R, s, m, args, below, meth, c, Q⟩ := K
  obtain ⟨hx, hb, hml, hown, hts, hl, hlk, hF, hR⟩ := X
  intro H locs cells slots ls h1 h2 h3 h4 h5
  refine W.lcmp hx hb d ?_
  rcases i64_neg1 ha hb0 with ⟨e1, e2⟩ | ⟨e1, e2⟩ | ⟨e1, e2⟩ <;> rw [e1]
  · exact lv_if_lt hx hb d2 ht (fun z => absurd z (by decide)) (fun z => kf (by omega) H locs cells slots ls h1 h2 h3 h4 h5)
  · exact lv_if_lt hx hb d2 ht (fun z => absurd z (by decide)) (fun z => kf (by omega) H locs cells slots ls h1 h2 h3 h4 h5)
  · exact lv_if_lt hx hb d2 ht (fun z => kt (by omega) H locs cells slots ls h1 h2 h3 h4 h5) (fun z => absurd (by decide) z)
theorem r_lcmp_ge {a b off : Int} (tgt : Nat) (X : CX K D z0 cc nL own rm) (d : decode cc pc = .ok (.lcmp, 1)) (d2 : decode cc (pc + 1) = .ok (.ifCond .ge off, 3)) (ht : ((pc + 1 : Nat) : Int) + off = (tgt : Int)) (ha : I64 a) (hb0 : I64 b) (kt : b ≤ a → WW K D z0 nL h kc ks tgt L st) (kf : ¬ (b ≤ a) → WW K D z0 nL h kc ks (pc + 4) L st) : WW K D z0 nL h kc ks pc L (jv b :: jv a :: st) := by
  obtain ⟨p, l, e, R, s, m, args, below, meth, c, Q⟩ := K
  obtain ⟨hx, hb, hml, hown, hts, hl, hlk, hF, hR⟩ := X
  intro H locs cells slots ls h1 h2 h3 h4 h5
  refine W.lcmp hx hb d ?_
  rcases i64_neg1 ha hb0 with ⟨e1, e2⟩ | ⟨e1, e2⟩ | ⟨e1, e2⟩ <;> rw [e1]
  · exact lv_if_ge hx hb d2 ht (fun z => kt (by omega) H locs cells slots ls h1 h2 h3 h4 h5) (fun z => absurd (by decide) z)
  · exact lv_if_ge hx hb d2 ht (fun z => kt (by omega) H locs cells slots ls h1 h2 h3 h4 h5) (fun z => absurd (by decide) z)
  · exact lv_if_ge hx hb d2 ht (fun z => absurd z (by decide)) (fun z => kf (by omega) H locs cells slots ls h1 h2 h3 h4 h5)
theorem r_lcmp_gt {a b off : Int} (tgt : Nat) (X : CX K D z0 cc nL own rm) (d : decode cc pc = .ok (.lcmp, 1)) (d2 : decode cc (pc + 1) = .ok (.ifCond .gt off, 3)) (ht : ((pc + 1 : Nat) : Int) + off = (tgt : Int)) (ha : I64 a) (hb0 : I64 b) (kt : b < a → WW K D z0 nL h kc ks tgt L st) (kf : ¬ (b < a) → WW K D z0 nL h kc ks (pc + 4) L st) : WW K D z0 nL h kc ks pc L (jv b :: jv a :: st) := by
  obtain ⟨p, l, e, R, s, m, args, below, meth, c, Q⟩ := K
  obtain ⟨hx, hb, hml, hown, hts, hl, hlk, hF, hR⟩ := X
  intro H locs cells slots ls h1 h2 h3 h4 h5
  refine W.lcmp hx hb d ?_
  rcases i64_neg1 ha hb0 with ⟨e1, e2⟩ | ⟨e1, e2⟩ | ⟨e1, e2⟩ <;> rw [e1]
  · exact lv_if_gt hx hb d2 ht (fun z => kt (by omega) H locs cells slots ls h1 h2 h3 h4 h5) (fun z => absurd (by decide) z)
  · exact lv_if_gt hx hb d2 ht (fun z => absurd z (by decide)) (fun z => kf (by omega) H locs cells slots ls h1 h2 h3 h4 h5)
  · exact lv_if_gt hx hb d2 ht (fun z => absurd z (by decide)) (fun z => kf (by omega) H locs cells slots ls h1 h2 h3 h4 h5)
theorem r_lcmp_le {a b off : Int} (tgt : Nat) (X : CX K D z0 cc nL own rm) (d : decode cc pc = .ok (.lcmp, 1)) (d2 : decode cc (pc + 1) = .ok (.ifCond .le off, 3)) (ht : ((pc + 1 : Nat) : Int) + off = (tgt : Int)) (ha : I64 a) (hb0 : I64 b) (kt : a ≤ b → WW K D z0 nL h kc ks tgt L st) (kf : ¬ (a ≤ b) → WW K D z0 nL h kc ks (pc + 4) L st) : WW K D z0 nL h kc ks pc L (jv b :: jv a :: st) := by
  obtain ⟨p, l, e, R, s, m, args, below, meth, c, Q⟩ := K
  obtain ⟨hx, hb, hml, hown, hts, hl, hlk, hF, hR⟩ := X
  intro H locs cells slots ls h1 h2 h3 h4 h5
  refine W.lcmp hx hb d ?_
  rcases i64_neg1 ha hb0 with ⟨e1, e2⟩ | ⟨e1, e2⟩ | ⟨e1, e2⟩ <;> rw [e1]
  · exact lv_if_le hx hb d2 ht (fun z => absurd z (by decide)) (fun z => kf (by omega) H locs cells slots ls h1 h2 h3 h4 h5)
  · exact lv_if_le hx hb d2 ht (fun z => kt (by omega) H locs cells slots ls h1 h2 h3 h4 h5) (fun z => absurd (by decide) z)
  · exact lv_if_le hx hb d2 ht (fun z => kt (by omega) H locs cells slots ls h1 h2 h3 h4 h5) (fun z => absurd (by decide) z)
theorem r_ifnull {a : Nat} {off : Int} (X : CX K D z0 cc nL own rm) (d : decode cc pc = .ok (.ifnull off, 3)) (k : WW K D z0 nL h kc ks (pc + 3) L st) : WW K D z0 nL h kc ks pc L (.ref a :: st) := by
  obtain ⟨p, l, e, R, s, m, args, below, meth, c, Q⟩ := K
  obtain ⟨hx, hb, hml, hown, hts, hl, hlk, hF, hR⟩ := X
  intro H locs cells slots ls h1 h2 h3 h4 h5
  exact lv_ifnull hx hb d (k H locs cells slots ls h1 h2 h3 h4 h5)
theorem r_ifnullN {off : Int} (tgt : Nat) (X : CX K D z0 cc nL own rm) (d : decode cc pc = .ok (.ifnull off, 3)) (ht : (pc : Int) + off = (tgt : Int)) (k : WW K D z0 nL h kc ks tgt L st) : WW K D z0 nL h kc ks pc L (.null :: st) := by
  obtain ⟨p, l, e, R, s, m, args, below, meth, c, Q⟩ := K
  obtain ⟨hx, hb, hml, hown, hts, hl, hlk, hF, hR⟩ := X
  intro H locs cells slots ls h1 h2 h3 h4 h5
  exact lv_ifnullN hx hb d ht (k H locs cells slots ls h1 h2 h3 h4 h5)
theorem r_ifnonnull {a : Nat} {off : Int} (tgt : Nat) (X : CX K D z0 cc nL own rm) (d : decode cc pc = .ok (.ifnonnull off, 3)) (ht : (pc : Int) + off = (tgt : Int)) (k : WW K D z0 nL h kc ks tgt L st) : WW K D z0 nL h kc ks pc L (.ref a :: st) := by
  obtain ⟨p, l, e, R, s, m, args, below, meth, c, Q⟩ := K
  obtain ⟨hx, hb, hml, hown, hts, hl, hlk, hF, hR⟩ := X
  intro H locs cells slots ls h1 h2 h3 h4 h5
  exact lv_ifnonnull hx hb d ht (k H locs cells slots ls h1 h2 h3 h4 h5)
theorem r_ifnonnullN {off : Int} (X : CX K D z0 cc nL own rm) (d : decode cc pc = .ok (.ifnonnull off, 3)) (k : WW K D z0 nL h kc ks (pc + 3) L st) : WW K D z0 nL h kc ks pc L (.null :: st) := by
  obtain ⟨p, l, e, R, s, m, args, below, meth, c, Q⟩ := K
  obtain ⟨hx, hb, hml, hown, hts, hl, hlk, hF, hR⟩ := X
  intro H locs cells slots ls h1 h2 h3 h4 h5
  exact lv_ifnonnullN hx hb d (k H locs cells slots ls h1 h2 h3 h4 h5)
end Rows1
end
section
/-! the tracked heap: fields, arrays, new cells; calls; ends; what is thrown -/
def hu (h : Hp) (q : Nat) (e : va_E) : Hp := fun x => if x = q then some e else h x
theorem hu_s (h : Hp) (q : Nat) (e : va_E) : hu h q e q = some e := by simp [hu]
theorem hu_n (h : Hp) {q x : Nat} (e : va_E) (n : x ≠ q) : hu h q e x = h x := by simp [hu, n]
/-- an int array, a long array, a double array, an array of triangles; an object -/
def aI (D : va_G) (n : Nat) (g : Nat → Int) : va_E := .inl (D.1 100, n, .inl (fun j => Int32.ofInt (g j)))
def aJ (D : va_G) (n : Nat) (g : Nat → Int) : va_E := .inl (D.1 101, n, .inr (.inl (fun j => Int64.ofInt (g j))))
def aD (D : va_G) (n : Nat) (g : Nat → UInt64) : va_E := .inl (D.1 102, n, .inr (.inr (.inr (.inl g))))
def aR (D : va_G) (n : Nat) (g : Nat → Option Nat) : va_E := .inl (D.1 103, n, .inr (.inr (.inr (.inr g))))
def ob (ci : Nat) (fs : List Value) : va_E := .inr (ci, fs)
def up {α : Type} (g : Nat → α) (k : Nat) (x : α) : Nat → α := fun j => if j = k then x else g j
theorem up_s {α : Type} (g : Nat → α) (k : Nat) (x : α) : up g k x k = x := by simp [up]
theorem up_n {α : Type} (g : Nat → α) {k j : Nat} (x : α) (n : j ≠ k) : up g k x j = g j := by simp [up, n]
theorem Hd_get {D : va_G} {z0 : Nat} {h : Hp} {H : Heap} (hd : Hd D z0 h H) {a : Nat} {e : va_E} (ha : h a = some e) : va_P D cls4 [(a, e)] H := by
  intro k q hk
  have hz : k < 1 := (List.getElem?_eq_some_iff.mp hk).1
  rw [show k = 0 by omega] at hk
  cases hk
  exact (hd a e ha).2
theorem Hd_set {D : va_G} {z0 : Nat} {h : Hp} {H H1 : Heap} (hd : Hd D z0 h H) {a : Nat} {e : va_E} (ha : z0 ≤ a) (he : va_at D cls4 (a, e) H1) (oq : ∀ q : Nat, q ≠ a → H1[q]? = H[q]?) : Hd D z0 (hu h a e) H1 := by
  intro q e' hq
  by_cases hqa : q = a
  · subst hqa
    rw [hu_s] at hq
    cases hq
    exact ⟨ha, he⟩
  · rw [hu_n h e hqa] at hq
    obtain ⟨h1, h2⟩ := hd q e' hq
    exact ⟨h1, h2.kept (oq q hqa)⟩
theorem Hd_lt {D : va_G} {z0 : Nat} {h : Hp} {H : Heap} (hd : Hd D z0 h H) {a : Nat} {e : va_E} (ha : h a = some e) : a < H.size := (hd a e ha).2.lt
theorem Hd_new {D : va_G} {z0 : Nat} {h : Hp} {H : Heap} (hd : Hd D z0 h H) : h H.size = none := by
  cases hn : h H.size with
  | none => rfl
  | some e => exact absurd (Hd_lt hd hn) (Nat.lt_irrefl _)
theorem Hd_grow {D : va_G} {z0 : Nat} {h : Hp} {H H1 : Heap} (hd : Hd D z0 h H) (oq : ∀ q : Nat, q < H.size → H1[q]? = H[q]?) : Hd D z0 h H1 := fun q e hq => ⟨(hd q e hq).1, (hd q e hq).2.kept (oq q (Hd_lt hd hq))⟩
theorem Hd_push {D : va_G} {z0 : Nat} {h : Hp} {H H1 : Heap} (hd : Hd D z0 h H) {e : va_E} (hz : z0 ≤ H.size) (he : va_at D cls4 (H.size, e) H1) (oq : ∀ q : Nat, q < H.size → H1[q]? = H[q]?) : Hd D z0 (hu h H.size e) H1 := by
  intro q e' hq
  by_cases hqa : q = H.size
  · subst hqa
    rw [hu_s] at hq
    cases hq
    exact ⟨hz, he⟩
  · rw [hu_n h e hqa] at hq
    exact Hd_grow hd oq q e' hq
theorem in_cls4 : ∀ (ci : Nat) (q : vw_C), cls4[ci]? = some q → ∀ w ∈ u_ws q.1 q.2.1 q.2.2, w ∈ WS := by
  have key : ∀ (l : List Cond), l.all (fun w => decide (w ∈ lw_tbl) && goodWord w) = true → ∀ w ∈ l, w ∈ WS := by
    intro l h w hw
    have h1 := List.all_eq_true.mp h w hw
    simp only [Bool.and_eq_true, decide_eq_true_eq] at h1
    exact List.mem_filter.mpr h1
  intro ci q hq
  match ci, hq with
  | 0, hq => cases hq; exact key _ (by decide +kernel)
  | 1, hq => cases hq; exact key _ (by decide +kernel)
  | 2, hq => cases hq; exact key _ (by decide +kernel)
  | 3, hq => cases hq; exact key _ (by decide +kernel)
  | k + 4, hq => simp [cls4] at hq
def tyc : Nat → Nat → FieldType
  | 0 => tyX6
  | 1 => tyX2
  | 2 => tyX5
  | _ => tyX7
theorem ty_cls4 : ∀ (ci : Nat) (q : vw_C), cls4[ci]? = some q → ∀ k, k < q.2.2 → parseFieldDescriptor (q.2.1 k).2.2.1 = some (tyc ci k) := by
  intro ci q hq
  match ci, hq with
  | 0, hq => cases hq; exact tyX6_ok
  | 1, hq => cases hq; exact tyX2_ok
  | 2, hq => cases hq; exact tyX5_ok
  | 3, hq => cases hq; exact tyX7_ok
  | k + 4, hq => simp [cls4] at hq
theorem nm_cls4 : ∀ (ci : Nat) (q : vw_C), cls4[ci]? = some q → ∀ a, a < q.2.2 → ∀ b, b < q.2.2 → a ≠ b → (q.2.1 a).2.1 ≠ (q.2.1 b).2.1 := by
  intro ci q hq
  match ci, hq with
  | 0, hq => cases hq; exact nmX6
  | 1, hq => cases hq; exact nmX2
  | 2, hq => cases hq; exact nmX5
  | 3, hq => cases hq; exact nmX7
  | k + 4, hq => simp [cls4] at hq
/-- a field's link: own's constant i is field k of class ci -/
def fdl (own : String) (i ci k : Nat) : Prop := ∃ q : vw_C, cls4[ci]? = some q ∧ k < q.2.2 ∧ Cond.fieldLink own i (q.2.1 k).1 (q.2.1 k).2.1 (q.2.1 k).2.2.1 ∈ WS
section Rows2
variable {K : KT} {D : va_G} {z0 nL : Nat} {h : Hp} {kc ks pc : Nat} {L : List (Nat × Value)} {st : List Value} {cc : ByteArray} {own : String} {rm : Room}
theorem r_getf (X : CX K D z0 cc nL own rm) {i : Nat} (d : decode cc pc = .ok (.getfield i, 3)) {ci k : Nat} (F : fdl own i ci k) {a : Nat} {fs : List Value} (he : h a = some (ob ci fs)) {v : Value} (hv : fs[k]? = some v) (kk : WW K D z0 nL h kc ks (pc + 3) L (v :: st)) : WW K D z0 nL h kc ks pc L (.ref a :: st) := by
  obtain ⟨p, l, e, R, s, m, args, below, meth, c, Q⟩ := K
  obtain ⟨hx, hb, hml, hown, hts, hl, hlk, hF, hR⟩ := X
  obtain ⟨q, hc, hk, hlink⟩ := F
  intro H locs cells slots ls h1 h2 h3 h4 h5
  exact va_get (C := q.1) (T := q.2.1) (N := q.2.2) hx hb hts (in_cls4 ci q hc) hown hF.1 (Hd_get h3 he) 0 (fs := fs) rfl hc k hk (hts _ hlink) (fun _ z => z) hv d (kk H locs cells slots ls h1 h2 h3 h4 h5)
theorem r_putf (X : CX K D z0 cc nL own rm) {i : Nat} (d : decode cc pc = .ok (.putfield i, 3)) {ci k : Nat} (F : fdl own i ci k) {a : Nat} {fs fs' : List Value} (he : h a = some (ob ci fs)) {v : Value} (hfs : fs.set k v = fs') (hl0 : k < fs.length)
    (hfin : ((cls4[ci]?.map fun q => (q.2.1 k).2.2.2) = some false)) (hn : narrow (tyc ci k) v = v) (hfit : fits (tyc ci k) v = true) (kk : WW K D z0 nL (hu h a (ob ci fs')) kc ks (pc + 3) L st) : WW K D z0 nL h kc ks pc L (v :: .ref a :: st) := by
  obtain ⟨p, l, e, R, s, m, args, below, meth, c, Q⟩ := K
  obtain ⟨hx, hb, hml, hown, hts, hl, hlk, hF, hR⟩ := X
  obtain ⟨q, hc, hk, hlink⟩ := F
  rw [hc] at hfin
  have hfin : (q.2.1 k).2.2.2 = false := Option.some.inj hfin
  intro H locs cells slots ls h1 h2 h3 h4 h5
  have hin := in_cls4 ci q hc
  have hap := va_apart (own := own) hts hin (tyc ci) (ty_cls4 ci q hc) (nm_cls4 ci q hc) hF.1 hc
  obtain ⟨r, g1, cell, q1, q2, q3, q4⟩ := (h3 a _ he).2
  have hr : r = q := Option.some.inj (g1.symm.trans hc)
  subst hr
  obtain ⟨hS, hfc, kC, hkC, hkind⟩ := hF.1.1 ci _ hc
  obtain ⟨cf, kf, fi, f, hi, hsl⟩ := hS k hk
  have hlay := hts _ (hin _ (u_in_lay hk))
  unfold u_lay at hlay
  rw [if_neg (by rw [hfin]; decide)] at hlay
  have hst := (u_facts hfc hkC (u_lays hts hin hk) hi).1
  have h6 := u_store hfc hkC hkind hlay hi (ty_cls4 ci r hc k hk) hn hfit
  refine W.putK hx hb (f := f) ⟨hown, hts _ hlink, ⟨_, _, _, hi⟩, hst⟩ (by rw [q2]; exact h6) q1 q3 (by rw [hsl]; exact k2_hasslot (q4 k hk)) rfl rfl d fun H' e1 e2 e3 => ?_
  rw [hsl] at e1 ⊢
  subst hfs
  exact kk H' _ cells slots ls h1 h2 (Hd_set h3 (h3 a _ he).1 ⟨_, hc, t_OB.to (V := updV (vp_V fs) k v) ⟨_, e1, q2, q3, t_set q4 hap hk v⟩ (fun j _ => vp_updV_set hl0 v j)⟩ e3) (h4.put e2 e3 (h3 a _ he).1) h5
theorem r_putfF (X : CX K D z0 cc nL own rm) (hmn : MN K "<init>") {i : Nat} (d : decode cc pc = .ok (.putfield i, 3)) {ci k : Nat} (F : fdl own i ci k) {a : Nat} {fs fs' : List Value} (he : h a = some (ob ci fs)) {v : Value} (hfs : fs.set k v = fs') (hl0 : k < fs.length)
    (hfin : ((cls4[ci]?.map fun q => ((q.2.1 k).2.2.2, (q.2.1 k).1)) = some (true, own))) (hn : narrow (tyc ci k) v = v) (hfit : fits (tyc ci k) v = true) (kk : WW K D z0 nL (hu h a (ob ci fs')) kc ks (pc + 3) L st) : WW K D z0 nL h kc ks pc L (v :: .ref a :: st) := by
  obtain ⟨p, l, e, R, s, m, args, below, meth, c, Q⟩ := K
  obtain ⟨hx, hb, hml, hown, hts, hl, hlk, hF, hR⟩ := X
  obtain ⟨q, hc, hk, hlink⟩ := F
  rw [hc] at hfin
  have hf2 := Option.some.inj hfin
  have hfin : (q.2.1 k).2.2.2 = true := congrArg Prod.fst hf2
  have hdecl : (q.2.1 k).1 = own := congrArg Prod.snd hf2
  intro H locs cells slots ls h1 h2 h3 h4 h5
  have hin := in_cls4 ci q hc
  have hap := va_apart (own := own) hts hin (tyc ci) (ty_cls4 ci q hc) (nm_cls4 ci q hc) hF.1 hc
  obtain ⟨r, g1, cell, q1, q2, q3, q4⟩ := (h3 a _ he).2
  have hr : r = q := Option.some.inj (g1.symm.trans hc)
  subst hr
  obtain ⟨hS, hfc, kC, hkC, hkind⟩ := hF.1.1 ci _ hc
  obtain ⟨cf, kf, fi, f, hi, hsl⟩ := hS k hk
  have hlay := hts _ (hin _ (u_in_lay hk))
  unfold u_lay at hlay
  rw [if_pos hfin] at hlay
  have hst := (u_facts hfc hkC (u_lays hts hin hk) hi).1
  have hcf : m.cls = cf := by
    obtain ⟨_, _, c', _, _, _, -, -, hf', -, -, -, hown2, -⟩ := Cond.laysFinal_spec hlay
    have e1 : c' = cf := by have := hi.symm.trans hf'; simp at this; exact this.1.symm
    rw [hdecl] at hown2
    rw [← e1]; exact Option.some.inj (hown.symm.trans hown2)
  have h6 := u_fits hfc hkC hkind (Or.inr hlay) hi (ty_cls4 ci r hc k hk) hn hfit
  refine W.putFinK hx hb hown (hts _ hlink) hi hst hcf hmn (by rw [q2]; exact h6) q1 q3 (by rw [hsl]; exact k2_hasslot (q4 k hk)) rfl rfl d fun H' e1 e2 e3 => ?_
  rw [hsl] at e1 ⊢
  subst hfs
  exact kk H' _ cells slots ls h1 h2 (Hd_set h3 (h3 a _ he).1 ⟨_, hc, t_OB.to (V := updV (vp_V fs) k v) ⟨_, e1, q2, q3, t_set q4 hap hk v⟩ (fun j _ => vp_updV_set hl0 v j)⟩ e3) (h4.put e2 e3 (h3 a _ he).1) h5
theorem i32_clamp {i : Int} (h : 0 ≤ i ∧ i < 2147483648) : (Int32.ofInt i).toNatClampNeg = i.toNat := Int32.toNatClampNeg_ofInt_of_le (by omega) (by omega)
theorem i32_in {i : Int} {n : Nat} (h : 0 ≤ i ∧ i < n) (hn : n < 2147483648) : vp_in (Int32.ofInt i) n := by
  intro z
  rcases z with z | z
  · have := (i32_lt (a := i) (b := 0) ⟨by omega, by omega⟩ ⟨by omega, by omega⟩).mp z
    omega
  · rw [i32_clamp ⟨by omega, by omega⟩] at z
    omega
theorem r_iaload (X : CX K D z0 cc nL own rm) (d : decode cc pc = .ok (.iaload, 1)) {a n : Nat} {g : Nat → Int} {i : Int} (he : h a = some (aI D n g)) (hi : 0 ≤ i ∧ i < n) (hn : n < 2147483648) (kk : WW K D z0 nL h kc ks (pc + 1) L (iv (g i.toNat) :: st)) : WW K D z0 nL h kc ks pc L (iv i :: .ref a :: st) := by
  obtain ⟨p, l, e, R, s, m, args, below, meth, c, Q⟩ := K
  obtain ⟨hx, hb, hml, hown, hts, hl, hlk, hF, hR⟩ := X
  intro H locs cells slots ls h1 h2 h3 h4 h5
  refine va_iald hx hb hF.1 (Hd_get h3 he) 0 0 (cA := D.1 100) (n := n) (f := fun j => Int32.ofInt (g j)) rfl rfl (i32_in hi hn) d ?_
  rw [i32_clamp ⟨hi.1, by omega⟩]
  exact kk H locs cells slots ls h1 h2 h3 h4 h5
theorem r_laload (X : CX K D z0 cc nL own rm) (d : decode cc pc = .ok (.laload, 1)) {a n : Nat} {g : Nat → Int} {i : Int} (he : h a = some (aJ D n g)) (hi : 0 ≤ i ∧ i < n) (hn : n < 2147483648) (kk : WW K D z0 nL h kc ks (pc + 1) L (jv (g i.toNat) :: st)) : WW K D z0 nL h kc ks pc L (iv i :: .ref a :: st) := by
  obtain ⟨p, l, e, R, s, m, args, below, meth, c, Q⟩ := K
  obtain ⟨hx, hb, hml, hown, hts, hl, hlk, hF, hR⟩ := X
  intro H locs cells slots ls h1 h2 h3 h4 h5
  refine va_lald hx hb hF.1 (Hd_get h3 he) 0 1 (cA := D.1 101) (n := n) (f := fun j => Int64.ofInt (g j)) rfl rfl (i32_in hi hn) d ?_
  rw [i32_clamp ⟨hi.1, by omega⟩]
  exact kk H locs cells slots ls h1 h2 h3 h4 h5
theorem r_daload (X : CX K D z0 cc nL own rm) (d : decode cc pc = .ok (.daload, 1)) {a n : Nat} {g : Nat → UInt64} {i : Int} (he : h a = some (aD D n g)) (hi : 0 ≤ i ∧ i < n) (hn : n < 2147483648) (kk : WW K D z0 nL h kc ks (pc + 1) L (.double (g i.toNat) :: st)) : WW K D z0 nL h kc ks pc L (iv i :: .ref a :: st) := by
  obtain ⟨p, l, e, R, s, m, args, below, meth, c, Q⟩ := K
  obtain ⟨hx, hb, hml, hown, hts, hl, hlk, hF, hR⟩ := X
  intro H locs cells slots ls h1 h2 h3 h4 h5
  refine va_dald hx hb hF.1 (Hd_get h3 he) 0 2 (cA := D.1 102) (n := n) (f := g) rfl rfl (i32_in hi hn) d ?_
  rw [i32_clamp ⟨hi.1, by omega⟩]
  exact kk H locs cells slots ls h1 h2 h3 h4 h5
theorem r_aaload (X : CX K D z0 cc nL own rm) (d : decode cc pc = .ok (.aaload, 1)) {a n : Nat} {g : Nat → Option Nat} {i : Int} (he : h a = some (aR D n g)) (hi : 0 ≤ i ∧ i < n) (hn : n < 2147483648) (kk : WW K D z0 nL h kc ks (pc + 1) L (va_rf (g i.toNat) :: st)) : WW K D z0 nL h kc ks pc L (iv i :: .ref a :: st) := by
  obtain ⟨p, l, e, R, s, m, args, below, meth, c, Q⟩ := K
  obtain ⟨hx, hb, hml, hown, hts, hl, hlk, hF, hR⟩ := X
  intro H locs cells slots ls h1 h2 h3 h4 h5
  refine va_aldq hx hb hF.1 (Hd_get h3 he) 0 3 (cA := D.1 103) (C := RX5) (n := n) (f := g) rfl rfl (i32_in hi hn) d ?_
  rw [i32_clamp ⟨hi.1, by omega⟩]
  exact kk H locs cells slots ls h1 h2 h3 h4 h5
theorem r_iastore (X : CX K D z0 cc nL own rm) (d : decode cc pc = .ok (.iastore, 1)) {a n : Nat} {g : Nat → Int} {i : Int} {x : Int} (he : h a = some (aI D n g)) (hi : 0 ≤ i ∧ i < n) (hn : n < 2147483648) (kk : WW K D z0 nL (hu h a (aI D n (up g i.toNat x))) kc ks (pc + 1) L st) : WW K D z0 nL h kc ks pc L (iv x :: iv i :: .ref a :: st) := by
  obtain ⟨p, l, e, R, s, m, args, below, meth, c, Q⟩ := K
  obtain ⟨hx, hb, hml, hown, hts, hl, hlk, hF, hR⟩ := X
  intro H locs cells slots ls h1 h2 h3 h4 h5
  have hin := i32_in hi hn
  refine W.iast hx hb (h3 a _ he).2 ((hF.1.2 0 _ rfl).1 n (fun j => .int (Int32.ofInt (g j)))) (fun q => by cases q) (by show ¬ (_ ∨ (arrV _ _ _).slots.size ≤ _); rw [arrV_size]; exact hin) rfl rfl d fun H1 e1 z oq => ?_
  refine kk H1 _ cells slots ls h1 h2 (Hd_set h3 (h3 a _ he).1 ?_ oq) (h4.put z oq (h3 a _ he).1) h5
  show H1[a]? = some (vp_cell _ _)
  rw [e1]
  show some ((vp_cell _ _).setSlot _ _) = _
  rw [vp_cell_i, vp_cell_i, arrV_store, i32_clamp ⟨hi.1, by omega⟩]
  congr 2
  funext q
  by_cases hq : q = i.toNat
  · simp [updV, up, hq]
  · simp [updV, up, hq]
theorem r_lastore (X : CX K D z0 cc nL own rm) (d : decode cc pc = .ok (.lastore, 1)) {a n : Nat} {g : Nat → Int} {i : Int} {x : Int} (he : h a = some (aJ D n g)) (hi : 0 ≤ i ∧ i < n) (hn : n < 2147483648) (kk : WW K D z0 nL (hu h a (aJ D n (up g i.toNat x))) kc ks (pc + 1) L st) : WW K D z0 nL h kc ks pc L (jv x :: iv i :: .ref a :: st) := by
  obtain ⟨p, l, e, R, s, m, args, below, meth, c, Q⟩ := K
  obtain ⟨hx, hb, hml, hown, hts, hl, hlk, hF, hR⟩ := X
  intro H locs cells slots ls h1 h2 h3 h4 h5
  have hin := i32_in hi hn
  refine W.last hx hb (h3 a _ he).2 ((hF.1.2 1 _ rfl).1 n (fun j => .long (Int64.ofInt (g j)))) (fun q => by cases q) (by show ¬ (_ ∨ (arrV _ _ _).slots.size ≤ _); rw [arrV_size]; exact hin) rfl rfl d fun H1 e1 z oq => ?_
  refine kk H1 _ cells slots ls h1 h2 (Hd_set h3 (h3 a _ he).1 ?_ oq) (h4.put z oq (h3 a _ he).1) h5
  show H1[a]? = some (vp_cell _ _)
  rw [e1]
  show some ((vp_cell _ _).setSlot _ _) = _
  rw [vp_cell_l, vp_cell_l, arrV_store, i32_clamp ⟨hi.1, by omega⟩]
  congr 2
  funext q
  by_cases hq : q = i.toNat
  · simp [updV, up, hq]
  · simp [updV, up, hq]
theorem r_dastore (X : CX K D z0 cc nL own rm) (d : decode cc pc = .ok (.dastore, 1)) {a n : Nat} {g : Nat → UInt64} {i : Int} {x : UInt64} (he : h a = some (aD D n g)) (hi : 0 ≤ i ∧ i < n) (hn : n < 2147483648) (kk : WW K D z0 nL (hu h a (aD D n (up g i.toNat x))) kc ks (pc + 1) L st) : WW K D z0 nL h kc ks pc L (.double x :: iv i :: .ref a :: st) := by
  obtain ⟨p, l, e, R, s, m, args, below, meth, c, Q⟩ := K
  obtain ⟨hx, hb, hml, hown, hts, hl, hlk, hF, hR⟩ := X
  intro H locs cells slots ls h1 h2 h3 h4 h5
  have hin := i32_in hi hn
  refine W.dast hx hb (h3 a _ he).2 ((hF.1.2 2 _ rfl).1 n (fun j => .double (g j))) (fun q => by cases q) (by show ¬ (_ ∨ (arrV _ _ _).slots.size ≤ _); rw [arrV_size]; exact hin) rfl rfl d fun H1 e1 z oq => ?_
  refine kk H1 _ cells slots ls h1 h2 (Hd_set h3 (h3 a _ he).1 ?_ oq) (h4.put z oq (h3 a _ he).1) h5
  show H1[a]? = some (vp_cell _ _)
  rw [e1]
  show some ((vp_cell _ _).setSlot _ _) = _
  rw [vp_cell_d, vp_cell_d, arrV_store, i32_clamp ⟨hi.1, by omega⟩]
  congr 2
  funext q
  by_cases hq : q = i.toNat
  · simp [updV, up, hq]
  · simp [updV, up, hq]
/-- a triangle laid into the array of triangles -/
theorem r_aastore (X : CX K D z0 cc nL own rm) (d : decode cc pc = .ok (.aastore, 1)) {a n v : Nat} {g : Nat → Option Nat} {i : Int} {fs : List Value} (he : h a = some (aR D n g)) (hv : h v = some (ob 2 fs)) (hi : 0 ≤ i ∧ i < n) (hn : n < 2147483648) (kk : WW K D z0 nL (hu h a (aR D n (up g i.toNat (some v)))) kc ks (pc + 1) L st) : WW K D z0 nL h kc ks pc L (.ref v :: iv i :: .ref a :: st) := by
  obtain ⟨p, l, e, R, s, m, args, below, meth, c, Q⟩ := K
  obtain ⟨hx, hb, hml, hown, hts, hl, hlk, hF, hR⟩ := X
  intro H locs cells slots ls h1 h2 h3 h4 h5
  have hin := i32_in hi hn
  obtain ⟨r', hr', cellV, g1, g2, g3, -⟩ := (h3 v _ hv).2
  have hcls := (hF.1.1 2 (RX5, TX5, 5) rfl).2
  obtain ⟨kA, comp, k1, k2, k3, -⟩ := (hF.1.2 3 _ rfl).2
  have hcomp : comp = D.1 2 := Option.some.inj (k3.symm.trans hcls.1)
  subst hcomp
  obtain ⟨kC, hkC, -⟩ := hcls.2
  refine W.aast hx hb (h3 a _ he).2 (fun q h => by cases h) (fun h => by cases h) k1 k2 rfl hkC ⟨fun z => hin (Or.inl z), by show _ < (arrV _ _ _).slots.size; rw [arrV_size]; exact Nat.not_le.mp fun z => hin (Or.inr z)⟩ g1 (fun q h => by rw [g3] at h; cases h) (by rw [g2]; exact hkC) (by rw [g2]; exact va_assign hcls) rfl rfl d fun H1 e1 z oq => ?_
  refine kk H1 _ cells slots ls h1 h2 (Hd_set h3 (h3 a _ he).1 ?_ oq) (h4.put z oq (h3 a _ he).1) h5
  show H1[a]? = some (vp_cell _ _)
  rw [e1]
  show some ((vp_cell _ _).setSlot _ _) = _
  rw [vp_cell_q, vp_cell_q, arrV_store, i32_clamp ⟨hi.1, by omega⟩]
  congr 2
  funext q
  by_cases hq : q = i.toNat
  · simp [updV, up, va_rf, hq]
  · simp [updV, up, hq]
theorem r_aastoreN (X : CX K D z0 cc nL own rm) (d : decode cc pc = .ok (.aastore, 1)) {a n : Nat} {g : Nat → Option Nat} {i : Int} (he : h a = some (aR D n g)) (hi : 0 ≤ i ∧ i < n) (hn : n < 2147483648) (kk : WW K D z0 nL (hu h a (aR D n (up g i.toNat none))) kc ks (pc + 1) L st) : WW K D z0 nL h kc ks pc L (.null :: iv i :: .ref a :: st) := by
  obtain ⟨p, l, e, R, s, m, args, below, meth, c, Q⟩ := K
  obtain ⟨hx, hb, hml, hown, hts, hl, hlk, hF, hR⟩ := X
  intro H locs cells slots ls h1 h2 h3 h4 h5
  have hin := i32_in hi hn
  refine va_WaastN (C := RX5) hx hb (h3 a _ he).2 ((hF.1.2 3 _ rfl).1 n (fun j => va_rf (g j))) (fun h => by cases h) (by show ¬ (_ ∨ (arrV _ _ _).slots.size ≤ _); rw [arrV_size]; exact hin) rfl rfl d fun H1 e1 z oq => ?_
  refine kk H1 _ cells slots ls h1 h2 (Hd_set h3 (h3 a _ he).1 ?_ oq) (h4.put z oq (h3 a _ he).1) h5
  show H1[a]? = some (vp_cell _ _)
  rw [e1]
  show some ((vp_cell _ _).setSlot _ _) = _
  rw [vp_cell_q, vp_cell_q, arrV_store, i32_clamp ⟨hi.1, by omega⟩]
  congr 2
  funext q
  by_cases hq : q = i.toNat
  · simp [updV, up, va_rf, hq]
  · simp [updV, up, hq]
/-- a new object -/
theorem r_new (X : CX K D z0 cc nL own rm) {i : Nat} (d : decode cc pc = .ok (.new i, 3)) {ci : Nat} {fs : List Value} (q : vw_C) (hc : cls4[ci]? = some q) (k1 : Cond.classLink own i q.1 ∈ WS) (k2 : Cond.instantiable q.1 q.2.2 ∈ WS) (k3 : Cond.initialized q.1 ∈ WS)
    (hfs : ∀ j, j < q.2.2 → defaultValue (tyc ci j) = vp_V fs j) (r1 : kc + 1 ≤ rm.cells) (r2 : ks + q.2.2 ≤ rm.slots) (kk : ∀ a : Nat, h a = none → z0 ≤ a → WW K D z0 nL (hu h a (ob ci fs)) (kc + 1) (ks + q.2.2) (pc + 3) L (.ref a :: st)) : WW K D z0 nL h kc ks pc L st := by
  obtain ⟨p, l, e, R, s, m, args, below, meth, c, Q⟩ := K
  obtain ⟨hx, hb, hml, hown, hts, hl, hlk, hF, hR⟩ := X
  subst hR
  intro H locs cells slots ls h1 h2 h3 h4 h5
  have hKn := hF.1.1 ci _ hc
  have hz : z0 ≤ H.size := Nat.le_trans hF.2.2.2.2.2.2.1 h4.1
  refine W.newcK hx hb hown (hts _ k1) (hts _ k2) (hts _ k3) rfl d (by omega) (by omega) hKn.2.1 rfl fun H1 kC hkC e1 z1 o1 => ?_
  exact kk H.size (Hd_new h3) hz H1 locs (cells + 1) (slots + q.2.2) ls (by omega) (by omega) (Hd_push h3 hz ⟨_, hc, (u_born (tyc ci) hts (in_cls4 ci q hc) hKn hkC e1 (ty_cls4 ci q hc)).to hfs⟩ o1)
    ⟨Nat.le_trans h4.1 (by omega), fun x y1 y2 => (o1 x (Nat.lt_of_lt_of_le y1 h4.1)).trans (h4.2.1 x y1 y2), h4.2.2⟩ h5
/-! ends -/
theorem r_iret {Φ : Option Value → Hp → Prop} {Ψ : String → Hp → Prop} {mc ms : Nat} (X : CX K D z0 cc nL own rm) (Y : EX K D z0 (some .int) Φ Ψ mc ms) {a : Int} (d : decode cc pc = .ok (.ireturn, 1)) (r1 : kc ≤ mc) (r2 : ks ≤ ms) (hq : Φ (some (iv a)) h) : WW K D z0 nL h kc ks pc L [iv a] := by
  obtain ⟨p, l, e, R, s, m, args, below, meth, c, Q⟩ := K
  obtain ⟨hx, hb, hml, hown, hts, hl, hlk, hF, hR⟩ := X
  obtain ⟨hr, rfl⟩ := Y
  intro H locs cells slots ls h1 h2 h3 h4 h5
  exact W.widen (Nat.le_trans h1 r1) (Nat.le_trans h2 r2) (vx_ret (W.iret hx hb hr (fun t ht hW => ⟨⟨_, h, rfl, hq, by rw [ht]; exact h3⟩, h4.F ht⟩) h4.2.2 d))
theorem r_zret {Φ : Option Value → Hp → Prop} {Ψ : String → Hp → Prop} {mc ms : Nat} (X : CX K D z0 cc nL own rm) (Y : EX K D z0 (some .boolean) Φ Ψ mc ms) {a : Int} (d : decode cc pc = .ok (.ireturn, 1)) (ha : a = 0 ∨ a = 1) (r1 : kc ≤ mc) (r2 : ks ≤ ms) (hq : Φ (some (iv a)) h) : WW K D z0 nL h kc ks pc L [iv a] := by
  obtain ⟨p, l, e, R, s, m, args, below, meth, c, Q⟩ := K
  obtain ⟨hx, hb, hml, hown, hts, hl, hlk, hF, hR⟩ := X
  obtain ⟨hr, rfl⟩ := Y
  intro H locs cells slots ls h1 h2 h3 h4 h5
  exact W.widen (Nat.le_trans h1 r1) (Nat.le_trans h2 r2) (vx_ret (W.zret hx hb hr (by rcases ha with rfl | rfl <;> decide) (fun t ht hW => ⟨⟨_, h, rfl, hq, by rw [ht]; exact h3⟩, h4.F ht⟩) h4.2.2 d))
theorem r_lret {Φ : Option Value → Hp → Prop} {Ψ : String → Hp → Prop} {mc ms : Nat} (X : CX K D z0 cc nL own rm) (Y : EX K D z0 (some .long) Φ Ψ mc ms) {a : Int} (d : decode cc pc = .ok (.lreturn, 1)) (r1 : kc ≤ mc) (r2 : ks ≤ ms) (hq : Φ (some (jv a)) h) : WW K D z0 nL h kc ks pc L [jv a] := by
  obtain ⟨p, l, e, R, s, m, args, below, meth, c, Q⟩ := K
  obtain ⟨hx, hb, hml, hown, hts, hl, hlk, hF, hR⟩ := X
  obtain ⟨hr, rfl⟩ := Y
  intro H locs cells slots ls h1 h2 h3 h4 h5
  exact W.widen (Nat.le_trans h1 r1) (Nat.le_trans h2 r2) (vx_ret (W.lret hx hb hr (fun t ht hW => ⟨⟨_, h, rfl, hq, by rw [ht]; exact h3⟩, h4.F ht⟩) h4.2.2 d))
theorem r_dret {Φ : Option Value → Hp → Prop} {Ψ : String → Hp → Prop} {mc ms : Nat} (X : CX K D z0 cc nL own rm) (Y : EX K D z0 (some .double) Φ Ψ mc ms) {a : UInt64} (d : decode cc pc = .ok (.dreturn, 1)) (r1 : kc ≤ mc) (r2 : ks ≤ ms) (hq : Φ (some (.double a)) h) : WW K D z0 nL h kc ks pc L [.double a] := by
  obtain ⟨p, l, e, R, s, m, args, below, meth, c, Q⟩ := K
  obtain ⟨hx, hb, hml, hown, hts, hl, hlk, hF, hR⟩ := X
  obtain ⟨hr, rfl⟩ := Y
  intro H locs cells slots ls h1 h2 h3 h4 h5
  exact W.widen (Nat.le_trans h1 r1) (Nat.le_trans h2 r2) (vx_ret (W.dret hx hb hr (fun t ht hW => ⟨⟨_, h, rfl, hq, by rw [ht]; exact h3⟩, h4.F ht⟩) h4.2.2 d))
theorem r_fret {Φ : Option Value → Hp → Prop} {Ψ : String → Hp → Prop} {mc ms : Nat} (X : CX K D z0 cc nL own rm) (Y : EX K D z0 (some .float) Φ Ψ mc ms) {a : UInt32} (d : decode cc pc = .ok (.freturn, 1)) (r1 : kc ≤ mc) (r2 : ks ≤ ms) (hq : Φ (some (.float a)) h) : WW K D z0 nL h kc ks pc L [.float a] := by
  obtain ⟨p, l, e, R, s, m, args, below, meth, c, Q⟩ := K
  obtain ⟨hx, hb, hml, hown, hts, hl, hlk, hF, hR⟩ := X
  obtain ⟨hr, rfl⟩ := Y
  intro H locs cells slots ls h1 h2 h3 h4 h5
  exact W.widen (Nat.le_trans h1 r1) (Nat.le_trans h2 r2) (vx_ret (W.fret hx hb hr (fun t ht hW => ⟨⟨_, h, rfl, hq, by rw [ht]; exact h3⟩, h4.F ht⟩) h4.2.2 d))
theorem r_aret {Φ : Option Value → Hp → Prop} {Ψ : String → Hp → Prop} {mc ms : Nat} {o : String} (X : CX K D z0 cc nL own rm) (Y : EX K D z0 (some (.object o)) Φ Ψ mc ms) {v : Value} (d : decode cc pc = .ok (.areturn, 1)) (hv : v = .null ∨ ∃ a, v = .ref a) (r1 : kc ≤ mc) (r2 : ks ≤ ms) (hq : Φ (some v) h) : WW K D z0 nL h kc ks pc L [v] := by
  obtain ⟨p, l, e, R, s, m, args, below, meth, c, Q⟩ := K
  obtain ⟨hx, hb, hml, hown, hts, hl, hlk, hF, hR⟩ := X
  obtain ⟨hr, rfl⟩ := Y
  intro H locs cells slots ls h1 h2 h3 h4 h5
  exact W.widen (Nat.le_trans h1 r1) (Nat.le_trans h2 r2) (vx_ret (W.aret hx hb hr (Or.inl ⟨_, rfl⟩) hv (fun t ht hW => ⟨⟨_, h, rfl, hq, by rw [ht]; exact h3⟩, h4.F ht⟩) h4.2.2 d))
theorem r_vret {Φ : Option Value → Hp → Prop} {Ψ : String → Hp → Prop} {mc ms : Nat} (X : CX K D z0 cc nL own rm) (Y : EX K D z0 none Φ Ψ mc ms) (d : decode cc pc = .ok (.return_, 1)) (r1 : kc ≤ mc) (r2 : ks ≤ ms) (hq : Φ none h) : WW K D z0 nL h kc ks pc L [] := by
  obtain ⟨p, l, e, R, s, m, args, below, meth, c, Q⟩ := K
  obtain ⟨hx, hb, hml, hown, hts, hl, hlk, hF, hR⟩ := X
  obtain ⟨hr, rfl⟩ := Y
  intro H locs cells slots ls h1 h2 h3 h4 h5
  exact W.widen (Nat.le_trans h1 r1) (Nat.le_trans h2 r2) (vx_ret (W.vret hx hb hr (fun t ht hW => ⟨⟨_, h, rfl, hq, by rw [ht]; exact h3⟩, h4.F ht⟩) h4.2.2 d))
/-! calls -/
/-- thrown in a callee: what the caller owes -/
def WX : KT → va_G → Nat → Nat → Hp → Nat → Nat → Nat → List (Nat × Value) → List Value → String → Prop
  | (p, l, e, R, s, m, args, below, meth, c, Q), D, z0, nL, h, kc, ks, pc, L, st, E => ∀ (H : Heap) (locs : List Loc) (cells slots : Nat) (ls : Array Slot) (q : Addr) (ce : Cell), cells ≤ kc → slots ≤ ks → Hd D z0 h H → va_S (Fr z0) s.heap H locs → lv_has ls nL L → H[q]? = some ce → ce.vm = .none → s.vm.findClass E = some ce.cls → vx_W p l e R s m args below meth c H locs cells slots Q (F0 m pc ls st) q
theorem WX_out {Φ : Option Value → Hp → Prop} {Ψ : String → Hp → Prop} {mc ms : Nat} {ret : Option FieldType} {E : String} (X : CX K D z0 cc nL own rm) (Y : EX K D z0 ret Φ Ψ mc ms) (Z : NT K) (r1 : kc ≤ mc) (r2 : ks ≤ ms) (hq : Ψ E h) : WX K D z0 nL h kc ks pc L st E := by
  obtain ⟨p, l, e, R, s, m, args, below, meth, c, Q⟩ := K
  obtain ⟨hx, hb, hml, hown, hts, hl, hlk, hF, hR⟩ := X
  obtain ⟨hr, rfl⟩ := Y
  intro H locs cells slots ls q ce h1 h2 h3 h4 h5 h6 h7 h8
  exact vx_out (fun x hx => (Z x hx).elim) hlk h6 h7 h8 (fun t ht _ => ⟨⟨h, hq, by rw [ht]; exact h3⟩, h4.F ht⟩) h4.2.2 (Nat.le_trans h1 r1) (Nat.le_trans h2 r2)
/-- what is known of a callee: static, or found by its receiver's class -/
def lkS (own : String) (i : Nat) (y : MethodName) (cc' : ByteArray) (nL' : Nat) (ret : Option FieldType) (n : Nat) : Prop :=
  Cond.methodLink own i y ∈ WS ∧ Cond.static y ∈ WS ∧ Cond.initialized y.cls ∈ WS ∧ Cond.code y cc' nL' ret ∈ WS ∧ (y.cls ≠ "java/lang/invoke/MethodHandle" ∧ y.cls ≠ "java/lang/invoke/VarHandle") ∧ (parseMethodDescriptor y.desc).map (fun d => d.parameters.length) = some n
def lkV (own : String) (i ci : Nat) (y : MethodName) (cc' : ByteArray) (nL' : Nat) (ret : Option FieldType) (n : Nat) : Prop :=
  Cond.methodLink own i y ∈ WS ∧ Cond.instanceMethod y ∈ WS ∧ (∃ q : vw_C, cls4[ci]? = some q ∧ q.1 = y.cls) ∧ Cond.selects y.cls y y ∈ WS ∧ Cond.initialized y.cls ∈ WS ∧ Cond.code y cc' nL' ret ∈ WS ∧ (y.cls ≠ "java/lang/invoke/MethodHandle" ∧ y.cls ≠ "java/lang/invoke/VarHandle") ∧ (parseMethodDescriptor y.desc).map (fun d => d.parameters.length) = some n
def lkI (own : String) (i : Nat) (y : MethodName) (cc' : ByteArray) (nL' : Nat) (n : Nat) : Prop :=
  Cond.methodLink own i y ∈ WS ∧ Cond.instanceMethod y ∈ WS ∧ y.name = "<init>" ∧ Cond.initialized y.cls ∈ WS ∧ Cond.code y cc' nL' none ∈ WS ∧ (y.cls ≠ "java/lang/invoke/MethodHandle" ∧ y.cls ≠ "java/lang/invoke/VarHandle") ∧ (parseMethodDescriptor y.desc).map (fun d => d.parameters.length) = some n
theorem WS_pay {args : Array Value} {s : State} {c : Cond} (h : ∀ w ∈ WS, w.before args s = true) (hc : c ∈ WS) : ∀ w ∈ c :: WS, ∀ (a' : Array Value) (U : State), s.WarmedH U.vm → w.before a' U = true := by
  intro w hw a' U hW
  have hm : w ∈ WS := by
    rcases List.mem_cons.mp hw with e | e
    · rw [e]; exact hc
    · exact e
  exact word_at hW (good_of_word (List.mem_filter.mp hm).2) (h w hm)
theorem Pw_blind {D : va_G} {z0 : Nat} {h : Hp} {As : List Value} : FrameBlind (va_Pc As (Pw D z0 h)) := by
  rintro a U g mk ⟨h1, h2, h3⟩
  exact ⟨h1, h2, Fx_calling h3 g mk a⟩
/-- behind a call -/
theorem r_run {mc ms : Nat} {rest : List Value} {Φ : Option Value → Hp → Prop} {Ψ : String → Hp → Prop} {a : Array Value}
    {p : Program} {l : Launch} {e : Env} {R : Room} {s : State} {m : MethodId} {args : Array Value} {below : List Frame} {meth : Method} {c : Code} {Q : State → Prop} {H : Heap} {locs : List Loc} {cells slots : Nat} {ls : Array Slot}
    (hr : vx_Run p l e R s m args below meth c H locs cells slots mc ms (F0 m pc ls st) rest (QQ D z0 Φ a) (XX D z0 Ψ) (Fr z0))
    (h1 : cells ≤ kc) (h2 : slots ≤ ks) (h4 : va_S (Fr z0) s.heap H locs) (h5 : lv_has ls nL L)
    (kk : ∀ (v : Option Value) (h' : Hp), Φ v h' → WW (p, l, e, R, s, m, args, below, meth, c, Q) D z0 nL h' (kc + mc) (ks + ms) (pc + 3) L (v.toList ++ rest))
    (kx : ∀ (E : String) (h' : Hp), Ψ E h' → WX (p, l, e, R, s, m, args, below, meth, c, Q) D z0 nL h' (kc + mc) (ks + ms) pc L rest E) : W p l e R s m args below meth c H locs cells slots Q (F0 m pc ls st) := by
  intro T hT X
  rcases hr T hT X with ⟨v, st₀, t, T', L1, h0, X', hL, e1, e2, ⟨⟨v', h', hv, hp, hb⟩, hF⟩, st⟩ | ⟨q, st₀, t, T', L1, E, ce, h0, X', hL, e1, e2, ⟨⟨h', hp, hb⟩, hF⟩, hce, hcv, hcl, st⟩
  · cases hv
    obtain ⟨k1, k2, k3⟩ := vx_keep (A0 := Fr z0) (free := Fr z0) h0 e1 h4 (fun _ _ z => z) (fun _ z => z) hL hF
    obtain ⟨t2, a1, b1⟩ := kk v h' hp T'.heap (locs ++ L1) (cells + mc) (slots + ms) ls (by omega) (by omega) (by rw [e1]; exact hb) k3 h5 T' rfl X'
    exact ⟨t2, st t2 a1, b1⟩
  · obtain ⟨k1, k2, k3⟩ := vx_keep (A0 := Fr z0) (free := Fr z0) h0 e1 h4 (fun _ _ z => z) (fun _ z => z) hL hF
    obtain ⟨t2, a1, b1⟩ := kx E h' hp T'.heap (locs ++ L1) (cells + mc) (slots + ms) ls q ce (by omega) (by omega) (by rw [e1]; exact hb) k3 h5 (by rw [e1]; exact hce) hcv hcl T' rfl X'
    exact ⟨t2, st.trans a1, b1⟩
theorem r_callS {y : MethodName} {cc' : ByteArray} {nL' n : Nat} {ret : Option FieldType} {rm' : Room} {As : List Value} {Φ : Option Value → Hp → Prop} {Ψ : String → Hp → Prop} (X : CX K D z0 cc nL own rm) {i : Nat} (d : decode cc pc = .ok (.invokestatic i, 3)) (lk : lkS own i y cc' nL' ret n)
    (C : CC K.2.1 y cc' nL' ret rm' D z0 h As Φ Ψ) (rest : List Value) (hst : st = As.reverse ++ rest) (hn : As.length = n) (hw : (rest.map fun v => v.category).sum ≤ 8) (hroom : rm'.frames + 1 ≤ rm.frames ∧ 8 + (nL' + 11) + rm'.locals ≤ rm.locals) (hf : kc + rm'.cells ≤ rm.cells ∧ ks + rm'.slots ≤ rm.slots)
    (kx : ∀ (E : String) (h' : Hp), Ψ E h' → WX K D z0 nL h' (kc + rm'.cells) (ks + rm'.slots) pc L rest E)
    (kk : ∀ (v : Option Value) (h' : Hp), Φ v h' → WW K D z0 nL h' (kc + rm'.cells) (ks + rm'.slots) (pc + 3) L (v.toList ++ rest)) : WW K D z0 nL h kc ks pc L st := by
  obtain ⟨p, l, e, R, s, m, args, below, meth, c, Q⟩ := K
  obtain ⟨hx, hb, hml, hown, hts, hl, hlk, hF, hR⟩ := X
  subst hR
  obtain ⟨l1, l2, l3, l4, l5, l6⟩ := lk
  intro H locs cells slots ls h1 h2 h3 h4 h5
  refine r_run (vx_runS (nL := nL) (Ts := WS) (own := own) (n := n) ⟨hx, hb, hml, hown, hts⟩ C ⟨⟨rfl, rfl, hroom.1, hroom.2, WS_pay hts l4, List.mem_cons_self, hts _ l4, hts _ l3, l5, fun sig hs => ?_, hts _ l1⟩, hts _ l2⟩
    ⟨Pw_blind, fun U hU hW => ⟨rfl, by rw [hU]; exact h3, Fx_call hF h4 hU hW⟩⟩ rfl hn h5.1 hst (lv_room hw) d ⟨by omega, by omega⟩) h1 h2 h4 h5 kk kx
  rw [hs] at l6
  exact (Option.some.inj l6).symm
theorem r_callV {y : MethodName} {cc' : ByteArray} {nL' n : Nat} {ret : Option FieldType} {rm' : Room} {As : List Value} {Φ : Option Value → Hp → Prop} {Ψ : String → Hp → Prop} (X : CX K D z0 cc nL own rm) {i ci : Nat} (d : decode cc pc = .ok (.invokevirtual i, 3)) (lk : lkV own i ci y cc' nL' ret n)
    {b : Nat} {fs : List Value} (hb0 : h b = some (ob ci fs)) (C : CC K.2.1 y cc' nL' ret rm' D z0 h (.ref b :: As) Φ Ψ) (rest : List Value) (hst : st = As.reverse ++ .ref b :: rest) (hn : As.length = n) (hw : (rest.map fun v => v.category).sum ≤ 8) (hroom : rm'.frames + 1 ≤ rm.frames ∧ 8 + (nL' + 11) + rm'.locals ≤ rm.locals) (hf : kc + rm'.cells ≤ rm.cells ∧ ks + rm'.slots ≤ rm.slots)
    (kx : ∀ (E : String) (h' : Hp), Ψ E h' → WX K D z0 nL h' (kc + rm'.cells) (ks + rm'.slots) pc L rest E)
    (kk : ∀ (v : Option Value) (h' : Hp), Φ v h' → WW K D z0 nL h' (kc + rm'.cells) (ks + rm'.slots) (pc + 3) L (v.toList ++ rest)) : WW K D z0 nL h kc ks pc L st := by
  obtain ⟨p, l, e, R, s, m, args, below, meth, c, Q⟩ := K
  obtain ⟨hx, hb, hml, hown, hts, hl, hlk, hF, hR⟩ := X
  subst hR
  obtain ⟨l1, l2, ⟨q, hq1, hq2⟩, l3, l4, l5, l6, l7⟩ := lk
  intro H locs cells slots ls h1 h2 h3 h4 h5
  have hrecv := va_recv hF.1 (Hd_get h3 hb0) (ci := ci) (q0 := 0) (fs := fs) hq1 rfl
  rw [hq2] at hrecv
  refine r_run (vx_runV (nL := nL) (Ts := WS) (own := own) (C := y.cls) (n := n) ⟨hx, hb, hml, hown, hts⟩ C ⟨⟨rfl, rfl, hroom.1, hroom.2, WS_pay hts l5, List.mem_cons_self, hts _ l5, hts _ l4, l6, fun sig hs => ?_, hts _ l1⟩, hts _ l2, hts _ l3⟩
    ⟨Pw_blind, hrecv, fun U hU hW => ⟨rfl, by rw [hU]; exact h3, Fx_call hF h4 hU hW⟩⟩ rfl hn h5.1 hst (lv_room hw) d ⟨by omega, by omega⟩) h1 h2 h4 h5 kk kx
  rw [hs] at l7
  exact (Option.some.inj l7).symm
theorem vx_runI0 {p : Program} {l : Launch} {e : Env} {R : Room} {s : State} {m : MethodId} {args : Array Value} {below : List Frame} {meth : Method} {c : Code} {H : Heap} {locs : List Loc} {cells slots : Nat}
    {y : MethodName} {bytes cc : ByteArray} {maxL nL mc ms n index : Nat} {ws : List Cond} {rm : Room} {Pc : Array Value → State → Prop} {Qc : Array Value → State → Outcome → State → Prop} {XC : String → State → State → Prop} {free : Addr → Prop} {Ts : List Cond} {own : String} {b : Addr} {As rest : List Value} {g : JFrame} (hM : Met l y ws rm Pc Qc mc ms free)
    (S : CallFix p m c cc nL s args Ts own) (cw : CallB R s args own index y bytes maxL none ws rm mc ms n ∧ y.name = "<init>" ∧ (Cond.instanceMethod y).before args s = true) (hp : PreS s H Pc (.ref b :: As))
    (hg : g.method = m) (hn : As.length = n) (hsize : g.locals.size = nL) (hstack : g.stack = As.reverse ++ .ref b :: rest) (hW : 2 * g.monitorRoom + (rest.map fun v => v.category).sum ≤ 8) (hdg : decode cc g.pc = .ok (.invokespecial index, 3)) (hf : cells + mc ≤ R.cells ∧ slots + ms ≤ R.slots) :
    vx_Run p l e R s m args below meth c H locs cells slots mc ms g rest (Qc (Value.ref b :: As).toArray) XC free := by
  intro T hT X
  exact Or.inl (va_runI S hM cw hp hg hn hsize hstack hW hdg hf T hT X)
/-- a contract without a throw, as the kit has it -/
theorem CC_met {l : Launch} {y : MethodName} {cc : ByteArray} {nL : Nat} {ret : Option FieldType} {rm : Room} {D : va_G} {z0 : Nat} {h : Hp} {As : List Value} {Φ : Option Value → Hp → Prop}
    (C : CC l y cc nL ret rm D z0 h As Φ (fun _ _ => False)) : Met l y (Cond.code y cc nL ret :: WS) rm (va_Pc As (Pw D z0 h)) (QQ D z0 Φ) rm.cells rm.slots (Fr z0) := by
  have key : ∀ a st o t, vx_Q (QQ D z0 Φ) (XX D z0 fun _ _ => False) rm.cells rm.slots (Fr z0) a st o t → (QQ D z0 Φ a st o t ∧ ∃ L, FrameEnd st o t L rm.cells rm.slots ∧ ∀ q ∈ L, Fr z0 q.base) := by
    intro a st o t hq
    rcases hq with hq | ⟨q, ho, E, ce, L, ⟨⟨h', hh, -⟩, -⟩, -⟩
    · exact hq
    · exact hh.elim
  have e : vx_Q (QQ D z0 Φ) (XX D z0 fun _ _ => False) rm.cells rm.slots (Fr z0) = fun a st o t => (QQ D z0 Φ a st o t ∧ ∃ L, FrameEnd st o t L rm.cells rm.slots ∧ ∀ q ∈ L, Fr z0 q.base) := by
    funext a st o t
    exact propext ⟨key a st o t, Or.inl⟩
  unfold CC vx_Met at C
  unfold Met
  rw [e] at C
  exact C
theorem r_callI {y : MethodName} {cc' : ByteArray} {nL' n : Nat} {rm' : Room} {As : List Value} {Φ : Option Value → Hp → Prop} (X : CX K D z0 cc nL own rm) {i : Nat} (d : decode cc pc = .ok (.invokespecial i, 3)) (lk : lkI own i y cc' nL' n)
    {b : Nat} (C : CC K.2.1 y cc' nL' none rm' D z0 h (.ref b :: As) Φ (fun _ _ => False)) (rest : List Value) (hst : st = As.reverse ++ .ref b :: rest) (hn : As.length = n) (hw : (rest.map fun v => v.category).sum ≤ 8) (hroom : rm'.frames + 1 ≤ rm.frames ∧ 8 + (nL' + 11) + rm'.locals ≤ rm.locals) (hf : kc + rm'.cells ≤ rm.cells ∧ ks + rm'.slots ≤ rm.slots)
    (kk : ∀ (v : Option Value) (h' : Hp), Φ v h' → WW K D z0 nL h' (kc + rm'.cells) (ks + rm'.slots) (pc + 3) L (v.toList ++ rest)) : WW K D z0 nL h kc ks pc L st := by
  obtain ⟨p, l, e, R, s, m, args, below, meth, c, Q⟩ := K
  obtain ⟨hx, hb, hml, hown, hts, hl, hlk, hF, hR⟩ := X
  subst hR
  obtain ⟨l1, l2, l3, l4, l5, l6, l7⟩ := lk
  intro H locs cells slots ls h1 h2 h3 h4 h5
  refine r_run (Ψ := fun _ _ => False) (vx_runI0 (nL := nL) (Ts := WS) (own := own) (n := n) (CC_met C) ⟨hx, hb, hml, hown, hts⟩ ⟨⟨rfl, rfl, hroom.1, hroom.2, WS_pay hts l5, List.mem_cons_self, hts _ l5, hts _ l4, l6, fun sig hs => ?_, hts _ l1⟩, l3, hts _ l2⟩
    ⟨Pw_blind, fun U hU hW => ⟨rfl, by rw [hU]; exact h3, Fx_call hF h4 hU hW⟩⟩ rfl hn h5.1 hst (lv_room hw) d ⟨by omega, by omega⟩) h1 h2 h4 h5 kk (fun _ _ z => z.elim)
  rw [hs] at l7
  exact (Option.some.inj l7).symm
/-- Object's own constructor -/
theorem r_objInit (X : CX K D z0 cc nL own rm) {i : Nat} (d : decode cc pc = .ok (.invokespecial i, 3)) (k1 : Cond.methodLink own i objectInit ∈ WS) (k2 : Cond.instanceMethod objectInit ∈ WS) (k3 : Cond.code objectInit ⟨#[0xb1]⟩ 1 none ∈ WS) {a : Nat} (hw : (st.map fun v => v.category).sum ≤ 8) (hroom : 1 ≤ rm.frames ∧ 20 ≤ rm.locals) (kk : WW K D z0 nL h kc ks (pc + 3) L st) : WW K D z0 nL h kc ks pc L (.ref a :: st) := by
  obtain ⟨p, l, e, R, s, m, args, below, meth, c, Q⟩ := K
  obtain ⟨hx, hb, hml, hown, hts, hl, hlk, hF, hR⟩ := X
  subst hR
  intro H locs cells slots ls h1 h2 h3 h4 h5
  exact W.objInit hx hb hown (hts _ k1) (hts _ k2) (hts _ k3) (g := F0 m pc ls (.ref a :: st)) rfl (by rw [hml]; exact h5.1) rfl d hroom.1 (by show 2 * 0 + _ + 12 ≤ _; omega) (kk H locs cells slots ls h1 h2 h3 h4 h5)
/-! what is thrown: 'throw new E(text)' -/
abbrev xns : List String := ["java/lang/RuntimeException", "java/lang/Exception"]
theorem r_throwS {Φ : Option Value → Hp → Prop} {Ψ : String → Hp → Prop} {mc ms : Nat} {ret : Option FieldType} (X : CX K D z0 cc nL own rm) (Y : EX K D z0 ret Φ Ψ mc ms) (Z : NT K) {ik is ic : Nat} {E text : String}
    (d0 : decode cc pc = .ok (.new ik, 3)) (d3 : decode cc (pc + 3) = .ok (.dup, 1)) (d4 : decode cc (pc + 4) = .ok (.ldc is, 2)) (d6 : decode cc (pc + 6) = .ok (.invokespecial ic, 3)) (d9 : decode cc (pc + 9) = .ok (.athrow, 1))
    (hE : Bundle.fit E = true) (k1 : Cond.classLink own ik E ∈ WS) (k2 : Cond.initialized E ∈ WS) (hs : (own, is, text) ∈ strs) (hat : ∀ w ∈ vx_atS own ic E xns, w ∈ WS ∨ (∃ q ∈ nwC, w = .castable q.1 q.2) ∨ (∃ q ∈ nwD, w = .declares q))
    (hw : (st.map fun v => v.category).sum ≤ 8) (hr : 6 ≤ rm.frames ∧ 90 ≤ rm.locals ∧ kc + 1 ≤ rm.cells ∧ ks + 6 ≤ rm.slots) (r1 : kc + 1 ≤ mc) (r2 : ks + 6 ≤ ms) (hq : Ψ E h) : WW K D z0 nL h kc ks pc L st := by
  obtain ⟨p, l, e, R, s, m, args, below, meth, c, Q⟩ := K
  obtain ⟨hx, hb, hml, hown, hts, hl, hlk, hF, hR⟩ := X
  obtain ⟨hret, rfl⟩ := Y
  subst hR
  obtain ⟨sa, hsa⟩ := hF.2.2.2.1 _ hs
  intro H locs cells slots ls h1 h2 h3 h4 h5
  have hat1 : ∀ w ∈ vx_atS own ic E xns, w.before args s = true := by
    intro w hw9
    rcases hat w hw9 with z | ⟨q, hq9, rfl⟩ | ⟨q, hq9, rfl⟩
    · exact hts w z
    · exact va_Nw.use rfl (hF.2.2.2.2.2.2.2.1 q hq9)
    · exact va_Nw.use rfl (hF.2.2.2.2.2.2.2.2 q hq9)
  have hot : ∀ w ∈ vx_atS own ic E xns, vx_ot w = true := by
    intro w hw9
    rcases hat w hw9 with z | ⟨q, hq9, rfl⟩ | ⟨q, hq9, rfl⟩
    · unfold vx_ot; rw [(List.mem_filter.mp z).2]; simp
    · rfl
    · rfl
  refine vx_throwS (A := Fr z0) (names := xns) hx hb hl hown hE (by decide) (hts _ k1) (hts _ k2) hsa hat1 (fun w hw9 => ?_) hF.2.1 hF.2.2.1 h4 (by rw [hml]; exact h5.1) d0 d3 d4 d6 d9 (fun x hx9 => (Z x hx9).elim)
    (by show 2 + 3 < _; omega) (by show _ + (13 * (2 + 1) + 43) ≤ _; omega) (by omega) (by omega) hlk (fun t hvm hsz hk => ⟨⟨h, hq, Hd_grow h3 (fun q hq9 => hk q hq9)⟩, ?_⟩) h4.2.2 (by omega) (by omega)
  · rcases List.mem_cons.mp hw9 with rfl | hw9
    · rfl
    · rcases List.mem_cons.mp hw9 with rfl | hw9
      · rfl
      · exact hot w hw9
  · exact ⟨Nat.le_trans h4.1 hsz, fun q y1 y2 => (hk q (Nat.lt_of_lt_of_le y1 h4.1)).trans (h4.2.1 q y1 y2)⟩
/-! the commonest callee: an answer, the heap as it was -/
def PV (r : Value) (h : Hp) : Option Value → Hp → Prop := fun v h' => v = some r ∧ h' = h
def NX : String → Hp → Prop := fun _ _ => False
theorem r_callS_v {y : MethodName} {cc' : ByteArray} {nL' n kc' ks' : Nat} {ret : Option FieldType} {rm' : Room} {As : List Value} {r : Value} (X : CX K D z0 cc nL own rm) {i : Nat} (d : decode cc pc = .ok (.invokestatic i, 3)) (lk : lkS own i y cc' nL' ret n)
    (C : CC K.2.1 y cc' nL' ret rm' D z0 h As (PV r h) NX) (rest : List Value) (hst : st = As.reverse ++ rest) (hn : As.length = n) (hw : (rest.map fun v => v.category).sum ≤ 8) (hroom : rm'.frames + 1 ≤ rm.frames ∧ 8 + (nL' + 11) + rm'.locals ≤ rm.locals) (e1 : kc + rm'.cells = kc') (e2 : ks + rm'.slots = ks') (hf : kc' ≤ rm.cells ∧ ks' ≤ rm.slots)
    (kk : WW K D z0 nL h kc' ks' (pc + 3) L (r :: rest)) : WW K D z0 nL h kc ks pc L st := by
  subst e1; subst e2
  refine r_callS X d lk C rest hst hn hw hroom hf (fun _ _ z => z.elim) (fun v h' hv => ?_)
  obtain ⟨rfl, rfl⟩ := hv
  exact kk
theorem r_callV_v {y : MethodName} {cc' : ByteArray} {nL' n kc' ks' : Nat} {ret : Option FieldType} {rm' : Room} {As : List Value} {r : Value} (X : CX K D z0 cc nL own rm) {i ci : Nat} (d : decode cc pc = .ok (.invokevirtual i, 3)) (lk : lkV own i ci y cc' nL' ret n)
    {b : Nat} {fs : List Value} (hb0 : h b = some (ob ci fs)) (C : CC K.2.1 y cc' nL' ret rm' D z0 h (.ref b :: As) (PV r h) NX) (rest : List Value) (hst : st = As.reverse ++ .ref b :: rest) (hn : As.length = n) (hw : (rest.map fun v => v.category).sum ≤ 8) (hroom : rm'.frames + 1 ≤ rm.frames ∧ 8 + (nL' + 11) + rm'.locals ≤ rm.locals) (e1 : kc + rm'.cells = kc') (e2 : ks + rm'.slots = ks') (hf : kc' ≤ rm.cells ∧ ks' ≤ rm.slots)
    (kk : WW K D z0 nL h kc' ks' (pc + 3) L (r :: rest)) : WW K D z0 nL h kc ks pc L st := by
  subst e1; subst e2
  refine r_callV X d lk hb0 C rest hst hn hw hroom hf (fun _ _ z => z.elim) (fun v h' hv => ?_)
  obtain ⟨rfl, rfl⟩ := hv
  exact kk
theorem CX_l (X : CX K D z0 cc nL own rm) : K.2.1.stackTraces = false := by
  obtain ⟨p, l, e, R, s, m, args, below, meth, c, Q⟩ := K
  exact X.2.2.2.2.2.1
theorem r_throwSW {Φ : Option Value → Hp → Prop} {Ψ : String → Hp → Prop} {mc ms : Nat} {ret : Option FieldType} (X : CX K D z0 cc nL own rm) (Y : EX K D z0 ret Φ Ψ mc ms) (Z : NT K) {ik is ic : Nat} {E text : String}
    (d0 : decode cc pc = .ok (.new ik, 3)) (d3 : decode cc (pc + 3) = .ok (.dup, 1)) (d4 : decode cc (pc + 4) = .ok (.ldc_w is, 3)) (d6 : decode cc (pc + 7) = .ok (.invokespecial ic, 3)) (d9 : decode cc (pc + 10) = .ok (.athrow, 1))
    (hE : Bundle.fit E = true) (k1 : Cond.classLink own ik E ∈ WS) (k2 : Cond.initialized E ∈ WS) (hs : (own, is, text) ∈ strs) (hat : ∀ w ∈ vx_atS own ic E xns, w ∈ WS ∨ (∃ q ∈ nwC, w = .castable q.1 q.2) ∨ (∃ q ∈ nwD, w = .declares q))
    (hw : (st.map fun v => v.category).sum ≤ 8) (hr : 6 ≤ rm.frames ∧ 90 ≤ rm.locals ∧ kc + 1 ≤ rm.cells ∧ ks + 6 ≤ rm.slots) (r1 : kc + 1 ≤ mc) (r2 : ks + 6 ≤ ms) (hq : Ψ E h) : WW K D z0 nL h kc ks pc L st := by
  obtain ⟨p, l, e, R, s, m, args, below, meth, c, Q⟩ := K
  obtain ⟨hx, hb, hml, hown, hts, hl, hlk, hF, hR⟩ := X
  obtain ⟨hret, rfl⟩ := Y
  subst hR
  obtain ⟨sa, hsa⟩ := hF.2.2.2.1 _ hs
  intro H locs cells slots ls h1 h2 h3 h4 h5
  have hat1 : ∀ w ∈ vx_atS own ic E xns, w.before args s = true := by
    intro w hw9
    rcases hat w hw9 with z | ⟨q, hq9, rfl⟩ | ⟨q, hq9, rfl⟩
    · exact hts w z
    · exact va_Nw.use rfl (hF.2.2.2.2.2.2.2.1 q hq9)
    · exact va_Nw.use rfl (hF.2.2.2.2.2.2.2.2 q hq9)
  have hot : ∀ w ∈ vx_atS own ic E xns, vx_ot w = true := by
    intro w hw9
    rcases hat w hw9 with z | ⟨q, hq9, rfl⟩ | ⟨q, hq9, rfl⟩
    · unfold vx_ot; rw [(List.mem_filter.mp z).2]; simp
    · rfl
    · rfl
  refine vx_throwSW (A := Fr z0) (names := xns) hx hb hl hown hE (by decide) (hts _ k1) (hts _ k2) hsa hat1 (fun w hw9 => ?_) hF.2.1 hF.2.2.1 h4 (by rw [hml]; exact h5.1) d0 d3 d4 d6 d9 (fun x hx9 => (Z x hx9).elim)
    (by show 2 + 3 < _; omega) (by show _ + (13 * (2 + 1) + 43) ≤ _; omega) (by omega) (by omega) hlk (fun t hvm hsz hk => ⟨⟨h, hq, Hd_grow h3 (fun q hq9 => hk q hq9)⟩, ?_⟩) h4.2.2 (by omega) (by omega)
  · rcases List.mem_cons.mp hw9 with rfl | hw9
    · rfl
    · rcases List.mem_cons.mp hw9 with rfl | hw9
      · rfl
      · exact hot w hw9
  · exact ⟨Nat.le_trans h4.1 hsz, fun q y1 y2 => (hk q (Nat.lt_of_lt_of_le y1 h4.1)).trans (h4.2.1 q y1 y2)⟩
end Rows2
end
section
/-! 'throw new NoSuchElementException(text)': its constructor calls RuntimeException's by constant 13 of its pool (the kit's rows ask for 7) -/
abbrev nseN : String := "java/util/NoSuchElementException"
def nse_at (own : String) (ic : Nat) : List Cond :=
  Bundle.throwableAtoms ++ Bundle.throwableSAtoms ++ (Bundle.passSAtoms nseN "java/lang/RuntimeException" 13 prog_20_method_4_code ++ Bundle.chainSAtoms "java/lang/RuntimeException" ["java/lang/Exception"]) ++
  [.methodLink own ic (Bundle.initS nseN), .instantiable nseN 6, .castable nseN nseN, .selects nseN Bundle.tFill0 Bundle.tFill0, .selects nseN Bundle.tFill Bundle.tFill,
   .lays nseN Bundle.tN "cause" "Ljava/lang/Throwable;", .lays nseN Bundle.tN "stackTrace" Bundle.steD, .lays nseN Bundle.tN "suppressedExceptions" Bundle.listD, .lays nseN Bundle.tN "detailMessage" "Ljava/lang/String;",
   .isRef (.static Bundle.tN "UNASSIGNED_STACK" Bundle.steD), .isRef (.static Bundle.tN "SUPPRESSED_SENTINEL" Bundle.listD),
   .fieldLink Bundle.tN 198 Bundle.tN "backtrace" "Ljava/lang/Object;", .lays Bundle.tN Bundle.tN "backtrace" "Ljava/lang/Object;", .lays nseN Bundle.tN "backtrace" "Ljava/lang/Object;"]
set_option maxHeartbeats 4000000 in
theorem nse_ctorThrow {p : Program} {l : Launch} {e : Env} {R : Room} {s : State} {m₀ : MethodId} {args : Array Value} {below : List Frame} {meth : Method} {c : Code} {W : State} {locs : List Loc} {cells slots : Nat} (X : Stand p l e R s m₀ args below meth c W locs cells slots) (hexec : p.tables.exec = Jvm.exec) (htr : e.platform.stackTraces = false) {own : String} {ic : Nat}
    (hown : s.vm.findClass own = some m₀.cls)
    (h : ∀ a ∈ nse_at own ic, a.before args s = true)
    (hlocs : ∀ x ∈ locs, ∀ cell, s.heap[x.base]? = some cell → cell.vm.isStatics = false)
    {a : Addr} {cX : ClassId} {kX : Class} (hfoundX : s.vm.findClass nseN = some cX) (hkX : s.vm.classes[cX]? = some kX) (hcell : W.heap[a]? = some (freshCell cX kX)) (hnew : s.heap.size ≤ a)
    {msg : Value} (hmsg : msg.isRef = true)
    {g : JFrame} (hg : g.method = m₀) (hsize : g.locals.size = c.maxLocals) (hlocked : g.locked = none) (hentered : g.entered = []) {rest : List Value} (hstack : g.stack = msg :: .ref a :: .ref a :: rest)
    (hd6 : decode c.code g.pc = .ok (.invokespecial ic, 3)) (hd9 : decode c.code (g.pc + 3) = .ok (.athrow, 1)) (hout : ∀ x ∈ c.exceptionTable.toList, covers x (g.pc + 3) = false)
    (hRframes : 2 + 3 < R.frames) (hRlocals : 2 * g.monitorRoom + ((Value.ref a :: rest).map fun v => v.category).sum + (13 * (2 + 1) + 42) ≤ R.locals) (hlocks : meth.locks = false := by first | assumption | exact BodyLoose.notSynchronized (by assumption) | exact Body.notSynchronized (by assumption)) :
    ∃ U : State, Steps p.tables e below (W.setTop g) U ∧ U.status = .running ∧ Ended U below (.threw a) ∧ s.WarmedH U.vm ∧ s.sameButNew ({ U with vm := s.vm } : State) locs cells slots ∧
      ∃ ce, U.heap[a]? = some ce ∧ s.vm.findClass nseN = some ce.cls ∧ ce.vm = .none := by
  have howns : e.platform.frameOwnsMonitors = true := by rw [X.admits.platform]
  have hfin : e.platform.finalization = false := by rw [X.admits.platform]
  have hpl : e.platform.magicAccessors = ({} : Platform).magicAccessors := by rw [X.admits.platform]
  have a' : ∀ x, x ∈ nse_at own ic → x.holds args s none s [] = true := fun x hx => h x hx
  obtain ⟨T, Z0, L, -, Y⟩ := ThrowableC.of_atoms (args := args) howns hfin hpl (fun x hx => h x (by simp [nse_at, hx]))
  obtain ⟨Z, M, LZ, LM, hnZ⟩ := Init0T.ofS_atoms (args := args) hpl L Y (fun x hx => h x (by simp [nse_at, hx]))
  obtain ⟨P1, L1, hP1m, hs1⟩ := PassC.ofS_atoms (args := args) (s := s) hpl (X := nseN) (Y := "java/lang/RuntimeException") (index := 13) (bytes := prog_20_method_4_code) (by decide) (by decide) (by decide +kernel) (by decide +kernel) (by decide +kernel) (by decide +kernel) (fun x hx => h x (by simp only [nse_at, List.mem_append]; exact Or.inl (Or.inr (Or.inl hx))))
  obtain ⟨P2, Ps0, hlen0, L20, hL0, hm0, hsup0, hpass0⟩ := Bundle.chainS (args := args) hpl hnZ ["java/lang/Exception"] "java/lang/RuntimeException" (by decide) (by decide) (fun x hx => h x (by simp only [nse_at, List.mem_append]; exact Or.inl (Or.inr (Or.inr hx))))
  obtain ⟨Ps, hPs⟩ : ∃ z, z = P2 :: Ps0 := ⟨_, rfl⟩
  have hlen : Ps.length = 2 := by rw [hPs, List.length_cons, hlen0]; rfl
  have hL : ∀ P, P ∈ Ps → P.LinksS e.platform s := by
    intro P hP
    rw [hPs] at hP
    rcases List.mem_cons.mp hP with rfl | hP
    · exact L20
    · exact hL0 P hP
  have hlink1 : P1.sup = firstOf (Z.m T.toThrowableT) (Ps.map (·.toPassT)) := by rw [hPs]; exact Option.some.inj (hs1.symm.trans hm0)
  have hlink : PassesOn (Z.m T.toThrowableT) (Ps.map (·.toPassT)) := by rw [hPs]; exact ⟨hsup0, hpass0⟩
  have hfound : s.vm.findClass nseN = some P1.m.cls := findClass_of_methodNamed hP1m
  cases Option.some.inj (hfoundX.symm.trans hfound)
  obtain ⟨c1, kX', hc1, hk, hord, -, -, hn6⟩ := Cond.instantiable_spec (a' (.instantiable nseN 6) (by simp [nse_at]))
  cases Option.some.inj (hc1.symm.trans hfound)
  cases Option.some.inj (hkX.symm.trans hk)
  have hsel0 : selectMethod e.platform s.vm P1.m.cls T.fill0 = .method T.fill0 := by
    obtain ⟨c2, r2, m2, q1, q2, q3, q4, -⟩ := Cond.selects_spec (a' (.selects nseN Bundle.tFill0 Bundle.tFill0) (by simp [nse_at]))
    cases Option.some.inj (q1.symm.trans hfound)
    cases Option.some.inj (q2.symm.trans (State.methodFound?_of_named Y.fill0 (by decide)))
    cases Option.some.inj (q3.symm.trans Y.fill0)
    rw [Launch.admits_selectMethod X.admits]; exact q4
  have hselF : selectMethod e.platform s.vm P1.m.cls T.fill = .method T.fill := by
    obtain ⟨c2, r2, m2, q1, q2, q3, q4, -⟩ := Cond.selects_spec (a' (.selects nseN Bundle.tFill Bundle.tFill) (by simp [nse_at]))
    cases Option.some.inj (q1.symm.trans hfound)
    cases Option.some.inj (q2.symm.trans (State.methodFound?_of_named Y.fill (by decide)))
    cases Option.some.inj (q3.symm.trans Y.fill)
    rw [Launch.admits_selectMethod X.admits]; exact q4
  obtain ⟨cellS0, hcS0, hiss⟩ := Y.statics
  obtain ⟨u0, hu0⟩ := Cond.staticRefV Y.unassigned L.unassignedStatic L.statics hcS0 hiss (a' (.isRef (.static Bundle.tN "UNASSIGNED_STACK" Bundle.steD)) (by simp [nse_at]))
  obtain ⟨sen, hsen⟩ := Cond.staticRefV Y.sentinel L.sentinelStatic L.statics hcS0 hiss (a' (.isRef (.static Bundle.tN "SUPPRESSED_SENTINEL" Bundle.listD)) (by simp [nse_at]))
  obtain ⟨ci198, i198, fB, hk198, hg198, ha198, hsB, -, hnB, htB, hffB⟩ := Cond.ownField (t := .object "java/lang/Object") Y.found L.cls (by decide +kernel) (a' (.fieldLink Bundle.tN 198 Bundle.tN "backtrace" "Ljava/lang/Object;") (by simp [nse_at])) (a' (.lays Bundle.tN Bundle.tN "backtrace" "Ljava/lang/Object;") (by simp [nse_at])) e.platform hpl
  obtain ⟨cellS, hcS', heS, -, hkeep⟩ := X.same.2.2.2.2.2 T.aS cellS0 hcS0
  have hcellS : W.heap[T.aS]? = some cellS := hcS'
  have hout' : ∀ i, (⟨T.aS, i⟩ : Loc) ∉ locs := fun i hmem => by
    have := hlocs _ hmem cellS0 hcS0
    rw [hiss] at this; cases this
  have hknownS : cellS.vm ≠ .unknown := by
    rw [heS]; intro hu
    rw [show cellS0.vm = .unknown from hu] at hiss
    cases hiss
  have hneS : T.aS ≠ a := Nat.ne_of_lt (Nat.lt_of_lt_of_le (Array.getElem?_eq_some_iff.mp hcS0).1 hnew)
  obtain ⟨iM, hffM⟩ := Y.msg
  obtain ⟨tyC, dC, hdC, hdnC⟩ := Cond.laysAt hfound hk Y.cause (a' (.lays nseN Bundle.tN "cause" "Ljava/lang/Throwable;") (by simp [nse_at]))
  obtain ⟨tyS, dS, hdS, hdnS⟩ := Cond.laysAt hfound hk Y.stack (a' (.lays nseN Bundle.tN "stackTrace" Bundle.steD) (by simp [nse_at]))
  obtain ⟨tyP, dP, hdP, hdnP⟩ := Cond.laysAt hfound hk Y.supp (a' (.lays nseN Bundle.tN "suppressedExceptions" Bundle.listD) (by simp [nse_at]))
  obtain ⟨tyM, dM, hdM, hdnM⟩ := Cond.laysAt hfound hk hffM (a' (.lays nseN Bundle.tN "detailMessage" "Ljava/lang/String;") (by simp [nse_at]))
  obtain ⟨tyB, dB, hdB, hdnB⟩ := Cond.laysAt hfound hk hffB (a' (.lays nseN Bundle.tN "backtrace" "Ljava/lang/Object;") (by simp [nse_at]))
  have bC := Cond.laysApart hdB hdC hdnB hdnC (by rw [hnB, Y.causeName]; decide)
  have bS := Cond.laysApart hdB hdS hdnB hdnS (by rw [hnB, Y.stackName]; decide)
  have bP := Cond.laysApart hdB hdP hdnB hdnP (by rw [hnB, Y.suppName]; decide)
  have hskip : SkipFacts T e.platform s (fun u => u) u0 ((preparedCellV T.toThrowableT (freshCell P1.m.cls kX) a u0 sen).withEntry W.cur) :=
    ⟨{ ci198 := ci198, i198 := i198, fBack := fB }, ⟨hk198, hg198, ha198, hsB⟩, by
      have := fresh_default (c := P1.m.cls) tyB
      rw [htB] at this
      simpa [preparedCellV, Cell.setSlot, Cell.withEntry, Array.getElem?_setIfInBounds, bC, bS, bP, bC.symm, bS.symm, bP.symm, defaultValue] using this, fun _ _ => rfl⟩
  obtain ⟨tm, methC, cdC, kC, vm₁, hnC, -, -, -, -, -, -, -, hW₁, st1⟩ := Steps.initColdS (tb := p.tables) (e := e) (below := below) (s := s) (U := W) X.here hexec X.warmed hpl hown (t := Bundle.initS nseN) rfl rfl (by decide)
    (a' (.methodLink own ic (Bundle.initS nseN)) (by simp [nse_at])) (h (.instanceMethod (Bundle.initS nseN)) (by simp [nse_at, Bundle.passSAtoms])) (bytes := prog_20_method_4_code) (maxL := 2) (h (.code (Bundle.initS nseN) prog_20_method_4_code 2 none) (by simp [nse_at, Bundle.passSAtoms]))
    (f := g) hg (a := a) (msg := msg) (rest := .ref a :: rest) hstack hd6
  cases Option.some.inj (hnC.symm.trans hP1m)
  have X₁ := X.noted hW₁
  obtain ⟨vm₂, X₂, st2⟩ := X₁.ctorMessageOffV hexec (g := { g with stack := .ref a :: rest }) hg hsize T L Z LZ M LM (P1 :: Ps)
    (fun P hP => by rcases List.mem_cons.mp hP with rfl | hP; exact L1; exact hL P hP) ⟨hlink1, hlink⟩ (u0 := u0) (sen := sen) (self := a) hmsg (cell := freshCell P1.m.cls kX) (cellS := cellS)
    hcell (fun _ => by simp) (by simp) rfl rfl hsel0 hselF hcellS hneS hknownS (by rw [hkeep _ (hout' _)]; exact hu0) (by rw [hkeep _ (hout' _)]; exact hsen)
    (Takes.of_laid hk hord tyC (by rw [Y.causeType]; rfl)) (Takes.of_laid hk hord tyS (by rw [Y.stackType]; exact fits_refV_array _ u0)) (Takes.of_laid hk hord tyP (by rw [Y.suppType]; exact fits_refV_object _ sen))
    (Takes.of_laid hk hord tyM (by rw [Y.msgType]; exact fits_refV_object _ ⟨msg, hmsg⟩)) Y.objLocals hskip htr [] hd6
    (by simp only [List.length_cons, hlen]; omega) (by simp only [List.length_cons, hlen]; exact hRlocals)
  obtain ⟨hwalk, hrun, hended, hWU, hsame⟩ := X₂.athrowLeaves hexec (g := { g with stack := .ref a :: rest, pc := g.pc + 3 }) hg hlocked hentered hout (a := a) (rest := rest) rfl hd9
  obtain ⟨c3, c4, hc3, hc4, hasg⟩ := Cond.castable_spec (a' (.castable nseN nseN) (by simp [nse_at]))
  cases Option.some.inj (hc3.symm.trans hfound)
  cases Option.some.inj (hc4.symm.trans hfound)
  have hlt : a < ((W.setVm vm₁).setVm vm₂).heap.size := (Array.getElem?_eq_some_iff.mp hcell).1
  have hU := heapAt_setCell_self (s := (W.setVm vm₁).setVm vm₂) (plainBareV T.toThrowableT (freshCell P1.m.cls kX) a u0 sen msg) hlt
  have hnM : T.fMsg.name = "detailMessage" := (State.fieldFound?_type hffM (t := .object "java/lang/String") (by decide +kernel)).1
  refine ⟨_, st1 _ (fun acts => ?_), hrun, hended, hWU, hsame.weaken (fun y hy hlt' => ?_) (Nat.le_refl _) (Nat.le_refl _), _, hU, hfound, rfl⟩
  · rw [doInvoke_state]
    exact st2 _ hwalk
  · rcases List.mem_append.mp hy with h1 | h1
    · exact h1
    · exfalso
      have hb : y.base = a := by
        simp only [List.mem_cons, List.not_mem_nil, or_false] at h1
        rcases h1 with rfl | rfl | rfl | rfl | rfl <;> rfl
      rw [hb] at hlt'
      exact Nat.not_lt.mpr hnew hlt'
theorem vx_throwN {p : Program} {l : Launch} {e : Env} {R : Room} {s : State} {m : MethodId} {args : Array Value} {below : List Frame} {meth : Method} {c : Code} {H : Heap} {locs : List Loc} {cells slots : Nat} {free : Addr → Prop} {ls : Array Slot} {rest : List Value} {Qc : Array Value → State → Outcome → State → Prop} {XC : String → State → State → Prop} {cc : ByteArray} {pc : Nat} (hexec : p.tables.exec = Jvm.exec) (hb : c.code = cc) (hl : l.stackTraces = false) {own text : String} {ik is ic mc ms sa : Nat} {A : Nat → Prop}
    (hown : s.vm.findClass own = some m.cls) 
    (hk : (Cond.classLink own ik nseN).before args s = true) (hini : (Cond.initialized nseN).before args s = true) (hstr : vk_R own is text sa s) (hat : ∀ w ∈ (nse_at own ic).filter vx_no, w.before args s = true)
    (hgood : ∀ w ∈ Cond.classLink own ik nseN :: Cond.initialized nseN :: (nse_at own ic).filter vx_no, vx_ot w = true)
    (hU : vx_Zq Bundle.tN "UNASSIGNED_STACK" Bundle.steD A s s.heap) (hN : vx_Zq Bundle.tN "SUPPRESSED_SENTINEL" Bundle.listD A s s.heap) (hS : va_S A s.heap H locs) (hsize : ls.size = c.maxLocals)
    (d0 : decode cc pc = .ok (.new ik, 3)) (d3 : decode cc (pc + 3) = .ok (.dup, 1)) (d4 : decode cc (pc + 4) = .ok (.ldc is, 2)) (d6 : decode cc (pc + 6) = .ok (.invokespecial ic, 3)) (d9 : decode cc (pc + 9) = .ok (.athrow, 1))
    (hout : ∀ x ∈ c.exceptionTable.toList, covers x (pc + 9) = false)
    (hRframes : 2 + 3 < R.frames) (hRlocals : (rest.map fun v => v.category).sum + (13 * (2 + 1) + 43) ≤ R.locals) (hRcells : cells + 1 ≤ R.cells) (hRslots : slots + 6 ≤ R.slots) (hlocks : meth.locks = false)
    (hx : ∀ t : State, s.vm.Alike t.vm → H.size ≤ t.heap.size → (∀ q : Nat, q < H.size → t.heap[q]? = H[q]?) → XC nseN s t)
    (hf : ∀ z ∈ locs, free z.base) (hc : cells + 1 ≤ mc) (hs : slots + 6 ≤ ms) :
    W p l e R s m args below meth c H locs cells slots (vx_MQ below Qc XC args s mc ms free) (F0 m pc ls rest) := by
  intro T hT X
  have htr : e.platform.stackTraces = false := (show e.platform.stackTraces = l.stackTraces by rw [X.admits.platform]).trans hl
  have Y := vx_rebase X (R' := { frames := R.frames, locals := R.locals, cells := 1, slots := 6 }) (Nat.le_refl _) (Nat.le_refl _) hRcells hRslots
  obtain ⟨s', hA⟩ : ∃ z, z = (T.setVm s.vm).setFrames (.invoking m args :: below) := ⟨_, rfl⟩
  rw [← hA] at Y
  have hvm : s'.vm = s.vm := by rw [hA]; rfl
  have hhp : s'.heap = H := by rw [hA]; exact hT
  have hW0 : s.WarmedH s'.vm := by rw [hvm]; exact State.WarmedH.refl s
  have hat' : ∀ w ∈ (nse_at own ic).filter vx_no, w.before args s' = true := fun w hw => vx_ot_at hW0 hvm.symm (hgood w (List.mem_cons_of_mem _ (List.mem_cons_of_mem _ hw))) (hat w hw)
  have hk' : (Cond.classLink own ik nseN).before args s' = true := vx_ot_at hW0 hvm.symm (hgood _ List.mem_cons_self) hk
  have hini' : (Cond.initialized nseN).before args s' = true := vx_ot_at hW0 hvm.symm (hgood _ (List.mem_cons_of_mem _ List.mem_cons_self)) hini
  have hU' : vx_Zq Bundle.tN "UNASSIGNED_STACK" Bundle.steD A s' s'.heap := by rw [hhp]; exact vx_Zq.moved hW0.alike (hU.kept hS.2.1)
  have hN' : vx_Zq Bundle.tN "SUPPRESSED_SENTINEL" Bundle.listD A s' s'.heap := by rw [hhp]; exact vx_Zq.moved hW0.alike (hN.kept hS.2.1)
  have h : ∀ w ∈ nse_at own ic, w.before args s' = true := vx_own hat' (vx_isRefq hU'.1) (vx_isRefq hN'.1) hU'.2.word hN'.2.word
  have hown' : s'.vm.findClass own = some m.cls := by rw [hvm]; exact hown
  have hins : (Cond.instantiable nseN 6).before args s' = true := h _ (by simp [nse_at])
  obtain ⟨vm₁, cX, kX, hfX, hkX, -, -, X₁, st1⟩ := Y.newCold hexec (own := own) (C := nseN) (index := ik) (n := 6) hown' hk' hins hini'
    (g := F0 m pc ls rest) rfl (by rw [hb]; exact d0) (Nat.le_refl _) (Nat.le_refl _)
  generalize hT1 : (T.setVm vm₁).pushCell { cls := cX, slots := kX.instanceTypes.map defaultValue, vm := .none } = T1 at X₁ st1
  have hcat : (Value.ref T.heap.size).category = 1 := rfl
  have hcellA : T1.heap[T.heap.size]? = some (freshCell cX kX) := by rw [← hT1]; exact State.heap_pushCell_size _ _
  have d3' : decode c.code (pc + 3) = .ok (.dup, 1) := by rw [hb]; exact d3
  have d4' : decode c.code (pc + 4) = .ok (.ldc is, 2) := by rw [hb]; exact d4
  have hstr' : vk_R own is text sa s' := vk_R.warm hW0 hstr
  obtain ⟨U, hsteps, hrun, hend, hW, hsame, ce, hce, hO1, hO2⟩ := nse_ctorThrow X₁ hexec htr (own := own) (ic := ic) hown' h (fun x hx => nomatch hx) hfX hkX hcellA (by rw [hhp, hT]; exact Nat.le_refl _) (msg := .ref sa) rfl
    (g := { method := m, pc := pc + 6, locals := ls, stack := .ref sa :: .ref T.heap.size :: .ref T.heap.size :: rest, locked := none }) rfl hsize rfl rfl (rest := rest) rfl
    (by rw [hb]; exact d6) (by rw [hb]; exact d9) hout hRframes (by simp only [List.map_cons, List.sum_cons, hcat]; omega) hlocks
  obtain ⟨f1, f2⟩ := vx_frame hsame
  rw [hhp] at f1 f2
  have hWs : s.WarmedH U.vm := State.WarmedH.trans hW0 hW
  have hcl : s.vm.findClass nseN = some ce.cls := by
    have h9 := hO1
    rw [hvm] at h9
    exact h9
  have hall : s.sameButNew ({ U with vm := s.vm } : State) locs mc ms := by
    subst hA
    obtain ⟨e1, e2⟩ := hsame
    rw [State.setFrames_setFrames] at e1
    have h2 : (T.setVm s.vm).sameButNew ({ U with vm := s.vm } : State) [] (0 + 1) (0 + 6) := ⟨e1, e2⟩
    have h3 := X.same.trans h2
    rw [List.append_nil] at h3
    exact h3.mono hc hs
  refine ⟨U, ?_, .threw T.heap.size, hrun, hend, Or.inr ⟨T.heap.size, rfl, nseN, ce, locs, hx U hWs.alike f1 (fun q hq => f2 q hq (fun z hz => nomatch hz)), hce, hO2, hcl, hWs, hall, hf⟩⟩
  refine st1 _ ?_
  show Steps p.tables e below (T1.setTop { method := m, pc := pc + 3, locals := ls, stack := .ref T.heap.size :: rest, locked := none }) _
  jvm_step X₁.here [X₁.here.top, hexec, d3', Value.category]
  exact X₁.ldcString hexec (own := own) (text := text) (index := is) (a := sa) hown' hstr'.1 hstr'.2
    (g := { method := m, pc := pc + 4, locals := ls, stack := .ref T.heap.size :: .ref T.heap.size :: rest, locked := none }) rfl d4' _ hsteps
theorem r_throwN {K : KT} {D : va_G} {z0 nL : Nat} {h : Hp} {kc ks pc : Nat} {L : List (Nat × Value)} {st : List Value} {cc : ByteArray} {own : String} {rm : Room} {Φ : Option Value → Hp → Prop} {Ψ : String → Hp → Prop} {mc ms : Nat} {ret : Option FieldType} (X : CX K D z0 cc nL own rm) (Y : EX K D z0 ret Φ Ψ mc ms) (Z : NT K) {ik is ic : Nat} {text : String}
    (d0 : decode cc pc = .ok (.new ik, 3)) (d3 : decode cc (pc + 3) = .ok (.dup, 1)) (d4 : decode cc (pc + 4) = .ok (.ldc is, 2)) (d6 : decode cc (pc + 6) = .ok (.invokespecial ic, 3)) (d9 : decode cc (pc + 9) = .ok (.athrow, 1))
    (k1 : Cond.classLink own ik nseN ∈ WS) (k2 : Cond.initialized nseN ∈ WS) (hs : (own, is, text) ∈ strs) (hat : ∀ w ∈ (nse_at own ic).filter vx_no, w ∈ WS ∨ (∃ q ∈ nwC, w = .castable q.1 q.2) ∨ (∃ q ∈ nwD, w = .declares q))
    (hw : (st.map fun v => v.category).sum ≤ 8) (hr : 6 ≤ rm.frames ∧ 90 ≤ rm.locals ∧ kc + 1 ≤ rm.cells ∧ ks + 6 ≤ rm.slots) (r1 : kc + 1 ≤ mc) (r2 : ks + 6 ≤ ms) (hq : Ψ nseN h) : WW K D z0 nL h kc ks pc L st := by
  obtain ⟨p, l, e, R, s, m, args, below, meth, c, Q⟩ := K
  obtain ⟨hx, hb, hml, hown, hts, hl, hlk, hF, hR⟩ := X
  obtain ⟨hret, rfl⟩ := Y
  subst hR
  obtain ⟨sa, hsa⟩ := hF.2.2.2.1 _ hs
  intro H locs cells slots ls h1 h2 h3 h4 h5
  have hat1 : ∀ w ∈ (nse_at own ic).filter vx_no, w.before args s = true := by
    intro w hw9
    rcases hat w hw9 with z | ⟨q, hq9, rfl⟩ | ⟨q, hq9, rfl⟩
    · exact hts w z
    · exact va_Nw.use rfl (hF.2.2.2.2.2.2.2.1 q hq9)
    · exact va_Nw.use rfl (hF.2.2.2.2.2.2.2.2 q hq9)
  have hot : ∀ w ∈ (nse_at own ic).filter vx_no, vx_ot w = true := by
    intro w hw9
    rcases hat w hw9 with z | ⟨q, hq9, rfl⟩ | ⟨q, hq9, rfl⟩
    · unfold vx_ot; rw [(List.mem_filter.mp z).2]; simp
    · rfl
    · rfl
  refine vx_throwN (A := Fr z0) hx hb hl hown (hts _ k1) (hts _ k2) hsa hat1 (fun w hw9 => ?_) hF.2.1 hF.2.2.1 h4 (by rw [hml]; exact h5.1) d0 d3 d4 d6 d9 (fun x hx9 => (Z x hx9).elim)
    (by show 2 + 3 < _; omega) (by show _ + (13 * (2 + 1) + 43) ≤ _; omega) (by omega) (by omega) hlk (fun t hvm hsz hk => ⟨⟨h, hq, Hd_grow h3 (fun q hq9 => hk q hq9)⟩, ?_⟩) h4.2.2 (by omega) (by omega)
  · rcases List.mem_cons.mp hw9 with rfl | hw9
    · rfl
    · rcases List.mem_cons.mp hw9 with rfl | hw9
      · rfl
      · exact hot w hw9
  · exact ⟨Nat.le_trans h4.1 hsz, fun q y1 y2 => (hk q (Nat.lt_of_lt_of_le y1 h4.1)).trans (h4.2.1 q y1 y2)⟩
end
