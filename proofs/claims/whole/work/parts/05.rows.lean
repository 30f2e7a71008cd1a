/-! MY LAYER over the kit: a heap that is tracked by a function of addresses, values that are whole numbers, one row an instruction -/
abbrev Hp : Type := Nat → Option va_E
def iv (a : Int) : Value := .int (Int32.ofInt a)
def jv (a : Int) : Value := .long (Int64.ofInt a)
abbrev I32 (a : Int) : Prop := -2147483648 ≤ a ∧ a < 2147483648
abbrev I64 (a : Int) : Prop := -9223372036854775808 ≤ a ∧ a < 9223372036854775808
abbrev cls4 : List vw_C := [(RX6, TX6, 6), (RX2, TX2, 2), (RX5, TX5, 5), (RX7, TX7, 14)]
abbrev tysD (D : va_G) : List (ClassId × FieldType) := [(D.1 100, .int), (D.1 101, .long), (D.1 102, .double), (D.1 103, .object RX5)]
/-- the cells that are tracked lie in the heap as told, none of them older than z0 -/
def Hd (D : va_G) (z0 : Nat) (h : Hp) (H : Heap) : Prop := ∀ (q : Nat) (e : va_E), h q = some e → z0 ≤ q ∧ va_at D cls4 (q, e) H
/-- the cells that a method may write -/
abbrev Fr (z0 : Nat) : Nat → Prop := fun q => z0 ≤ q
def strs : List (String × Nat × String) := [("Trigonyard", 282, "there is no such place"), ("Trigonyard", 46, "a side is out of range"), ("Trigonyard", 53, "a side is not less than the sum of the two others"), ("Trigonyard", 294, "none is held there"), ("Trigonyard", 284, "there is no such side"), ("Trigonyard", 81, "the number is out of range"), ("Trigonyard", 302, "a side would be above 65535"), ("Trigonyard", 102, "one of the two is not right"), ("Trigonyard", 107, "they have no leg of the same length"), ("Trigonyard", 119, "the area is no whole number"), ("Trigonyard", 121, "there is nothing such"), ("Trigonyard", 129, "the length is no whole number"), ("Trigonyard", 158, "m or n is out of range"), ("Trigonyard", 160, "there is no such how"), ("Trigonyard", 300, "it is not primitive"), ("Trigonyard", 181, "3, 4, 5 comes of none"), ("Trigonyard", 201, "there is no such which"), ("Trigonyard", 207, "there is no such way"), ("Trigonyard", 288, "the bound is out of range"), ("Trigonyard", 221, "there is no such number"), ("Trigonyard", 290, "the length is out of range"), ("Trigonyard", 238, "there is no such by"), ("Trigonyard", 244, "there is none"), ("Trigonyard", 262, "one is out of range")]
def ncs : List (String × String) := [("Trigonyard", "java/lang/IndexOutOfBoundsException"), ("Trigonyard$Primitives", "java/lang/IndexOutOfBoundsException"), ("TrigonyardModel", "java/lang/IndexOutOfBoundsException"), ("java/lang/IllegalArgumentException", "java/lang/IndexOutOfBoundsException"), ("java/lang/IllegalStateException", "java/lang/IndexOutOfBoundsException"), ("Trigonyard$Triangle", "java/lang/IndexOutOfBoundsException"), ("java/util/NoSuchElementException", "java/lang/IndexOutOfBoundsException"), ("Trigonyard", "java/lang/IllegalArgumentException"), ("Trigonyard$Primitives", "java/lang/IllegalArgumentException"), ("TrigonyardModel", "java/lang/IllegalArgumentException"), ("java/lang/IndexOutOfBoundsException", "java/lang/IllegalArgumentException"), ("java/lang/IllegalStateException", "java/lang/IllegalArgumentException"), ("Trigonyard$Triangle", "java/lang/IllegalArgumentException"), ("java/util/NoSuchElementException", "java/lang/IllegalArgumentException"), ("Trigonyard", "java/lang/IllegalStateException"), ("Trigonyard$Primitives", "java/lang/IllegalStateException"), ("TrigonyardModel", "java/lang/IllegalStateException"), ("java/lang/IndexOutOfBoundsException", "java/lang/IllegalStateException"), ("java/lang/IllegalArgumentException", "java/lang/IllegalStateException"), ("Trigonyard$Triangle", "java/lang/IllegalStateException"), ("java/util/NoSuchElementException", "java/lang/IllegalStateException"), ("Trigonyard", "java/util/NoSuchElementException"), ("Trigonyard$Primitives", "java/util/NoSuchElementException"), ("TrigonyardModel", "java/util/NoSuchElementException"), ("java/lang/IndexOutOfBoundsException", "java/util/NoSuchElementException"), ("java/lang/IllegalArgumentException", "java/util/NoSuchElementException"), ("java/lang/IllegalStateException", "java/util/NoSuchElementException"), ("Trigonyard$Triangle", "java/util/NoSuchElementException")]
def nwC : List (String × String) := [("java/lang/IndexOutOfBoundsException", "java/lang/IndexOutOfBoundsException"), ("java/lang/IllegalArgumentException", "java/lang/IllegalArgumentException"), ("java/lang/IllegalStateException", "java/lang/IllegalStateException"), ("java/util/NoSuchElementException", "java/util/NoSuchElementException"), ("Trigonyard", "java/lang/Object"), ("Trigonyard$Primitives", "java/lang/Object"), ("TrigonyardModel", "java/lang/Object"), ("java/lang/IndexOutOfBoundsException", "java/lang/Object"), ("java/lang/IllegalArgumentException", "java/lang/Object"), ("java/lang/IllegalStateException", "java/lang/Object"), ("Trigonyard$Triangle", "java/lang/Object"), ("java/util/NoSuchElementException", "java/lang/Object"), ("java/lang/Throwable", "java/lang/Object"), ("java/lang/String", "java/lang/Object")]
def nwD : List MethodName := [⟨"java/lang/RuntimeException", "<init>", "()V"⟩, ⟨"java/lang/RuntimeException", "<init>", "(Ljava/lang/String;)V"⟩, ⟨"java/lang/Exception", "<init>", "()V"⟩, ⟨"java/lang/Exception", "<init>", "(Ljava/lang/String;)V"⟩, ⟨"java/lang/Throwable", "<init>", "()V"⟩, ⟨"java/lang/Throwable", "<init>", "(Ljava/lang/String;)V"⟩]
/-- what never changes -/
def Fx (D : va_G) (z0 : Nat) (U : State) : Prop :=
  va_K D cls4 (tysD D) U ∧ vx_Zq Bundle.tN "UNASSIGNED_STACK" Bundle.steD (Fr z0) U U.heap ∧ vx_Zq Bundle.tN "SUPPRESSED_SENTINEL" Bundle.listD (Fr z0) U U.heap ∧
  (∀ q ∈ strs, ∃ sa, vk_R q.1 q.2.1 q.2.2 sa U) ∧ (∀ q ∈ ncs, va_Nc q.1 q.2 U) ∧ va_AO RX5 U ∧ z0 ≤ U.heap.size ∧ (∀ q ∈ nwC, va_Nw (.castable q.1 q.2) U) ∧ (∀ q ∈ nwD, va_Nw (.declares q) U)
theorem Nc_moved {C T : String} {u U : State} (hvm : u.vm.Alike U.vm) (h : va_Nc C T u) : va_Nc C T U := by
  first
    | exact va_Nc.moved hvm h
    | (obtain ⟨c, t, h1, h2, h3⟩ := h
       exact ⟨c, t, by rw [hvm.findClass]; exact h1, by rw [hvm.findClass]; exact h2, by rw [← hvm.assignable]; exact h3⟩)
theorem Fx_call {D : va_G} {z0 : Nat} {s U : State} {H : Heap} {locs : List Loc} (h : Fx D z0 s) (hS : va_S (Fr z0) s.heap H locs) (hU : U.heap = H) (hW : s.WarmedH U.vm) : Fx D z0 U := by
  obtain ⟨h1, h2, h3, h4, h5, h6, h7, h8, h9⟩ := h
  refine ⟨va_K.moved hW.alike h1, ?_, ?_, fun q hq => ?_, fun q hq => Nc_moved hW.alike (h5 q hq), va_AO.moved hW.alike h6, ?_, fun q hq => va_Nw.warmC hW (h8 q hq), fun q hq => va_Nw.warmD hW (h9 q hq)⟩
  · rw [hU]; exact vx_Zq.moved hW.alike (vx_Zq.kept h2 hS.2.1)
  · rw [hU]; exact vx_Zq.moved hW.alike (vx_Zq.kept h3 hS.2.1)
  · obtain ⟨sa, hsa⟩ := h4 q hq
    exact ⟨sa, vk_R.warm hW hsa⟩
  · rw [hU]; exact Nat.le_trans h7 hS.1
theorem Fx_calling {D : va_G} {z0 : Nat} {U : State} (h : Fx D z0 U) (g : JFrame) (mk : MethodId) (a : Array Value) : Fx D z0 (U.calling g mk a) := by
  obtain ⟨h1, h2, h3, h4, h5, h6, h7, h8, h9⟩ := h
  refine ⟨va_K.moved (u := U) (U := U.calling g mk a) (Vm.Alike.refl U.vm) h1, vx_Zq.moved (u := U) (U := U.calling g mk a) (Vm.Alike.refl U.vm) h2, vx_Zq.moved (u := U) (U := U.calling g mk a) (Vm.Alike.refl U.vm) h3, fun q hq => ?_, fun q hq => Nc_moved (u := U) (U := U.calling g mk a) (Vm.Alike.refl U.vm) (h5 q hq), va_AO.moved (u := U) (U := U.calling g mk a) (Vm.Alike.refl U.vm) h6, h7, fun q hq => va_Nw.same (u := U) (U := U.calling g mk a) rfl rfl (h8 q hq), fun q hq => va_Nw.same (u := U) (U := U.calling g mk a) rfl rfl (h9 q hq)⟩
  obtain ⟨sa, hsa⟩ := h4 q hq
  exact ⟨sa, vk_R.same (u := U) (U := U.calling g mk a) rfl hsa⟩
/-- a method's start -/
def Pw (D : va_G) (z0 : Nat) (h : Hp) (U : State) : Prop := Hd D z0 h U.heap ∧ Fx D z0 U
/-- its end: an answer, or what is thrown, and the tracked heap behind it -/
def QQ (D : va_G) (z0 : Nat) (Φ : Option Value → Hp → Prop) : Array Value → State → Outcome → State → Prop := fun _ st o t => (∃ (v : Option Value) (h' : Hp), o = .returned v ∧ Φ v h' ∧ Hd D z0 h' t.heap) ∧ va_F (Fr z0) st t
def XX (D : va_G) (z0 : Nat) (Ψ : String → Hp → Prop) : String → State → State → Prop := fun E st t => (∃ h' : Hp, Ψ E h' ∧ Hd D z0 h' t.heap) ∧ va_F (Fr z0) st t
/-- a CONTRACT -/
def CC (l : Launch) (y : MethodName) (cc : ByteArray) (nL : Nat) (ret : Option FieldType) (rm : Room) (D : va_G) (z0 : Nat) (h : Hp) (As : List Value) (Φ : Option Value → Hp → Prop) (Ψ : String → Hp → Prop) : Prop :=
  vx_Met l y (Cond.code y cc nL ret :: WS) rm (va_Pc As (Pw D z0 h)) (QQ D z0 Φ) (XX D z0 Ψ) rm.cells rm.slots (Fr z0)
/-- where a method stands -/
abbrev KT : Type := Program × Launch × Env × Room × State × MethodId × Array Value × List Frame × Method × Code × (State → Prop)
def CX : KT → va_G → Nat → ByteArray → Nat → String → Room → Prop
  | (p, l, _, R, s, m, args, _, meth, c, _), D, z0, cc, nL, own, rm => p.tables.exec = Jvm.exec ∧ c.code = cc ∧ c.maxLocals = nL ∧ s.vm.findClass own = some m.cls ∧ (∀ w ∈ WS, w.before args s = true) ∧ l.stackTraces = false ∧ meth.locks = false ∧ Fx D z0 s ∧ R = rm
def EX : KT → va_G → Nat → Option FieldType → (Option Value → Hp → Prop) → (String → Hp → Prop) → Nat → Nat → Prop
  | (_, _, _, _, s, _, args, below, meth, _, Q), D, z0, ret, Φ, Ψ, mc, ms => meth.sig.returnType = ret ∧ Q = vx_MQ below (QQ D z0 Φ) (XX D z0 Ψ) args s mc ms (Fr z0)
def MN : KT → String → Prop
  | (_, _, _, _, _, _, _, _, meth, _, _), nm => meth.name = nm
def NT : KT → Prop
  | (_, _, _, _, _, _, _, _, _, c, _) => ∀ x ∈ c.exceptionTable.toList, False
/-- the machine, from here on, comes to its end as it should -/
def WW : KT → va_G → Nat → Nat → Hp → Nat → Nat → Nat → List (Nat × Value) → List Value → Prop
  | (p, l, e, R, s, m, args, below, meth, c, Q), D, z0, nL, h, kc, ks, pc, L, st => ∀ (H : Heap) (locs : List Loc) (cells slots : Nat) (ls : Array Slot), cells ≤ kc → slots ≤ ks → Hd D z0 h H → va_S (Fr z0) s.heap H locs → lv_has ls nL L → W p l e R s m args below meth c H locs cells slots Q (F0 m pc ls st)
theorem CC_of {l : Launch} {y : MethodName} {cc : ByteArray} {nL : Nat} {ret : Option FieldType} {rm : Room} {D : va_G} {z0 : Nat} {h : Hp} {As : List Value} {Φ : Option Value → Hp → Prop} {Ψ : String → Hp → Prop}
    (own : String) (hl : l.stackTraces = false) (hy : plainName y.cls = true) (ho : y.cls = own) (hn : (lg_sl As).length ≤ nL)
    (body : ∀ K : KT, CX K D z0 cc nL own rm → EX K D z0 ret Φ Ψ rm.cells rm.slots → NT K → MN K y.name → K.2.1 = l → WW K D z0 nL h 0 0 0 (lv_args 0 As) []) : CC l y cc nL ret rm D z0 h As Φ Ψ := by
  subst ho
  refine vx_ofW (cc := cc) (maxL := nL) (ret := ret) hy rfl ?_
  intro p e s m args below meth c s₁ B hml ht hv
  obtain ⟨rfl, hH, hF⟩ := hv
  have hts : ∀ w ∈ WS, w.before As.toArray s = true := fun w hw => atoms_spec (ws := Cond.code y cc nL ret :: WS) B.pre w (List.mem_cons_of_mem _ hw)
  have key := body (p, l, e, rm, s, m, As.toArray, below, meth, c, vx_MQ below (QQ D z0 Φ) (XX D z0 Ψ) As.toArray s rm.cells rm.slots (Fr z0))
    ⟨B.exec, B.bytes, hml, findClass_of_methodNamed B.named, hts, hl, B.notSynchronized, hF, rfl⟩ ⟨B.returns, rfl⟩ ht (name_of_methodNamed B.named B.method).1 rfl
  rw [lg_entry_eq]
  exact key s.heap [] 0 0 _ (Nat.le_refl 0) (Nat.le_refl 0) hH va_S.rf (lv_entry As hn)
theorem WW_h {K : KT} {D : va_G} {z0 nL : Nat} {h h' : Hp} {kc ks pc : Nat} {L : List (Nat × Value)} {st : List Value} (e : h = h') (k : WW K D z0 nL h' kc ks pc L st) : WW K D z0 nL h kc ks pc L st := e ▸ k
theorem WW_sub {K : KT} {D : va_G} {z0 nL : Nat} {h : Hp} {kc ks pc : Nat} {L L' : List (Nat × Value)} {st : List Value} (ps : List Nat) (e : lv_pick L ps = L') (k : WW K D z0 nL h kc ks pc L' st) : WW K D z0 nL h kc ks pc L st := by
  obtain ⟨p, l, e', R, s, m, args, below, meth, c, Q⟩ := K
  intro H locs cells slots ls h1 h2 h3 h4 h5
  exact k H locs cells slots ls h1 h2 h3 h4 (lv_sub h5 ps e)
theorem WW_room {K : KT} {D : va_G} {z0 nL : Nat} {h : Hp} {kc ks kc' ks' pc : Nat} {L : List (Nat × Value)} {st : List Value} (e1 : kc ≤ kc') (e2 : ks ≤ ks') (k : WW K D z0 nL h kc' ks' pc L st) : WW K D z0 nL h kc ks pc L st := by
  obtain ⟨p, l, e', R, s, m, args, below, meth, c, Q⟩ := K
  intro H locs cells slots ls h1 h2 h3 h4 h5
  exact k H locs cells slots ls (Nat.le_trans h1 e1) (Nat.le_trans h2 e2) h3 h4 h5
/-! whole numbers and the machine's -/
theorem i32_toInt {a : Int} (h : I32 a) : (Int32.ofInt a).toInt = a := Int32.toInt_ofInt_of_le (by have := h.1; omega) (by have := h.2; omega)
theorem i64_toInt {a : Int} (h : I64 a) : (Int64.ofInt a).toInt = a := Int64.toInt_ofInt_of_le (by have := h.1; omega) (by have := h.2; omega)
theorem i32_lt {a b : Int} (ha : I32 a) (hb : I32 b) : Int32.ofInt a < Int32.ofInt b ↔ a < b := by rw [Int32.lt_iff_toInt_lt, i32_toInt ha, i32_toInt hb]
theorem i32_le {a b : Int} (ha : I32 a) (hb : I32 b) : Int32.ofInt a ≤ Int32.ofInt b ↔ a ≤ b := by rw [Int32.le_iff_toInt_le, i32_toInt ha, i32_toInt hb]
theorem i32_eq {a b : Int} (ha : I32 a) (hb : I32 b) : Int32.ofInt a = Int32.ofInt b ↔ a = b := by rw [← Int32.toInt_inj, i32_toInt ha, i32_toInt hb]
theorem i64_lt {a b : Int} (ha : I64 a) (hb : I64 b) : Int64.ofInt a < Int64.ofInt b ↔ a < b := by rw [Int64.lt_iff_toInt_lt, i64_toInt ha, i64_toInt hb]
theorem i64_le {a b : Int} (ha : I64 a) (hb : I64 b) : Int64.ofInt a ≤ Int64.ofInt b ↔ a ≤ b := by rw [Int64.le_iff_toInt_le, i64_toInt ha, i64_toInt hb]
theorem i64_eq {a b : Int} (ha : I64 a) (hb : I64 b) : Int64.ofInt a = Int64.ofInt b ↔ a = b := by rw [← Int64.toInt_inj, i64_toInt ha, i64_toInt hb]
theorem i32_zero : (0 : Int32) = Int32.ofInt 0 := rfl
theorem i32_of (x : Int32) : ∃ a : Int, I32 a ∧ x = Int32.ofInt a := ⟨x.toInt, ⟨Int32.le_toInt x, Int32.toInt_lt x⟩, (Int32.ofInt_toInt x).symm⟩
theorem i64_of_32 {a : Int} (h : I32 a) : (Int32.ofInt a).toInt64 = Int64.ofInt a := by
  rw [← Int64.toInt_inj, Int32.toInt_toInt64, i32_toInt h, i64_toInt ⟨by have := h.1; omega, by have := h.2; omega⟩]
theorem i32_of_64 (a : Int) : (Int64.ofInt a).toInt32 = Int32.ofInt a := by simp
theorem i64_neg1 {a b : Int} (ha : I64 a) (hb : I64 b) : (lg_cmp (Int64.ofInt a) (Int64.ofInt b) = 1 ∧ b < a) ∨ (lg_cmp (Int64.ofInt a) (Int64.ofInt b) = 0 ∧ a = b) ∨ (lg_cmp (Int64.ofInt a) (Int64.ofInt b) = -1 ∧ a < b) := by
  unfold lg_cmp
  by_cases h1 : b < a
  · refine Or.inl ⟨?_, h1⟩
    rw [if_pos ((i64_lt hb ha).mpr h1)]
  · rw [if_neg (fun z => h1 ((i64_lt hb ha).mp z))]
    by_cases h2 : a = b
    · refine Or.inr (Or.inl ⟨?_, h2⟩)
      rw [if_pos (by rw [h2])]
    · refine Or.inr (Or.inr ⟨?_, by omega⟩)
      rw [if_neg (fun z => h2 ((i64_eq ha hb).mp z))]
theorem i32_div {a b : Int} (ha : 0 ≤ a ∧ a < 2147483648) (hb : 0 < b ∧ b < 2147483648) : Int32.ofInt a / Int32.ofInt b = Int32.ofInt (a / b) := by
  have h1 := Int.ediv_le_self b ha.1
  have h2 := Int.ediv_nonneg ha.1 (Int.le_of_lt hb.1)
  rw [← Int32.toInt_inj, Int32.toInt_div_of_ne_right _ _ (fun z => by rw [← Int32.toInt_inj, i32_toInt ⟨by omega, by omega⟩] at z; have : (-1 : Int32).toInt = -1 := rfl; omega),
    i32_toInt ⟨by omega, by omega⟩, i32_toInt ⟨by omega, by omega⟩, i32_toInt ⟨by omega, by omega⟩, Int.tdiv_eq_ediv_of_nonneg ha.1]
theorem i64_div {a b : Int} (ha : 0 ≤ a ∧ a < 9223372036854775808) (hb : 0 < b ∧ b < 9223372036854775808) : Int64.ofInt a / Int64.ofInt b = Int64.ofInt (a / b) := by
  have h1 := Int.ediv_le_self b ha.1
  have h2 := Int.ediv_nonneg ha.1 (Int.le_of_lt hb.1)
  rw [← Int64.toInt_inj, Int64.toInt_div_of_ne_right _ _ (fun z => by rw [← Int64.toInt_inj, i64_toInt ⟨by omega, by omega⟩] at z; have : (-1 : Int64).toInt = -1 := rfl; omega),
    i64_toInt ⟨by omega, by omega⟩, i64_toInt ⟨by omega, by omega⟩, i64_toInt ⟨by omega, by omega⟩, Int.tdiv_eq_ediv_of_nonneg ha.1]
theorem i32_rem {a b : Int} (ha : 0 ≤ a ∧ a < 2147483648) (hb : 0 < b ∧ b < 2147483648) : Int32.ofInt a - Int32.ofInt a / Int32.ofInt b * Int32.ofInt b = Int32.ofInt (a % b) := by
  rw [i32_div ha hb, ← Int32.ofInt_mul, ← Int32.ofInt_sub, Int.emod_def, Int.mul_comm]
theorem i64_rem {a b : Int} (ha : 0 ≤ a ∧ a < 9223372036854775808) (hb : 0 < b ∧ b < 9223372036854775808) : Int64.ofInt a - Int64.ofInt a / Int64.ofInt b * Int64.ofInt b = Int64.ofInt (a % b) := by
  rw [i64_div ha hb, ← Int64.ofInt_mul, ← Int64.ofInt_sub, Int.emod_def, Int.mul_comm]
theorem i32_ne0 {b : Int} (hb : 0 < b ∧ b < 2147483648) : ¬ Int32.ofInt b = 0 := fun z => by
  have := (i32_eq (a := b) (b := 0) ⟨by omega, by omega⟩ ⟨by omega, by omega⟩).mp z
  omega
theorem i64_ne0 {b : Int} (hb : 0 < b ∧ b < 9223372036854775808) : ¬ Int64.ofInt b = 0 := fun z => by
  have := (i64_eq (a := b) (b := 0) ⟨by omega, by omega⟩ ⟨by omega, by omega⟩).mp z
  omega
section Rows1
variable {K : KT} {D : va_G} {z0 nL : Nat} {h : Hp} {kc ks pc : Nat} {L : List (Nat × Value)} {st : List Value} {cc : ByteArray} {own : String} {rm : Room}
theorem r_iconst {n : Int} (X : CX K D z0 cc nL own rm) (d : decode cc pc = .ok (.iconst n, 1)) (k : WW K D z0 nL h kc ks (pc + 1) L (iv n :: st)) : WW K D z0 nL h kc ks pc L st := by
  obtain ⟨p, l, e, R, s, m, args, below, meth, c, Q⟩ := K
  obtain ⟨hx, hb, hml, hown, hts, hl, hlk, hF, hR⟩ := X
  intro H locs cells slots ls h1 h2 h3 h4 h5
  exact lv_iconst hx hb d rfl (k H locs cells slots ls h1 h2 h3 h4 h5)
theorem r_bipush {n : Int} (X : CX K D z0 cc nL own rm) (d : decode cc pc = .ok (.bipush n, 2)) (hn : (Int8.ofInt n).toInt32 = Int32.ofInt n) (k : WW K D z0 nL h kc ks (pc + 2) L (iv n :: st)) : WW K D z0 nL h kc ks pc L st := by
  obtain ⟨p, l, e, R, s, m, args, below, meth, c, Q⟩ := K
  obtain ⟨hx, hb, hml, hown, hts, hl, hlk, hF, hR⟩ := X
  intro H locs cells slots ls h1 h2 h3 h4 h5
  exact lv_bipush hx hb d hn (k H locs cells slots ls h1 h2 h3 h4 h5)
theorem r_sipush {n : Int} (X : CX K D z0 cc nL own rm) (d : decode cc pc = .ok (.sipush n, 3)) (hn : (Int16.ofInt n).toInt32 = Int32.ofInt n) (k : WW K D z0 nL h kc ks (pc + 3) L (iv n :: st)) : WW K D z0 nL h kc ks pc L st := by
  obtain ⟨p, l, e, R, s, m, args, below, meth, c, Q⟩ := K
  obtain ⟨hx, hb, hml, hown, hts, hl, hlk, hF, hR⟩ := X
  intro H locs cells slots ls h1 h2 h3 h4 h5
  exact lv_sipush hx hb d hn (k H locs cells slots ls h1 h2 h3 h4 h5)
theorem r_lconst {n : Fin 2} (a : Int) (X : CX K D z0 cc nL own rm) (d : decode cc pc = .ok (.lconst n, 1)) (ha : Int64.ofNat (n : Nat) = Int64.ofInt a) (k : WW K D z0 nL h kc ks (pc + 1) L (jv a :: st)) : WW K D z0 nL h kc ks pc L st := by
  obtain ⟨p, l, e, R, s, m, args, below, meth, c, Q⟩ := K
  obtain ⟨hx, hb, hml, hown, hts, hl, hlk, hF, hR⟩ := X
  intro H locs cells slots ls h1 h2 h3 h4 h5
  exact lv_lconst hx hb d ha (k H locs cells slots ls h1 h2 h3 h4 h5)
theorem r_dconst0 (X : CX K D z0 cc nL own rm) (d : decode cc pc = .ok (.dconst 0, 1)) (k : WW K D z0 nL h kc ks (pc + 1) L (.double FP.dconst0 :: st)) : WW K D z0 nL h kc ks pc L st := by
  obtain ⟨p, l, e, R, s, m, args, below, meth, c, Q⟩ := K
  obtain ⟨hx, hb, hml, hown, hts, hl, hlk, hF, hR⟩ := X
  intro H locs cells slots ls h1 h2 h3 h4 h5
  exact lv_dconst0 hx hb d (k H locs cells slots ls h1 h2 h3 h4 h5)
theorem r_fconst0 (X : CX K D z0 cc nL own rm) (d : decode cc pc = .ok (.fconst 0, 1)) (k : WW K D z0 nL h kc ks (pc + 1) L (.float FP.fconst0 :: st)) : WW K D z0 nL h kc ks pc L st := by
  obtain ⟨p, l, e, R, s, m, args, below, meth, c, Q⟩ := K
  obtain ⟨hx, hb, hml, hown, hts, hl, hlk, hF, hR⟩ := X
  intro H locs cells slots ls h1 h2 h3 h4 h5
  exact lv_fconst0 hx hb d (k H locs cells slots ls h1 h2 h3 h4 h5)
theorem r_null (X : CX K D z0 cc nL own rm) (d : decode cc pc = .ok (.aconst_null, 1)) (k : WW K D z0 nL h kc ks (pc + 1) L (.null :: st)) : WW K D z0 nL h kc ks pc L st := by
  obtain ⟨p, l, e, R, s, m, args, below, meth, c, Q⟩ := K
  obtain ⟨hx, hb, hml, hown, hts, hl, hlk, hF, hR⟩ := X
  intro H locs cells slots ls h1 h2 h3 h4 h5
  exact lv_null hx hb d (k H locs cells slots ls h1 h2 h3 h4 h5)
theorem r_ldc {i : Nat} {v : Int32} (a : Int) (X : CX K D z0 cc nL own rm) (d : decode cc pc = .ok (.ldc i, 2)) (hc : Cond.constant own i v ∈ WS) (ha : v = Int32.ofInt a) (k : WW K D z0 nL h kc ks (pc + 2) L (iv a :: st)) : WW K D z0 nL h kc ks pc L st := by
  obtain ⟨p, l, e, R, s, m, args, below, meth, c, Q⟩ := K
  obtain ⟨hx, hb, hml, hown, hts, hl, hlk, hF, hR⟩ := X
  intro H locs cells slots ls h1 h2 h3 h4 h5
  subst ha
  exact lv_ldc hx hb hown (hts _ hc) d (k H locs cells slots ls h1 h2 h3 h4 h5)
theorem r_ldcw {i : Nat} {v : Int32} (a : Int) (X : CX K D z0 cc nL own rm) (d : decode cc pc = .ok (.ldc_w i, 3)) (hc : Cond.constant own i v ∈ WS) (ha : v = Int32.ofInt a) (k : WW K D z0 nL h kc ks (pc + 3) L (iv a :: st)) : WW K D z0 nL h kc ks pc L st := by
  obtain ⟨p, l, e, R, s, m, args, below, meth, c, Q⟩ := K
  obtain ⟨hx, hb, hml, hown, hts, hl, hlk, hF, hR⟩ := X
  intro H locs cells slots ls h1 h2 h3 h4 h5
  subst ha
  exact lv_ldcw hx hb hown (hts _ hc) d (k H locs cells slots ls h1 h2 h3 h4 h5)
theorem r_ldc2 {i : Nat} {v : Int64} (a : Int) (X : CX K D z0 cc nL own rm) (d : decode cc pc = .ok (.ldc2_w i, 3)) (hc : Cond.constantLong own i v ∈ WS) (ha : v = Int64.ofInt a) (k : WW K D z0 nL h kc ks (pc + 3) L (jv a :: st)) : WW K D z0 nL h kc ks pc L st := by
  obtain ⟨p, l, e, R, s, m, args, below, meth, c, Q⟩ := K
  obtain ⟨hx, hb, hml, hown, hts, hl, hlk, hF, hR⟩ := X
  intro H locs cells slots ls h1 h2 h3 h4 h5
  subst ha
  exact lv_ldc2 hx hb hown (hts _ hc) d (k H locs cells slots ls h1 h2 h3 h4 h5)
theorem r_ldc2d {i : Nat} {v : UInt64} (X : CX K D z0 cc nL own rm) (d : decode cc pc = .ok (.ldc2_w i, 3)) (hc : Cond.constantDouble own i v ∈ WS) (k : WW K D z0 nL h kc ks (pc + 3) L (.double v :: st)) : WW K D z0 nL h kc ks pc L st := by
  obtain ⟨p, l, e, R, s, m, args, below, meth, c, Q⟩ := K
  obtain ⟨hx, hb, hml, hown, hts, hl, hlk, hF, hR⟩ := X
  intro H locs cells slots ls h1 h2 h3 h4 h5
  exact lv_ldc2d hx hb hown (hts _ hc) d (k H locs cells slots ls h1 h2 h3 h4 h5)
theorem r_iload_n {j : Fin 4} {a : Int} (i : Nat) (X : CX K D z0 cc nL own rm) (d : decode cc pc = .ok (.iload_n j, 1)) (hk : L[i]? = some ((j : Nat), iv a)) (k : WW K D z0 nL h kc ks (pc + 1) L (iv a :: st)) : WW K D z0 nL h kc ks pc L st := by
  obtain ⟨p, l, e, R, s, m, args, below, meth, c, Q⟩ := K
  obtain ⟨hx, hb, hml, hown, hts, hl, hlk, hF, hR⟩ := X
  intro H locs cells slots ls h1 h2 h3 h4 h5
  exact lv_iload_n hx hb d rfl (lv_at h5 i hk) (k H locs cells slots ls h1 h2 h3 h4 h5)
theorem r_iload {j : Nat} {a : Int} (i : Nat) (X : CX K D z0 cc nL own rm) (d : decode cc pc = .ok (.iload j, 2)) (hk : L[i]? = some (j, iv a)) (k : WW K D z0 nL h kc ks (pc + 2) L (iv a :: st)) : WW K D z0 nL h kc ks pc L st := by
  obtain ⟨p, l, e, R, s, m, args, below, meth, c, Q⟩ := K
  obtain ⟨hx, hb, hml, hown, hts, hl, hlk, hF, hR⟩ := X
  intro H locs cells slots ls h1 h2 h3 h4 h5
  exact lv_iload hx hb d (lv_at h5 i hk) (k H locs cells slots ls h1 h2 h3 h4 h5)
theorem r_lload_n {j : Fin 4} {a : Int} (i : Nat) (X : CX K D z0 cc nL own rm) (d : decode cc pc = .ok (.lload_n j, 1)) (hk : L[i]? = some ((j : Nat), jv a)) (k : WW K D z0 nL h kc ks (pc + 1) L (jv a :: st)) : WW K D z0 nL h kc ks pc L st := by
  obtain ⟨p, l, e, R, s, m, args, below, meth, c, Q⟩ := K
  obtain ⟨hx, hb, hml, hown, hts, hl, hlk, hF, hR⟩ := X
  intro H locs cells slots ls h1 h2 h3 h4 h5
  exact lv_lload_n hx hb d rfl (lv_at h5 i hk) (k H locs cells slots ls h1 h2 h3 h4 h5)
theorem r_lload {j : Nat} {a : Int} (i : Nat) (X : CX K D z0 cc nL own rm) (d : decode cc pc = .ok (.lload j, 2)) (hk : L[i]? = some (j, jv a)) (k : WW K D z0 nL h kc ks (pc + 2) L (jv a :: st)) : WW K D z0 nL h kc ks pc L st := by
  obtain ⟨p, l, e, R, s, m, args, below, meth, c, Q⟩ := K
  obtain ⟨hx, hb, hml, hown, hts, hl, hlk, hF, hR⟩ := X
  intro H locs cells slots ls h1 h2 h3 h4 h5
  exact lv_lload hx hb d (lv_at h5 i hk) (k H locs cells slots ls h1 h2 h3 h4 h5)
theorem r_dload_n {j : Fin 4} {a : UInt64} (i : Nat) (X : CX K D z0 cc nL own rm) (d : decode cc pc = .ok (.dload_n j, 1)) (hk : L[i]? = some ((j : Nat), .double a)) (k : WW K D z0 nL h kc ks (pc + 1) L (.double a :: st)) : WW K D z0 nL h kc ks pc L st := by
  obtain ⟨p, l, e, R, s, m, args, below, meth, c, Q⟩ := K
  obtain ⟨hx, hb, hml, hown, hts, hl, hlk, hF, hR⟩ := X
  intro H locs cells slots ls h1 h2 h3 h4 h5
  exact lv_dload_n hx hb d rfl (lv_at h5 i hk) (k H locs cells slots ls h1 h2 h3 h4 h5)
theorem r_dload {j : Nat} {a : UInt64} (i : Nat) (X : CX K D z0 cc nL own rm) (d : decode cc pc = .ok (.dload j, 2)) (hk : L[i]? = some (j, .double a)) (k : WW K D z0 nL h kc ks (pc + 2) L (.double a :: st)) : WW K D z0 nL h kc ks pc L st := by
  obtain ⟨p, l, e, R, s, m, args, below, meth, c, Q⟩ := K
  obtain ⟨hx, hb, hml, hown, hts, hl, hlk, hF, hR⟩ := X
  intro H locs cells slots ls h1 h2 h3 h4 h5
  exact lv_dload hx hb d (lv_at h5 i hk) (k H locs cells slots ls h1 h2 h3 h4 h5)
theorem r_fload_n {j : Fin 4} {a : UInt32} (i : Nat) (X : CX K D z0 cc nL own rm) (d : decode cc pc = .ok (.fload_n j, 1)) (hk : L[i]? = some ((j : Nat), .float a)) (k : WW K D z0 nL h kc ks (pc + 1) L (.float a :: st)) : WW K D z0 nL h kc ks pc L st := by
  obtain ⟨p, l, e, R, s, m, args, below, meth, c, Q⟩ := K
  obtain ⟨hx, hb, hml, hown, hts, hl, hlk, hF, hR⟩ := X
  intro H locs cells slots ls h1 h2 h3 h4 h5
  exact lv_fload_n hx hb d rfl (lv_at h5 i hk) (k H locs cells slots ls h1 h2 h3 h4 h5)
theorem r_fload {j : Nat} {a : UInt32} (i : Nat) (X : CX K D z0 cc nL own rm) (d : decode cc pc = .ok (.fload j, 2)) (hk : L[i]? = some (j, .float a)) (k : WW K D z0 nL h kc ks (pc + 2) L (.float a :: st)) : WW K D z0 nL h kc ks pc L st := by
  obtain ⟨p, l, e, R, s, m, args, below, meth, c, Q⟩ := K
  obtain ⟨hx, hb, hml, hown, hts, hl, hlk, hF, hR⟩ := X
  intro H locs cells slots ls h1 h2 h3 h4 h5
  exact lv_fload hx hb d (lv_at h5 i hk) (k H locs cells slots ls h1 h2 h3 h4 h5)
theorem r_aload_n {j : Fin 4} {a : Nat} (i : Nat) (X : CX K D z0 cc nL own rm) (d : decode cc pc = .ok (.aload_n j, 1)) (hk : L[i]? = some ((j : Nat), .ref a)) (k : WW K D z0 nL h kc ks (pc + 1) L (.ref a :: st)) : WW K D z0 nL h kc ks pc L st := by
  obtain ⟨p, l, e, R, s, m, args, below, meth, c, Q⟩ := K
  obtain ⟨hx, hb, hml, hown, hts, hl, hlk, hF, hR⟩ := X
  intro H locs cells slots ls h1 h2 h3 h4 h5
  exact lv_aload_n hx hb d rfl (lv_at h5 i hk) (k H locs cells slots ls h1 h2 h3 h4 h5)
theorem r_aload {j : Nat} {a : Nat} (i : Nat) (X : CX K D z0 cc nL own rm) (d : decode cc pc = .ok (.aload j, 2)) (hk : L[i]? = some (j, .ref a)) (k : WW K D z0 nL h kc ks (pc + 2) L (.ref a :: st)) : WW K D z0 nL h kc ks pc L st := by
  obtain ⟨p, l, e, R, s, m, args, below, meth, c, Q⟩ := K
  obtain ⟨hx, hb, hml, hown, hts, hl, hlk, hF, hR⟩ := X
  intro H locs cells slots ls h1 h2 h3 h4 h5
  exact lv_aload hx hb d (lv_at h5 i hk) (k H locs cells slots ls h1 h2 h3 h4 h5)
theorem r_aloadN_n {j : Fin 4}  (i : Nat) (X : CX K D z0 cc nL own rm) (d : decode cc pc = .ok (.aload_n j, 1)) (hk : L[i]? = some ((j : Nat), .null)) (k : WW K D z0 nL h kc ks (pc + 1) L (.null :: st)) : WW K D z0 nL h kc ks pc L st := by
  obtain ⟨p, l, e, R, s, m, args, below, meth, c, Q⟩ := K
  obtain ⟨hx, hb, hml, hown, hts, hl, hlk, hF, hR⟩ := X
  intro H locs cells slots ls h1 h2 h3 h4 h5
  exact lv_aload_nN hx hb d rfl (lv_at h5 i hk) (k H locs cells slots ls h1 h2 h3 h4 h5)
theorem r_aloadN {j : Nat}  (i : Nat) (X : CX K D z0 cc nL own rm) (d : decode cc pc = .ok (.aload j, 2)) (hk : L[i]? = some (j, .null)) (k : WW K D z0 nL h kc ks (pc + 2) L (.null :: st)) : WW K D z0 nL h kc ks pc L st := by
  obtain ⟨p, l, e, R, s, m, args, below, meth, c, Q⟩ := K
  obtain ⟨hx, hb, hml, hown, hts, hl, hlk, hF, hR⟩ := X
  intro H locs cells slots ls h1 h2 h3 h4 h5
  exact lv_aloadN hx hb d (lv_at h5 i hk) (k H locs cells slots ls h1 h2 h3 h4 h5)
theorem r_istore_n {j : Fin 4} {a : Int} {L' : List (Nat × Value)} (X : CX K D z0 cc nL own rm) (d : decode cc pc = .ok (.istore_n j, 1)) (hn : (j : Nat) < nL) (hL : ((j : Nat), iv a) :: L.filter (fun q => !(q.1 == (j : Nat)) && !(q.1 + 1 == (j : Nat) && q.2.category == 2)) = L') (k : WW K D z0 nL h kc ks (pc + 1) L' st) : WW K D z0 nL h kc ks pc L (iv a :: st) := by
  obtain ⟨p, l, e, R, s, m, args, below, meth, c, Q⟩ := K
  obtain ⟨hx, hb, hml, hown, hts, hl, hlk, hF, hR⟩ := X
  intro H locs cells slots ls h1 h2 h3 h4 h5
  exact lv_istore_n hx hb d rfl h5 hn hL (fun ls h5 => k H locs cells slots ls h1 h2 h3 h4 h5)
theorem r_istore {j : Nat} {a : Int} {L' : List (Nat × Value)} (X : CX K D z0 cc nL own rm) (d : decode cc pc = .ok (.istore j, 2)) (hn : j < nL) (hL : (j, iv a) :: L.filter (fun q => !(q.1 == j) && !(q.1 + 1 == j && q.2.category == 2)) = L') (k : WW K D z0 nL h kc ks (pc + 2) L' st) : WW K D z0 nL h kc ks pc L (iv a :: st) := by
  obtain ⟨p, l, e, R, s, m, args, below, meth, c, Q⟩ := K
  obtain ⟨hx, hb, hml, hown, hts, hl, hlk, hF, hR⟩ := X
  intro H locs cells slots ls h1 h2 h3 h4 h5
  exact lv_istore hx hb d h5 hn hL (fun ls h5 => k H locs cells slots ls h1 h2 h3 h4 h5)
theorem r_lstore_n {j : Fin 4} {a : Int} {L' : List (Nat × Value)} (X : CX K D z0 cc nL own rm) (d : decode cc pc = .ok (.lstore_n j, 1)) (hn : (j : Nat) + 1 < nL) (hL : ((j : Nat), jv a) :: L.filter (fun q => !(q.1 == (j : Nat)) && (!(q.1 == (j : Nat) + 1) && !(q.1 + 1 == (j : Nat) && q.2.category == 2))) = L') (k : WW K D z0 nL h kc ks (pc + 1) L' st) : WW K D z0 nL h kc ks pc L (jv a :: st) := by
  obtain ⟨p, l, e, R, s, m, args, below, meth, c, Q⟩ := K
  obtain ⟨hx, hb, hml, hown, hts, hl, hlk, hF, hR⟩ := X
  intro H locs cells slots ls h1 h2 h3 h4 h5
  exact lv_lstore_n hx hb d rfl h5 hn hL (fun ls h5 => k H locs cells slots ls h1 h2 h3 h4 h5)
theorem r_lstore {j : Nat} {a : Int} {L' : List (Nat × Value)} (X : CX K D z0 cc nL own rm) (d : decode cc pc = .ok (.lstore j, 2)) (hn : j + 1 < nL) (hL : (j, jv a) :: L.filter (fun q => !(q.1 == j) && (!(q.1 == j + 1) && !(q.1 + 1 == j && q.2.category == 2))) = L') (k : WW K D z0 nL h kc ks (pc + 2) L' st) : WW K D z0 nL h kc ks pc L (jv a :: st) := by
  obtain ⟨p, l, e, R, s, m, args, below, meth, c, Q⟩ := K
  obtain ⟨hx, hb, hml, hown, hts, hl, hlk, hF, hR⟩ := X
  intro H locs cells slots ls h1 h2 h3 h4 h5
  exact lv_lstore hx hb d h5 hn hL (fun ls h5 => k H locs cells slots ls h1 h2 h3 h4 h5)
theorem r_dstore_n {j : Fin 4} {a : UInt64} {L' : List (Nat × Value)} (X : CX K D z0 cc nL own rm) (d : decode cc pc = .ok (.dstore_n j, 1)) (hn : (j : Nat) + 1 < nL) (hL : ((j : Nat), .double a) :: L.filter (fun q => !(q.1 == (j : Nat)) && (!(q.1 == (j : Nat) + 1) && !(q.1 + 1 == (j : Nat) && q.2.category == 2))) = L') (k : WW K D z0 nL h kc ks (pc + 1) L' st) : WW K D z0 nL h kc ks pc L (.double a :: st) := by
  obtain ⟨p, l, e, R, s, m, args, below, meth, c, Q⟩ := K
  obtain ⟨hx, hb, hml, hown, hts, hl, hlk, hF, hR⟩ := X
  intro H locs cells slots ls h1 h2 h3 h4 h5
  exact lv_dstore_n hx hb d rfl h5 hn hL (fun ls h5 => k H locs cells slots ls h1 h2 h3 h4 h5)
theorem r_dstore {j : Nat} {a : UInt64} {L' : List (Nat × Value)} (X : CX K D z0 cc nL own rm) (d : decode cc pc = .ok (.dstore j, 2)) (hn : j + 1 < nL) (hL : (j, .double a) :: L.filter (fun q => !(q.1 == j) && (!(q.1 == j + 1) && !(q.1 + 1 == j && q.2.category == 2))) = L') (k : WW K D z0 nL h kc ks (pc + 2) L' st) : WW K D z0 nL h kc ks pc L (.double a :: st) := by
  obtain ⟨p, l, e, R, s, m, args, below, meth, c, Q⟩ := K
  obtain ⟨hx, hb, hml, hown, hts, hl, hlk, hF, hR⟩ := X
  intro H locs cells slots ls h1 h2 h3 h4 h5
  exact lv_dstore hx hb d h5 hn hL (fun ls h5 => k H locs cells slots ls h1 h2 h3 h4 h5)
theorem r_fstore_n {j : Fin 4} {a : UInt32} {L' : List (Nat × Value)} (X : CX K D z0 cc nL own rm) (d : decode cc pc = .ok (.fstore_n j, 1)) (hn : (j : Nat) < nL) (hL : ((j : Nat), .float a) :: L.filter (fun q => !(q.1 == (j : Nat)) && !(q.1 + 1 == (j : Nat) && q.2.category == 2)) = L') (k : WW K D z0 nL h kc ks (pc + 1) L' st) : WW K D z0 nL h kc ks pc L (.float a :: st) := by
  obtain ⟨p, l, e, R, s, m, args, below, meth, c, Q⟩ := K
  obtain ⟨hx, hb, hml, hown, hts, hl, hlk, hF, hR⟩ := X
  intro H locs cells slots ls h1 h2 h3 h4 h5
  exact lv_fstore_n hx hb d rfl h5 hn hL (fun ls h5 => k H locs cells slots ls h1 h2 h3 h4 h5)
theorem r_fstore {j : Nat} {a : UInt32} {L' : List (Nat × Value)} (X : CX K D z0 cc nL own rm) (d : decode cc pc = .ok (.fstore j, 2)) (hn : j < nL) (hL : (j, .float a) :: L.filter (fun q => !(q.1 == j) && !(q.1 + 1 == j && q.2.category == 2)) = L') (k : WW K D z0 nL h kc ks (pc + 2) L' st) : WW K D z0 nL h kc ks pc L (.float a :: st) := by
  obtain ⟨p, l, e, R, s, m, args, below, meth, c, Q⟩ := K
  obtain ⟨hx, hb, hml, hown, hts, hl, hlk, hF, hR⟩ := X
  intro H locs cells slots ls h1 h2 h3 h4 h5
  exact lv_fstore hx hb d h5 hn hL (fun ls h5 => k H locs cells slots ls h1 h2 h3 h4 h5)
theorem r_astore_n {j : Fin 4} {a : Nat} {L' : List (Nat × Value)} (X : CX K D z0 cc nL own rm) (d : decode cc pc = .ok (.astore_n j, 1)) (hn : (j : Nat) < nL) (hL : ((j : Nat), .ref a) :: L.filter (fun q => !(q.1 == (j : Nat)) && !(q.1 + 1 == (j : Nat) && q.2.category == 2)) = L') (k : WW K D z0 nL h kc ks (pc + 1) L' st) : WW K D z0 nL h kc ks pc L (.ref a :: st) := by
  obtain ⟨p, l, e, R, s, m, args, below, meth, c, Q⟩ := K
  obtain ⟨hx, hb, hml, hown, hts, hl, hlk, hF, hR⟩ := X
  intro H locs cells slots ls h1 h2 h3 h4 h5
  exact lv_astore_n hx hb d rfl h5 hn hL (fun ls h5 => k H locs cells slots ls h1 h2 h3 h4 h5)
theorem r_astore {j : Nat} {a : Nat} {L' : List (Nat × Value)} (X : CX K D z0 cc nL own rm) (d : decode cc pc = .ok (.astore j, 2)) (hn : j < nL) (hL : (j, .ref a) :: L.filter (fun q => !(q.1 == j) && !(q.1 + 1 == j && q.2.category == 2)) = L') (k : WW K D z0 nL h kc ks (pc + 2) L' st) : WW K D z0 nL h kc ks pc L (.ref a :: st) := by
  obtain ⟨p, l, e, R, s, m, args, below, meth, c, Q⟩ := K
  obtain ⟨hx, hb, hml, hown, hts, hl, hlk, hF, hR⟩ := X
  intro H locs cells slots ls h1 h2 h3 h4 h5
  exact lv_astore hx hb d h5 hn hL (fun ls h5 => k H locs cells slots ls h1 h2 h3 h4 h5)
theorem r_astoreN_n {j : Fin 4}  {L' : List (Nat × Value)} (X : CX K D z0 cc nL own rm) (d : decode cc pc = .ok (.astore_n j, 1)) (hn : (j : Nat) < nL) (hL : ((j : Nat), .null) :: L.filter (fun q => !(q.1 == (j : Nat)) && !(q.1 + 1 == (j : Nat) && q.2.category == 2)) = L') (k : WW K D z0 nL h kc ks (pc + 1) L' st) : WW K D z0 nL h kc ks pc L (.null :: st) := by
  obtain ⟨p, l, e, R, s, m, args, below, meth, c, Q⟩ := K
  obtain ⟨hx, hb, hml, hown, hts, hl, hlk, hF, hR⟩ := X
  intro H locs cells slots ls h1 h2 h3 h4 h5
  exact lv_astore_nN hx hb d rfl h5 hn hL (fun ls h5 => k H locs cells slots ls h1 h2 h3 h4 h5)
theorem r_astoreN {j : Nat}  {L' : List (Nat × Value)} (X : CX K D z0 cc nL own rm) (d : decode cc pc = .ok (.astore j, 2)) (hn : j < nL) (hL : (j, .null) :: L.filter (fun q => !(q.1 == j) && !(q.1 + 1 == j && q.2.category == 2)) = L') (k : WW K D z0 nL h kc ks (pc + 2) L' st) : WW K D z0 nL h kc ks pc L (.null :: st) := by
  obtain ⟨p, l, e, R, s, m, args, below, meth, c, Q⟩ := K
  obtain ⟨hx, hb, hml, hown, hts, hl, hlk, hF, hR⟩ := X
  intro H locs cells slots ls h1 h2 h3 h4 h5
  exact lv_astoreN hx hb d h5 hn hL (fun ls h5 => k H locs cells slots ls h1 h2 h3 h4 h5)
theorem r_iinc {j : Nat} {n a : Int} (i : Nat) {L' : List (Nat × Value)} (X : CX K D z0 cc nL own rm) (d : decode cc pc = .ok (.iinc j n, 3)) (hk : L[i]? = some (j, iv a)) (hn : j < nL) (hL : (j, iv (a + n)) :: L.filter (fun q => !(q.1 == j) && !(q.1 + 1 == j && q.2.category == 2)) = L') (k : WW K D z0 nL h kc ks (pc + 3) L' st) : WW K D z0 nL h kc ks pc L st := by
  obtain ⟨p, l, e, R, s, m, args, below, meth, c, Q⟩ := K
  obtain ⟨hx, hb, hml, hown, hts, hl, hlk, hF, hR⟩ := X
  intro H locs cells slots ls h1 h2 h3 h4 h5
  exact lv_iinc hx hb d h5 (k := i) hk (by rw [← Int32.ofInt_add]) hn hL (fun ls h5 => k H locs cells slots ls h1 h2 h3 h4 h5)
theorem r_iadd {a b : Int} (X : CX K D z0 cc nL own rm) (d : decode cc pc = .ok (.iadd, 1)) (k : WW K D z0 nL h kc ks (pc + 1) L (iv (a + b) :: st)) : WW K D z0 nL h kc ks pc L (iv b :: iv a :: st) := by
  obtain ⟨p, l, e, R, s, m, args, below, meth, c, Q⟩ := K
  obtain ⟨hx, hb, hml, hown, hts, hl, hlk, hF, hR⟩ := X
  intro H locs cells slots ls h1 h2 h3 h4 h5
  refine lv_iadd hx hb d ?_
  rw [← Int32.ofInt_add]
  exact k H locs cells slots ls h1 h2 h3 h4 h5
theorem r_isub {a b : Int} (X : CX K D z0 cc nL own rm) (d : decode cc pc = .ok (.isub, 1)) (k : WW K D z0 nL h kc ks (pc + 1) L (iv (a - b) :: st)) : WW K D z0 nL h kc ks pc L (iv b :: iv a :: st) := by
  obtain ⟨p, l, e, R, s, m, args, below, meth, c, Q⟩ := K
  obtain ⟨hx, hb, hml, hown, hts, hl, hlk, hF, hR⟩ := X
  intro H locs cells slots ls h1 h2 h3 h4 h5
  refine lv_isub hx hb d ?_
  rw [← Int32.ofInt_sub]
  exact k H locs cells slots ls h1 h2 h3 h4 h5
theorem r_imul {a b : Int} (X : CX K D z0 cc nL own rm) (d : decode cc pc = .ok (.imul, 1)) (k : WW K D z0 nL h kc ks (pc + 1) L (iv (a * b) :: st)) : WW K D z0 nL h kc ks pc L (iv b :: iv a :: st) := by
  obtain ⟨p, l, e, R, s, m, args, below, meth, c, Q⟩ := K
  obtain ⟨hx, hb, hml, hown, hts, hl, hlk, hF, hR⟩ := X
  intro H locs cells slots ls h1 h2 h3 h4 h5
  refine lv_imul hx hb d ?_
  rw [← Int32.ofInt_mul]
  exact k H locs cells slots ls h1 h2 h3 h4 h5
theorem r_ladd {a b : Int} (X : CX K D z0 cc nL own rm) (d : decode cc pc = .ok (.ladd, 1)) (k : WW K D z0 nL h kc ks (pc + 1) L (jv (a + b) :: st)) : WW K D z0 nL h kc ks pc L (jv b :: jv a :: st) := by
  obtain ⟨p, l, e, R, s, m, args, below, meth, c, Q⟩ := K
  obtain ⟨hx, hb, hml, hown, hts, hl, hlk, hF, hR⟩ := X
  intro H locs cells slots ls h1 h2 h3 h4 h5
  refine lv_ladd hx hb d ?_
  rw [← Int64.ofInt_add]
  exact k H locs cells slots ls h1 h2 h3 h4 h5
theorem r_lsub {a b : Int} (X : CX K D z0 cc nL own rm) (d : decode cc pc = .ok (.lsub, 1)) (k : WW K D z0 nL h kc ks (pc + 1) L (jv (a - b) :: st)) : WW K D z0 nL h kc ks pc L (jv b :: jv a :: st) := by
  obtain ⟨p, l, e, R, s, m, args, below, meth, c, Q⟩ := K
  obtain ⟨hx, hb, hml, hown, hts, hl, hlk, hF, hR⟩ := X
  intro H locs cells slots ls h1 h2 h3 h4 h5
  refine lv_lsub hx hb d ?_
  rw [← Int64.ofInt_sub]
  exact k H locs cells slots ls h1 h2 h3 h4 h5
theorem r_lmul {a b : Int} (X : CX K D z0 cc nL own rm) (d : decode cc pc = .ok (.lmul, 1)) (k : WW K D z0 nL h kc ks (pc + 1) L (jv (a * b) :: st)) : WW K D z0 nL h kc ks pc L (jv b :: jv a :: st) := by
  obtain ⟨p, l, e, R, s, m, args, below, meth, c, Q⟩ := K
  obtain ⟨hx, hb, hml, hown, hts, hl, hlk, hF, hR⟩ := X
  intro H locs cells slots ls h1 h2 h3 h4 h5
  refine lv_lmul hx hb d ?_
  rw [← Int64.ofInt_mul]
  exact k H locs cells slots ls h1 h2 h3 h4 h5
theorem r_ineg {a : Int} (X : CX K D z0 cc nL own rm) (d : decode cc pc = .ok (.ineg, 1)) (k : WW K D z0 nL h kc ks (pc + 1) L (iv (-a) :: st)) : WW K D z0 nL h kc ks pc L (iv a :: st) := by
  obtain ⟨p, l, e, R, s, m, args, below, meth, c, Q⟩ := K
  obtain ⟨hx, hb, hml, hown, hts, hl, hlk, hF, hR⟩ := X
  intro H locs cells slots ls h1 h2 h3 h4 h5
  refine lv_ineg hx hb d ?_
  rw [← Int32.ofInt_neg]
  exact k H locs cells slots ls h1 h2 h3 h4 h5
theorem r_lneg {a : Int} (X : CX K D z0 cc nL own rm) (d : decode cc pc = .ok (.lneg, 1)) (k : WW K D z0 nL h kc ks (pc + 1) L (jv (-a) :: st)) : WW K D z0 nL h kc ks pc L (jv a :: st) := by
  obtain ⟨p, l, e, R, s, m, args, below, meth, c, Q⟩ := K
  obtain ⟨hx, hb, hml, hown, hts, hl, hlk, hF, hR⟩ := X
  intro H locs cells slots ls h1 h2 h3 h4 h5
  refine lv_lneg hx hb d ?_
  rw [← Int64.ofInt_neg]
  exact k H locs cells slots ls h1 h2 h3 h4 h5
theorem r_idiv {a b : Int} (X : CX K D z0 cc nL own rm) (d : decode cc pc = .ok (.idiv, 1)) (ha : 0 ≤ a ∧ a < 2147483648) (hb0 : 0 < b ∧ b < 2147483648) (k : WW K D z0 nL h kc ks (pc + 1) L (iv (a / b) :: st)) : WW K D z0 nL h kc ks pc L (iv b :: iv a :: st) := by
  obtain ⟨p, l, e, R, s, m, args, below, meth, c, Q⟩ := K
  obtain ⟨hx, hb, hml, hown, hts, hl, hlk, hF, hR⟩ := X
  intro H locs cells slots ls h1 h2 h3 h4 h5
  refine lv_idiv hx hb d (i32_ne0 hb0) ?_
  rw [i32_div ha hb0]
  exact k H locs cells slots ls h1 h2 h3 h4 h5
theorem r_irem {a b : Int} (X : CX K D z0 cc nL own rm) (d : decode cc pc = .ok (.irem, 1)) (ha : 0 ≤ a ∧ a < 2147483648) (hb0 : 0 < b ∧ b < 2147483648) (k : WW K D z0 nL h kc ks (pc + 1) L (iv (a % b) :: st)) : WW K D z0 nL h kc ks pc L (iv b :: iv a :: st) := by
  obtain ⟨p, l, e, R, s, m, args, below, meth, c, Q⟩ := K
  obtain ⟨hx, hb, hml, hown, hts, hl, hlk, hF, hR⟩ := X
  intro H locs cells slots ls h1 h2 h3 h4 h5
  refine lv_irem hx hb d (i32_ne0 hb0) ?_
  rw [i32_rem ha hb0]
  exact k H locs cells slots ls h1 h2 h3 h4 h5
theorem r_ldiv {a b : Int} (X : CX K D z0 cc nL own rm) (d : decode cc pc = .ok (.ldiv, 1)) (ha : 0 ≤ a ∧ a < 9223372036854775808) (hb0 : 0 < b ∧ b < 9223372036854775808) (k : WW K D z0 nL h kc ks (pc + 1) L (jv (a / b) :: st)) : WW K D z0 nL h kc ks pc L (jv b :: jv a :: st) := by
  obtain ⟨p, l, e, R, s, m, args, below, meth, c, Q⟩ := K
  obtain ⟨hx, hb, hml, hown, hts, hl, hlk, hF, hR⟩ := X
  intro H locs cells slots ls h1 h2 h3 h4 h5
  refine lv_ldiv hx hb d (i64_ne0 hb0) ?_
  rw [i64_div ha hb0]
  exact k H locs cells slots ls h1 h2 h3 h4 h5
theorem r_lrem {a b : Int} (X : CX K D z0 cc nL own rm) (d : decode cc pc = .ok (.lrem, 1)) (ha : 0 ≤ a ∧ a < 9223372036854775808) (hb0 : 0 < b ∧ b < 9223372036854775808) (k : WW K D z0 nL h kc ks (pc + 1) L (jv (a % b) :: st)) : WW K D z0 nL h kc ks pc L (jv b :: jv a :: st) := by
  obtain ⟨p, l, e, R, s, m, args, below, meth, c, Q⟩ := K
  obtain ⟨hx, hb, hml, hown, hts, hl, hlk, hF, hR⟩ := X
  intro H locs cells slots ls h1 h2 h3 h4 h5
  refine lv_lrem hx hb d (i64_ne0 hb0) ?_
  rw [i64_rem ha hb0]
  exact k H locs cells slots ls h1 h2 h3 h4 h5
theorem r_i2l {a : Int} (X : CX K D z0 cc nL own rm) (d : decode cc pc = .ok (.i2l, 1)) (ha : I32 a) (k : WW K D z0 nL h kc ks (pc + 1) L (jv a :: st)) : WW K D z0 nL h kc ks pc L (iv a :: st) := by
  obtain ⟨p, l, e, R, s, m, args, below, meth, c, Q⟩ := K
  obtain ⟨hx, hb, hml, hown, hts, hl, hlk, hF, hR⟩ := X
  intro H locs cells slots ls h1 h2 h3 h4 h5
  exact lv_i2l hx hb d (i64_of_32 ha) (k H locs cells slots ls h1 h2 h3 h4 h5)
theorem r_l2i {a : Int} (X : CX K D z0 cc nL own rm) (d : decode cc pc = .ok (.l2i, 1)) (k : WW K D z0 nL h kc ks (pc + 1) L (iv a :: st)) : WW K D z0 nL h kc ks pc L (jv a :: st) := by
  obtain ⟨p, l, e, R, s, m, args, below, meth, c, Q⟩ := K
  obtain ⟨hx, hb, hml, hown, hts, hl, hlk, hF, hR⟩ := X
  intro H locs cells slots ls h1 h2 h3 h4 h5
  exact lv_l2i hx hb d (i32_of_64 a) (k H locs cells slots ls h1 h2 h3 h4 h5)
theorem r_dup {v : Value} (X : CX K D z0 cc nL own rm) (d : decode cc pc = .ok (.dup, 1)) (hv : v.category = 1) (k : WW K D z0 nL h kc ks (pc + 1) L (v :: v :: st)) : WW K D z0 nL h kc ks pc L (v :: st) := by
  obtain ⟨p, l, e, R, s, m, args, below, meth, c, Q⟩ := K
  obtain ⟨hx, hb, hml, hown, hts, hl, hlk, hF, hR⟩ := X
  intro H locs cells slots ls h1 h2 h3 h4 h5
  exact lv_dup hx hb d hv (k H locs cells slots ls h1 h2 h3 h4 h5)
theorem r_pop {v : Value} (X : CX K D z0 cc nL own rm) (d : decode cc pc = .ok (.pop, 1)) (hv : v.category = 1) (k : WW K D z0 nL h kc ks (pc + 1) L st) : WW K D z0 nL h kc ks pc L (v :: st) := by
  obtain ⟨p, l, e, R, s, m, args, below, meth, c, Q⟩ := K
  obtain ⟨hx, hb, hml, hown, hts, hl, hlk, hF, hR⟩ := X
  intro H locs cells slots ls h1 h2 h3 h4 h5
  exact lv_pop hx hb d hv (k H locs cells slots ls h1 h2 h3 h4 h5)
theorem r_goto {off : Int} (tgt : Nat) (X : CX K D z0 cc nL own rm) (d : decode cc pc = .ok (.goto off, 3)) (ht : (pc : Int) + off = (tgt : Int)) (k : WW K D z0 nL h kc ks tgt L st) : WW K D z0 nL h kc ks pc L st := by
  obtain ⟨p, l, e, R, s, m, args, below, meth, c, Q⟩ := K
  obtain ⟨hx, hb, hml, hown, hts, hl, hlk, hF, hR⟩ := X
  intro H locs cells slots ls h1 h2 h3 h4 h5
  exact lv_goto hx hb d ht (k H locs cells slots ls h1 h2 h3 h4 h5)
theorem r_i2d {a : Int} (X : CX K D z0 cc nL own rm) (d : decode cc pc = .ok (.i2d, 1)) (k : WW K D z0 nL h kc ks (pc + 1) L (.double (FP.i2d (Int32.ofInt a)) :: st)) : WW K D z0 nL h kc ks pc L (iv a :: st) := by
  obtain ⟨p, l, e, R, s, m, args, below, meth, c, Q⟩ := K
  obtain ⟨hx, hb, hml, hown, hts, hl, hlk, hF, hR⟩ := X
  intro H locs cells slots ls h1 h2 h3 h4 h5
  exact lv_i2d hx hb d (k H locs cells slots ls h1 h2 h3 h4 h5)
theorem r_l2d {a : Int} (X : CX K D z0 cc nL own rm) (d : decode cc pc = .ok (.l2d, 1)) (k : WW K D z0 nL h kc ks (pc + 1) L (.double (FP.l2d (Int64.ofInt a)) :: st)) : WW K D z0 nL h kc ks pc L (jv a :: st) := by
  obtain ⟨p, l, e, R, s, m, args, below, meth, c, Q⟩ := K
  obtain ⟨hx, hb, hml, hown, hts, hl, hlk, hF, hR⟩ := X
  intro H locs cells slots ls h1 h2 h3 h4 h5
  exact lv_l2d hx hb d (k H locs cells slots ls h1 h2 h3 h4 h5)
theorem r_i2f {a : Int} (X : CX K D z0 cc nL own rm) (d : decode cc pc = .ok (.i2f, 1)) (k : WW K D z0 nL h kc ks (pc + 1) L (.float (FP.i2f (Int32.ofInt a)) :: st)) : WW K D z0 nL h kc ks pc L (iv a :: st) := by
  obtain ⟨p, l, e, R, s, m, args, below, meth, c, Q⟩ := K
  obtain ⟨hx, hb, hml, hown, hts, hl, hlk, hF, hR⟩ := X
  intro H locs cells slots ls h1 h2 h3 h4 h5
  exact lv_i2f hx hb d (k H locs cells slots ls h1 h2 h3 h4 h5)
theorem r_d2l {a : UInt64} (n : Int) (X : CX K D z0 cc nL own rm) (d : decode cc pc = .ok (.d2l, 1)) (hn : FP.d2l a = Int64.ofInt n) (k : WW K D z0 nL h kc ks (pc + 1) L (jv n :: st)) : WW K D z0 nL h kc ks pc L (.double a :: st) := by
  obtain ⟨p, l, e, R, s, m, args, below, meth, c, Q⟩ := K
  obtain ⟨hx, hb, hml, hown, hts, hl, hlk, hF, hR⟩ := X
  intro H locs cells slots ls h1 h2 h3 h4 h5
  refine lv_d2l hx hb d ?_
  rw [hn]
  exact k H locs cells slots ls h1 h2 h3 h4 h5
theorem r_dadd {a b : UInt64} (r : UInt64) (X : CX K D z0 cc nL own rm) (d : decode cc pc = .ok (.dadd, 1)) (hr : FP.dadd a b = r) (hne : vf_n64 r) (k : WW K D z0 nL h kc ks (pc + 1) L (.double r :: st)) : WW K D z0 nL h kc ks pc L (.double b :: .double a :: st) := by
  obtain ⟨p, l, e, R, s, m, args, below, meth, c, Q⟩ := K
  obtain ⟨hx, hb, hml, hown, hts, hl, hlk, hF, hR⟩ := X
  intro H locs cells slots ls h1 h2 h3 h4 h5
  subst hr
  exact lv_dadd hx hb d hne (k H locs cells slots ls h1 h2 h3 h4 h5)
theorem r_dsub {a b : UInt64} (r : UInt64) (X : CX K D z0 cc nL own rm) (d : decode cc pc = .ok (.dsub, 1)) (hr : FP.dsub a b = r) (hne : vf_n64 r) (k : WW K D z0 nL h kc ks (pc + 1) L (.double r :: st)) : WW K D z0 nL h kc ks pc L (.double b :: .double a :: st) := by
  obtain ⟨p, l, e, R, s, m, args, below, meth, c, Q⟩ := K
  obtain ⟨hx, hb, hml, hown, hts, hl, hlk, hF, hR⟩ := X
  intro H locs cells slots ls h1 h2 h3 h4 h5
  subst hr
  exact lv_dsub hx hb d hne (k H locs cells slots ls h1 h2 h3 h4 h5)
theorem r_dmul {a b : UInt64} (r : UInt64) (X : CX K D z0 cc nL own rm) (d : decode cc pc = .ok (.dmul, 1)) (hr : FP.dmul a b = r) (hne : vf_n64 r) (k : WW K D z0 nL h kc ks (pc + 1) L (.double r :: st)) : WW K D z0 nL h kc ks pc L (.double b :: .double a :: st) := by
  obtain ⟨p, l, e, R, s, m, args, below, meth, c, Q⟩ := K
  obtain ⟨hx, hb, hml, hown, hts, hl, hlk, hF, hR⟩ := X
  intro H locs cells slots ls h1 h2 h3 h4 h5
  subst hr
  exact lv_dmul hx hb d hne (k H locs cells slots ls h1 h2 h3 h4 h5)
theorem r_ddiv {a b : UInt64} (r : UInt64) (X : CX K D z0 cc nL own rm) (d : decode cc pc = .ok (.ddiv, 1)) (hr : FP.ddiv a b = r) (hne : vf_n64 r) (k : WW K D z0 nL h kc ks (pc + 1) L (.double r :: st)) : WW K D z0 nL h kc ks pc L (.double b :: .double a :: st) := by
  obtain ⟨p, l, e, R, s, m, args, below, meth, c, Q⟩ := K
  obtain ⟨hx, hb, hml, hown, hts, hl, hlk, hF, hR⟩ := X
  intro H locs cells slots ls h1 h2 h3 h4 h5
  subst hr
  exact lv_ddiv hx hb d hne (k H locs cells slots ls h1 h2 h3 h4 h5)
theorem r_fdiv {a b : UInt32} (r : UInt32) (X : CX K D z0 cc nL own rm) (d : decode cc pc = .ok (.fdiv, 1)) (hr : FP.fdiv a b = r) (hne : vf_n32 r) (k : WW K D z0 nL h kc ks (pc + 1) L (.float r :: st)) : WW K D z0 nL h kc ks pc L (.float b :: .float a :: st) := by
  obtain ⟨p, l, e, R, s, m, args, below, meth, c, Q⟩ := K
  obtain ⟨hx, hb, hml, hown, hts, hl, hlk, hF, hR⟩ := X
  intro H locs cells slots ls h1 h2 h3 h4 h5
  subst hr
  exact lv_fdiv hx hb d hne (k H locs cells slots ls h1 h2 h3 h4 h5)
theorem r_f2d {a : UInt32} (r : UInt64) (X : CX K D z0 cc nL own rm) (d : decode cc pc = .ok (.f2d, 1)) (hr : FP.f2d a = r) (hne : vf_n64 r) (k : WW K D z0 nL h kc ks (pc + 1) L (.double r :: st)) : WW K D z0 nL h kc ks pc L (.float a :: st) := by
  obtain ⟨p, l, e, R, s, m, args, below, meth, c, Q⟩ := K
  obtain ⟨hx, hb, hml, hown, hts, hl, hlk, hF, hR⟩ := X
  intro H locs cells slots ls h1 h2 h3 h4 h5
  subst hr
  exact lv_f2d hx hb d hne (k H locs cells slots ls h1 h2 h3 h4 h5)
theorem r_icmp_eq {a b off : Int} (tgt : Nat) (X : CX K D z0 cc nL own rm) (d : decode cc pc = .ok (.if_icmp .eq off, 3)) (ht : (pc : Int) + off = (tgt : Int)) (ha : I32 a) (hb0 : I32 b) (kt : a = b → WW K D z0 nL h kc ks tgt L st) (kf : ¬ (a = b) → WW K D z0 nL h kc ks (pc + 3) L st) : WW K D z0 nL h kc ks pc L (iv b :: iv a :: st) := by
  obtain ⟨p, l, e, R, s, m, args, below, meth, c, Q⟩ := K
  obtain ⟨hx, hb, hml, hown, hts, hl, hlk, hF, hR⟩ := X
  intro H locs cells slots ls h1 h2 h3 h4 h5
  have hi := i32_eq ha hb0
  exact lv_icmp_eq hx hb d ht (fun z => kt (hi.mp z) H locs cells slots ls h1 h2 h3 h4 h5) (fun z => kf (fun y => z (hi.mpr y)) H locs cells slots ls h1 h2 h3 h4 h5)
theorem r_icmp_ne {a b off : Int} (tgt : Nat) (X : CX K D z0 cc nL own rm) (d : decode cc pc = .ok (.if_icmp .ne off, 3)) (ht : (pc : Int) + off = (tgt : Int)) (ha : I32 a) (hb0 : I32 b) (kt : ¬ a = b → WW K D z0 nL h kc ks tgt L st) (kf : a = b → WW K D z0 nL h kc ks (pc + 3) L st) : WW K D z0 nL h kc ks pc L (iv b :: iv a :: st) := by
  obtain ⟨p, l, e, R, s, m, args, below, meth, c, Q⟩ := K
  obtain ⟨hx, hb, hml, hown, hts, hl, hlk, hF, hR⟩ := X
  intro H locs cells slots ls h1 h2 h3 h4 h5
  have hi := i32_eq ha hb0
  exact lv_icmp_ne hx hb d ht (fun z => kt (fun y => z (hi.mpr y)) H locs cells slots ls h1 h2 h3 h4 h5) (fun z => kf (hi.mp z) H locs cells slots ls h1 h2 h3 h4 h5)
theorem r_icmp_lt {a b off : Int} (tgt : Nat) (X : CX K D z0 cc nL own rm) (d : decode cc pc = .ok (.if_icmp .lt off, 3)) (ht : (pc : Int) + off = (tgt : Int)) (ha : I32 a) (hb0 : I32 b) (kt : a < b → WW K D z0 nL h kc ks tgt L st) (kf : ¬ (a < b) → WW K D z0 nL h kc ks (pc + 3) L st) : WW K D z0 nL h kc ks pc L (iv b :: iv a :: st) := by
  obtain ⟨p, l, e, R, s, m, args, below, meth, c, Q⟩ := K
  obtain ⟨hx, hb, hml, hown, hts, hl, hlk, hF, hR⟩ := X
  intro H locs cells slots ls h1 h2 h3 h4 h5
  have hi := i32_lt ha hb0
  exact lv_icmp_lt hx hb d ht (fun z => kt (hi.mp z) H locs cells slots ls h1 h2 h3 h4 h5) (fun z => kf (fun y => z (hi.mpr y)) H locs cells slots ls h1 h2 h3 h4 h5)
theorem r_icmp_ge {a b off : Int} (tgt : Nat) (X : CX K D z0 cc nL own rm) (d : decode cc pc = .ok (.if_icmp .ge off, 3)) (ht : (pc : Int) + off = (tgt : Int)) (ha : I32 a) (hb0 : I32 b) (kt : b ≤ a → WW K D z0 nL h kc ks tgt L st) (kf : ¬ (b ≤ a) → WW K D z0 nL h kc ks (pc + 3) L st) : WW K D z0 nL h kc ks pc L (iv b :: iv a :: st) := by
  obtain ⟨p, l, e, R, s, m, args, below, meth, c, Q⟩ := K
  obtain ⟨hx, hb, hml, hown, hts, hl, hlk, hF, hR⟩ := X
  intro H locs cells slots ls h1 h2 h3 h4 h5
  have hi := i32_le hb0 ha
  exact lv_icmp_ge hx hb d ht (fun z => kt (hi.mp z) H locs cells slots ls h1 h2 h3 h4 h5) (fun z => kf (fun y => z (hi.mpr y)) H locs cells slots ls h1 h2 h3 h4 h5)
theorem r_icmp_gt {a b off : Int} (tgt : Nat) (X : CX K D z0 cc nL own rm) (d : decode cc pc = .ok (.if_icmp .gt off, 3)) (ht : (pc : Int) + off = (tgt : Int)) (ha : I32 a) (hb0 : I32 b) (kt : b < a → WW K D z0 nL h kc ks tgt L st) (kf : ¬ (b < a) → WW K D z0 nL h kc ks (pc + 3) L st) : WW K D z0 nL h kc ks pc L (iv b :: iv a :: st) := by
  obtain ⟨p, l, e, R, s, m, args, below, meth, c, Q⟩ := K
  obtain ⟨hx, hb, hml, hown, hts, hl, hlk, hF, hR⟩ := X
  intro H locs cells slots ls h1 h2 h3 h4 h5
  have hi := i32_lt hb0 ha
  exact lv_icmp_gt hx hb d ht (fun z => kt (hi.mp z) H locs cells slots ls h1 h2 h3 h4 h5) (fun z => kf (fun y => z (hi.mpr y)) H locs cells slots ls h1 h2 h3 h4 h5)
theorem r_icmp_le {a b off : Int} (tgt : Nat) (X : CX K D z0 cc nL own rm) (d : decode cc pc = .ok (.if_icmp .le off, 3)) (ht : (pc : Int) + off = (tgt : Int)) (ha : I32 a) (hb0 : I32 b) (kt : a ≤ b → WW K D z0 nL h kc ks tgt L st) (kf : ¬ (a ≤ b) → WW K D z0 nL h kc ks (pc + 3) L st) : WW K D z0 nL h kc ks pc L (iv b :: iv a :: st) := by
  obtain ⟨p, l, e, R, s, m, args, below, meth, c, Q⟩ := K
  obtain ⟨hx, hb, hml, hown, hts, hl, hlk, hF, hR⟩ := X
  intro H locs cells slots ls h1 h2 h3 h4 h5
  have hi := i32_le ha hb0
  exact lv_icmp_le hx hb d ht (fun z => kt (hi.mp z) H locs cells slots ls h1 h2 h3 h4 h5) (fun z => kf (fun y => z (hi.mpr y)) H locs cells slots ls h1 h2 h3 h4 h5)
theorem r_if_eq {a off : Int} (tgt : Nat) (X : CX K D z0 cc nL own rm) (d : decode cc pc = .ok (.ifCond .eq off, 3)) (ht : (pc : Int) + off = (tgt : Int)) (ha : I32 a) (kt : a = 0 → WW K D z0 nL h kc ks tgt L st) (kf : ¬ (a = 0) → WW K D z0 nL h kc ks (pc + 3) L st) : WW K D z0 nL h kc ks pc L (iv a :: st) := by
  obtain ⟨p, l, e, R, s, m, args, below, meth, c, Q⟩ := K
  obtain ⟨hx, hb, hml, hown, hts, hl, hlk, hF, hR⟩ := X
  intro H locs cells slots ls h1 h2 h3 h4 h5
  have hi := i32_eq ha (⟨by decide, by decide⟩ : I32 0)
  exact lv_if_eq hx hb d ht (fun z => kt (hi.mp z) H locs cells slots ls h1 h2 h3 h4 h5) (fun z => kf (fun y => z (hi.mpr y)) H locs cells slots ls h1 h2 h3 h4 h5)
theorem r_if_ne {a off : Int} (tgt : Nat) (X : CX K D z0 cc nL own rm) (d : decode cc pc = .ok (.ifCond .ne off, 3)) (ht : (pc : Int) + off = (tgt : Int)) (ha : I32 a) (kt : ¬ a = 0 → WW K D z0 nL h kc ks tgt L st) (kf : a = 0 → WW K D z0 nL h kc ks (pc + 3) L st) : WW K D z0 nL h kc ks pc L (iv a :: st) := by
  obtain ⟨p, l, e, R, s, m, args, below, meth, c, Q⟩ := K
  obtain ⟨hx, hb, hml, hown, hts, hl, hlk, hF, hR⟩ := X
  intro H locs cells slots ls h1 h2 h3 h4 h5
  have hi := i32_eq ha (⟨by decide, by decide⟩ : I32 0)
  exact lv_if_ne hx hb d ht (fun z => kt (fun y => z (hi.mpr y)) H locs cells slots ls h1 h2 h3 h4 h5) (fun z => kf (hi.mp z) H locs cells slots ls h1 h2 h3 h4 h5)
theorem r_if_lt {a off : Int} (tgt : Nat) (X : CX K D z0 cc nL own rm) (d : decode cc pc = .ok (.ifCond .lt off, 3)) (ht : (pc : Int) + off = (tgt : Int)) (ha : I32 a) (kt : a < 0 → WW K D z0 nL h kc ks tgt L st) (kf : ¬ (a < 0) → WW K D z0 nL h kc ks (pc + 3) L st) : WW K D z0 nL h kc ks pc L (iv a :: st) := by
  obtain ⟨p, l, e, R, s, m, args, below, meth, c, Q⟩ := K
  obtain ⟨hx, hb, hml, hown, hts, hl, hlk, hF, hR⟩ := X
  intro H locs cells slots ls h1 h2 h3 h4 h5
  have hi := i32_lt ha (⟨by decide, by decide⟩ : I32 0)
  exact lv_if_lt hx hb d ht (fun z => kt (hi.mp z) H locs cells slots ls h1 h2 h3 h4 h5) (fun z => kf (fun y => z (hi.mpr y)) H locs cells slots ls h1 h2 h3 h4 h5)
theorem r_if_ge {a off : Int} (tgt : Nat) (X : CX K D z0 cc nL own rm) (d : decode cc pc = .ok (.ifCond .ge off, 3)) (ht : (pc : Int) + off = (tgt : Int)) (ha : I32 a) (kt : 0 ≤ a → WW K D z0 nL h kc ks tgt L st) (kf : ¬ (0 ≤ a) → WW K D z0 nL h kc ks (pc + 3) L st) : WW K D z0 nL h kc ks pc L (iv a :: st) := by
  obtain ⟨p, l, e, R, s, m, args, below, meth, c, Q⟩ := K
  obtain ⟨hx, hb, hml, hown, hts, hl, hlk, hF, hR⟩ := X
  intro H locs cells slots ls h1 h2 h3 h4 h5
  have hi := i32_le (⟨by decide, by decide⟩ : I32 0) ha
  exact lv_if_ge hx hb d ht (fun z => kt (hi.mp z) H locs cells slots ls h1 h2 h3 h4 h5) (fun z => kf (fun y => z (hi.mpr y)) H locs cells slots ls h1 h2 h3 h4 h5)
theorem r_if_gt {a off : Int} (tgt : Nat) (X : CX K D z0 cc nL own rm) (d : decode cc pc = .ok (.ifCond .gt off, 3)) (ht : (pc : Int) + off = (tgt : Int)) (ha : I32 a) (kt : 0 < a → WW K D z0 nL h kc ks tgt L st) (kf : ¬ (0 < a) → WW K D z0 nL h kc ks (pc + 3) L st) : WW K D z0 nL h kc ks pc L (iv a :: st) := by
  obtain ⟨p, l, e, R, s, m, args, below, meth, c, Q⟩ := K
  obtain ⟨hx, hb, hml, hown, hts, hl, hlk, hF, hR⟩ := X
  intro H locs cells slots ls h1 h2 h3 h4 h5
  have hi := i32_lt (⟨by decide, by decide⟩ : I32 0) ha
  exact lv_if_gt hx hb d ht (fun z => kt (hi.mp z) H locs cells slots ls h1 h2 h3 h4 h5) (fun z => kf (fun y => z (hi.mpr y)) H locs cells slots ls h1 h2 h3 h4 h5)
theorem r_if_le {a off : Int} (tgt : Nat) (X : CX K D z0 cc nL own rm) (d : decode cc pc = .ok (.ifCond .le off, 3)) (ht : (pc : Int) + off = (tgt : Int)) (ha : I32 a) (kt : a ≤ 0 → WW K D z0 nL h kc ks tgt L st) (kf : ¬ (a ≤ 0) → WW K D z0 nL h kc ks (pc + 3) L st) : WW K D z0 nL h kc ks pc L (iv a :: st) := by
  obtain ⟨p, l, e, R, s, m, args, below, meth, c, Q⟩ := K
  obtain ⟨hx, hb, hml, hown, hts, hl, hlk, hF, hR⟩ := X
  intro H locs cells slots ls h1 h2 h3 h4 h5
  have hi := i32_le ha (⟨by decide, by decide⟩ : I32 0)
  exact lv_if_le hx hb d ht (fun z => kt (hi.mp z) H locs cells slots ls h1 h2 h3 h4 h5) (fun z => kf (fun y => z (hi.mpr y)) H locs cells slots ls h1 h2 h3 h4 h5)
theorem r_ifb_eq {P : Prop} [Decidable P] {off : Int} (tgt : Nat) (X : CX K D z0 cc nL own rm) (d : decode cc pc = .ok (.ifCond .eq off, 3)) (ht : (pc : Int) + off = (tgt : Int)) (kt : ¬ P → WW K D z0 nL h kc ks tgt L st) (kf : P → WW K D z0 nL h kc ks (pc + 3) L st) : WW K D z0 nL h kc ks pc L (iv (if P then 1 else 0) :: st) := by
  obtain ⟨p, l, e, R, s, m, args, below, meth, c, Q⟩ := K
  obtain ⟨hx, hb, hml, hown, hts, hl, hlk, hF, hR⟩ := X
  intro H locs cells slots ls h1 h2 h3 h4 h5
  by_cases hP : P
  · rw [if_pos hP]
    exact lv_if_eq hx hb d ht (fun z => absurd z (by decide)) (fun z => kf hP H locs cells slots ls h1 h2 h3 h4 h5)
  · rw [if_neg hP]
    exact lv_if_eq hx hb d ht (fun z => kt hP H locs cells slots ls h1 h2 h3 h4 h5) (fun z => absurd rfl z)
theorem r_ifb_ne {P : Prop} [Decidable P] {off : Int} (tgt : Nat) (X : CX K D z0 cc nL own rm) (d : decode cc pc = .ok (.ifCond .ne off, 3)) (ht : (pc : Int) + off = (tgt : Int)) (kt : P → WW K D z0 nL h kc ks tgt L st) (kf : ¬ P → WW K D z0 nL h kc ks (pc + 3) L st) : WW K D z0 nL h kc ks pc L (iv (if P then 1 else 0) :: st) := by
  obtain ⟨p, l, e, R, s, m, args, below, meth, c, Q⟩ := K
  obtain ⟨hx, hb, hml, hown, hts, hl, hlk, hF, hR⟩ := X
  intro H locs cells slots ls h1 h2 h3 h4 h5
  by_cases hP : P
  · rw [if_pos hP]
    exact lv_if_ne hx hb d ht (fun z => kt hP H locs cells slots ls h1 h2 h3 h4 h5) (fun z => absurd z (by decide))
  · rw [if_neg hP]
    exact lv_if_ne hx hb d ht (fun z => absurd rfl z) (fun z => kf hP H locs cells slots ls h1 h2 h3 h4 h5)
theorem r_lcmp_eq {a b off : Int} (tgt : Nat) (X : CX K D z0 cc nL own rm) (d : decode cc pc = .ok (.lcmp, 1)) (d2 : decode cc (pc + 1) = .ok (.ifCond .eq off, 3)) (ht : ((pc + 1 : Nat) : Int) + off = (tgt : Int)) (ha : I64 a) (hb0 : I64 b) (kt : a = b → WW K D z0 nL h kc ks tgt L st) (kf : ¬ (a = b) → WW K D z0 nL h kc ks (pc + 4) L st) : WW K D z0 nL h kc ks pc L (jv b :: jv a :: st) := by
  obtain ⟨p, l, e, R, s, m, args, below, meth, c, Q⟩ := K
  obtain ⟨hx, hb, hml, hown, hts, hl, hlk, hF, hR⟩ := X
  intro H locs cells slots ls h1 h2 h3 h4 h5
  refine W.lcmp hx hb d ?_
  rcases i64_neg1 ha hb0 with ⟨e1, e2⟩ | ⟨e1, e2⟩ | ⟨e1, e2⟩ <;> rw [e1]
  · exact lv_if_eq hx hb d2 ht (fun z => absurd z (by decide)) (fun z => kf (by omega) H locs cells slots ls h1 h2 h3 h4 h5)
  · exact lv_if_eq hx hb d2 ht (fun z => kt (by omega) H locs cells slots ls h1 h2 h3 h4 h5) (fun z => absurd (by decide) z)
  · exact lv_if_eq hx hb d2 ht (fun z => absurd z (by decide)) (fun z => kf (by omega) H locs cells slots ls h1 h2 h3 h4 h5)
theorem r_lcmp_ne {a b off : Int} (tgt : Nat) (X : CX K D z0 cc nL own rm) (d : decode cc pc = .ok (.lcmp, 1)) (d2 : decode cc (pc + 1) = .ok (.ifCond .ne off, 3)) (ht : ((pc + 1 : Nat) : Int) + off = (tgt : Int)) (ha : I64 a) (hb0 : I64 b) (kt : ¬ a = b → WW K D z0 nL h kc ks tgt L st) (kf : a = b → WW K D z0 nL h kc ks (pc + 4) L st) : WW K D z0 nL h kc ks pc L (jv b :: jv a :: st) := by
  obtain ⟨p, l, e, R, s, m, args, below, meth, c, Q⟩ := K
  obtain ⟨hx, hb, hml, hown, hts, hl, hlk, hF, hR⟩ := X
  intro H locs cells slots ls h1 h2 h3 h4 h5
  refine W.lcmp hx hb d ?_
  rcases i64_neg1 ha hb0 with ⟨e1, e2⟩ | ⟨e1, e2⟩ | ⟨e1, e2⟩ <;> rw [e1]
  · exact lv_if_ne hx hb d2 ht (fun z => kt (by omega) H locs cells slots ls h1 h2 h3 h4 h5) (fun z => absurd z (by decide))
  · exact lv_if_ne hx hb d2 ht (fun z => absurd z (by decide)) (fun z => kf (by omega) H locs cells slots ls h1 h2 h3 h4 h5)
  · exact lv_if_ne hx hb d2 ht (fun z => kt (by omega) H locs cells slots ls h1 h2 h3 h4 h5) (fun z => absurd z (by decide))
theorem r_lcmp_lt {a b off : Int} (tgt : Nat) (X : CX K D z0 cc nL own rm) (d : decode cc pc = .ok (.lcmp, 1)) (d2 : decode cc (pc + 1) = .ok (.ifCond .lt off, 3)) (ht : ((pc + 1 : Nat) : Int) + off = (tgt : Int)) (ha : I64 a) (hb0 : I64 b) (kt : a < b → WW K D z0 nL h kc ks tgt L st) (kf : ¬ (a < b) → WW K D z0 nL h kc ks (pc + 4) L st) : WW K D z0 nL h kc ks pc L (jv b :: jv a :: st) := by
  obtain ⟨p, l, e, R, s, m, args, below, meth, c, Q⟩ := K
  obtain ⟨hx, hb, hml, hown, hts, hl, hlk, hF, hR⟩ := X
  intro H locs cells slots ls h1 h2 h3 h4 h5
  refine W.lcmp hx hb d ?_
  rcases i64_neg1 ha hb0 with ⟨e1, e2⟩ | ⟨e1, e2⟩ | ⟨e1, e2⟩ <;> rw [e1]
  · exact lv_if_lt hx hb d2 ht (fun z => absurd z (by decide)) (fun z => kf (by omega) H locs cells slots ls h1 h2 h3 h4 h5)
  · exact lv_if_lt hx hb d2 ht (fun z => absurd z (by decide)) (fun z => kf (by omega) H locs cells slots ls h1 h2 h3 h4 h5)
  · exact lv_if_lt hx hb d2 ht (fun z => kt (by omega) H locs cells slots ls h1 h2 h3 h4 h5) (fun z => absurd (by decide) z)
theorem r_lcmp_ge {a b off : Int} (tgt : Nat) (X : CX K D z0 cc nL own rm) (d : decode cc pc = .ok (.lcmp, 1)) (d2 : decode cc (pc + 1) = .ok (.ifCond .ge off, 3)) (ht : ((pc + 1 : Nat) : Int) + off = (tgt : Int)) (ha : I64 a) (hb0 : I64 b) (kt : b ≤ a → WW K D z0 nL h kc ks tgt L st) (kf : ¬ (b ≤ a) → WW K D z0 nL h kc ks (pc + 4) L st) : WW K D z0 nL h kc ks pc L (jv b :: jv a :: st) := by
  obtain ⟨p, l, e, R, s, m, args, below, meth, c, Q⟩ := K
  obtain ⟨hx, hb, hml, hown, hts, hl, hlk, hF, hR⟩ := X
  intro H locs cells slots ls h1 h2 h3 h4 h5
  refine W.lcmp hx hb d ?_
  rcases i64_neg1 ha hb0 with ⟨e1, e2⟩ | ⟨e1, e2⟩ | ⟨e1, e2⟩ <;> rw [e1]
  · exact lv_if_ge hx hb d2 ht (fun z => kt (by omega) H locs cells slots ls h1 h2 h3 h4 h5) (fun z => absurd (by decide) z)
  · exact lv_if_ge hx hb d2 ht (fun z => kt (by omega) H locs cells slots ls h1 h2 h3 h4 h5) (fun z => absurd (by decide) z)
  · exact lv_if_ge hx hb d2 ht (fun z => absurd z (by decide)) (fun z => kf (by omega) H locs cells slots ls h1 h2 h3 h4 h5)
theorem r_lcmp_gt {a b off : Int} (tgt : Nat) (X : CX K D z0 cc nL own rm) (d : decode cc pc = .ok (.lcmp, 1)) (d2 : decode cc (pc + 1) = .ok (.ifCond .gt off, 3)) (ht : ((pc + 1 : Nat) : Int) + off = (tgt : Int)) (ha : I64 a) (hb0 : I64 b) (kt : b < a → WW K D z0 nL h kc ks tgt L st) (kf : ¬ (b < a) → WW K D z0 nL h kc ks (pc + 4) L st) : WW K D z0 nL h kc ks pc L (jv b :: jv a :: st) := by
  obtain ⟨p, l, e, R, s, m, args, below, meth, c, Q⟩ := K
  obtain ⟨hx, hb, hml, hown, hts, hl, hlk, hF, hR⟩ := X
  intro H locs cells slots ls h1 h2 h3 h4 h5
  refine W.lcmp hx hb d ?_
  rcases i64_neg1 ha hb0 with ⟨e1, e2⟩ | ⟨e1, e2⟩ | ⟨e1, e2⟩ <;> rw [e1]
  · exact lv_if_gt hx hb d2 ht (fun z => kt (by omega) H locs cells slots ls h1 h2 h3 h4 h5) (fun z => absurd (by decide) z)
  · exact lv_if_gt hx hb d2 ht (fun z => absurd z (by decide)) (fun z => kf (by omega) H locs cells slots ls h1 h2 h3 h4 h5)
  · exact lv_if_gt hx hb d2 ht (fun z => absurd z (by decide)) (fun z => kf (by omega) H locs cells slots ls h1 h2 h3 h4 h5)
theorem r_lcmp_le {a b off : Int} (tgt : Nat) (X : CX K D z0 cc nL own rm) (d : decode cc pc = .ok (.lcmp, 1)) (d2 : decode cc (pc + 1) = .ok (.ifCond .le off, 3)) (ht : ((pc + 1 : Nat) : Int) + off = (tgt : Int)) (ha : I64 a) (hb0 : I64 b) (kt : a ≤ b → WW K D z0 nL h kc ks tgt L st) (kf : ¬ (a ≤ b) → WW K D z0 nL h kc ks (pc + 4) L st) : WW K D z0 nL h kc ks pc L (jv b :: jv a :: st) := by
  obtain ⟨p, l, e, R, s, m, args, below, meth, c, Q⟩ := K
  obtain ⟨hx, hb, hml, hown, hts, hl, hlk, hF, hR⟩ := X
  intro H locs cells slots ls h1 h2 h3 h4 h5
  refine W.lcmp hx hb d ?_
  rcases i64_neg1 ha hb0 with ⟨e1, e2⟩ | ⟨e1, e2⟩ | ⟨e1, e2⟩ <;> rw [e1]
  · exact lv_if_le hx hb d2 ht (fun z => absurd z (by decide)) (fun z => kf (by omega) H locs cells slots ls h1 h2 h3 h4 h5)
  · exact lv_if_le hx hb d2 ht (fun z => kt (by omega) H locs cells slots ls h1 h2 h3 h4 h5) (fun z => absurd (by decide) z)
  · exact lv_if_le hx hb d2 ht (fun z => kt (by omega) H locs cells slots ls h1 h2 h3 h4 h5) (fun z => absurd (by decide) z)
theorem r_ifnull {a : Nat} {off : Int} (X : CX K D z0 cc nL own rm) (d : decode cc pc = .ok (.ifnull off, 3)) (k : WW K D z0 nL h kc ks (pc + 3) L st) : WW K D z0 nL h kc ks pc L (.ref a :: st) := by
  obtain ⟨p, l, e, R, s, m, args, below, meth, c, Q⟩ := K
  obtain ⟨hx, hb, hml, hown, hts, hl, hlk, hF, hR⟩ := X
  intro H locs cells slots ls h1 h2 h3 h4 h5
  exact lv_ifnull hx hb d (k H locs cells slots ls h1 h2 h3 h4 h5)
theorem r_ifnullN {off : Int} (tgt : Nat) (X : CX K D z0 cc nL own rm) (d : decode cc pc = .ok (.ifnull off, 3)) (ht : (pc : Int) + off = (tgt : Int)) (k : WW K D z0 nL h kc ks tgt L st) : WW K D z0 nL h kc ks pc L (.null :: st) := by
  obtain ⟨p, l, e, R, s, m, args, below, meth, c, Q⟩ := K
  obtain ⟨hx, hb, hml, hown, hts, hl, hlk, hF, hR⟩ := X
  intro H locs cells slots ls h1 h2 h3 h4 h5
  exact lv_ifnullN hx hb d ht (k H locs cells slots ls h1 h2 h3 h4 h5)
theorem r_ifnonnull {a : Nat} {off : Int} (tgt : Nat) (X : CX K D z0 cc nL own rm) (d : decode cc pc = .ok (.ifnonnull off, 3)) (ht : (pc : Int) + off = (tgt : Int)) (k : WW K D z0 nL h kc ks tgt L st) : WW K D z0 nL h kc ks pc L (.ref a :: st) := by
  obtain ⟨p, l, e, R, s, m, args, below, meth, c, Q⟩ := K
  obtain ⟨hx, hb, hml, hown, hts, hl, hlk, hF, hR⟩ := X
  intro H locs cells slots ls h1 h2 h3 h4 h5
  exact lv_ifnonnull hx hb d ht (k H locs cells slots ls h1 h2 h3 h4 h5)
theorem r_ifnonnullN {off : Int} (X : CX K D z0 cc nL own rm) (d : decode cc pc = .ok (.ifnonnull off, 3)) (k : WW K D z0 nL h kc ks (pc + 3) L st) : WW K D z0 nL h kc ks pc L (.null :: st) := by
  obtain ⟨p, l, e, R, s, m, args, below, meth, c, Q⟩ := K
  obtain ⟨hx, hb, hml, hown, hts, hl, hlk, hF, hR⟩ := X
  intro H locs cells slots ls h1 h2 h3 h4 h5
  exact lv_ifnonnullN hx hb d (k H locs cells slots ls h1 h2 h3 h4 h5)
end Rows1
