/-! the law, from its entry -/
abbrev gvn : Cond := Jvm.Cond.and given_1 narrow_1
theorem ex_ref {t : Term} {n : String} {args : Array Value} {s : State} (h : (Cond.exactly t n).before args s = true) : ∃ a, t.eval args s none [] s = some (.ref a) := by
  obtain ⟨a, -, -, -, ha, -⟩ := Cond.exactly_spec h
  exact ⟨a, ha⟩
theorem arr_cls {ty : FieldType} {args : Array Value} {s : State} (h : (Cond.arrayClass ty).before args s = true) : ∃ c, ArrOfT s c ty ∧ s.vm.findClass ("[" ++ ty.toString) = some c := by
  obtain ⟨c, k, comp, h1, h2, h3⟩ := Cond.arrayClass_spec h
  exact ⟨c, fun n z => ⟨fun k h => (by cases h), k, h2, comp, h3⟩, h1⟩
theorem st_strs {args : Array Value} {s : State} (hts : ∀ w ∈ lw_tbl, w.before args s = true) (hs : ∀ w ∈ flatC gvn, w.before args s = true) : ∀ q ∈ strs, ∃ sa, vk_R q.1 q.2.1 q.2.2 sa s := by
  have key : ∀ (own tx : String) (k : Nat), (Cond.stringRef own k tx) ∈ lw_tbl → Cond.exactly (.string own k) "java/lang/String" ∈ flatC gvn → ∃ sa, vk_R own k tx sa s := by
    intro own tx k h1 h2
    obtain ⟨a, ha⟩ := ex_ref (hs _ h2)
    exact ⟨a, vk_R.of (hts _ h1) ha⟩
  unfold strs
  refine List.forall_mem_cons.mpr ⟨key "Trigonyard" "there is no such place" 282 (List.mem_of_getElem? (i := 190) (by decide +kernel)) (List.mem_of_getElem? (i := 34) (by decide +kernel)), ?_⟩
  refine List.forall_mem_cons.mpr ⟨key "Trigonyard" "a side is out of range" 46 (List.mem_of_getElem? (i := 230) (by decide +kernel)) (List.mem_of_getElem? (i := 60) (by decide +kernel)), ?_⟩
  refine List.forall_mem_cons.mpr ⟨key "Trigonyard" "a side is not less than the sum of the two others" 53 (List.mem_of_getElem? (i := 246) (by decide +kernel)) (List.mem_of_getElem? (i := 87) (by decide +kernel)), ?_⟩
  refine List.forall_mem_cons.mpr ⟨key "Trigonyard" "none is held there" 294 (List.mem_of_getElem? (i := 326) (by decide +kernel)) (List.mem_of_getElem? (i := 142) (by decide +kernel)), ?_⟩
  refine List.forall_mem_cons.mpr ⟨key "Trigonyard" "there is no such side" 284 (List.mem_of_getElem? (i := 350) (by decide +kernel)) (List.mem_of_getElem? (i := 167) (by decide +kernel)), ?_⟩
  refine List.forall_mem_cons.mpr ⟨key "Trigonyard" "the number is out of range" 81 (List.mem_of_getElem? (i := 369) (by decide +kernel)) (List.mem_of_getElem? (i := 196) (by decide +kernel)), ?_⟩
  refine List.forall_mem_cons.mpr ⟨key "Trigonyard" "a side would be above 65535" 302 (List.mem_of_getElem? (i := 374) (by decide +kernel)) (List.mem_of_getElem? (i := 231) (by decide +kernel)), ?_⟩
  refine List.forall_mem_cons.mpr ⟨key "Trigonyard" "one of the two is not right" 102 (List.mem_of_getElem? (i := 409) (by decide +kernel)) (List.mem_of_getElem? (i := 268) (by decide +kernel)), ?_⟩
  refine List.forall_mem_cons.mpr ⟨key "Trigonyard" "they have no leg of the same length" 107 (List.mem_of_getElem? (i := 414) (by decide +kernel)) (List.mem_of_getElem? (i := 306) (by decide +kernel)), ?_⟩
  refine List.forall_mem_cons.mpr ⟨key "Trigonyard" "the area is no whole number" 119 (List.mem_of_getElem? (i := 471) (by decide +kernel)) (List.mem_of_getElem? (i := 353) (by decide +kernel)), ?_⟩
  refine List.forall_mem_cons.mpr ⟨key "Trigonyard" "there is nothing such" 121 (List.mem_of_getElem? (i := 479) (by decide +kernel)) (List.mem_of_getElem? (i := 393) (by decide +kernel)), ?_⟩
  refine List.forall_mem_cons.mpr ⟨key "Trigonyard" "the length is no whole number" 129 (List.mem_of_getElem? (i := 489) (by decide +kernel)) (List.mem_of_getElem? (i := 428) (by decide +kernel)), ?_⟩
  refine List.forall_mem_cons.mpr ⟨key "Trigonyard" "m or n is out of range" 158 (List.mem_of_getElem? (i := 571) (by decide +kernel)) (List.mem_of_getElem? (i := 472) (by decide +kernel)), ?_⟩
  refine List.forall_mem_cons.mpr ⟨key "Trigonyard" "there is no such how" 160 (List.mem_of_getElem? (i := 579) (by decide +kernel)) (List.mem_of_getElem? (i := 510) (by decide +kernel)), ?_⟩
  refine List.forall_mem_cons.mpr ⟨key "Trigonyard" "it is not primitive" 300 (List.mem_of_getElem? (i := 590) (by decide +kernel)) (List.mem_of_getElem? (i := 547) (by decide +kernel)), ?_⟩
  refine List.forall_mem_cons.mpr ⟨key "Trigonyard" "3, 4, 5 comes of none" 181 (List.mem_of_getElem? (i := 614) (by decide +kernel)) (List.mem_of_getElem? (i := 584) (by decide +kernel)), ?_⟩
  refine List.forall_mem_cons.mpr ⟨key "Trigonyard" "there is no such which" 201 (List.mem_of_getElem? (i := 648) (by decide +kernel)) (List.mem_of_getElem? (i := 624) (by decide +kernel)), ?_⟩
  refine List.forall_mem_cons.mpr ⟨key "Trigonyard" "there is no such way" 207 (List.mem_of_getElem? (i := 657) (by decide +kernel)) (List.mem_of_getElem? (i := 666) (by decide +kernel)), ?_⟩
  refine List.forall_mem_cons.mpr ⟨key "Trigonyard" "the bound is out of range" 288 (List.mem_of_getElem? (i := 661) (by decide +kernel)) (List.mem_of_getElem? (i := 707) (by decide +kernel)), ?_⟩
  refine List.forall_mem_cons.mpr ⟨key "Trigonyard" "there is no such number" 221 (List.mem_of_getElem? (i := 709) (by decide +kernel)) (List.mem_of_getElem? (i := 754) (by decide +kernel)), ?_⟩
  refine List.forall_mem_cons.mpr ⟨key "Trigonyard" "the length is out of range" 290 (List.mem_of_getElem? (i := 720) (by decide +kernel)) (List.mem_of_getElem? (i := 800) (by decide +kernel)), ?_⟩
  refine List.forall_mem_cons.mpr ⟨key "Trigonyard" "there is no such by" 238 (List.mem_of_getElem? (i := 735) (by decide +kernel)) (List.mem_of_getElem? (i := 850) (by decide +kernel)), ?_⟩
  refine List.forall_mem_cons.mpr ⟨key "Trigonyard" "there is none" 244 (List.mem_of_getElem? (i := 751) (by decide +kernel)) (List.mem_of_getElem? (i := 894) (by decide +kernel)), ?_⟩
  refine List.forall_mem_cons.mpr ⟨key "Trigonyard" "one is out of range" 262 (List.mem_of_getElem? (i := 830) (by decide +kernel)) (List.mem_of_getElem? (i := 933) (by decide +kernel)), ?_⟩
  exact fun _ h => absurd h List.not_mem_nil
theorem st_ncs {args : Array Value} {s : State} (hs : ∀ w ∈ flatC gvn, w.before args s = true) : ∀ q ∈ ncs, va_Nc q.1 q.2 s := by
  unfold ncs
  refine List.forall_mem_cons.mpr ⟨va_Nc.of (hs (Cond.not (.castable "Trigonyard" "java/lang/IndexOutOfBoundsException")) (List.mem_of_getElem? (i := 6) (by decide +kernel))), ?_⟩
  refine List.forall_mem_cons.mpr ⟨va_Nc.of (hs (Cond.not (.castable "Trigonyard$Primitives" "java/lang/IndexOutOfBoundsException")) (List.mem_of_getElem? (i := 7) (by decide +kernel))), ?_⟩
  refine List.forall_mem_cons.mpr ⟨va_Nc.of (hs (Cond.not (.castable "TrigonyardModel" "java/lang/IndexOutOfBoundsException")) (List.mem_of_getElem? (i := 8) (by decide +kernel))), ?_⟩
  refine List.forall_mem_cons.mpr ⟨va_Nc.of (hs (Cond.not (.castable "java/lang/IllegalArgumentException" "java/lang/IndexOutOfBoundsException")) (List.mem_of_getElem? (i := 9) (by decide +kernel))), ?_⟩
  refine List.forall_mem_cons.mpr ⟨va_Nc.of (hs (Cond.not (.castable "java/lang/IllegalStateException" "java/lang/IndexOutOfBoundsException")) (List.mem_of_getElem? (i := 10) (by decide +kernel))), ?_⟩
  refine List.forall_mem_cons.mpr ⟨va_Nc.of (hs (Cond.not (.castable "Trigonyard$Triangle" "java/lang/IndexOutOfBoundsException")) (List.mem_of_getElem? (i := 11) (by decide +kernel))), ?_⟩
  refine List.forall_mem_cons.mpr ⟨va_Nc.of (hs (Cond.not (.castable "java/util/NoSuchElementException" "java/lang/IndexOutOfBoundsException")) (List.mem_of_getElem? (i := 12) (by decide +kernel))), ?_⟩
  refine List.forall_mem_cons.mpr ⟨va_Nc.of (hs (Cond.not (.castable "Trigonyard" "java/lang/IllegalArgumentException")) (List.mem_of_getElem? (i := 13) (by decide +kernel))), ?_⟩
  refine List.forall_mem_cons.mpr ⟨va_Nc.of (hs (Cond.not (.castable "Trigonyard$Primitives" "java/lang/IllegalArgumentException")) (List.mem_of_getElem? (i := 14) (by decide +kernel))), ?_⟩
  refine List.forall_mem_cons.mpr ⟨va_Nc.of (hs (Cond.not (.castable "TrigonyardModel" "java/lang/IllegalArgumentException")) (List.mem_of_getElem? (i := 15) (by decide +kernel))), ?_⟩
  refine List.forall_mem_cons.mpr ⟨va_Nc.of (hs (Cond.not (.castable "java/lang/IndexOutOfBoundsException" "java/lang/IllegalArgumentException")) (List.mem_of_getElem? (i := 16) (by decide +kernel))), ?_⟩
  refine List.forall_mem_cons.mpr ⟨va_Nc.of (hs (Cond.not (.castable "java/lang/IllegalStateException" "java/lang/IllegalArgumentException")) (List.mem_of_getElem? (i := 17) (by decide +kernel))), ?_⟩
  refine List.forall_mem_cons.mpr ⟨va_Nc.of (hs (Cond.not (.castable "Trigonyard$Triangle" "java/lang/IllegalArgumentException")) (List.mem_of_getElem? (i := 18) (by decide +kernel))), ?_⟩
  refine List.forall_mem_cons.mpr ⟨va_Nc.of (hs (Cond.not (.castable "java/util/NoSuchElementException" "java/lang/IllegalArgumentException")) (List.mem_of_getElem? (i := 19) (by decide +kernel))), ?_⟩
  refine List.forall_mem_cons.mpr ⟨va_Nc.of (hs (Cond.not (.castable "Trigonyard" "java/lang/IllegalStateException")) (List.mem_of_getElem? (i := 20) (by decide +kernel))), ?_⟩
  refine List.forall_mem_cons.mpr ⟨va_Nc.of (hs (Cond.not (.castable "Trigonyard$Primitives" "java/lang/IllegalStateException")) (List.mem_of_getElem? (i := 21) (by decide +kernel))), ?_⟩
  refine List.forall_mem_cons.mpr ⟨va_Nc.of (hs (Cond.not (.castable "TrigonyardModel" "java/lang/IllegalStateException")) (List.mem_of_getElem? (i := 22) (by decide +kernel))), ?_⟩
  refine List.forall_mem_cons.mpr ⟨va_Nc.of (hs (Cond.not (.castable "java/lang/IndexOutOfBoundsException" "java/lang/IllegalStateException")) (List.mem_of_getElem? (i := 23) (by decide +kernel))), ?_⟩
  refine List.forall_mem_cons.mpr ⟨va_Nc.of (hs (Cond.not (.castable "java/lang/IllegalArgumentException" "java/lang/IllegalStateException")) (List.mem_of_getElem? (i := 24) (by decide +kernel))), ?_⟩
  refine List.forall_mem_cons.mpr ⟨va_Nc.of (hs (Cond.not (.castable "Trigonyard$Triangle" "java/lang/IllegalStateException")) (List.mem_of_getElem? (i := 25) (by decide +kernel))), ?_⟩
  refine List.forall_mem_cons.mpr ⟨va_Nc.of (hs (Cond.not (.castable "java/util/NoSuchElementException" "java/lang/IllegalStateException")) (List.mem_of_getElem? (i := 26) (by decide +kernel))), ?_⟩
  refine List.forall_mem_cons.mpr ⟨va_Nc.of (hs (Cond.not (.castable "Trigonyard" "java/util/NoSuchElementException")) (List.mem_of_getElem? (i := 27) (by decide +kernel))), ?_⟩
  refine List.forall_mem_cons.mpr ⟨va_Nc.of (hs (Cond.not (.castable "Trigonyard$Primitives" "java/util/NoSuchElementException")) (List.mem_of_getElem? (i := 28) (by decide +kernel))), ?_⟩
  refine List.forall_mem_cons.mpr ⟨va_Nc.of (hs (Cond.not (.castable "TrigonyardModel" "java/util/NoSuchElementException")) (List.mem_of_getElem? (i := 29) (by decide +kernel))), ?_⟩
  refine List.forall_mem_cons.mpr ⟨va_Nc.of (hs (Cond.not (.castable "java/lang/IndexOutOfBoundsException" "java/util/NoSuchElementException")) (List.mem_of_getElem? (i := 30) (by decide +kernel))), ?_⟩
  refine List.forall_mem_cons.mpr ⟨va_Nc.of (hs (Cond.not (.castable "java/lang/IllegalArgumentException" "java/util/NoSuchElementException")) (List.mem_of_getElem? (i := 31) (by decide +kernel))), ?_⟩
  refine List.forall_mem_cons.mpr ⟨va_Nc.of (hs (Cond.not (.castable "java/lang/IllegalStateException" "java/util/NoSuchElementException")) (List.mem_of_getElem? (i := 32) (by decide +kernel))), ?_⟩
  refine List.forall_mem_cons.mpr ⟨va_Nc.of (hs (Cond.not (.castable "Trigonyard$Triangle" "java/util/NoSuchElementException")) (List.mem_of_getElem? (i := 33) (by decide +kernel))), ?_⟩
  exact fun _ h => absurd h List.not_mem_nil
theorem st_nwC {args : Array Value} {s : State} (hts : ∀ w ∈ lw_tbl, w.before args s = true) : ∀ q ∈ nwC, va_Nw (.castable q.1 q.2) s := by
  unfold nwC
  refine List.forall_mem_cons.mpr ⟨va_Nw.of rfl (hts (.castable "java/lang/IndexOutOfBoundsException" "java/lang/IndexOutOfBoundsException") (List.mem_of_getElem? (i := 150) (by decide +kernel))), ?_⟩
  refine List.forall_mem_cons.mpr ⟨va_Nw.of rfl (hts (.castable "java/lang/IllegalArgumentException" "java/lang/IllegalArgumentException") (List.mem_of_getElem? (i := 223) (by decide +kernel))), ?_⟩
  refine List.forall_mem_cons.mpr ⟨va_Nw.of rfl (hts (.castable "java/lang/IllegalStateException" "java/lang/IllegalStateException") (List.mem_of_getElem? (i := 239) (by decide +kernel))), ?_⟩
  refine List.forall_mem_cons.mpr ⟨va_Nw.of rfl (hts (.castable "java/util/NoSuchElementException" "java/util/NoSuchElementException") (List.mem_of_getElem? (i := 319) (by decide +kernel))), ?_⟩
  refine List.forall_mem_cons.mpr ⟨va_Nw.of rfl (hts (.castable "Trigonyard" "java/lang/Object") (List.mem_of_getElem? (i := 1191) (by decide +kernel))), ?_⟩
  refine List.forall_mem_cons.mpr ⟨va_Nw.of rfl (hts (.castable "Trigonyard$Primitives" "java/lang/Object") (List.mem_of_getElem? (i := 1192) (by decide +kernel))), ?_⟩
  refine List.forall_mem_cons.mpr ⟨va_Nw.of rfl (hts (.castable "TrigonyardModel" "java/lang/Object") (List.mem_of_getElem? (i := 1193) (by decide +kernel))), ?_⟩
  refine List.forall_mem_cons.mpr ⟨va_Nw.of rfl (hts (.castable "java/lang/IndexOutOfBoundsException" "java/lang/Object") (List.mem_of_getElem? (i := 1194) (by decide +kernel))), ?_⟩
  refine List.forall_mem_cons.mpr ⟨va_Nw.of rfl (hts (.castable "java/lang/IllegalArgumentException" "java/lang/Object") (List.mem_of_getElem? (i := 1195) (by decide +kernel))), ?_⟩
  refine List.forall_mem_cons.mpr ⟨va_Nw.of rfl (hts (.castable "java/lang/IllegalStateException" "java/lang/Object") (List.mem_of_getElem? (i := 1196) (by decide +kernel))), ?_⟩
  refine List.forall_mem_cons.mpr ⟨va_Nw.of rfl (hts (.castable "Trigonyard$Triangle" "java/lang/Object") (List.mem_of_getElem? (i := 1197) (by decide +kernel))), ?_⟩
  refine List.forall_mem_cons.mpr ⟨va_Nw.of rfl (hts (.castable "java/util/NoSuchElementException" "java/lang/Object") (List.mem_of_getElem? (i := 1198) (by decide +kernel))), ?_⟩
  refine List.forall_mem_cons.mpr ⟨va_Nw.of rfl (hts (.castable "java/lang/Throwable" "java/lang/Object") (List.mem_of_getElem? (i := 1199) (by decide +kernel))), ?_⟩
  refine List.forall_mem_cons.mpr ⟨va_Nw.of rfl (hts (.castable "java/lang/String" "java/lang/Object") (List.mem_of_getElem? (i := 1200) (by decide +kernel))), ?_⟩
  exact fun _ h => absurd h List.not_mem_nil
theorem st_nwD {args : Array Value} {s : State} (hts : ∀ w ∈ lw_tbl, w.before args s = true) : ∀ q ∈ nwD, va_Nw (.declares q) s := by
  unfold nwD
  refine List.forall_mem_cons.mpr ⟨va_Nw.of rfl (hts (.declares ⟨"java/lang/RuntimeException", "<init>", "()V"⟩) (List.mem_of_getElem? (i := 151) (by decide +kernel))), ?_⟩
  refine List.forall_mem_cons.mpr ⟨va_Nw.of rfl (hts (.declares ⟨"java/lang/RuntimeException", "<init>", "(Ljava/lang/String;)V"⟩) (List.mem_of_getElem? (i := 152) (by decide +kernel))), ?_⟩
  refine List.forall_mem_cons.mpr ⟨va_Nw.of rfl (hts (.declares ⟨"java/lang/Exception", "<init>", "()V"⟩) (List.mem_of_getElem? (i := 153) (by decide +kernel))), ?_⟩
  refine List.forall_mem_cons.mpr ⟨va_Nw.of rfl (hts (.declares ⟨"java/lang/Exception", "<init>", "(Ljava/lang/String;)V"⟩) (List.mem_of_getElem? (i := 154) (by decide +kernel))), ?_⟩
  refine List.forall_mem_cons.mpr ⟨va_Nw.of rfl (hts (.declares ⟨"java/lang/Throwable", "<init>", "()V"⟩) (List.mem_of_getElem? (i := 155) (by decide +kernel))), ?_⟩
  refine List.forall_mem_cons.mpr ⟨va_Nw.of rfl (hts (.declares ⟨"java/lang/Throwable", "<init>", "(Ljava/lang/String;)V"⟩) (List.mem_of_getElem? (i := 156) (by decide +kernel))), ?_⟩
  exact fun _ h => absurd h List.not_mem_nil
theorem Fx_start {args : Array Value} {s : State} (hts : ∀ w ∈ lw_tbl, w.before args s = true) (hgv : gvn.before args s = true) : ∃ D : va_G, Fx D s.heap.size s := by
  have hws : ∀ w ∈ WS, w.before args s = true := fun w hw => hts w (List.mem_filter.mp hw).1
  have hs := flat_of_before _ hgv
  obtain ⟨c0, i0, k0⟩ := u_known (C := RX6) (T := TX6) (N := 6) (n := 6) hws (in_cls4 0 _ rfl) (hws _ inst_X6)
  obtain ⟨c1, i1, k1⟩ := u_known (C := RX2) (T := TX2) (N := 2) (n := 2) hws (in_cls4 1 _ rfl) (hws _ inst_X2)
  obtain ⟨c2, i2, k2⟩ := u_known (C := RX5) (T := TX5) (N := 5) (n := 5) hws (in_cls4 2 _ rfl) (hws _ inst_X5)
  obtain ⟨c3, i3, k3⟩ := u_known (C := RX7) (T := TX7) (N := 14) (n := 14) hws (in_cls4 3 _ rfl) (hws _ inst_X7)
  obtain ⟨cI, aI1, aI2⟩ := arr_cls (hws _ arr_int)
  obtain ⟨cJ, aJ1, aJ2⟩ := arr_cls (hws _ arr_long)
  obtain ⟨cD, aD1, aD2⟩ := arr_cls (hws _ arr_double)
  have hao : (Cond.arrayOver (.object RX5)).before args s = true := hts _ (List.mem_of_getElem? (i := 66) (by decide +kernel))
  obtain ⟨comp, cR, kR, b1, b2, b3, b4, b5⟩ := Cond.arrayOver_spec hao
  have hA : ∀ a : Nat, a < s.heap.size → ¬ Fr s.heap.size a := fun a h => Nat.not_le.mpr h
  refine ⟨(fun k => if k = 0 then c0 else if k = 1 then c1 else if k = 2 then c2 else if k = 3 then c3 else if k = 100 then cI else if k = 101 then cJ else if k = 102 then cD else cR, fun k => if k = 0 then i0 else if k = 1 then i1 else if k = 2 then i2 else i3), ⟨?_, ?_⟩, ?_, ?_, st_strs hts hs, st_ncs hs, va_AO.of hao, Nat.le_refl _, st_nwC hts, st_nwD hts⟩
  · intro c q hq
    match c, hq with
    | 0, hq => cases hq; exact k0
    | 1, hq => cases hq; exact k1
    | 2, hq => cases hq; exact k2
    | 3, hq => cases hq; exact k3
    | k + 4, hq => simp [cls4] at hq
  · intro k q hk
    match k, hk with
    | 0, hk => cases hk; exact ⟨aI1, aI2⟩
    | 1, hk => cases hk; exact ⟨aJ1, aJ2⟩
    | 2, hk => cases hk; exact ⟨aD1, aD2⟩
    | 3, hk => cases hk; exact ⟨fun n z => ⟨fun k h => (by cases h), kR, b3, comp, b4⟩, kR, comp, b3, b4, b1, b5⟩
    | k + 4, hk => simp [tysD] at hk
  · exact vx_Zqof (hts _ (List.mem_of_getElem? (i := 175) (by decide +kernel))) (hws _ ini_Throwable) (hs _ (List.mem_of_getElem? (i := 4) (by decide +kernel))) hA
  · exact vx_Zqof (hts _ (List.mem_of_getElem? (i := 177) (by decide +kernel))) (hws _ ini_Throwable) (hs _ (List.mem_of_getElem? (i := 5) (by decide +kernel))) hA
/-! new objects -/
def Ext (h h' : Hp) : Prop := ∀ (q : Nat) (e : va_E), h q = some e → h' q = some e
theorem Ext_hu {h : Hp} {q : Nat} {e : va_E} (hq : h q = none) : Ext h (hu h q e) := fun _ _ hp => hu_new hq hp
theorem CS_ext {D : va_G} {h h' : Hp} {x o : Nat} {σ : Tg} {r : List Nat} {m : Nat} {od : Nat → Int} (hc : CS D h x o σ r m od) (k : Ext h h') : CS D h' x o σ r m od := CS_fr hc (fun q e hq _ => k q e hq)
theorem MSt_ext {D : va_G} {h h' : Hp} {y : Nat} {v : Nat → Nat} {σ : Tg} {r : List Nat} {m : Nat} {od : Nat → Int} {tc : Int} (hm : MSt D h y v σ r m od tc) (k : Ext h h') : MSt D h' y v σ r m od tc := by
  obtain ⟨e1, e2, e3, hi, lo, rf, sq, ⟨h0, h1, h2, h3, h4, h5, h6, h7, h8⟩, hE⟩ := hm
  exact ⟨e1, e2, e3, hi, lo, rf, sq, ⟨k _ _ h0, k _ _ h1, k _ _ h2, k _ _ h3, k _ _ h4, k _ _ h5, k _ _ h6, k _ _ h7, h8⟩, hE⟩
theorem getD_mem : ∀ {l : List Nat} {j : Nat}, j < l.length → l.getD j 0 ∈ l
  | [], j, h => absurd h (Nat.not_lt_zero j)
  | a :: l, 0, _ => by
    rw [List.getD_cons_zero]
    exact List.mem_cons_self
  | a :: l, j + 1, h => by
    rw [List.getD_cons_succ]
    exact List.mem_cons_of_mem _ (getD_mem (Nat.lt_of_succ_lt_succ h))
theorem nd_getD : ∀ {l : List Nat}, l.Nodup → ∀ i j, i < l.length → j < l.length → l.getD i 0 = l.getD j 0 → i = j
  | [], _, i, _, hi, _, _ => absurd hi (Nat.not_lt_zero i)
  | a :: l, _, 0, 0, _, _, _ => rfl
  | a :: l, h, 0, j + 1, _, hj, e => by
    rw [List.getD_cons_zero, List.getD_cons_succ] at e
    exact absurd (e ▸ getD_mem (Nat.lt_of_succ_lt_succ hj)) (List.nodup_cons.mp h).1
  | a :: l, h, i + 1, 0, hi, _, e => by
    rw [List.getD_cons_zero, List.getD_cons_succ] at e
    exact absurd (e ▸ getD_mem (Nat.lt_of_succ_lt_succ hi)) (List.nodup_cons.mp h).1
  | a :: l, h, i + 1, j + 1, hi, hj, e => by
    rw [List.getD_cons_succ, List.getD_cons_succ] at e
    exact congrArg (fun z => z + 1) (nd_getD (List.nodup_cons.mp h).2 i j (Nat.lt_of_succ_lt_succ hi) (Nat.lt_of_succ_lt_succ hj) e)
theorem CS_ini {D : va_G} {h : Hp} {x T f u v o kf ku kv : Nat} (hi : Ini h x (ob 0 [.ref T, .ref f, .ref u, .ref v, .ref o, iv 0]) [(o, aI D 16 (fun _ => 0)), (v, ob 1 [.ref kv, iv 0]), (kv, aI D 64 (fun _ => 0)), (u, ob 1 [.ref ku, iv 0]), (ku, aI D 64 (fun _ => 0)), (f, ob 1 [.ref kf, iv 0]), (kf, aI D 64 (fun _ => 0)), (T, aR D 16 (fun _ => none))]) : CS D h x o (fun _ => none) [] 0 (fun _ => 0) := by
  obtain ⟨h0, h1, h2⟩ := hi
  have hn : [o, v, kv, u, ku, f, kf, T].Nodup := h2
  simp only [List.nodup_cons, List.mem_cons, not_or] at hn
  obtain ⟨n1, ⟨n2a, n2b, n2c, n2d, n2e, n2f, n2g⟩, ⟨n3a, n3b, n3c, n3d, n3e, n3f⟩, ⟨n4a, n4b, n4c, n4d, n4e⟩, ⟨n5a, n5b, n5c, n5d⟩, n6⟩ := hn
  have g : ∀ (q : Nat) (e : va_E), (q, e) ∈ [(o, aI D 16 (fun _ => 0)), (v, ob 1 [.ref kv, iv 0]), (kv, aI D 64 (fun _ => 0)), (u, ob 1 [.ref ku, iv 0]), (ku, aI D 64 (fun _ => 0)), (f, ob 1 [.ref kf, iv 0]), (kf, aI D 64 (fun _ => 0)), (T, aR D 16 (fun _ => none))] → h q = some e := fun q e hm => (h1 (q, e) hm).1
  exact ⟨T, f, u, v, kf, ku, kv, fun _ => none, [], [], ⟨h0, g T (aR D 16 (fun _ => none)) (by simp), fun i _ => Or.inl ⟨rfl, rfl⟩⟩, ⟨g f (ob 1 [.ref kf, iv 0]) (by simp), fun _ => 0, g kf (aI D 64 (fun _ => 0)) (by simp), trivial⟩, ⟨g u (ob 1 [.ref ku, iv 0]) (by simp), fun _ => 0, g ku (aI D 64 (fun _ => 0)) (by simp), trivial⟩, ⟨g v (ob 1 [.ref kv, iv 0]) (by simp), fun _ => 0, g kv (aI D 64 (fun _ => 0)) (by simp), trivial⟩, g o (aI D 16 (fun _ => 0)) (by simp), ⟨Ne.symm n4b, Ne.symm n2d, Ne.symm n2b⟩, Ne.symm n5b, Ne.symm n3d, Ne.symm n3b⟩
theorem MS_ini {D : va_G} {h : Hp} {y b0 b1 b2 b3 b4 b5 b6 : Nat} (hi : Ini h y (ob 3 [.ref b0, .ref b1, .ref b2, .ref b3, .ref b4, .ref b5, .ref b6, iv 0, iv 0, iv 0, jv 0, jv 0, jv 0, iv 0]) [(b6, aI D 16 (fun _ => 0)), (b5, aI D 80 (fun _ => 0)), (b4, aI D 80 (fun _ => 0)), (b3, aI D 80 (fun _ => 0)), (b2, aI D 16 (fun _ => 0)), (b1, aI D 16 (fun _ => 0)), (b0, aI D 16 (fun _ => 0))]) : MSt D h y (fun i => [b6, b5, b4, b3, b2, b1, b0].getD (6 - i) 0) (fun _ => none) [] 0 (fun _ => 0) 0 := by
  obtain ⟨h0, h1, h2⟩ := hi
  have hn : [b6, b5, b4, b3, b2, b1, b0].Nodup := h2
  have g : ∀ (q : Nat) (e : va_E), (q, e) ∈ [(b6, aI D 16 (fun _ => 0)), (b5, aI D 80 (fun _ => 0)), (b4, aI D 80 (fun _ => 0)), (b3, aI D 80 (fun _ => 0)), (b2, aI D 16 (fun _ => 0)), (b1, aI D 16 (fun _ => 0)), (b0, aI D 16 (fun _ => 0))] → h q = some e := fun q e hm => (h1 (q, e) hm).1
  refine ⟨fun _ => 0, fun _ => 0, fun _ => 0, 0, 0, 0, 0, ⟨h0, g b0 (aI D 16 (fun _ => 0)) (by simp), g b1 (aI D 16 (fun _ => 0)) (by simp), g b2 (aI D 16 (fun _ => 0)) (by simp), g b3 (aI D 80 (fun _ => 0)) (by simp), g b4 (aI D 80 (fun _ => 0)) (by simp), g b5 (aI D 80 (fun _ => 0)) (by simp), g b6 (aI D 16 (fun _ => 0)) (by simp), fun i j hi hj e => ?_⟩, EL_0 _ _ _⟩
  have := nd_getD hn (6 - i) (6 - j) (by show 6 - i < 7; omega) (by show 6 - j < 7; omega) e
  omega
theorem dft0 : ∀ j, j < 6 → defaultValue (tyc 0 j) = vp_V [.null, .null, .null, .null, .null, iv 0] j
  | 0, _ => rfl
  | 1, _ => rfl
  | 2, _ => rfl
  | 3, _ => rfl
  | 4, _ => rfl
  | 5, _ => rfl
  | k + 6, h => absurd h (by omega)
theorem dft3 : ∀ j, j < 14 → defaultValue (tyc 3 j) = vp_V [.null, .null, .null, .null, .null, .null, .null, iv 0, iv 0, iv 0, jv 0, jv 0, jv 0, iv 0] j
  | 0, _ => rfl
  | 1, _ => rfl
  | 2, _ => rfl
  | 3, _ => rfl
  | 4, _ => rfl
  | 5, _ => rfl
  | 6, _ => rfl
  | 7, _ => rfl
  | 8, _ => rfl
  | 9, _ => rfl
  | 10, _ => rfl
  | 11, _ => rfl
  | 12, _ => rfl
  | 13, _ => rfl
  | k + 14, h => absurd h (by omega)
theorem law_loop {K : KT} {D : va_G} {z0 : Nat} (X : CX K D z0 cL_law 10 RL room_1) {sb N : Nat} {xs : Nat → Int32} (S : SX K z0 sb N xs) (hN : N ≤ 2560) {ox my ra rd oo : Nat} {mv : Nat → Nat} (fin : ∀ (h : Hp) (kc ks : Nat) (L : List (Nat × Value)), kc ≤ 601024 ∧ ks ≤ 7293034 → WW K D z0 10 h kc ks 2547 L []) :
    ∀ (q i : Nat) (h : Hp) (σ : Tg) (r : List Nat) (m : Nat) (od : Nat → Int), i + q = 513 → JS D h ox my ra rd oo mv σ r m od → PI r m od → WW K D z0 10 h (100 * i + 100) (1000 * i + 1000) 28 [(5, iv (5 * (i : Int))), (0, .ref sb), (1, .ref ox), (2, .ref my), (3, .ref ra), (4, .ref rd)] [] := by
  intro q
  induction q with
  | zero =>
    intro i h σ r m od hi J hp
    refine r_iload 0 X dL_law_28 rfl ?_
    refine r_aload_n 1 X dL_law_30 rfl ?_
    refine r_slen X S dL_law_31 ?_
    refine r_iconst X dL_law_32 ?_
    refine r_isub X dL_law_33 ?_
    refine r_icmp_gt 2547 X dL_law_34 (by decide) ⟨by omega, by omega⟩ ⟨by omega, by omega⟩ (fun c34 => ?_) (fun c34 => ?_)
    · exact fin _ _ _ _ ⟨by omega, by omega⟩
    · exfalso
      omega
  | succ q ih =>
    intro i h σ r m od hi J hp
    refine r_iload 0 X dL_law_28 rfl ?_
    refine r_aload_n 1 X dL_law_30 rfl ?_
    refine r_slen X S dL_law_31 ?_
    refine r_iconst X dL_law_32 ?_
    refine r_isub X dL_law_33 ?_
    refine r_icmp_gt 2547 X dL_law_34 (by decide) ⟨by omega, by omega⟩ ⟨by omega, by omega⟩ (fun c34 => ?_) (fun c34 => ?_)
    · exact fin _ _ _ _ ⟨by omega, by omega⟩
    · have kk : ∀ (h' : Hp) (σ' : Tg) (r' : List Nat) (m' : Nat) (od' : Nat → Int), JS D h' ox my ra rd oo mv σ' r' m' od' → PI r' m' od' → WW K D z0 10 h' ((100 * i + 100) + 100) ((1000 * i + 1000) + 1000) 2541 [(5, iv (5 * (i : Int))), (0, .ref sb), (1, .ref ox), (2, .ref my), (3, .ref ra), (4, .ref rd)] [] := by
        intro h9 σ9 r9 m9 od9 J9 hp9
        refine r_iinc 0 (L' := [(5, iv ((5 * (i : Int)) + 5)), (0, .ref sb), (1, .ref ox), (2, .ref my), (3, .ref ra), (4, .ref rd)]) X dL_law_2541 rfl (by decide) rfl ?_
        refine r_goto 28 X dL_law_2544 (by decide) ?_
        refine WW_L (L' := [(5, iv (5 * ((i + 1 : Nat) : Int))), (0, .ref sb), (1, .ref ox), (2, .ref my), (3, .ref ra), (4, .ref rd)]) (by rw [show (5 * (i : Int)) + 5 = 5 * ((i + 1 : Nat) : Int) by omega]) ?_
        exact WW_room (by omega) (by omega) (ih (i + 1) h9 σ9 r9 m9 od9 (by omega) J9 hp9)
      obtain ⟨u, hu⟩ : ∃ u, u = (xs (5 * (i : Int)).toNat).toInt := ⟨_, rfl⟩
      have u_ : I32 u := by rw [hu]; exact i32_toI _
      refine r_aload_n 1 X dL_law_37 rfl ?_
      refine r_iload 0 X dL_law_38 rfl ?_
      refine r_sld (v := u) X S dL_law_40 ⟨by omega, by omega⟩ hu ?_
      refine r_bipush X dL_law_41 (by decide) ?_
      refine r_iand X dL_law_43 6 64 (by decide) (by decide) (by decide) ?_
      obtain ⟨t, ht⟩ : ∃ t, t = u % 64 := ⟨_, rfl⟩
      have t_ : 0 ≤ t ∧ t < 64 := by omega
      rw [← ht]
      rcases (show t = 0 ∨ t = 1 ∨ t = 2 ∨ t = 3 ∨ t = 4 ∨ t = 5 ∨ t = 6 ∨ t = 7 ∨ t = 8 ∨ t = 9 ∨ t = 10 ∨ t = 11 ∨ t = 12 ∨ t = 13 ∨ t = 14 ∨ t = 15 ∨ t = 16 ∨ t = 17 ∨ t = 18 ∨ t = 19 ∨ t = 20 ∨ t = 21 ∨ t = 22 ∨ t = 23 ∨ t = 24 ∨ t = 25 ∨ t = 26 ∨ t = 27 ∨ t = 28 ∨ t = 29 ∨ t = 30 ∨ t = 31 ∨ t = 32 ∨ t = 33 ∨ t = 34 ∨ 34 < t by omega) with e | e | e | e | e | e | e | e | e | e | e | e | e | e | e | e | e | e | e | e | e | e | e | e | e | e | e | e | e | e | e | e | e | e | e | e
      · rw [e]
        refine r_swIn X 156 200 dL_law_44 ⟨by decide, by decide⟩ (by decide) (by decide) (by decide) (by decide) ?_
        exact case_put X S J hp _ ⟨by omega, by omega⟩ ⟨by omega, by omega⟩ kk
      · rw [e]
        refine r_swIn X 248 292 dL_law_44 ⟨by decide, by decide⟩ (by decide) (by decide) (by decide) (by decide) ?_
        exact case_take X S J hp _ ⟨by omega, by omega⟩ ⟨by omega, by omega⟩ kk
      · rw [e]
        refine r_swIn X 304 348 dL_law_44 ⟨by decide, by decide⟩ (by decide) (by decide) (by decide) (by decide) ?_
        exact case_isHeld X S J hp _ ⟨by omega, by omega⟩ ⟨by omega, by omega⟩ kk
      · rw [e]
        refine r_swIn X 367 411 dL_law_44 ⟨by decide, by decide⟩ (by decide) (by decide) (by decide) (by decide) ?_
        exact case_side X S J hp _ ⟨by omega, by omega⟩ ⟨by omega, by omega⟩ kk
      · rw [e]
        refine r_swIn X 435 479 dL_law_44 ⟨by decide, by decide⟩ (by decide) (by decide) (by decide) (by decide) ?_
        exact case_copy X S J hp _ ⟨by omega, by omega⟩ ⟨by omega, by omega⟩ kk
      · rw [e]
        refine r_swIn X 503 547 dL_law_44 ⟨by decide, by decide⟩ (by decide) (by decide) (by decide) (by decide) ?_
        exact case_scale X S J hp _ ⟨by omega, by omega⟩ ⟨by omega, by omega⟩ kk
      · rw [e]
        refine r_swIn X 571 615 dL_law_44 ⟨by decide, by decide⟩ (by decide) (by decide) (by decide) (by decide) ?_
        exact case_reduce X S J hp _ ⟨by omega, by omega⟩ ⟨by omega, by omega⟩ kk
      · rw [e]
        refine r_swIn X 627 671 dL_law_44 ⟨by decide, by decide⟩ (by decide) (by decide) (by decide) (by decide) ?_
        exact case_join X S J hp _ ⟨by omega, by omega⟩ ⟨by omega, by omega⟩ kk
      · rw [e]
        refine r_swIn X 707 751 dL_law_44 ⟨by decide, by decide⟩ (by decide) (by decide) (by decide) (by decide) ?_
        exact case_kind X S J hp _ ⟨by omega, by omega⟩ ⟨by omega, by omega⟩ kk
      · rw [e]
        refine r_swIn X 763 807 dL_law_44 ⟨by decide, by decide⟩ (by decide) (by decide) (by decide) (by decide) ?_
        exact case_angle X S J hp _ ⟨by omega, by omega⟩ ⟨by omega, by omega⟩ kk
      · rw [e]
        refine r_swIn X 831 875 dL_law_44 ⟨by decide, by decide⟩ (by decide) (by decide) (by decide) (by decide) ?_
        exact case_areaIsWhole X S J hp _ ⟨by omega, by omega⟩ ⟨by omega, by omega⟩ kk
      · rw [e]
        refine r_swIn X 894 938 dL_law_44 ⟨by decide, by decide⟩ (by decide) (by decide) (by decide) (by decide) ?_
        exact case_area X S J hp _ ⟨by omega, by omega⟩ ⟨by omega, by omega⟩ kk
      · rw [e]
        refine r_swIn X 949 993 dL_law_44 ⟨by decide, by decide⟩ (by decide) (by decide) (by decide) (by decide) ?_
        exact case_circle X S J hp _ ⟨by omega, by omega⟩ ⟨by omega, by omega⟩ kk
      · rw [e]
        refine r_swIn X 1018 1062 dL_law_44 ⟨by decide, by decide⟩ (by decide) (by decide) (by decide) (by decide) ?_
        exact case_compareAreas X S J hp _ ⟨by omega, by omega⟩ ⟨by omega, by omega⟩ kk
      · rw [e]
        refine r_swIn X 1086 1130 dL_law_44 ⟨by decide, by decide⟩ (by decide) (by decide) (by decide) (by decide) ?_
        exact case_product X S J hp _ ⟨by omega, by omega⟩ ⟨by omega, by omega⟩ kk
      · rw [e]
        refine r_swIn X 1141 1185 dL_law_44 ⟨by decide, by decide⟩ (by decide) (by decide) (by decide) (by decide) ?_
        exact case_bits X S J hp _ ⟨by omega, by omega⟩ ⟨by omega, by omega⟩ kk
      · rw [e]
        refine r_swIn X 1197 1241 dL_law_44 ⟨by decide, by decide⟩ (by decide) (by decide) (by decide) (by decide) ?_
        exact case_hypot X S J hp _ ⟨by omega, by omega⟩ ⟨by omega, by omega⟩ kk
      · rw [e]
        refine r_swIn X 1298 1342 dL_law_44 ⟨by decide, by decide⟩ (by decide) (by decide) (by decide) (by decide) ?_
        exact case_root X S J hp _ ⟨by omega, by omega⟩ ⟨by omega, by omega⟩ kk
      · rw [e]
        refine r_swIn X 1407 1451 dL_law_44 ⟨by decide, by decide⟩ (by decide) (by decide) (by decide) (by decide) ?_
        exact case_shape X S J hp _ ⟨by omega, by omega⟩ ⟨by omega, by omega⟩ kk
      · rw [e]
        refine r_swIn X 1485 1529 dL_law_44 ⟨by decide, by decide⟩ (by decide) (by decide) (by decide) (by decide) ?_
        exact case_mean X S J hp _ ⟨by omega, by omega⟩ ⟨by omega, by omega⟩ kk
      · rw [e]
        refine r_swIn X 1526 1570 dL_law_44 ⟨by decide, by decide⟩ (by decide) (by decide) (by decide) (by decide) ?_
        exact case_euclid X S J hp _ ⟨by omega, by omega⟩ ⟨by omega, by omega⟩ kk
      · rw [e]
        refine r_swIn X 1606 1650 dL_law_44 ⟨by decide, by decide⟩ (by decide) (by decide) (by decide) (by decide) ?_
        exact case_step X S J hp _ ⟨by omega, by omega⟩ ⟨by omega, by omega⟩ kk
      · rw [e]
        refine r_swIn X 1676 1720 dL_law_44 ⟨by decide, by decide⟩ (by decide) (by decide) (by decide) (by decide) ?_
        exact case_depth X S J hp _ ⟨by omega, by omega⟩ ⟨by omega, by omega⟩ kk
      · rw [e]
        refine r_swIn X 1732 1776 dL_law_44 ⟨by decide, by decide⟩ (by decide) (by decide) (by decide) (by decide) ?_
        exact case_generator X S J hp _ ⟨by omega, by omega⟩ ⟨by omega, by omega⟩ kk
      · rw [e]
        refine r_swIn X 1802 1846 dL_law_44 ⟨by decide, by decide⟩ (by decide) (by decide) (by decide) (by decide) ?_
        exact case_list X S J hp _ ⟨by omega, by omega⟩ ⟨by omega, by omega⟩ kk
      · rw [e]
        refine r_swIn X 1872 1916 dL_law_44 ⟨by decide, by decide⟩ (by decide) (by decide) (by decide) (by decide) ?_
        exact case_listed X S J hp _ ⟨by omega, by omega⟩ ⟨by omega, by omega⟩ kk
      · rw [e]
        refine r_swIn X 1940 1984 dL_law_44 ⟨by decide, by decide⟩ (by decide) (by decide) (by decide) (by decide) ?_
        exact case_counts X S J hp _ ⟨by omega, by omega⟩ ⟨by omega, by omega⟩ kk
      · rw [e]
        refine r_swIn X 2010 2054 dL_law_44 ⟨by decide, by decide⟩ (by decide) (by decide) (by decide) (by decide) ?_
        exact case_sort X S J hp _ ⟨by omega, by omega⟩ ⟨by omega, by omega⟩ kk
      · rw [e]
        refine r_swIn X 2068 2112 dL_law_44 ⟨by decide, by decide⟩ (by decide) (by decide) (by decide) (by decide) ?_
        exact case_sorted X S J hp _ ⟨by omega, by omega⟩ ⟨by omega, by omega⟩ kk
      · rw [e]
        refine r_swIn X 2124 2168 dL_law_44 ⟨by decide, by decide⟩ (by decide) (by decide) (by decide) (by decide) ?_
        exact case_checksum X S J hp _ ⟨by omega, by omega⟩ ⟨by omega, by omega⟩ kk
      · rw [e]
        refine r_swIn X 2138 2182 dL_law_44 ⟨by decide, by decide⟩ (by decide) (by decide) (by decide) (by decide) ?_
        exact case_isTrue X S J hp _ ⟨by omega, by omega⟩ ⟨by omega, by omega⟩ kk
      · rw [e]
        refine r_swIn X 2201 2245 dL_law_44 ⟨by decide, by decide⟩ (by decide) (by decide) (by decide) (by decide) ?_
        exact case_rootIsTrue X S J hp _ ⟨by omega, by omega⟩ ⟨by omega, by omega⟩ kk
      · rw [e]
        refine r_swIn X 2296 2340 dL_law_44 ⟨by decide, by decide⟩ (by decide) (by decide) (by decide) (by decide) ?_
        exact case_hypotIsTrue X S J hp _ ⟨by omega, by omega⟩ ⟨by omega, by omega⟩ kk
      · rw [e]
        refine r_swIn X 2371 2415 dL_law_44 ⟨by decide, by decide⟩ (by decide) (by decide) (by decide) (by decide) ?_
        exact case_listIsTrue X S J hp _ ⟨by omega, by omega⟩ ⟨by omega, by omega⟩ kk
      · rw [e]
        refine r_swIn X 2434 2478 dL_law_44 ⟨by decide, by decide⟩ (by decide) (by decide) (by decide) (by decide) ?_
        exact case_countIsTrue X S J hp _ ⟨by omega, by omega⟩ ⟨by omega, by omega⟩ kk
      · refine r_swOut X 2541 dL_law_44 ⟨by omega, by omega⟩ (Or.inr e) (by decide) ?_
        exact WW_room (by omega) (by omega) (kk _ _ _ _ _ J hp)
