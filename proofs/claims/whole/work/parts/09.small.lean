/-! leaves; the JDK's min, max, abs, compare; steps -/
theorem pv {v r : Value} {h : Hp} (e : v = r) : PV r h (some v) h := ⟨congrArg some e, rfl⟩
theorem pv_i {a b : Int} {h : Hp} (e : a = b) : PV (iv b) h (some (iv a)) h := pv (congrArg iv e)
theorem pv_j {a b : Int} {h : Hp} (e : a = b) : PV (jv b) h (some (jv a)) h := pv (congrArg jv e)
theorem pv_t {P : Prop} [Decidable P] {h : Hp} (e : P) : PV (iv (if P then 1 else 0)) h (some (iv 1)) h := pv (by rw [if_pos e])
theorem pv_f {P : Prop} [Decidable P] {h : Hp} (e : ¬ P) : PV (iv (if P then 1 else 0)) h (some (iv 0)) h := pv (by rw [if_neg e])
theorem pv_b {P Q : Prop} [Decidable P] [Decidable Q] {h : Hp} (e : P ↔ Q) : PV (iv (if Q then 1 else 0)) h (some (iv (if P then 1 else 0))) h := pv (by by_cases q : Q; rw [if_pos q, if_pos (e.mpr q)]; rw [if_neg q, if_neg (fun z => q (e.mp z))])
theorem i32_max {a b : Int} (ha : I32 a) (hb : I32 b) : (if Int32.ofInt a < Int32.ofInt b then Int32.ofInt b else Int32.ofInt a) = Int32.ofInt (max a b) := by
  by_cases q : a < b
  · rw [if_pos ((i32_lt ha hb).mpr q), show max a b = b by omega]
  · rw [if_neg (fun z => q ((i32_lt ha hb).mp z)), show max a b = a by omega]
theorem i32_min {a b : Int} (ha : I32 a) (hb : I32 b) : (if Int32.ofInt b < Int32.ofInt a then Int32.ofInt b else Int32.ofInt a) = Int32.ofInt (min a b) := by
  by_cases q : b < a
  · rw [if_pos ((i32_lt hb ha).mpr q), show min a b = b by omega]
  · rw [if_neg (fun z => q ((i32_lt hb ha).mp z)), show min a b = a by omega]
theorem i32_abs {a : Int} (ha : I32 a) : (if 0 ≤ Int32.ofInt a then Int32.ofInt a else 0 - Int32.ofInt a) = Int32.ofInt (a.natAbs : Int) := by
  rw [show (0 : Int32) = Int32.ofInt 0 from rfl]
  by_cases q : 0 ≤ a
  · rw [if_pos ((i32_le (a := 0) ⟨by omega, by omega⟩ ha).mpr q), show (a.natAbs : Int) = a by omega]
  · rw [if_neg (fun z => q ((i32_le (a := 0) ⟨by omega, by omega⟩ ha).mp z)), show (a.natAbs : Int) = 0 - a by omega, Int32.ofInt_sub]
theorem i64_abs {a : Int} (ha : I64 a) : (if 0 < Int64.ofInt a then Int64.ofInt a else -Int64.ofInt a) = Int64.ofInt (a.natAbs : Int) := by
  rw [show (0 : Int64) = Int64.ofInt 0 from rfl]
  by_cases q : 0 < a
  · rw [if_pos ((i64_lt (a := 0) ⟨by omega, by omega⟩ ha).mpr q), show (a.natAbs : Int) = a by omega]
  · rw [if_neg (fun z => q ((i64_lt (a := 0) ⟨by omega, by omega⟩ ha).mp z)), show (a.natAbs : Int) = -a by omega, Int64.ofInt_neg]
section Rows4
variable {K : KT} {D : va_G} {z0 nL : Nat} {h : Hp} {kc ks pc : Nat} {L : List (Nat × Value)} {st : List Value} {cc : ByteArray} {own : String} {rm : Room}
theorem r_mmax (X : CX K D z0 cc nL own rm) {i : Nat} (d : decode cc pc = .ok (.invokestatic i, 3)) (lk : lkS own i yJ9_max_7cf53 cJ9_max_7cf53 2 (some .int) 2) {a b : Int} (ha : I32 a) (hb0 : I32 b) (hw : (st.map fun v => v.category).sum ≤ 8) (hr : 1 ≤ rm.frames ∧ 21 ≤ rm.locals) (kk : WW K D z0 nL h kc ks (pc + 3) L (iv (max a b) :: st)) (hc : kc ≤ rm.cells ∧ ks ≤ rm.slots := by decide) : WW K D z0 nL h kc ks pc L (iv b :: iv a :: st) := by
  obtain ⟨p, l, e, R, s, m, args, below, meth, c, Q⟩ := K
  obtain ⟨hx, hb, hml, hown, hts, hl, hlk, hF, hR⟩ := X
  subst hR
  obtain ⟨l1, l2, l3, l4, l5, l6⟩ := lk
  intro H locs cells slots ls h1 h2 h3 h4 h5
  refine va_mmax hx hb (by rw [hml]; exact h5.1.symm) hown (hts _ l1) (hts _ l2) (hts _ l3) (hts _ l4) hr.1 (by omega) (by omega) (by omega) d ?_
  rw [i32_max ha hb0]
  exact kk H locs cells slots ls h1 h2 h3 h4 h5
theorem r_mmin (X : CX K D z0 cc nL own rm) {i : Nat} (d : decode cc pc = .ok (.invokestatic i, 3)) (lk : lkS own i yJ9_min_7cf53 cJ9_min_7cf53 2 (some .int) 2) {a b : Int} (ha : I32 a) (hb0 : I32 b) (hw : (st.map fun v => v.category).sum ≤ 8) (hr : 1 ≤ rm.frames ∧ 21 ≤ rm.locals) (kk : WW K D z0 nL h kc ks (pc + 3) L (iv (min a b) :: st)) (hc : kc ≤ rm.cells ∧ ks ≤ rm.slots := by decide) : WW K D z0 nL h kc ks pc L (iv b :: iv a :: st) := by
  obtain ⟨p, l, e, R, s, m, args, below, meth, c, Q⟩ := K
  obtain ⟨hx, hb, hml, hown, hts, hl, hlk, hF, hR⟩ := X
  subst hR
  obtain ⟨l1, l2, l3, l4, l5, l6⟩ := lk
  intro H locs cells slots ls h1 h2 h3 h4 h5
  refine va_mmin hx hb (by rw [hml]; exact h5.1.symm) hown (hts _ l1) (hts _ l2) (hts _ l3) (hts _ l4) hr.1 (by omega) (by omega) (by omega) d ?_
  rw [i32_min ha hb0]
  exact kk H locs cells slots ls h1 h2 h3 h4 h5
theorem r_mabs (X : CX K D z0 cc nL own rm) {i : Nat} (d : decode cc pc = .ok (.invokestatic i, 3)) (lk : lkS own i yJ9_abs_0f7a4 cJ9_abs_0f7a4 1 (some .int) 1) {a : Int} (ha : I32 a) (hw : (st.map fun v => v.category).sum ≤ 8) (hr : 1 ≤ rm.frames ∧ 21 ≤ rm.locals) (kk : WW K D z0 nL h kc ks (pc + 3) L (iv (a.natAbs : Int) :: st)) (hc : kc ≤ rm.cells ∧ ks ≤ rm.slots := by decide) : WW K D z0 nL h kc ks pc L (iv a :: st) := by
  obtain ⟨p, l, e, R, s, m, args, below, meth, c, Q⟩ := K
  obtain ⟨hx, hb, hml, hown, hts, hl, hlk, hF, hR⟩ := X
  subst hR
  obtain ⟨l1, l2, l3, l4, l5, l6⟩ := lk
  intro H locs cells slots ls h1 h2 h3 h4 h5
  refine va_mabs hx hb (by rw [hml]; exact h5.1.symm) hown (hts _ l1) (hts _ l2) (hts _ l3) (hts _ l4) hr.1 (by omega) (by omega) (by omega) d ?_
  rw [i32_abs ha]
  exact kk H locs cells slots ls h1 h2 h3 h4 h5
theorem r_labs (X : CX K D z0 cc nL own rm) {i : Nat} (d : decode cc pc = .ok (.invokestatic i, 3)) (lk : lkS own i yJ9_abs_067f4 cJ9_abs_067f4 2 (some .long) 1) {a : Int} (ha : I64 a) (hw : (st.map fun v => v.category).sum ≤ 8) (hr : 1 ≤ rm.frames ∧ 21 ≤ rm.locals) (kk : WW K D z0 nL h kc ks (pc + 3) L (jv (a.natAbs : Int) :: st)) (hc : kc ≤ rm.cells ∧ ks ≤ rm.slots := by decide) : WW K D z0 nL h kc ks pc L (jv a :: st) := by
  obtain ⟨p, l, e, R, s, m, args, below, meth, c, Q⟩ := K
  obtain ⟨hx, hb, hml, hown, hts, hl, hlk, hF, hR⟩ := X
  subst hR
  obtain ⟨l1, l2, l3, l4, l5, l6⟩ := lk
  intro H locs cells slots ls h1 h2 h3 h4 h5
  refine va_mabs_long hx hb (by rw [hml]; exact h5.1.symm) hown (hts _ l1) (hts _ l2) (hts _ l3) (hts _ l4) hr.1 (by omega) (by omega) (by omega) d ?_
  rw [i64_abs ha]
  exact kk H locs cells slots ls h1 h2 h3 h4 h5
end Rows4
/-- -1, 0 or 1, as the first one is less, the same or more -/
def cmpv (a b : Int) : Int := if a < b then -1 else if a = b then 0 else 1
abbrev rJ13_compare_74951 : Room := { frames := 0, cells := 0, slots := 0, locals := 0 }
theorem c_J13_compare_74951 {l : Launch} (hl : l.stackTraces = false) (D : va_G) (z0 : Nat) (h : Hp) (a b : Int) (ha : I64 a) (hb : I64 b) : CC l yJ13_compare_74951 cJ13_compare_74951 4 (some .int) rJ13_compare_74951 D z0 h [jv a, jv b] (PV (iv (cmpv a b)) h) NX := by
  refine CC_of RJ13 hl (by decide) rfl (Nat.le_of_ble_eq_true rfl) (fun K X Y Z hmn hKl => ?_)
  subst hKl
  show WW K D z0 4 h 0 0 0 [(0, jv a), (2, jv b)] []
  refine r_lload_n 0 X dJ13_compare_74951_0 rfl ?_
  refine r_lload_n 1 X dJ13_compare_74951_1 rfl ?_
  refine r_lcmp_ge 10 X dJ13_compare_74951_2 dJ13_compare_74951_3 (by decide) ⟨by omega, by omega⟩ ⟨by omega, by omega⟩ (fun c2 => ?_) (fun c2 => ?_)
  · refine r_lload_n 0 X dJ13_compare_74951_10 rfl ?_
    refine r_lload_n 1 X dJ13_compare_74951_11 rfl ?_
    refine r_lcmp_ne 20 X dJ13_compare_74951_12 dJ13_compare_74951_13 (by decide) ⟨by omega, by omega⟩ ⟨by omega, by omega⟩ (fun c12 => ?_) (fun c12 => ?_)
    · refine r_iconst X dJ13_compare_74951_20 ?_
      refine r_iret X Y dJ13_compare_74951_21 (by decide) (by decide) ?_
      exact pv_i (by unfold cmpv; split <;> (try split) <;> omega)
    · refine r_iconst X dJ13_compare_74951_16 ?_
      refine r_goto 21 X dJ13_compare_74951_17 (by decide) ?_
      refine r_iret X Y dJ13_compare_74951_21 (by decide) (by decide) ?_
      exact pv_i (by unfold cmpv; split <;> (try split) <;> omega)
  · refine r_iconst X dJ13_compare_74951_6 ?_
    refine r_goto 21 X dJ13_compare_74951_7 (by decide) ?_
    refine r_iret X Y dJ13_compare_74951_21 (by decide) (by decide) ?_
    exact pv_i (by unfold cmpv; split <;> (try split) <;> omega)
/-- the sign that a step puts before the odd leg, before the even leg; how: a 97, b 98, c 99 -/
def so (how x : Int) : Int := if how = 99 then -x else x
def se (how y : Int) : Int := if how = 97 then -y else y
abbrev rX3_signedOdd : Room := { frames := 0, cells := 0, slots := 0, locals := 0 }
theorem c_X3_signedOdd {l : Launch} (hl : l.stackTraces = false) (D : va_G) (z0 : Nat) (h : Hp) (c x : Int) (hc : I32 c) : CC l yX3_signedOdd cX3_signedOdd 2 (some .int) rX3_signedOdd D z0 h [iv c, iv x] (PV (iv (so c x)) h) NX := by
  refine CC_of RX3 hl (by decide) rfl (Nat.le_of_ble_eq_true rfl) (fun K X Y Z hmn hKl => ?_)
  subst hKl
  show WW K D z0 2 h 0 0 0 [(0, iv c), (1, iv x)] []
  refine r_iload_n 0 X dX3_signedOdd_0 rfl ?_
  refine r_bipush X dX3_signedOdd_1 (by decide) ?_
  refine r_icmp_ne 11 X dX3_signedOdd_3 (by decide) ⟨by omega, by omega⟩ ⟨by omega, by omega⟩ (fun c3 => ?_) (fun c3 => ?_)
  · refine r_iload_n 1 X dX3_signedOdd_11 rfl ?_
    refine r_iret X Y dX3_signedOdd_12 (by decide) (by decide) ?_
    exact pv_i (by unfold so; split <;> omega)
  · refine r_iload_n 1 X dX3_signedOdd_6 rfl ?_
    refine r_ineg X dX3_signedOdd_7 ?_
    refine r_goto 12 X dX3_signedOdd_8 (by decide) ?_
    refine r_iret X Y dX3_signedOdd_12 (by decide) (by decide) ?_
    exact pv_i (by unfold so; split <;> omega)
abbrev rX3_signedEven : Room := { frames := 0, cells := 0, slots := 0, locals := 0 }
theorem c_X3_signedEven {l : Launch} (hl : l.stackTraces = false) (D : va_G) (z0 : Nat) (h : Hp) (c y : Int) (hc : I32 c) : CC l yX3_signedEven cX3_signedEven 2 (some .int) rX3_signedEven D z0 h [iv c, iv y] (PV (iv (se c y)) h) NX := by
  refine CC_of RX3 hl (by decide) rfl (Nat.le_of_ble_eq_true rfl) (fun K X Y Z hmn hKl => ?_)
  subst hKl
  show WW K D z0 2 h 0 0 0 [(0, iv c), (1, iv y)] []
  refine r_iload_n 0 X dX3_signedEven_0 rfl ?_
  refine r_bipush X dX3_signedEven_1 (by decide) ?_
  refine r_icmp_ne 11 X dX3_signedEven_3 (by decide) ⟨by omega, by omega⟩ ⟨by omega, by omega⟩ (fun c3 => ?_) (fun c3 => ?_)
  · refine r_iload_n 1 X dX3_signedEven_11 rfl ?_
    refine r_iret X Y dX3_signedEven_12 (by decide) (by decide) ?_
    exact pv_i (by unfold se; split <;> omega)
  · refine r_iload_n 1 X dX3_signedEven_6 rfl ?_
    refine r_ineg X dX3_signedEven_7 ?_
    refine r_goto 12 X dX3_signedEven_8 (by decide) ?_
    refine r_iret X Y dX3_signedEven_12 (by decide) (by decide) ?_
    exact pv_i (by unfold se; split <;> omega)
abbrev rX3_oddLeg : Room := { frames := 1, cells := 0, slots := 0, locals := 21 }
theorem c_X3_oddLeg {l : Launch} (hl : l.stackTraces = false) (D : va_G) (z0 : Nat) (h : Hp) (c x y z : Int) (hc : I32 c) : CC l yX3_oddLeg cX3_oddLeg 4 (some .int) rX3_oddLeg D z0 h [iv c, iv x, iv y, iv z] (PV (iv (so c x + 2 * se c y + 2 * z)) h) NX := by
  refine CC_of RX3 hl (by decide) rfl (Nat.le_of_ble_eq_true rfl) (fun K X Y Z hmn hKl => ?_)
  subst hKl
  show WW K D z0 4 h 0 0 0 [(0, iv c), (1, iv x), (2, iv y), (3, iv z)] []
  refine r_iload_n 0 X dX3_oddLeg_0 rfl ?_
  refine r_iload_n 1 X dX3_oddLeg_1 rfl ?_
  refine r_callS_v X dX3_oddLeg_2 kX3_7 (c_X3_signedOdd (CX_l X) D z0 h c x ⟨by omega, by omega⟩) [] rfl rfl (Nat.le_of_ble_eq_true rfl) (by decide) rfl rfl (by decide) ?_
  refine r_iconst X dX3_oddLeg_5 ?_
  refine r_iload_n 0 X dX3_oddLeg_6 rfl ?_
  refine r_iload_n 2 X dX3_oddLeg_7 rfl ?_
  refine r_callS_v X dX3_oddLeg_8 kX3_13 (c_X3_signedEven (CX_l X) D z0 h c y ⟨by omega, by omega⟩) [iv 2, iv (so c x)] rfl rfl (Nat.le_of_ble_eq_true rfl) (by decide) rfl rfl (by decide) ?_
  refine r_imul X dX3_oddLeg_11 ?_
  refine r_iadd X dX3_oddLeg_12 ?_
  refine r_iconst X dX3_oddLeg_13 ?_
  refine r_iload_n 3 X dX3_oddLeg_14 rfl ?_
  refine r_imul X dX3_oddLeg_15 ?_
  refine r_iadd X dX3_oddLeg_16 ?_
  refine r_iret X Y dX3_oddLeg_17 (by decide) (by decide) ?_
  exact pv_i (by rfl)
abbrev rX3_evenLeg : Room := { frames := 1, cells := 0, slots := 0, locals := 21 }
theorem c_X3_evenLeg {l : Launch} (hl : l.stackTraces = false) (D : va_G) (z0 : Nat) (h : Hp) (c x y z : Int) (hc : I32 c) : CC l yX3_evenLeg cX3_evenLeg 4 (some .int) rX3_evenLeg D z0 h [iv c, iv x, iv y, iv z] (PV (iv (2 * so c x + se c y + 2 * z)) h) NX := by
  refine CC_of RX3 hl (by decide) rfl (Nat.le_of_ble_eq_true rfl) (fun K X Y Z hmn hKl => ?_)
  subst hKl
  show WW K D z0 4 h 0 0 0 [(0, iv c), (1, iv x), (2, iv y), (3, iv z)] []
  refine r_iconst X dX3_evenLeg_0 ?_
  refine r_iload_n 0 X dX3_evenLeg_1 rfl ?_
  refine r_iload_n 1 X dX3_evenLeg_2 rfl ?_
  refine r_callS_v X dX3_evenLeg_3 kX3_7 (c_X3_signedOdd (CX_l X) D z0 h c x ⟨by omega, by omega⟩) [iv 2] rfl rfl (Nat.le_of_ble_eq_true rfl) (by decide) rfl rfl (by decide) ?_
  refine r_imul X dX3_evenLeg_6 ?_
  refine r_iload_n 0 X dX3_evenLeg_7 rfl ?_
  refine r_iload_n 2 X dX3_evenLeg_8 rfl ?_
  refine r_callS_v X dX3_evenLeg_9 kX3_13 (c_X3_signedEven (CX_l X) D z0 h c y ⟨by omega, by omega⟩) [iv (2 * (so c x))] rfl rfl (Nat.le_of_ble_eq_true rfl) (by decide) rfl rfl (by decide) ?_
  refine r_iadd X dX3_evenLeg_12 ?_
  refine r_iconst X dX3_evenLeg_13 ?_
  refine r_iload_n 3 X dX3_evenLeg_14 rfl ?_
  refine r_imul X dX3_evenLeg_15 ?_
  refine r_iadd X dX3_evenLeg_16 ?_
  refine r_iret X Y dX3_evenLeg_17 (by decide) (by decide) ?_
  exact pv_i (by rfl)
abbrev rX3_longest : Room := { frames := 1, cells := 0, slots := 0, locals := 21 }
theorem c_X3_longest {l : Launch} (hl : l.stackTraces = false) (D : va_G) (z0 : Nat) (h : Hp) (c x y z : Int) (hc : I32 c) : CC l yX3_longest cX3_longest 4 (some .int) rX3_longest D z0 h [iv c, iv x, iv y, iv z] (PV (iv (2 * so c x + 2 * se c y + 3 * z)) h) NX := by
  refine CC_of RX3 hl (by decide) rfl (Nat.le_of_ble_eq_true rfl) (fun K X Y Z hmn hKl => ?_)
  subst hKl
  show WW K D z0 4 h 0 0 0 [(0, iv c), (1, iv x), (2, iv y), (3, iv z)] []
  refine r_iconst X dX3_longest_0 ?_
  refine r_iload_n 0 X dX3_longest_1 rfl ?_
  refine r_iload_n 1 X dX3_longest_2 rfl ?_
  refine r_callS_v X dX3_longest_3 kX3_7 (c_X3_signedOdd (CX_l X) D z0 h c x ⟨by omega, by omega⟩) [iv 2] rfl rfl (Nat.le_of_ble_eq_true rfl) (by decide) rfl rfl (by decide) ?_
  refine r_imul X dX3_longest_6 ?_
  refine r_iconst X dX3_longest_7 ?_
  refine r_iload_n 0 X dX3_longest_8 rfl ?_
  refine r_iload_n 2 X dX3_longest_9 rfl ?_
  refine r_callS_v X dX3_longest_10 kX3_13 (c_X3_signedEven (CX_l X) D z0 h c y ⟨by omega, by omega⟩) [iv 2, iv (2 * (so c x))] rfl rfl (Nat.le_of_ble_eq_true rfl) (by decide) rfl rfl (by decide) ?_
  refine r_imul X dX3_longest_13 ?_
  refine r_iadd X dX3_longest_14 ?_
  refine r_iconst X dX3_longest_15 ?_
  refine r_iload_n 3 X dX3_longest_16 rfl ?_
  refine r_imul X dX3_longest_17 ?_
  refine r_iadd X dX3_longest_18 ?_
  refine r_iret X Y dX3_longest_19 (by decide) (by decide) ?_
  exact pv_i (by rfl)
abbrev rX3_backOdd : Room := { frames := 0, cells := 0, slots := 0, locals := 0 }
theorem c_X3_backOdd {l : Launch} (hl : l.stackTraces = false) (D : va_G) (z0 : Nat) (h : Hp) (x y z : Int) : CC l yX3_backOdd cX3_backOdd 3 (some .int) rX3_backOdd D z0 h [iv x, iv y, iv z] (PV (iv (x + 2 * y - 2 * z)) h) NX := by
  refine CC_of RX3 hl (by decide) rfl (Nat.le_of_ble_eq_true rfl) (fun K X Y Z hmn hKl => ?_)
  subst hKl
  show WW K D z0 3 h 0 0 0 [(0, iv x), (1, iv y), (2, iv z)] []
  refine r_iload_n 0 X dX3_backOdd_0 rfl ?_
  refine r_iconst X dX3_backOdd_1 ?_
  refine r_iload_n 1 X dX3_backOdd_2 rfl ?_
  refine r_imul X dX3_backOdd_3 ?_
  refine r_iadd X dX3_backOdd_4 ?_
  refine r_iconst X dX3_backOdd_5 ?_
  refine r_iload_n 2 X dX3_backOdd_6 rfl ?_
  refine r_imul X dX3_backOdd_7 ?_
  refine r_isub X dX3_backOdd_8 ?_
  refine r_iret X Y dX3_backOdd_9 (by decide) (by decide) ?_
  exact pv_i (by rfl)
abbrev rX3_backEven : Room := { frames := 0, cells := 0, slots := 0, locals := 0 }
theorem c_X3_backEven {l : Launch} (hl : l.stackTraces = false) (D : va_G) (z0 : Nat) (h : Hp) (x y z : Int) : CC l yX3_backEven cX3_backEven 3 (some .int) rX3_backEven D z0 h [iv x, iv y, iv z] (PV (iv (2 * x + y - 2 * z)) h) NX := by
  refine CC_of RX3 hl (by decide) rfl (Nat.le_of_ble_eq_true rfl) (fun K X Y Z hmn hKl => ?_)
  subst hKl
  show WW K D z0 3 h 0 0 0 [(0, iv x), (1, iv y), (2, iv z)] []
  refine r_iconst X dX3_backEven_0 ?_
  refine r_iload_n 0 X dX3_backEven_1 rfl ?_
  refine r_imul X dX3_backEven_2 ?_
  refine r_iload_n 1 X dX3_backEven_3 rfl ?_
  refine r_iadd X dX3_backEven_4 ?_
  refine r_iconst X dX3_backEven_5 ?_
  refine r_iload_n 2 X dX3_backEven_6 rfl ?_
  refine r_imul X dX3_backEven_7 ?_
  refine r_isub X dX3_backEven_8 ?_
  refine r_iret X Y dX3_backEven_9 (by decide) (by decide) ?_
  exact pv_i (by rfl)
abbrev rX3_backLongest : Room := { frames := 0, cells := 0, slots := 0, locals := 0 }
theorem c_X3_backLongest {l : Launch} (hl : l.stackTraces = false) (D : va_G) (z0 : Nat) (h : Hp) (x y z : Int) : CC l yX3_backLongest cX3_backLongest 3 (some .int) rX3_backLongest D z0 h [iv x, iv y, iv z] (PV (iv (3 * z - 2 * x - 2 * y)) h) NX := by
  refine CC_of RX3 hl (by decide) rfl (Nat.le_of_ble_eq_true rfl) (fun K X Y Z hmn hKl => ?_)
  subst hKl
  show WW K D z0 3 h 0 0 0 [(0, iv x), (1, iv y), (2, iv z)] []
  refine r_iconst X dX3_backLongest_0 ?_
  refine r_iload_n 2 X dX3_backLongest_1 rfl ?_
  refine r_imul X dX3_backLongest_2 ?_
  refine r_iconst X dX3_backLongest_3 ?_
  refine r_iload_n 0 X dX3_backLongest_4 rfl ?_
  refine r_imul X dX3_backLongest_5 ?_
  refine r_isub X dX3_backLongest_6 ?_
  refine r_iconst X dX3_backLongest_7 ?_
  refine r_iload_n 1 X dX3_backLongest_8 rfl ?_
  refine r_imul X dX3_backLongest_9 ?_
  refine r_isub X dX3_backLongest_10 ?_
  refine r_iret X Y dX3_backLongest_11 (by decide) (by decide) ?_
  exact pv_i (by rfl)
/-- the quotient if it is a whole number, otherwise 0 -/
def wq (a b : Int) : Int := if 0 < b ∧ a % b = 0 then a / b else 0
abbrev rX1_low : Room := { frames := 0, cells := 0, slots := 0, locals := 0 }
theorem c_X1_low {l : Launch} (hl : l.stackTraces = false) (D : va_G) (z0 : Nat) (h : Hp) (a b : Int) : CC l yX1_low cX1_low 4 (some .long) rX1_low D z0 h [jv a, jv b] (PV (jv (a * b % 262144)) h) NX := by
  refine CC_of RX1 hl (by decide) rfl (Nat.le_of_ble_eq_true rfl) (fun K X Y Z hmn hKl => ?_)
  subst hKl
  show WW K D z0 4 h 0 0 0 [(0, jv a), (2, jv b)] []
  refine r_lload_n 0 X dX1_low_0 rfl ?_
  refine r_lload_n 1 X dX1_low_1 rfl ?_
  refine r_lmul X dX1_low_2 ?_
  refine r_ldc2 262143 X dX1_low_3 nX1_9 (by decide) ?_
  refine r_land X dX1_low_6 18 262144 (by decide) (by decide) (by decide) ?_
  refine r_lret X Y dX1_low_7 (by decide) (by decide) ?_
  exact pv_j (by rfl)
abbrev rX1_high : Room := { frames := 0, cells := 0, slots := 0, locals := 0 }
theorem c_X1_high {l : Launch} (hl : l.stackTraces = false) (D : va_G) (z0 : Nat) (h : Hp) (a b : Int) (ha : 0 ≤ a ∧ a < 4611686018427387904) (hb : 0 ≤ b ∧ b < 17592186044416) (h1 : a / 262144 * b < 4611686018427387904) : CC l yX1_high cX1_high 4 (some .long) rX1_high D z0 h [jv a, jv b] (PV (jv (a * b / 262144)) h) NX := by
  refine CC_of RX1 hl (by decide) rfl (Nat.le_of_ble_eq_true rfl) (fun K X Y Z hmn hKl => ?_)
  subst hKl
  show WW K D z0 4 h 0 0 0 [(0, jv a), (2, jv b)] []
  have e2 : 0 ≤ a / 262144 * b := Int.mul_nonneg (by omega) hb.1
  have e3 : 0 ≤ a % 262144 * b := Int.mul_nonneg (by omega) hb.1
  have e4 : a % 262144 * b ≤ 262143 * b := Int.mul_le_mul_of_nonneg_right (by omega) hb.1
  refine r_lload_n 0 X dX1_high_0 rfl ?_
  refine r_bipush X dX1_high_1 (by decide) ?_
  refine r_lshr X dX1_high_3 18 262144 (by decide) (by decide) (by decide) ⟨by omega, by omega⟩ ?_
  refine r_lload_n 1 X dX1_high_4 rfl ?_
  refine r_lmul X dX1_high_5 ?_
  refine r_lload_n 0 X dX1_high_6 rfl ?_
  refine r_ldc2 262143 X dX1_high_7 nX1_9 (by decide) ?_
  refine r_land X dX1_high_10 18 262144 (by decide) (by decide) (by decide) ?_
  refine r_lload_n 1 X dX1_high_11 rfl ?_
  refine r_lmul X dX1_high_12 ?_
  refine r_bipush X dX1_high_13 (by decide) ?_
  refine r_lshr X dX1_high_15 18 262144 (by decide) (by decide) (by decide) ⟨by omega, by omega⟩ ?_
  refine r_ladd X dX1_high_16 ?_
  refine r_lret X Y dX1_high_17 (by decide) (by decide) ?_
  have e : a * b = (a / 262144 * b) * 262144 + a % 262144 * b := by
    rw [Int.mul_right_comm, ← Int.add_mul]
    congr 1
    omega
  exact pv_j (by omega)
abbrev rX1_wholeQuotient : Room := { frames := 0, cells := 0, slots := 0, locals := 0 }
theorem c_X1_wholeQuotient {l : Launch} (hl : l.stackTraces = false) (D : va_G) (z0 : Nat) (h : Hp) (a b : Int) (ha : 0 ≤ a ∧ a < 9223372036854775808) (hb : I64 b) : CC l yX1_wholeQuotient cX1_wholeQuotient 4 (some .long) rX1_wholeQuotient D z0 h [jv a, jv b] (PV (jv (wq a b)) h) NX := by
  refine CC_of RX1 hl (by decide) rfl (Nat.le_of_ble_eq_true rfl) (fun K X Y Z hmn hKl => ?_)
  subst hKl
  show WW K D z0 4 h 0 0 0 [(0, jv a), (2, jv b)] []
  refine r_lload_n 1 X dX1_wholeQuotient_0 rfl ?_
  refine r_lconst 0 X dX1_wholeQuotient_1 (by decide) ?_
  refine r_lcmp_le 20 X dX1_wholeQuotient_2 dX1_wholeQuotient_3 (by decide) ⟨by omega, by omega⟩ ⟨by omega, by omega⟩ (fun c2 => ?_) (fun c2 => ?_)
  · refine r_lconst 0 X dX1_wholeQuotient_20 (by decide) ?_
    refine r_lret X Y dX1_wholeQuotient_21 (by decide) (by decide) ?_
    exact pv_j (by unfold wq; split <;> omega)
  · have m6 : 0 ≤ a % b ∧ a % b < b := ⟨Int.emod_nonneg _ (by omega), Int.emod_lt_of_pos _ (by omega)⟩
    refine r_lload_n 0 X dX1_wholeQuotient_6 rfl ?_
    refine r_lload_n 1 X dX1_wholeQuotient_7 rfl ?_
    refine r_lrem X dX1_wholeQuotient_8 ⟨by omega, by omega⟩ ⟨by omega, by omega⟩ ?_
    refine r_lconst 0 X dX1_wholeQuotient_9 (by decide) ?_
    refine r_lcmp_ne 20 X dX1_wholeQuotient_10 dX1_wholeQuotient_11 (by decide) ⟨by omega, by omega⟩ ⟨by omega, by omega⟩ (fun c10 => ?_) (fun c10 => ?_)
    · refine r_lconst 0 X dX1_wholeQuotient_20 (by decide) ?_
      refine r_lret X Y dX1_wholeQuotient_21 (by decide) (by decide) ?_
      exact pv_j (by unfold wq; split <;> omega)
    · refine r_lload_n 0 X dX1_wholeQuotient_14 rfl ?_
      refine r_lload_n 1 X dX1_wholeQuotient_15 rfl ?_
      refine r_ldiv X dX1_wholeQuotient_16 ⟨by omega, by omega⟩ ⟨by omega, by omega⟩ ?_
      refine r_goto 21 X dX1_wholeQuotient_17 (by decide) ?_
      refine r_lret X Y dX1_wholeQuotient_21 (by decide) (by decide) ?_
      exact pv_j (by unfold wq; split <;> omega)
