/-! the class Triangle -/
def outr (a b c : Int) : Int := (a + b + c) * (a + b - c)
def innr (a b c : Int) : Int := (b + c - a) * (a + c - b)
/-- S -/
def Sx (a b c : Int) : Int := outr a b c * innr a b c
def triE (a b c : Int) : va_E := ob 2 [iv a, iv b, iv c, jv (Sx a b c / 262144), jv (Sx a b c % 262144)]
/-- the sides of a triangle that can be told -/
def TV (a b c : Int) : Prop := 1 ≤ a ∧ a ≤ b ∧ b ≤ c ∧ c ≤ 65535 ∧ c < a + b
theorem mlb {a b x y : Int} (h0 : 0 ≤ a) (h1 : a ≤ x) (h2 : 0 ≤ b) (h3 : b ≤ y) : 0 ≤ a * b ∧ a * b ≤ x * y := ⟨Int.mul_nonneg h0 h2, Int.mul_le_mul h1 h3 h2 (Int.le_trans h0 h1)⟩
theorem TV_b {a b c : Int} (h : TV a b c) : (1 ≤ a ∧ a ≤ b ∧ b ≤ c ∧ c ≤ 65535 ∧ c < a + b) ∧ (1 ≤ a * a ∧ a * a ≤ 4294836225) ∧ (1 ≤ b * b ∧ b * b ≤ 4294836225) ∧ (1 ≤ c * c ∧ c * c ≤ 4294836225) ∧ (0 < outr a b c ∧ outr a b c ≤ 12884508675) ∧ (0 < innr a b c ∧ innr a b c ≤ 8589606915) := by
  obtain ⟨h1, h2, h3, h4, h5⟩ := id h
  have ha := mlb (a := a) (b := a) (x := 65535) (y := 65535) (by omega) (by omega) (by omega) (by omega)
  have hb := mlb (a := b) (b := b) (x := 65535) (y := 65535) (by omega) (by omega) (by omega) (by omega)
  have hc := mlb (a := c) (b := c) (x := 65535) (y := 65535) (by omega) (by omega) (by omega) (by omega)
  have pa := Int.mul_pos (show 0 < a by omega) (show 0 < a by omega)
  have pb := Int.mul_pos (show 0 < b by omega) (show 0 < b by omega)
  have pc := Int.mul_pos (show 0 < c by omega) (show 0 < c by omega)
  have ho := mlb (a := a + b + c) (b := a + b - c) (x := 196605) (y := 65535) (by omega) (by omega) (by omega) (by omega)
  have hi := mlb (a := b + c - a) (b := a + c - b) (x := 131069) (y := 65535) (by omega) (by omega) (by omega) (by omega)
  refine ⟨h, ⟨by omega, by omega⟩, ⟨by omega, by omega⟩, ⟨by omega, by omega⟩, ⟨Int.mul_pos (by omega) (by omega), ?_⟩, ⟨Int.mul_pos (by omega) (by omega), ?_⟩⟩
  · unfold outr; omega
  · unfold innr; omega
theorem Sx_b {a b c : Int} (h : TV a b c) : 0 < Sx a b c ∧ Sx a b c ≤ 12884508675 * 8589606915 := by
  obtain ⟨-, -, -, -, h5, h6⟩ := TV_b h
  exact ⟨Int.mul_pos h5.1 h6.1, (mlb (by omega) h5.2 (by omega) h6.2).2⟩
/-- the side told by w -/
def ln (a b c w : Int) : Int := if w = 0 then a else if w = 1 then b else c
theorem ln_b {a b c : Int} (h : TV a b c) (w : Int) : 1 ≤ ln a b c w ∧ ln a b c w ≤ 65535 := by
  obtain ⟨h1, h2, h3, h4, h5⟩ := h
  unfold ln
  split
  · omega
  · split <;> omega
def sqb3 (a b c w : Int) : Int := a * a + b * b + c * c - 2 * ln a b c w * ln a b c w
theorem sqb3_b {a b c : Int} (h : TV a b c) (w : Int) : -8589672450 ≤ sqb3 a b c w ∧ sqb3 a b c w ≤ 12884508675 := by
  obtain ⟨-, h1, h2, h3, -, -⟩ := TV_b h
  have h4 := ln_b h w
  have h5 := sqb (a := ln a b c w) (b := 65535) (by omega) h4.2
  unfold sqb3
  rw [Int.mul_assoc]
  omega
def prd3 (a b c w : Int) : Int := ln a b c (if w = 0 then 1 else 0) * ln a b c (if w = 2 then 1 else 2)
def deg (a b c w : Int) : Int := if sqb3 a b c w = 0 then 90 else if sqb3 a b c w = prd3 a b c w then 60 else if sqb3 a b c w = -prd3 a b c w then 120 else 0
def gcd3 (a b c : Int) : Int := ((Int.gcd ((Int.gcd a b : Nat) : Int) c : Nat) : Int)
/-- the root of S, or 0 -/
def rtS (s : Int) : Int := if ((isq s.toNat : Nat) : Int) * ((isq s.toNat : Nat) : Int) = s then ((isq s.toNat : Nat) : Int) else 0
theorem hu_hu (h : Hp) (q : Nat) (e1 e2 : va_E) : hu (hu h q e1) q e2 = hu h q e2 := by
  funext x
  by_cases z : x = q <;> simp [hu, z]
/-- of two numbers without a common divisor whose product is a square each is one -/
theorem cop_sq {x y z : Nat} (h : Nat.gcd x y = 1) (hz : x * y = z * z) : ∃ d, x = d * d := by
  by_cases hx : x = 0
  · exact ⟨0, by omega⟩
  have hd : 0 < Nat.gcd x z := Nat.gcd_pos_of_pos_left _ (Nat.pos_of_ne_zero hx)
  obtain ⟨x1, h1⟩ := Nat.gcd_dvd_left x z
  obtain ⟨z1, h2⟩ := Nat.gcd_dvd_right x z
  generalize hdd : Nat.gcd x z = d at hd h1 h2
  have hc : Nat.gcd x1 z1 = 1 := by
    have e : Nat.gcd (d * x1) (d * z1) = d := by rw [← h1, ← h2]; exact hdd
    rw [Nat.gcd_mul_left] at e
    exact Nat.eq_of_mul_eq_mul_left hd (by rw [e, Nat.mul_one])
  have e1 : x1 * y = d * (z1 * z1) := by
    have e2 : d * (x1 * y) = d * (d * (z1 * z1)) := by
      calc d * (x1 * y) = (d * x1) * y := (Nat.mul_assoc _ _ _).symm
        _ = x * y := by rw [← h1]
        _ = z * z := hz
        _ = (d * z1) * (d * z1) := by rw [← h2]
        _ = d * (d * (z1 * z1)) := by rw [Nat.mul_assoc, Nat.mul_left_comm z1 d z1]
    exact Nat.eq_of_mul_eq_mul_left hd e2
  have k1 : x1 ∣ d := by
    have c1 : Nat.Coprime x1 (z1 * z1) := Nat.Coprime.mul_right hc hc
    exact Nat.Coprime.dvd_of_dvd_mul_right c1 (by rw [← e1]; exact Nat.dvd_mul_right _ _)
  have k2 : d ∣ x1 := by
    have c2 : Nat.Coprime d y := Nat.Coprime.coprime_dvd_left (by rw [h1]; exact Nat.dvd_mul_right _ _) (show Nat.Coprime x y from h)
    exact Nat.Coprime.dvd_of_dvd_mul_right c2 (by rw [e1]; exact Nat.dvd_mul_right _ _)
  have e3 : x1 = d := Nat.dvd_antisymm k1 k2
  exact ⟨d, by rw [h1, e3]⟩
theorem isq_sq (d : Nat) : isq (d * d) = d := isq_unique (Nat.le_refl _) (Nat.mul_self_lt_mul_self (Nat.lt_succ_self d))
/-- the root of a product by its factors without what they share -/
theorem root_by {o i g o1 i1 : Nat} (hg : Nat.gcd o i = g) (h0 : 0 < g) (ho : o = g * o1) (hi : i = g * i1) :
    (isq (o * i) * isq (o * i) = o * i ↔ isq o1 * isq o1 = o1 ∧ isq i1 * isq i1 = i1) ∧ (isq o1 * isq o1 = o1 → isq i1 * isq i1 = i1 → isq (o * i) = g * isq o1 * isq i1) := by
  have hc : Nat.gcd o1 i1 = 1 := by
    have e : Nat.gcd (g * o1) (g * i1) = g := by rw [← ho, ← hi]; exact hg
    rw [Nat.gcd_mul_left] at e
    exact Nat.eq_of_mul_eq_mul_left h0 (by rw [e, Nat.mul_one])
  have e0 : o * i = (g * g) * (o1 * i1) := by rw [ho, hi]; ac_rfl
  have key : isq o1 * isq o1 = o1 → isq i1 * isq i1 = i1 → o * i = (g * isq o1 * isq i1) * (g * isq o1 * isq i1) := by
    intro q1 q2
    calc o * i = (g * g) * ((isq o1 * isq o1) * (isq i1 * isq i1)) := by rw [q1, q2]; exact e0
      _ = _ := by ac_rfl
  refine ⟨⟨fun h => ?_, fun h => ?_⟩, fun q1 q2 => ?_⟩
  · generalize isq (o * i) = r at h
    have hgr : g ∣ r := by
      have : g * g ∣ r * r := by rw [h, e0]; exact Nat.dvd_mul_right _ _
      rw [← Nat.pow_two, ← Nat.pow_two] at this
      exact (Nat.pow_dvd_pow_iff (by decide)).mp this
    obtain ⟨z, hz⟩ := hgr
    have e1 : o1 * i1 = z * z := by
      have e2 : (g * g) * (o1 * i1) = (g * g) * (z * z) := by
        rw [← e0, ← h, hz]; ac_rfl
      exact Nat.eq_of_mul_eq_mul_left (Nat.mul_pos h0 h0) e2
    obtain ⟨d1, hd1⟩ := cop_sq hc e1
    obtain ⟨d2, hd2⟩ := cop_sq (x := i1) (y := o1) (by rw [Nat.gcd_comm]; exact hc) (by rw [Nat.mul_comm]; exact e1)
    rw [hd1, hd2, isq_sq, isq_sq]
    exact ⟨rfl, rfl⟩
  · rw [key h.1 h.2, isq_sq]
  · rw [key q1 q2, isq_sq]
theorem wq_gcd {o i : Int} (ho : 0 < o) (hi : 0 < i) : ∃ (g o1 i1 : Nat), 0 < g ∧ Int.gcd o i = g ∧ o = ((g * o1 : Nat) : Int) ∧ i = ((g * i1 : Nat) : Int) ∧ wq o (g : Int) = (o1 : Int) ∧ wq i (g : Int) = (i1 : Int) ∧ 0 < o1 ∧ 0 < i1 ∧ Nat.gcd (g * o1) (g * i1) = g ∧ (g : Int) ≤ i ∧ (o1 : Int) ≤ o ∧ (i1 : Int) ≤ i := by
  obtain ⟨x, rfl⟩ := Int.eq_ofNat_of_zero_le (Int.le_of_lt ho)
  obtain ⟨y, rfl⟩ := Int.eq_ofNat_of_zero_le (Int.le_of_lt hi)
  have hx : 0 < x := by omega
  have hy : 0 < y := by omega
  have hgp : 0 < Nat.gcd x y := Nat.gcd_pos_of_pos_left _ hx
  obtain ⟨o1, h1⟩ := Nat.gcd_dvd_left x y
  obtain ⟨i1, h2⟩ := Nat.gcd_dvd_right x y
  have hle : Nat.gcd x y ≤ y := Nat.gcd_le_right _ hy
  have p1 : 0 < o1 := by
    rcases Nat.eq_zero_or_pos o1 with z | z
    · rw [z, Nat.mul_zero] at h1; omega
    · exact z
  have p2 : 0 < i1 := by
    rcases Nat.eq_zero_or_pos i1 with z | z
    · rw [z, Nat.mul_zero] at h2; omega
    · exact z
  have w1 : ∀ (u v : Nat), u = Nat.gcd x y * v → wq (u : Int) ((Nat.gcd x y : Nat) : Int) = (v : Int) := by
    intro u v huv
    unfold wq
    rw [huv, Int.natCast_mul, if_pos ⟨by omega, Int.mul_emod_right _ _⟩, Int.mul_ediv_cancel_left _ (by omega)]
  have l1 : o1 ≤ x := by
    have := Nat.le_mul_of_pos_left o1 hgp
    omega
  have l2 : i1 ≤ y := by
    have := Nat.le_mul_of_pos_left i1 hgp
    omega
  refine ⟨Nat.gcd x y, o1, i1, hgp, rfl, by rw [← h1], by rw [← h2], w1 x o1 h1, w1 y i1 h2, p1, p2, by rw [← h1, ← h2], by omega, by omega, by omega⟩
abbrev rX5_outerFactor : Room := { frames := 0, cells := 0, slots := 0, locals := 0 }
theorem c_X5_outerFactor {l : Launch} (hl : l.stackTraces = false) (D : va_G) (z0 : Nat) (h : Hp) (a b c : Int) : CC l yX5_outerFactor cX5_outerFactor 6 (some .long) rX5_outerFactor D z0 h [jv a, jv b, jv c] (PV (jv (outr a b c)) h) NX := by
  refine CC_of RX5 hl (by decide) rfl (Nat.le_of_ble_eq_true rfl) (fun K X Y Z hmn hKl => ?_)
  subst hKl
  show WW K D z0 6 h 0 0 0 [(0, jv a), (2, jv b), (4, jv c)] []
  refine r_lload_n 0 X dX5_outerFactor_0 rfl ?_
  refine r_lload_n 1 X dX5_outerFactor_1 rfl ?_
  refine r_ladd X dX5_outerFactor_2 ?_
  refine r_lload 2 X dX5_outerFactor_3 rfl ?_
  refine r_ladd X dX5_outerFactor_5 ?_
  refine r_lload_n 0 X dX5_outerFactor_6 rfl ?_
  refine r_lload_n 1 X dX5_outerFactor_7 rfl ?_
  refine r_ladd X dX5_outerFactor_8 ?_
  refine r_lload 2 X dX5_outerFactor_9 rfl ?_
  refine r_lsub X dX5_outerFactor_11 ?_
  refine r_lmul X dX5_outerFactor_12 ?_
  refine r_lret X Y dX5_outerFactor_13 (by decide) (by decide) ?_
  exact pv_j (by rfl)
abbrev rX5_innerFactor : Room := { frames := 0, cells := 0, slots := 0, locals := 0 }
theorem c_X5_innerFactor {l : Launch} (hl : l.stackTraces = false) (D : va_G) (z0 : Nat) (h : Hp) (a b c : Int) : CC l yX5_innerFactor cX5_innerFactor 6 (some .long) rX5_innerFactor D z0 h [jv a, jv b, jv c] (PV (jv (innr a b c)) h) NX := by
  refine CC_of RX5 hl (by decide) rfl (Nat.le_of_ble_eq_true rfl) (fun K X Y Z hmn hKl => ?_)
  subst hKl
  show WW K D z0 6 h 0 0 0 [(0, jv a), (2, jv b), (4, jv c)] []
  refine r_lload_n 1 X dX5_innerFactor_0 rfl ?_
  refine r_lload 2 X dX5_innerFactor_1 rfl ?_
  refine r_ladd X dX5_innerFactor_3 ?_
  refine r_lload_n 0 X dX5_innerFactor_4 rfl ?_
  refine r_lsub X dX5_innerFactor_5 ?_
  refine r_lload_n 0 X dX5_innerFactor_6 rfl ?_
  refine r_lload 2 X dX5_innerFactor_7 rfl ?_
  refine r_ladd X dX5_innerFactor_9 ?_
  refine r_lload_n 1 X dX5_innerFactor_10 rfl ?_
  refine r_lsub X dX5_innerFactor_11 ?_
  refine r_lmul X dX5_innerFactor_12 ?_
  refine r_lret X Y dX5_innerFactor_13 (by decide) (by decide) ?_
  exact pv_j (by rfl)
abbrev rX5_length : Room := { frames := 0, cells := 0, slots := 0, locals := 0 }
theorem c_X5_length {l : Launch} (hl : l.stackTraces = false) (D : va_G) (z0 : Nat) (h : Hp) (q : Nat) (a b c : Int) (ht : h q = some (triE a b c)) (hv : TV a b c) (w : Int) (hw : I32 w) : CC l yX5_length cX5_length 2 (some .int) rX5_length D z0 h [.ref q, iv w] (PV (iv (ln a b c w)) h) NX := by
  refine CC_of RX5 hl (by decide) rfl (Nat.le_of_ble_eq_true rfl) (fun K X Y Z hmn hKl => ?_)
  subst hKl
  have hb := TV_b hv
  have hS := Sx_b hv
  show WW K D z0 2 h 0 0 0 [(0, .ref q), (1, iv w)] []
  refine r_iload_n 1 X dX5_length_0 rfl ?_
  refine r_if_ne 9 X dX5_length_1 (by decide) ⟨by omega, by omega⟩ (fun c1 => ?_) (fun c1 => ?_)
  · refine r_iload_n 1 X dX5_length_9 rfl ?_
    refine r_iconst X dX5_length_10 ?_
    refine r_icmp_ne 21 X dX5_length_11 (by decide) ⟨by omega, by omega⟩ ⟨by omega, by omega⟩ (fun c11 => ?_) (fun c11 => ?_)
    · refine r_aload_n 0 X dX5_length_21 rfl ?_
      refine r_getf X dX5_length_22 fX5_22 ht rfl ?_
      refine r_iret X Y dX5_length_25 (by decide) (by decide) ?_
      exact pv_i (by unfold ln; split <;> (try split) <;> omega)
    · refine r_aload_n 0 X dX5_length_14 rfl ?_
      refine r_getf X dX5_length_15 fX5_25 ht rfl ?_
      refine r_goto 25 X dX5_length_18 (by decide) ?_
      refine r_iret X Y dX5_length_25 (by decide) (by decide) ?_
      exact pv_i (by unfold ln; split <;> (try split) <;> omega)
  · refine r_aload_n 0 X dX5_length_4 rfl ?_
    refine r_getf X dX5_length_5 fX5_13 ht rfl ?_
    refine r_iret X Y dX5_length_8 (by decide) (by decide) ?_
    exact pv_i (by unfold ln; split <;> (try split) <;> omega)
abbrev rX5_around : Room := { frames := 0, cells := 0, slots := 0, locals := 0 }
theorem c_X5_around {l : Launch} (hl : l.stackTraces = false) (D : va_G) (z0 : Nat) (h : Hp) (q : Nat) (a b c : Int) (ht : h q = some (triE a b c)) (hv : TV a b c) : CC l yX5_around cX5_around 1 (some .int) rX5_around D z0 h [.ref q] (PV (iv (a + b + c)) h) NX := by
  refine CC_of RX5 hl (by decide) rfl (Nat.le_of_ble_eq_true rfl) (fun K X Y Z hmn hKl => ?_)
  subst hKl
  have hb := TV_b hv
  have hS := Sx_b hv
  show WW K D z0 1 h 0 0 0 [(0, .ref q)] []
  refine r_aload_n 0 X dX5_around_0 rfl ?_
  refine r_getf X dX5_around_1 fX5_13 ht rfl ?_
  refine r_aload_n 0 X dX5_around_4 rfl ?_
  refine r_getf X dX5_around_5 fX5_25 ht rfl ?_
  refine r_iadd X dX5_around_8 ?_
  refine r_aload_n 0 X dX5_around_9 rfl ?_
  refine r_getf X dX5_around_10 fX5_22 ht rfl ?_
  refine r_iadd X dX5_around_13 ?_
  refine r_iret X Y dX5_around_14 (by decide) (by decide) ?_
  exact pv_i (by rfl)
abbrev rX5_commonDivisor : Room := { frames := 1, cells := 0, slots := 0, locals := 30 }
theorem c_X5_commonDivisor {l : Launch} (hl : l.stackTraces = false) (D : va_G) (z0 : Nat) (h : Hp) (q : Nat) (a b c : Int) (ht : h q = some (triE a b c)) (hv : TV a b c) : CC l yX5_commonDivisor cX5_commonDivisor 1 (some .int) rX5_commonDivisor D z0 h [.ref q] (PV (iv (gcd3 a b c)) h) NX := by
  refine CC_of RX5 hl (by decide) rfl (Nat.le_of_ble_eq_true rfl) (fun K X Y Z hmn hKl => ?_)
  subst hKl
  have hb := TV_b hv
  have hS := Sx_b hv
  have g1 : Int.gcd a b ≤ b.natAbs := Nat.le_of_dvd (by omega) (Nat.gcd_dvd_right _ _)
  show WW K D z0 1 h 0 0 0 [(0, .ref q)] []
  refine r_aload_n 0 X dX5_commonDivisor_0 rfl ?_
  refine r_getf X dX5_commonDivisor_1 fX5_13 ht rfl ?_
  refine r_i2l X dX5_commonDivisor_4 ⟨by omega, by omega⟩ ?_
  refine r_aload_n 0 X dX5_commonDivisor_5 rfl ?_
  refine r_getf X dX5_commonDivisor_6 fX5_25 ht rfl ?_
  refine r_i2l X dX5_commonDivisor_9 ⟨by omega, by omega⟩ ?_
  refine r_callS_v X dX5_commonDivisor_10 kX5_51 (c_X1_commonDivisor (CX_l X) D z0 h a b ⟨by omega, by omega⟩ ⟨by omega, by omega⟩) [] rfl rfl (Nat.le_of_ble_eq_true rfl) (by decide) rfl rfl (by decide) ?_
  refine r_aload_n 0 X dX5_commonDivisor_13 rfl ?_
  refine r_getf X dX5_commonDivisor_14 fX5_22 ht rfl ?_
  refine r_i2l X dX5_commonDivisor_17 ⟨by omega, by omega⟩ ?_
  refine r_callS_v X dX5_commonDivisor_18 kX5_51 (c_X1_commonDivisor (CX_l X) D z0 h ((Int.gcd a b : Nat) : Int) c ⟨by omega, by omega⟩ ⟨by omega, by omega⟩) [] rfl rfl (Nat.le_of_ble_eq_true rfl) (by decide) rfl rfl (by decide) ?_
  refine r_l2i X dX5_commonDivisor_21 ?_
  refine r_iret X Y dX5_commonDivisor_22 (by decide) (by decide) ?_
  exact pv_i (by rfl)
abbrev rX5_code : Room := { frames := 0, cells := 0, slots := 0, locals := 0 }
theorem c_X5_code {l : Launch} (hl : l.stackTraces = false) (D : va_G) (z0 : Nat) (h : Hp) (q : Nat) (a b c : Int) (ht : h q = some (triE a b c)) (hv : TV a b c) : CC l yX5_code cX5_code 1 (some .long) rX5_code D z0 h [.ref q] (PV (jv (4294967296 * a + 65536 * b + c)) h) NX := by
  refine CC_of RX5 hl (by decide) rfl (Nat.le_of_ble_eq_true rfl) (fun K X Y Z hmn hKl => ?_)
  subst hKl
  have hb := TV_b hv
  have hS := Sx_b hv
  show WW K D z0 1 h 0 0 0 [(0, .ref q)] []
  refine r_ldc2 4294967296 X dX5_code_0 nX5_54 (by decide) ?_
  refine r_aload_n 0 X dX5_code_3 rfl ?_
  refine r_getf X dX5_code_4 fX5_13 ht rfl ?_
  refine r_i2l X dX5_code_7 ⟨by omega, by omega⟩ ?_
  refine r_lmul X dX5_code_8 ?_
  refine r_ldc2 65536 X dX5_code_9 nX5_56 (by decide) ?_
  refine r_aload_n 0 X dX5_code_12 rfl ?_
  refine r_getf X dX5_code_13 fX5_25 ht rfl ?_
  refine r_i2l X dX5_code_16 ⟨by omega, by omega⟩ ?_
  refine r_lmul X dX5_code_17 ?_
  refine r_ladd X dX5_code_18 ?_
  refine r_aload_n 0 X dX5_code_19 rfl ?_
  refine r_getf X dX5_code_20 fX5_22 ht rfl ?_
  refine r_i2l X dX5_code_23 ⟨by omega, by omega⟩ ?_
  refine r_ladd X dX5_code_24 ?_
  refine r_lret X Y dX5_code_25 (by decide) (by decide) ?_
  exact pv_j (by rfl)
abbrev rX5_squaresBeside : Room := { frames := 1, cells := 0, slots := 0, locals := 21 }
theorem c_X5_squaresBeside {l : Launch} (hl : l.stackTraces = false) (D : va_G) (z0 : Nat) (h : Hp) (q : Nat) (a b c : Int) (ht : h q = some (triE a b c)) (hv : TV a b c) (w : Int) (hw : I32 w) : CC l yX5_squaresBeside cX5_squaresBeside 4 (some .long) rX5_squaresBeside D z0 h [.ref q, iv w] (PV (jv (sqb3 a b c w)) h) NX := by
  refine CC_of RX5 hl (by decide) rfl (Nat.le_of_ble_eq_true rfl) (fun K X Y Z hmn hKl => ?_)
  subst hKl
  have hb := TV_b hv
  have hS := Sx_b hv
  have hl1 := ln_b hv w
  show WW K D z0 4 h 0 0 0 [(0, .ref q), (1, iv w)] []
  refine r_aload_n 0 X dX5_squaresBeside_0 rfl ?_
  refine r_iload_n 1 X dX5_squaresBeside_1 rfl ?_
  refine r_callV_v X dX5_squaresBeside_2 kX5_58 ht (c_X5_length (CX_l X) D z0 h q a b c ht hv w ⟨by omega, by omega⟩) [] rfl rfl (Nat.le_of_ble_eq_true rfl) (by decide) rfl rfl (by decide) ?_
  refine r_i2l X dX5_squaresBeside_5 ⟨by omega, by omega⟩ ?_
  refine r_lstore_n (L' := [(2, jv (ln a b c w)), (0, .ref q), (1, iv w)]) X dX5_squaresBeside_6 (by decide) rfl ?_
  refine r_aload_n 1 X dX5_squaresBeside_7 rfl ?_
  refine r_getf X dX5_squaresBeside_8 fX5_13 ht rfl ?_
  refine r_i2l X dX5_squaresBeside_11 ⟨by omega, by omega⟩ ?_
  refine r_aload_n 1 X dX5_squaresBeside_12 rfl ?_
  refine r_getf X dX5_squaresBeside_13 fX5_13 ht rfl ?_
  refine r_i2l X dX5_squaresBeside_16 ⟨by omega, by omega⟩ ?_
  refine r_lmul X dX5_squaresBeside_17 ?_
  refine r_aload_n 1 X dX5_squaresBeside_18 rfl ?_
  refine r_getf X dX5_squaresBeside_19 fX5_25 ht rfl ?_
  refine r_i2l X dX5_squaresBeside_22 ⟨by omega, by omega⟩ ?_
  refine r_aload_n 1 X dX5_squaresBeside_23 rfl ?_
  refine r_getf X dX5_squaresBeside_24 fX5_25 ht rfl ?_
  refine r_i2l X dX5_squaresBeside_27 ⟨by omega, by omega⟩ ?_
  refine r_lmul X dX5_squaresBeside_28 ?_
  refine r_ladd X dX5_squaresBeside_29 ?_
  refine r_aload_n 1 X dX5_squaresBeside_30 rfl ?_
  refine r_getf X dX5_squaresBeside_31 fX5_22 ht rfl ?_
  refine r_i2l X dX5_squaresBeside_34 ⟨by omega, by omega⟩ ?_
  refine r_aload_n 1 X dX5_squaresBeside_35 rfl ?_
  refine r_getf X dX5_squaresBeside_36 fX5_22 ht rfl ?_
  refine r_i2l X dX5_squaresBeside_39 ⟨by omega, by omega⟩ ?_
  refine r_lmul X dX5_squaresBeside_40 ?_
  refine r_ladd X dX5_squaresBeside_41 ?_
  refine r_ldc2 2 X dX5_squaresBeside_42 nX5_62 (by decide) ?_
  refine r_lload_n 0 X dX5_squaresBeside_45 rfl ?_
  refine r_lmul X dX5_squaresBeside_46 ?_
  refine r_lload_n 0 X dX5_squaresBeside_47 rfl ?_
  refine r_lmul X dX5_squaresBeside_48 ?_
  refine r_lsub X dX5_squaresBeside_49 ?_
  refine r_lret X Y dX5_squaresBeside_50 (by decide) (by decide) ?_
  exact pv_j (by rfl)
abbrev rX5_sharpness : Room := { frames := 2, cells := 0, slots := 0, locals := 44 }
theorem c_X5_sharpness {l : Launch} (hl : l.stackTraces = false) (D : va_G) (z0 : Nat) (h : Hp) (q : Nat) (a b c : Int) (ht : h q = some (triE a b c)) (hv : TV a b c) : CC l yX5_sharpness cX5_sharpness 1 (some .int) rX5_sharpness D z0 h [.ref q] (PV (iv (cmpv (sqb3 a b c 2) 0)) h) NX := by
  refine CC_of RX5 hl (by decide) rfl (Nat.le_of_ble_eq_true rfl) (fun K X Y Z hmn hKl => ?_)
  subst hKl
  have hb := TV_b hv
  have hS := Sx_b hv
  have hl1 := sqb3_b hv 2
  show WW K D z0 1 h 0 0 0 [(0, .ref q)] []
  refine r_aload_n 0 X dX5_sharpness_0 rfl ?_
  refine r_iconst X dX5_sharpness_1 ?_
  refine r_callV_v X dX5_sharpness_2 kX5_64 ht (c_X5_squaresBeside (CX_l X) D z0 h q a b c ht hv 2 ⟨by omega, by omega⟩) [] rfl rfl (Nat.le_of_ble_eq_true rfl) (by decide) rfl rfl (by decide) ?_
  refine r_lconst 0 X dX5_sharpness_5 (by decide) ?_
  refine r_callS_v X dX5_sharpness_6 kX5_68 (c_J13_compare_74951 (CX_l X) D z0 h (sqb3 a b c 2) 0 ⟨by omega, by omega⟩ ⟨by omega, by omega⟩) [] rfl rfl (Nat.le_of_ble_eq_true rfl) (by decide) rfl rfl (by decide) ?_
  refine r_iret X Y dX5_sharpness_9 (by decide) (by decide) ?_
  exact pv_i (by rfl)
abbrev rX5_degreesOpposite : Room := { frames := 2, cells := 0, slots := 0, locals := 44 }
theorem c_X5_degreesOpposite {l : Launch} (hl : l.stackTraces = false) (D : va_G) (z0 : Nat) (h : Hp) (q : Nat) (a b c : Int) (ht : h q = some (triE a b c)) (hv : TV a b c) (w : Int) (hw : I32 w) : CC l yX5_degreesOpposite cX5_degreesOpposite 6 (some .int) rX5_degreesOpposite D z0 h [.ref q, iv w] (PV (iv (deg a b c w)) h) NX := by
  refine CC_of RX5 hl (by decide) rfl (Nat.le_of_ble_eq_true rfl) (fun K X Y Z hmn hKl => ?_)
  subst hKl
  have hb := TV_b hv
  have hS := Sx_b hv
  have hl1 := sqb3_b hv w
  have hl2 := ln_b hv 0
  have hl3 := ln_b hv 1
  have hl4 := ln_b hv 2
  have hm1 := sqb (a := 65535) (b := 65535) (by omega) (by omega)
  have m01 := mlb (x := 65535) (y := 65535) (show 0 ≤ ln a b c 0 by omega) hl2.2 (show 0 ≤ ln a b c 1 by omega) hl3.2
  have m02 := mlb (x := 65535) (y := 65535) (show 0 ≤ ln a b c 0 by omega) hl2.2 (show 0 ≤ ln a b c 2 by omega) hl4.2
  have m12 := mlb (x := 65535) (y := 65535) (show 0 ≤ ln a b c 1 by omega) hl3.2 (show 0 ≤ ln a b c 2 by omega) hl4.2
  have m11 := mlb (x := 65535) (y := 65535) (show 0 ≤ ln a b c 1 by omega) hl3.2 (show 0 ≤ ln a b c 1 by omega) hl3.2
  show WW K D z0 6 h 0 0 0 [(0, .ref q), (1, iv w)] []
  refine r_aload_n 0 X dX5_degreesOpposite_0 rfl ?_
  refine r_iload_n 1 X dX5_degreesOpposite_1 rfl ?_
  refine r_callV_v X dX5_degreesOpposite_2 kX5_64 ht (c_X5_squaresBeside (CX_l X) D z0 h q a b c ht hv w ⟨by omega, by omega⟩) [] rfl rfl (Nat.le_of_ble_eq_true rfl) (by decide) rfl rfl (by decide) ?_
  refine r_lstore_n (L' := [(2, jv (sqb3 a b c w)), (0, .ref q), (1, iv w)]) X dX5_degreesOpposite_5 (by decide) rfl ?_
  refine r_aload_n 1 X dX5_degreesOpposite_6 rfl ?_
  refine r_iload_n 2 X dX5_degreesOpposite_7 rfl ?_
  refine r_if_ne 15 X dX5_degreesOpposite_8 (by decide) ⟨by omega, by omega⟩ (fun c8 => ?_) (fun c8 => ?_)
  · refine r_iconst X dX5_degreesOpposite_15 ?_
    refine r_callV_v X dX5_degreesOpposite_16 kX5_58 ht (c_X5_length (CX_l X) D z0 h q a b c ht hv 0 ⟨by omega, by omega⟩) [] rfl rfl (Nat.le_of_ble_eq_true rfl) (by decide) rfl rfl (by decide) ?_
    refine r_i2l X dX5_degreesOpposite_19 ⟨by omega, by omega⟩ ?_
    refine r_aload_n 1 X dX5_degreesOpposite_20 rfl ?_
    refine r_iload_n 2 X dX5_degreesOpposite_21 rfl ?_
    refine r_iconst X dX5_degreesOpposite_22 ?_
    refine r_icmp_ne 30 X dX5_degreesOpposite_23 (by decide) ⟨by omega, by omega⟩ ⟨by omega, by omega⟩ (fun c23 => ?_) (fun c23 => ?_)
    · refine r_iconst X dX5_degreesOpposite_30 ?_
      refine r_callV_v X dX5_degreesOpposite_31 kX5_58 ht (c_X5_length (CX_l X) D z0 h q a b c ht hv 2 ⟨by omega, by omega⟩) [jv (ln a b c 0)] rfl rfl (Nat.le_of_ble_eq_true rfl) (by decide) rfl rfl (by decide) ?_
      refine r_i2l X dX5_degreesOpposite_34 ⟨by omega, by omega⟩ ?_
      refine r_lmul X dX5_degreesOpposite_35 ?_
      refine r_lstore (L' := [(4, jv ((ln a b c 0) * (ln a b c 2))), (2, jv (sqb3 a b c w)), (0, .ref q), (1, iv w)]) X dX5_degreesOpposite_36 (by decide) rfl ?_
      have hp : prd3 a b c w = (ln a b c 0) * (ln a b c 2) := by
        unfold prd3
        congr 2
        · split <;> omega
        · split <;> omega
      refine r_lload_n 1 X dX5_degreesOpposite_38 rfl ?_
      refine r_lconst 0 X dX5_degreesOpposite_39 (by decide) ?_
      refine r_lcmp_ne 47 X dX5_degreesOpposite_40 dX5_degreesOpposite_41 (by decide) ⟨by omega, by omega⟩ ⟨by omega, by omega⟩ (fun c40 => ?_) (fun c40 => ?_)
      · refine r_lload_n 1 X dX5_degreesOpposite_47 rfl ?_
        refine r_lload 0 X dX5_degreesOpposite_48 rfl ?_
        refine r_lcmp_ne 57 X dX5_degreesOpposite_50 dX5_degreesOpposite_51 (by decide) ⟨by omega, by omega⟩ ⟨by omega, by omega⟩ (fun c50 => ?_) (fun c50 => ?_)
        · refine r_lload_n 1 X dX5_degreesOpposite_57 rfl ?_
          refine r_lload 0 X dX5_degreesOpposite_58 rfl ?_
          refine r_lneg X dX5_degreesOpposite_60 ?_
          refine r_lcmp_ne 70 X dX5_degreesOpposite_61 dX5_degreesOpposite_62 (by decide) ⟨by omega, by omega⟩ ⟨by omega, by omega⟩ (fun c61 => ?_) (fun c61 => ?_)
          · refine r_iconst X dX5_degreesOpposite_70 ?_
            refine r_iret X Y dX5_degreesOpposite_71 (by decide) (by decide) ?_
            exact pv_i (by unfold deg; rw [hp]; split <;> (try split) <;> (try split) <;> omega)
          · refine r_bipush X dX5_degreesOpposite_65 (by decide) ?_
            refine r_goto 71 X dX5_degreesOpposite_67 (by decide) ?_
            refine r_iret X Y dX5_degreesOpposite_71 (by decide) (by decide) ?_
            exact pv_i (by unfold deg; rw [hp]; split <;> (try split) <;> (try split) <;> omega)
        · refine r_bipush X dX5_degreesOpposite_54 (by decide) ?_
          refine r_iret X Y dX5_degreesOpposite_56 (by decide) (by decide) ?_
          exact pv_i (by unfold deg; rw [hp]; split <;> (try split) <;> (try split) <;> omega)
      · refine r_bipush X dX5_degreesOpposite_44 (by decide) ?_
        refine r_iret X Y dX5_degreesOpposite_46 (by decide) (by decide) ?_
        exact pv_i (by unfold deg; rw [hp]; split <;> (try split) <;> (try split) <;> omega)
    · refine r_iconst X dX5_degreesOpposite_26 ?_
      refine r_goto 31 X dX5_degreesOpposite_27 (by decide) ?_
      refine r_callV_v X dX5_degreesOpposite_31 kX5_58 ht (c_X5_length (CX_l X) D z0 h q a b c ht hv 1 ⟨by omega, by omega⟩) [jv (ln a b c 0)] rfl rfl (Nat.le_of_ble_eq_true rfl) (by decide) rfl rfl (by decide) ?_
      refine r_i2l X dX5_degreesOpposite_34 ⟨by omega, by omega⟩ ?_
      refine r_lmul X dX5_degreesOpposite_35 ?_
      refine r_lstore (L' := [(4, jv ((ln a b c 0) * (ln a b c 1))), (2, jv (sqb3 a b c w)), (0, .ref q), (1, iv w)]) X dX5_degreesOpposite_36 (by decide) rfl ?_
      have hp : prd3 a b c w = (ln a b c 0) * (ln a b c 1) := by
        unfold prd3
        congr 2
        · split <;> omega
        · split <;> omega
      refine r_lload_n 1 X dX5_degreesOpposite_38 rfl ?_
      refine r_lconst 0 X dX5_degreesOpposite_39 (by decide) ?_
      refine r_lcmp_ne 47 X dX5_degreesOpposite_40 dX5_degreesOpposite_41 (by decide) ⟨by omega, by omega⟩ ⟨by omega, by omega⟩ (fun c40 => ?_) (fun c40 => ?_)
      · refine r_lload_n 1 X dX5_degreesOpposite_47 rfl ?_
        refine r_lload 0 X dX5_degreesOpposite_48 rfl ?_
        refine r_lcmp_ne 57 X dX5_degreesOpposite_50 dX5_degreesOpposite_51 (by decide) ⟨by omega, by omega⟩ ⟨by omega, by omega⟩ (fun c50 => ?_) (fun c50 => ?_)
        · refine r_lload_n 1 X dX5_degreesOpposite_57 rfl ?_
          refine r_lload 0 X dX5_degreesOpposite_58 rfl ?_
          refine r_lneg X dX5_degreesOpposite_60 ?_
          refine r_lcmp_ne 70 X dX5_degreesOpposite_61 dX5_degreesOpposite_62 (by decide) ⟨by omega, by omega⟩ ⟨by omega, by omega⟩ (fun c61 => ?_) (fun c61 => ?_)
          · refine r_iconst X dX5_degreesOpposite_70 ?_
            refine r_iret X Y dX5_degreesOpposite_71 (by decide) (by decide) ?_
            exact pv_i (by unfold deg; rw [hp]; split <;> (try split) <;> (try split) <;> omega)
          · refine r_bipush X dX5_degreesOpposite_65 (by decide) ?_
            refine r_goto 71 X dX5_degreesOpposite_67 (by decide) ?_
            refine r_iret X Y dX5_degreesOpposite_71 (by decide) (by decide) ?_
            exact pv_i (by unfold deg; rw [hp]; split <;> (try split) <;> (try split) <;> omega)
        · refine r_bipush X dX5_degreesOpposite_54 (by decide) ?_
          refine r_iret X Y dX5_degreesOpposite_56 (by decide) (by decide) ?_
          exact pv_i (by unfold deg; rw [hp]; split <;> (try split) <;> (try split) <;> omega)
      · refine r_bipush X dX5_degreesOpposite_44 (by decide) ?_
        refine r_iret X Y dX5_degreesOpposite_46 (by decide) (by decide) ?_
        exact pv_i (by unfold deg; rw [hp]; split <;> (try split) <;> (try split) <;> omega)
  · refine r_iconst X dX5_degreesOpposite_11 ?_
    refine r_goto 16 X dX5_degreesOpposite_12 (by decide) ?_
    refine r_callV_v X dX5_degreesOpposite_16 kX5_58 ht (c_X5_length (CX_l X) D z0 h q a b c ht hv 1 ⟨by omega, by omega⟩) [] rfl rfl (Nat.le_of_ble_eq_true rfl) (by decide) rfl rfl (by decide) ?_
    refine r_i2l X dX5_degreesOpposite_19 ⟨by omega, by omega⟩ ?_
    refine r_aload_n 1 X dX5_degreesOpposite_20 rfl ?_
    refine r_iload_n 2 X dX5_degreesOpposite_21 rfl ?_
    refine r_iconst X dX5_degreesOpposite_22 ?_
    refine r_icmp_ne 30 X dX5_degreesOpposite_23 (by decide) ⟨by omega, by omega⟩ ⟨by omega, by omega⟩ (fun c23 => ?_) (fun c23 => ?_)
    · refine r_iconst X dX5_degreesOpposite_30 ?_
      refine r_callV_v X dX5_degreesOpposite_31 kX5_58 ht (c_X5_length (CX_l X) D z0 h q a b c ht hv 2 ⟨by omega, by omega⟩) [jv (ln a b c 1)] rfl rfl (Nat.le_of_ble_eq_true rfl) (by decide) rfl rfl (by decide) ?_
      refine r_i2l X dX5_degreesOpposite_34 ⟨by omega, by omega⟩ ?_
      refine r_lmul X dX5_degreesOpposite_35 ?_
      refine r_lstore (L' := [(4, jv ((ln a b c 1) * (ln a b c 2))), (2, jv (sqb3 a b c w)), (0, .ref q), (1, iv w)]) X dX5_degreesOpposite_36 (by decide) rfl ?_
      have hp : prd3 a b c w = (ln a b c 1) * (ln a b c 2) := by
        unfold prd3
        congr 2
        · split <;> omega
        · split <;> omega
      refine r_lload_n 1 X dX5_degreesOpposite_38 rfl ?_
      refine r_lconst 0 X dX5_degreesOpposite_39 (by decide) ?_
      refine r_lcmp_ne 47 X dX5_degreesOpposite_40 dX5_degreesOpposite_41 (by decide) ⟨by omega, by omega⟩ ⟨by omega, by omega⟩ (fun c40 => ?_) (fun c40 => ?_)
      · refine r_lload_n 1 X dX5_degreesOpposite_47 rfl ?_
        refine r_lload 0 X dX5_degreesOpposite_48 rfl ?_
        refine r_lcmp_ne 57 X dX5_degreesOpposite_50 dX5_degreesOpposite_51 (by decide) ⟨by omega, by omega⟩ ⟨by omega, by omega⟩ (fun c50 => ?_) (fun c50 => ?_)
        · refine r_lload_n 1 X dX5_degreesOpposite_57 rfl ?_
          refine r_lload 0 X dX5_degreesOpposite_58 rfl ?_
          refine r_lneg X dX5_degreesOpposite_60 ?_
          refine r_lcmp_ne 70 X dX5_degreesOpposite_61 dX5_degreesOpposite_62 (by decide) ⟨by omega, by omega⟩ ⟨by omega, by omega⟩ (fun c61 => ?_) (fun c61 => ?_)
          · refine r_iconst X dX5_degreesOpposite_70 ?_
            refine r_iret X Y dX5_degreesOpposite_71 (by decide) (by decide) ?_
            exact pv_i (by unfold deg; rw [hp]; split <;> (try split) <;> (try split) <;> omega)
          · refine r_bipush X dX5_degreesOpposite_65 (by decide) ?_
            refine r_goto 71 X dX5_degreesOpposite_67 (by decide) ?_
            refine r_iret X Y dX5_degreesOpposite_71 (by decide) (by decide) ?_
            exact pv_i (by unfold deg; rw [hp]; split <;> (try split) <;> (try split) <;> omega)
        · refine r_bipush X dX5_degreesOpposite_54 (by decide) ?_
          refine r_iret X Y dX5_degreesOpposite_56 (by decide) (by decide) ?_
          exact pv_i (by unfold deg; rw [hp]; split <;> (try split) <;> (try split) <;> omega)
      · refine r_bipush X dX5_degreesOpposite_44 (by decide) ?_
        refine r_iret X Y dX5_degreesOpposite_46 (by decide) (by decide) ?_
        exact pv_i (by unfold deg; rw [hp]; split <;> (try split) <;> (try split) <;> omega)
    · refine r_iconst X dX5_degreesOpposite_26 ?_
      refine r_goto 31 X dX5_degreesOpposite_27 (by decide) ?_
      refine r_callV_v X dX5_degreesOpposite_31 kX5_58 ht (c_X5_length (CX_l X) D z0 h q a b c ht hv 1 ⟨by omega, by omega⟩) [jv (ln a b c 1)] rfl rfl (Nat.le_of_ble_eq_true rfl) (by decide) rfl rfl (by decide) ?_
      refine r_i2l X dX5_degreesOpposite_34 ⟨by omega, by omega⟩ ?_
      refine r_lmul X dX5_degreesOpposite_35 ?_
      refine r_lstore (L' := [(4, jv ((ln a b c 1) * (ln a b c 1))), (2, jv (sqb3 a b c w)), (0, .ref q), (1, iv w)]) X dX5_degreesOpposite_36 (by decide) rfl ?_
      have hp : prd3 a b c w = (ln a b c 1) * (ln a b c 1) := by
        unfold prd3
        congr 2
        · split <;> omega
        · split <;> omega
      refine r_lload_n 1 X dX5_degreesOpposite_38 rfl ?_
      refine r_lconst 0 X dX5_degreesOpposite_39 (by decide) ?_
      refine r_lcmp_ne 47 X dX5_degreesOpposite_40 dX5_degreesOpposite_41 (by decide) ⟨by omega, by omega⟩ ⟨by omega, by omega⟩ (fun c40 => ?_) (fun c40 => ?_)
      · refine r_lload_n 1 X dX5_degreesOpposite_47 rfl ?_
        refine r_lload 0 X dX5_degreesOpposite_48 rfl ?_
        refine r_lcmp_ne 57 X dX5_degreesOpposite_50 dX5_degreesOpposite_51 (by decide) ⟨by omega, by omega⟩ ⟨by omega, by omega⟩ (fun c50 => ?_) (fun c50 => ?_)
        · refine r_lload_n 1 X dX5_degreesOpposite_57 rfl ?_
          refine r_lload 0 X dX5_degreesOpposite_58 rfl ?_
          refine r_lneg X dX5_degreesOpposite_60 ?_
          refine r_lcmp_ne 70 X dX5_degreesOpposite_61 dX5_degreesOpposite_62 (by decide) ⟨by omega, by omega⟩ ⟨by omega, by omega⟩ (fun c61 => ?_) (fun c61 => ?_)
          · refine r_iconst X dX5_degreesOpposite_70 ?_
            refine r_iret X Y dX5_degreesOpposite_71 (by decide) (by decide) ?_
            exact pv_i (by unfold deg; rw [hp]; split <;> (try split) <;> (try split) <;> omega)
          · refine r_bipush X dX5_degreesOpposite_65 (by decide) ?_
            refine r_goto 71 X dX5_degreesOpposite_67 (by decide) ?_
            refine r_iret X Y dX5_degreesOpposite_71 (by decide) (by decide) ?_
            exact pv_i (by unfold deg; rw [hp]; split <;> (try split) <;> (try split) <;> omega)
        · refine r_bipush X dX5_degreesOpposite_54 (by decide) ?_
          refine r_iret X Y dX5_degreesOpposite_56 (by decide) (by decide) ?_
          exact pv_i (by unfold deg; rw [hp]; split <;> (try split) <;> (try split) <;> omega)
      · refine r_bipush X dX5_degreesOpposite_44 (by decide) ?_
        refine r_iret X Y dX5_degreesOpposite_46 (by decide) (by decide) ?_
        exact pv_i (by unfold deg; rw [hp]; split <;> (try split) <;> (try split) <;> omega)
abbrev rX5_hasLeg : Room := { frames := 0, cells := 0, slots := 0, locals := 0 }
theorem c_X5_hasLeg {l : Launch} (hl : l.stackTraces = false) (D : va_G) (z0 : Nat) (h : Hp) (q : Nat) (a b c : Int) (ht : h q = some (triE a b c)) (hv : TV a b c) (w : Int) (hw : I32 w) : CC l yX5_hasLeg cX5_hasLeg 2 (some .boolean) rX5_hasLeg D z0 h [.ref q, iv w] (PV (iv (if a = w ∨ b = w then 1 else 0)) h) NX := by
  refine CC_of RX5 hl (by decide) rfl (Nat.le_of_ble_eq_true rfl) (fun K X Y Z hmn hKl => ?_)
  subst hKl
  have hb := TV_b hv
  have hS := Sx_b hv
  show WW K D z0 2 h 0 0 0 [(0, .ref q), (1, iv w)] []
  refine r_aload_n 0 X dX5_hasLeg_0 rfl ?_
  refine r_getf X dX5_hasLeg_1 fX5_13 ht rfl ?_
  refine r_iload_n 1 X dX5_hasLeg_4 rfl ?_
  refine r_icmp_eq 16 X dX5_hasLeg_5 (by decide) ⟨by omega, by omega⟩ ⟨by omega, by omega⟩ (fun c5 => ?_) (fun c5 => ?_)
  · refine r_iconst X dX5_hasLeg_16 ?_
    refine r_goto 21 X dX5_hasLeg_17 (by decide) ?_
    refine r_zret X Y dX5_hasLeg_21 (Or.inr rfl) (by decide) (by decide) ?_
    exact pv_t (by omega)
  · refine r_aload_n 0 X dX5_hasLeg_8 rfl ?_
    refine r_getf X dX5_hasLeg_9 fX5_25 ht rfl ?_
    refine r_iload_n 1 X dX5_hasLeg_12 rfl ?_
    refine r_icmp_ne 20 X dX5_hasLeg_13 (by decide) ⟨by omega, by omega⟩ ⟨by omega, by omega⟩ (fun c13 => ?_) (fun c13 => ?_)
    · refine r_iconst X dX5_hasLeg_20 ?_
      refine r_zret X Y dX5_hasLeg_21 (Or.inl rfl) (by decide) (by decide) ?_
      exact pv_f (by omega)
    · refine r_iconst X dX5_hasLeg_16 ?_
      refine r_goto 21 X dX5_hasLeg_17 (by decide) ?_
      refine r_zret X Y dX5_hasLeg_21 (Or.inr rfl) (by decide) (by decide) ?_
      exact pv_t (by omega)
abbrev rX5_otherLeg : Room := { frames := 0, cells := 0, slots := 0, locals := 0 }
theorem c_X5_otherLeg {l : Launch} (hl : l.stackTraces = false) (D : va_G) (z0 : Nat) (h : Hp) (q : Nat) (a b c : Int) (ht : h q = some (triE a b c)) (hv : TV a b c) (w : Int) (hw : I32 w) : CC l yX5_otherLeg cX5_otherLeg 2 (some .int) rX5_otherLeg D z0 h [.ref q, iv w] (PV (iv (if a = w then b else a)) h) NX := by
  refine CC_of RX5 hl (by decide) rfl (Nat.le_of_ble_eq_true rfl) (fun K X Y Z hmn hKl => ?_)
  subst hKl
  have hb := TV_b hv
  have hS := Sx_b hv
  show WW K D z0 2 h 0 0 0 [(0, .ref q), (1, iv w)] []
  refine r_aload_n 0 X dX5_otherLeg_0 rfl ?_
  refine r_getf X dX5_otherLeg_1 fX5_13 ht rfl ?_
  refine r_iload_n 1 X dX5_otherLeg_4 rfl ?_
  refine r_icmp_ne 15 X dX5_otherLeg_5 (by decide) ⟨by omega, by omega⟩ ⟨by omega, by omega⟩ (fun c5 => ?_) (fun c5 => ?_)
  · refine r_aload_n 0 X dX5_otherLeg_15 rfl ?_
    refine r_getf X dX5_otherLeg_16 fX5_13 ht rfl ?_
    refine r_iret X Y dX5_otherLeg_19 (by decide) (by decide) ?_
    exact pv_i (by split <;> omega)
  · refine r_aload_n 0 X dX5_otherLeg_8 rfl ?_
    refine r_getf X dX5_otherLeg_9 fX5_25 ht rfl ?_
    refine r_goto 19 X dX5_otherLeg_12 (by decide) ?_
    refine r_iret X Y dX5_otherLeg_19 (by decide) (by decide) ?_
    exact pv_i (by split <;> omega)
abbrev rX5_isPrimitive : Room := { frames := 3, cells := 0, slots := 0, locals := 64 }
theorem c_X5_isPrimitive {l : Launch} (hl : l.stackTraces = false) (D : va_G) (z0 : Nat) (h : Hp) (q : Nat) (a b c : Int) (ht : h q = some (triE a b c)) (hv : TV a b c) : CC l yX5_isPrimitive cX5_isPrimitive 1 (some .boolean) rX5_isPrimitive D z0 h [.ref q] (PV (iv (if sqb3 a b c 2 = 0 ∧ gcd3 a b c = 1 then 1 else 0)) h) NX := by
  refine CC_of RX5 hl (by decide) rfl (Nat.le_of_ble_eq_true rfl) (fun K X Y Z hmn hKl => ?_)
  subst hKl
  have hb := TV_b hv
  have hS := Sx_b hv
  have g1 : 0 ≤ gcd3 a b c ∧ gcd3 a b c ≤ 65535 := by
    have : Int.gcd ((Int.gcd a b : Nat) : Int) c ≤ c.natAbs := Nat.le_of_dvd (by omega) (Nat.gcd_dvd_right _ _)
    unfold gcd3
    omega
  show WW K D z0 1 h 0 0 0 [(0, .ref q)] []
  refine r_aload_n 0 X dX5_isPrimitive_0 rfl ?_
  refine r_callV_v X dX5_isPrimitive_1 kX5_74 ht (c_X5_sharpness (CX_l X) D z0 h q a b c ht hv) [] rfl rfl (Nat.le_of_ble_eq_true rfl) (by decide) rfl rfl (by decide) ?_
  refine r_if_ne 19 X dX5_isPrimitive_4 (by decide) ⟨by unfold cmpv; split <;> (try split) <;> omega, by unfold cmpv; split <;> (try split) <;> omega⟩ (fun c4 => ?_) (fun c4 => ?_)
  · refine r_iconst X dX5_isPrimitive_19 ?_
    refine r_zret X Y dX5_isPrimitive_20 (Or.inl rfl) (by decide) (by decide) ?_
    exact pv_f (by unfold cmpv at c4; split at c4 <;> (try split at c4) <;> omega)
  · refine r_aload_n 0 X dX5_isPrimitive_7 rfl ?_
    refine r_callV_v X dX5_isPrimitive_8 kX5_78 ht (c_X5_commonDivisor (CX_l X) D z0 h q a b c ht hv) [] rfl rfl (Nat.le_of_ble_eq_true rfl) (by decide) rfl rfl (by decide) ?_
    refine r_iconst X dX5_isPrimitive_11 ?_
    refine r_icmp_ne 19 X dX5_isPrimitive_12 (by decide) ⟨by omega, by omega⟩ ⟨by omega, by omega⟩ (fun c12 => ?_) (fun c12 => ?_)
    · refine r_iconst X dX5_isPrimitive_19 ?_
      refine r_zret X Y dX5_isPrimitive_20 (Or.inl rfl) (by decide) (by decide) ?_
      exact pv_f (by unfold cmpv at c4; split at c4 <;> (try split at c4) <;> omega)
    · refine r_iconst X dX5_isPrimitive_15 ?_
      refine r_goto 20 X dX5_isPrimitive_16 (by decide) ?_
      refine r_zret X Y dX5_isPrimitive_20 (Or.inr rfl) (by decide) (by decide) ?_
      exact pv_t (by unfold cmpv at c4; split at c4 <;> (try split at c4) <;> omega)
abbrev rX5_oddLeg : Room := { frames := 0, cells := 0, slots := 0, locals := 0 }
theorem c_X5_oddLeg {l : Launch} (hl : l.stackTraces = false) (D : va_G) (z0 : Nat) (h : Hp) (q : Nat) (a b c : Int) (ht : h q = some (triE a b c)) (hv : TV a b c) : CC l yX5_oddLeg cX5_oddLeg 1 (some .int) rX5_oddLeg D z0 h [.ref q] (PV (iv (if a % 2 = 1 then a else b)) h) NX := by
  refine CC_of RX5 hl (by decide) rfl (Nat.le_of_ble_eq_true rfl) (fun K X Y Z hmn hKl => ?_)
  subst hKl
  have hb := TV_b hv
  have hS := Sx_b hv
  show WW K D z0 1 h 0 0 0 [(0, .ref q)] []
  refine r_aload_n 0 X dX5_oddLeg_0 rfl ?_
  refine r_getf X dX5_oddLeg_1 fX5_13 ht rfl ?_
  refine r_iconst X dX5_oddLeg_4 ?_
  refine r_iand X dX5_oddLeg_5 1 2 (by decide) (by decide) (by decide) ?_
  refine r_iconst X dX5_oddLeg_6 ?_
  refine r_icmp_ne 17 X dX5_oddLeg_7 (by decide) ⟨by omega, by omega⟩ ⟨by omega, by omega⟩ (fun c7 => ?_) (fun c7 => ?_)
  · refine r_aload_n 0 X dX5_oddLeg_17 rfl ?_
    refine r_getf X dX5_oddLeg_18 fX5_25 ht rfl ?_
    refine r_iret X Y dX5_oddLeg_21 (by decide) (by decide) ?_
    exact pv_i (by split <;> omega)
  · refine r_aload_n 0 X dX5_oddLeg_10 rfl ?_
    refine r_getf X dX5_oddLeg_11 fX5_13 ht rfl ?_
    refine r_goto 21 X dX5_oddLeg_14 (by decide) ?_
    refine r_iret X Y dX5_oddLeg_21 (by decide) (by decide) ?_
    exact pv_i (by split <;> omega)
abbrev rX5_evenLeg : Room := { frames := 0, cells := 0, slots := 0, locals := 0 }
theorem c_X5_evenLeg {l : Launch} (hl : l.stackTraces = false) (D : va_G) (z0 : Nat) (h : Hp) (q : Nat) (a b c : Int) (ht : h q = some (triE a b c)) (hv : TV a b c) : CC l yX5_evenLeg cX5_evenLeg 1 (some .int) rX5_evenLeg D z0 h [.ref q] (PV (iv (if a % 2 = 1 then b else a)) h) NX := by
  refine CC_of RX5 hl (by decide) rfl (Nat.le_of_ble_eq_true rfl) (fun K X Y Z hmn hKl => ?_)
  subst hKl
  have hb := TV_b hv
  have hS := Sx_b hv
  show WW K D z0 1 h 0 0 0 [(0, .ref q)] []
  refine r_aload_n 0 X dX5_evenLeg_0 rfl ?_
  refine r_getf X dX5_evenLeg_1 fX5_13 ht rfl ?_
  refine r_iconst X dX5_evenLeg_4 ?_
  refine r_iand X dX5_evenLeg_5 1 2 (by decide) (by decide) (by decide) ?_
  refine r_iconst X dX5_evenLeg_6 ?_
  refine r_icmp_ne 17 X dX5_evenLeg_7 (by decide) ⟨by omega, by omega⟩ ⟨by omega, by omega⟩ (fun c7 => ?_) (fun c7 => ?_)
  · refine r_aload_n 0 X dX5_evenLeg_17 rfl ?_
    refine r_getf X dX5_evenLeg_18 fX5_13 ht rfl ?_
    refine r_iret X Y dX5_evenLeg_21 (by decide) (by decide) ?_
    exact pv_i (by split <;> omega)
  · refine r_aload_n 0 X dX5_evenLeg_10 rfl ?_
    refine r_getf X dX5_evenLeg_11 fX5_25 ht rfl ?_
    refine r_goto 21 X dX5_evenLeg_14 (by decide) ?_
    refine r_iret X Y dX5_evenLeg_21 (by decide) (by decide) ?_
    exact pv_i (by split <;> omega)
abbrev rX5_wrappedS : Room := { frames := 1, cells := 0, slots := 0, locals := 25 }
theorem c_X5_wrappedS {l : Launch} (hl : l.stackTraces = false) (D : va_G) (z0 : Nat) (h : Hp) (q : Nat) (a b c : Int) (ht : h q = some (triE a b c)) (hv : TV a b c) : CC l yX5_wrappedS cX5_wrappedS 1 (some .long) rX5_wrappedS D z0 h [.ref q] (PV (jv (Sx a b c)) h) NX := by
  refine CC_of RX5 hl (by decide) rfl (Nat.le_of_ble_eq_true rfl) (fun K X Y Z hmn hKl => ?_)
  subst hKl
  have hb := TV_b hv
  have hS := Sx_b hv
  show WW K D z0 1 h 0 0 0 [(0, .ref q)] []
  refine r_aload_n 0 X dX5_wrappedS_0 rfl ?_
  refine r_getf X dX5_wrappedS_1 fX5_13 ht rfl ?_
  refine r_i2l X dX5_wrappedS_4 ⟨by omega, by omega⟩ ?_
  refine r_aload_n 0 X dX5_wrappedS_5 rfl ?_
  refine r_getf X dX5_wrappedS_6 fX5_25 ht rfl ?_
  refine r_i2l X dX5_wrappedS_9 ⟨by omega, by omega⟩ ?_
  refine r_aload_n 0 X dX5_wrappedS_10 rfl ?_
  refine r_getf X dX5_wrappedS_11 fX5_22 ht rfl ?_
  refine r_i2l X dX5_wrappedS_14 ⟨by omega, by omega⟩ ?_
  refine r_callS_v X dX5_wrappedS_15 kX5_28 (c_X5_outerFactor (CX_l X) D z0 h a b c) [] rfl rfl (Nat.le_of_ble_eq_true rfl) (by decide) rfl rfl (by decide) ?_
  refine r_aload_n 0 X dX5_wrappedS_18 rfl ?_
  refine r_getf X dX5_wrappedS_19 fX5_13 ht rfl ?_
  refine r_i2l X dX5_wrappedS_22 ⟨by omega, by omega⟩ ?_
  refine r_aload_n 0 X dX5_wrappedS_23 rfl ?_
  refine r_getf X dX5_wrappedS_24 fX5_25 ht rfl ?_
  refine r_i2l X dX5_wrappedS_27 ⟨by omega, by omega⟩ ?_
  refine r_aload_n 0 X dX5_wrappedS_28 rfl ?_
  refine r_getf X dX5_wrappedS_29 fX5_22 ht rfl ?_
  refine r_i2l X dX5_wrappedS_32 ⟨by omega, by omega⟩ ?_
  refine r_callS_v X dX5_wrappedS_33 kX5_32 (c_X5_innerFactor (CX_l X) D z0 h a b c) [jv (outr a b c)] rfl rfl (Nat.le_of_ble_eq_true rfl) (by decide) rfl rfl (by decide) ?_
  refine r_lmul X dX5_wrappedS_36 ?_
  refine r_lret X Y dX5_wrappedS_37 (by decide) (by decide) ?_
  exact pv_j (by rfl)
theorem bl_cut (hi lo k : Nat) (h : 0 < hi) (hl : lo < 2 ^ k) : bl (hi * 2 ^ k + lo) = k + bl hi := by
  induction k generalizing lo with
  | zero =>
    have : lo = 0 := by simpa using hl
    subst this
    simp
  | succ k ih =>
    have hp : 0 < hi * 2 ^ (k + 1) := Nat.mul_pos h (Nat.two_pow_pos _)
    rw [bl_half (by omega)]
    have e : (hi * 2 ^ (k + 1) + lo) / 2 = hi * 2 ^ k + lo / 2 := by
      rw [Nat.pow_succ, ← Nat.mul_assoc]
      omega
    rw [e, ih (lo / 2) (by rw [Nat.pow_succ] at hl; omega)]
    omega
theorem bl_S {s : Int} (h : 0 < s) : (if s / 262144 = 0 then ((bl (s % 262144).toNat : Nat) : Int) else 18 + ((bl (s / 262144).toNat : Nat) : Int)) = ((bl s.toNat : Nat) : Int) := by
  split
  · next q => rw [show s % 262144 = s by omega]
  · next q =>
    have e := bl_cut (s / 262144).toNat (s % 262144).toNat 18 (by omega) (by omega)
    rw [show (s / 262144).toNat * 2 ^ 18 + (s % 262144).toNat = s.toNat by omega] at e
    rw [e]
    omega
theorem cmpv_S {s t : Int} : (if s / 262144 = t / 262144 then cmpv (s % 262144) (t % 262144) else cmpv (s / 262144) (t / 262144)) = cmpv s t := by
  unfold cmpv
  by_cases q : s / 262144 = t / 262144
  · rw [if_pos q]
    split <;> split <;> (try split) <;> (try split) <;> omega
  · rw [if_neg q]
    split <;> split <;> (try split) <;> (try split) <;> omega
abbrev rX5_digitsOfS : Room := { frames := 1, cells := 0, slots := 0, locals := 24 }
theorem c_X5_digitsOfS {l : Launch} (hl : l.stackTraces = false) (D : va_G) (z0 : Nat) (h : Hp) (q : Nat) (a b c : Int) (ht : h q = some (triE a b c)) (hv : TV a b c) : CC l yX5_digitsOfS cX5_digitsOfS 1 (some .int) rX5_digitsOfS D z0 h [.ref q] (PV (iv ((bl (Sx a b c).toNat : Nat) : Int)) h) NX := by
  refine CC_of RX5 hl (by decide) rfl (Nat.le_of_ble_eq_true rfl) (fun K X Y Z hmn hKl => ?_)
  subst hKl
  have hb := TV_b hv
  have hS := Sx_b hv
  show WW K D z0 1 h 0 0 0 [(0, .ref q)] []
  refine r_aload_n 0 X dX5_digitsOfS_0 rfl ?_
  refine r_getf X dX5_digitsOfS_1 fX5_41 ht rfl ?_
  refine r_lconst 0 X dX5_digitsOfS_4 (by decide) ?_
  refine r_lcmp_ne 19 X dX5_digitsOfS_5 dX5_digitsOfS_6 (by decide) ⟨by omega, by omega⟩ ⟨by omega, by omega⟩ (fun c5 => ?_) (fun c5 => ?_)
  · refine r_bipush X dX5_digitsOfS_19 (by decide) ?_
    refine r_aload_n 0 X dX5_digitsOfS_21 rfl ?_
    refine r_getf X dX5_digitsOfS_22 fX5_41 ht rfl ?_
    refine r_callS_v X dX5_digitsOfS_25 kX5_80 (c_X1_digits (CX_l X) D z0 h (Sx a b c / 262144) ⟨by omega, by omega⟩) [iv 18] rfl rfl (Nat.le_of_ble_eq_true rfl) (by decide) rfl rfl (by decide) ?_
    refine r_iadd X dX5_digitsOfS_28 ?_
    refine r_iret X Y dX5_digitsOfS_29 (by decide) (by decide) ?_
    exact pv_i (by rw [← bl_S hS.1, if_neg (by omega)])
  · refine r_aload_n 0 X dX5_digitsOfS_9 rfl ?_
    refine r_getf X dX5_digitsOfS_10 fX5_48 ht rfl ?_
    refine r_callS_v X dX5_digitsOfS_13 kX5_80 (c_X1_digits (CX_l X) D z0 h (Sx a b c % 262144) ⟨by omega, by omega⟩) [] rfl rfl (Nat.le_of_ble_eq_true rfl) (by decide) rfl rfl (by decide) ?_
    refine r_goto 29 X dX5_digitsOfS_16 (by decide) ?_
    refine r_iret X Y dX5_digitsOfS_29 (by decide) (by decide) ?_
    exact pv_i (by rw [← bl_S hS.1, if_pos (by omega)])
abbrev rX5_comparedByArea : Room := { frames := 1, cells := 0, slots := 0, locals := 23 }
theorem c_X5_comparedByArea {l : Launch} (hl : l.stackTraces = false) (D : va_G) (z0 : Nat) (h : Hp) (q : Nat) (a b c : Int) (ht : h q = some (triE a b c)) (hv : TV a b c) (q2 : Nat) (a2 b2 c2 : Int) (ht2 : h q2 = some (triE a2 b2 c2)) (hv2 : TV a2 b2 c2) : CC l yX5_comparedByArea cX5_comparedByArea 2 (some .int) rX5_comparedByArea D z0 h [.ref q, .ref q2] (PV (iv (cmpv (Sx a b c) (Sx a2 b2 c2))) h) NX := by
  refine CC_of RX5 hl (by decide) rfl (Nat.le_of_ble_eq_true rfl) (fun K X Y Z hmn hKl => ?_)
  subst hKl
  have hb := TV_b hv
  have hS := Sx_b hv
  have hS2 := Sx_b hv2
  show WW K D z0 2 h 0 0 0 [(0, .ref q), (1, .ref q2)] []
  refine r_aload_n 0 X dX5_comparedByArea_0 rfl ?_
  refine r_getf X dX5_comparedByArea_1 fX5_41 ht rfl ?_
  refine r_aload_n 1 X dX5_comparedByArea_4 rfl ?_
  refine r_getf X dX5_comparedByArea_5 fX5_41 ht2 rfl ?_
  refine r_lcmp_ne 26 X dX5_comparedByArea_8 dX5_comparedByArea_9 (by decide) ⟨by omega, by omega⟩ ⟨by omega, by omega⟩ (fun c8 => ?_) (fun c8 => ?_)
  · refine r_aload_n 0 X dX5_comparedByArea_26 rfl ?_
    refine r_getf X dX5_comparedByArea_27 fX5_41 ht rfl ?_
    refine r_aload_n 1 X dX5_comparedByArea_30 rfl ?_
    refine r_getf X dX5_comparedByArea_31 fX5_41 ht2 rfl ?_
    refine r_callS_v X dX5_comparedByArea_34 kX5_68 (c_J13_compare_74951 (CX_l X) D z0 h (Sx a b c / 262144) (Sx a2 b2 c2 / 262144) ⟨by omega, by omega⟩ ⟨by omega, by omega⟩) [] rfl rfl (Nat.le_of_ble_eq_true rfl) (by decide) rfl rfl (by decide) ?_
    refine r_iret X Y dX5_comparedByArea_37 (by decide) (by decide) ?_
    exact pv_i (by have e := cmpv_S (s := Sx a b c) (t := Sx a2 b2 c2); rw [if_neg (by omega)] at e; exact e)
  · refine r_aload_n 0 X dX5_comparedByArea_12 rfl ?_
    refine r_getf X dX5_comparedByArea_13 fX5_48 ht rfl ?_
    refine r_aload_n 1 X dX5_comparedByArea_16 rfl ?_
    refine r_getf X dX5_comparedByArea_17 fX5_48 ht2 rfl ?_
    refine r_callS_v X dX5_comparedByArea_20 kX5_68 (c_J13_compare_74951 (CX_l X) D z0 h (Sx a b c % 262144) (Sx a2 b2 c2 % 262144) ⟨by omega, by omega⟩ ⟨by omega, by omega⟩) [] rfl rfl (Nat.le_of_ble_eq_true rfl) (by decide) rfl rfl (by decide) ?_
    refine r_goto 37 X dX5_comparedByArea_23 (by decide) ?_
    refine r_iret X Y dX5_comparedByArea_37 (by decide) (by decide) ?_
    exact pv_i (by have e := cmpv_S (s := Sx a b c) (t := Sx a2 b2 c2); rw [if_pos (by omega)] at e; exact e)
abbrev rX5_wholeRootOfS : Room := { frames := 2, cells := 0, slots := 0, locals := 50 }
theorem c_X5_wholeRootOfS {l : Launch} (hl : l.stackTraces = false) (D : va_G) (z0 : Nat) (h : Hp) (q : Nat) (a b c : Int) (ht : h q = some (triE a b c)) (hv : TV a b c) : CC l yX5_wholeRootOfS cX5_wholeRootOfS 11 (some .long) rX5_wholeRootOfS D z0 h [.ref q] (PV (jv (rtS (Sx a b c))) h) NX := by
  refine CC_of RX5 hl (by decide) rfl (Nat.le_of_ble_eq_true rfl) (fun K X Y Z hmn hKl => ?_)
  subst hKl
  have hb := TV_b hv
  have hS := Sx_b hv
  show WW K D z0 11 h 0 0 0 [(0, .ref q)] []
  refine r_aload_n 0 X dX5_wholeRootOfS_0 rfl ?_
  refine r_getf X dX5_wholeRootOfS_1 fX5_13 ht rfl ?_
  refine r_i2l X dX5_wholeRootOfS_4 ⟨by omega, by omega⟩ ?_
  refine r_aload_n 0 X dX5_wholeRootOfS_5 rfl ?_
  refine r_getf X dX5_wholeRootOfS_6 fX5_25 ht rfl ?_
  refine r_i2l X dX5_wholeRootOfS_9 ⟨by omega, by omega⟩ ?_
  refine r_aload_n 0 X dX5_wholeRootOfS_10 rfl ?_
  refine r_getf X dX5_wholeRootOfS_11 fX5_22 ht rfl ?_
  refine r_i2l X dX5_wholeRootOfS_14 ⟨by omega, by omega⟩ ?_
  refine r_callS_v X dX5_wholeRootOfS_15 kX5_28 (c_X5_outerFactor (CX_l X) D z0 h a b c) [] rfl rfl (Nat.le_of_ble_eq_true rfl) (by decide) rfl rfl (by decide) ?_
  refine r_lstore_n (L' := [(1, jv (outr a b c)), (0, .ref q)]) X dX5_wholeRootOfS_18 (by decide) rfl ?_
  refine r_aload_n 1 X dX5_wholeRootOfS_19 rfl ?_
  refine r_getf X dX5_wholeRootOfS_20 fX5_13 ht rfl ?_
  refine r_i2l X dX5_wholeRootOfS_23 ⟨by omega, by omega⟩ ?_
  refine r_aload_n 1 X dX5_wholeRootOfS_24 rfl ?_
  refine r_getf X dX5_wholeRootOfS_25 fX5_25 ht rfl ?_
  refine r_i2l X dX5_wholeRootOfS_28 ⟨by omega, by omega⟩ ?_
  refine r_aload_n 1 X dX5_wholeRootOfS_29 rfl ?_
  refine r_getf X dX5_wholeRootOfS_30 fX5_22 ht rfl ?_
  refine r_i2l X dX5_wholeRootOfS_33 ⟨by omega, by omega⟩ ?_
  refine r_callS_v X dX5_wholeRootOfS_34 kX5_32 (c_X5_innerFactor (CX_l X) D z0 h a b c) [] rfl rfl (Nat.le_of_ble_eq_true rfl) (by decide) rfl rfl (by decide) ?_
  refine r_lstore_n (L' := [(3, jv (innr a b c)), (1, jv (outr a b c)), (0, .ref q)]) X dX5_wholeRootOfS_37 (by decide) rfl ?_
  refine r_lload_n 1 X dX5_wholeRootOfS_38 rfl ?_
  refine r_lload_n 0 X dX5_wholeRootOfS_39 rfl ?_
  refine r_callS_v X dX5_wholeRootOfS_40 kX5_51 (c_X1_commonDivisor (CX_l X) D z0 h (outr a b c) (innr a b c) ⟨by omega, by omega⟩ ⟨by omega, by omega⟩) [] rfl rfl (Nat.le_of_ble_eq_true rfl) (by decide) rfl rfl (by decide) ?_
  obtain ⟨g, o1, i1, w1, w2, w3, w4, w5, w6, w7, w8, w9, w10, w11, w12⟩ := wq_gcd (o := outr a b c) (i := innr a b c) hb.2.2.2.2.1.1 hb.2.2.2.2.2.1
  have hby := root_by (o := g * o1) (i := g * i1) w9 w1 rfl rfl
  have hSn : (Sx a b c).toNat = (g * o1) * (g * i1) := by
    unfold Sx
    rw [w3, w4, ← Int.natCast_mul]
    rfl
  have hSi : Sx a b c = (((g * o1) * (g * i1) : Nat) : Int) := by
    unfold Sx
    rw [w3, w4, ← Int.natCast_mul]
  rw [w2]
  refine r_lstore (L' := [(5, jv (g : Int)), (3, jv (innr a b c)), (1, jv (outr a b c)), (0, .ref q)]) X dX5_wholeRootOfS_43 (by decide) rfl ?_
  refine r_lload_n 2 X dX5_wholeRootOfS_45 rfl ?_
  refine r_lload 0 X dX5_wholeRootOfS_46 rfl ?_
  refine r_callS_v X dX5_wholeRootOfS_48 kX5_84 (c_X1_wholeQuotient (CX_l X) D z0 h (outr a b c) (g : Int) ⟨by omega, by omega⟩ ⟨by omega, by omega⟩) [] rfl rfl (Nat.le_of_ble_eq_true rfl) (by decide) rfl rfl (by decide) ?_
  rw [w5]
  refine r_lstore (L' := [(7, jv (o1 : Int)), (5, jv (g : Int)), (3, jv (innr a b c)), (1, jv (outr a b c)), (0, .ref q)]) X dX5_wholeRootOfS_51 (by decide) rfl ?_
  refine r_lload_n 2 X dX5_wholeRootOfS_53 rfl ?_
  refine r_lload 1 X dX5_wholeRootOfS_54 rfl ?_
  refine r_callS_v X dX5_wholeRootOfS_56 kX5_84 (c_X1_wholeQuotient (CX_l X) D z0 h (innr a b c) (g : Int) ⟨by omega, by omega⟩ ⟨by omega, by omega⟩) [] rfl rfl (Nat.le_of_ble_eq_true rfl) (by decide) rfl rfl (by decide) ?_
  rw [w6]
  refine r_lstore (L' := [(9, jv (i1 : Int)), (7, jv (o1 : Int)), (5, jv (g : Int)), (3, jv (innr a b c)), (1, jv (outr a b c)), (0, .ref q)]) X dX5_wholeRootOfS_59 (by decide) rfl ?_
  refine r_lload 1 X dX5_wholeRootOfS_61 rfl ?_
  refine r_callS_v X dX5_wholeRootOfS_63 kX5_87 (c_X1_isSquare (CX_l X) D z0 h (o1 : Int) ⟨by omega, by omega⟩) [] rfl rfl (Nat.le_of_ble_eq_true rfl) (by decide) rfl rfl (by decide) ?_
  refine r_ifb_eq 77 X dX5_wholeRootOfS_66 (by decide) (fun c66 => ?_) (fun c66 => ?_)
  · refine r_lconst 0 X dX5_wholeRootOfS_77 (by decide) ?_
    refine r_lret X Y dX5_wholeRootOfS_78 (by decide) (by decide) ?_
    exact pv_j (by
      unfold rtS
      rw [hSn, hSi]
      refine (if_neg (fun z => ?_)).symm
      have z2 := hby.1.mp (by exact_mod_cast z)
      have z3 : ((isq o1 : Nat) : Int) * ((isq o1 : Nat) : Int) = (o1 : Int) := by exact_mod_cast z2.1
      have z4 : ((isq i1 : Nat) : Int) * ((isq i1 : Nat) : Int) = (i1 : Int) := by exact_mod_cast z2.2
      first | exact c66 z3 | exact c74 z4)
  · refine r_lload 0 X dX5_wholeRootOfS_69 rfl ?_
    refine r_callS_v X dX5_wholeRootOfS_71 kX5_87 (c_X1_isSquare (CX_l X) D z0 h (i1 : Int) ⟨by omega, by omega⟩) [] rfl rfl (Nat.le_of_ble_eq_true rfl) (by decide) rfl rfl (by decide) ?_
    refine r_ifb_ne 79 X dX5_wholeRootOfS_74 (by decide) (fun c74 => ?_) (fun c74 => ?_)
    · refine r_lload 2 X dX5_wholeRootOfS_79 rfl ?_
      refine r_lload 1 X dX5_wholeRootOfS_81 rfl ?_
      refine r_callS_v X dX5_wholeRootOfS_83 kX5_91 (c_X1_wholeRoot (CX_l X) D z0 h (o1 : Int) ⟨by omega, by omega⟩) [jv (g : Int)] rfl rfl (Nat.le_of_ble_eq_true rfl) (by decide) rfl rfl (by decide) ?_
      refine r_lmul X dX5_wholeRootOfS_86 ?_
      refine r_lload 0 X dX5_wholeRootOfS_87 rfl ?_
      refine r_callS_v X dX5_wholeRootOfS_89 kX5_91 (c_X1_wholeRoot (CX_l X) D z0 h (i1 : Int) ⟨by omega, by omega⟩) [jv ((g : Int) * ((isq (o1 : Int).toNat : Nat) : Int))] rfl rfl (Nat.le_of_ble_eq_true rfl) (by decide) rfl rfl (by decide) ?_
      refine r_lmul X dX5_wholeRootOfS_92 ?_
      refine r_lret X Y dX5_wholeRootOfS_93 (by decide) (by decide) ?_
      exact pv_j (by
        unfold rtS
        have z3 : isq o1 * isq o1 = o1 := by exact_mod_cast c66
        have z4 : isq i1 * isq i1 = i1 := by exact_mod_cast c74
        rw [hSn, hSi, if_pos (by exact_mod_cast hby.1.mpr ⟨z3, z4⟩), hby.2 z3 z4]
        simp [Int.toNat_natCast])
    · refine r_lconst 0 X dX5_wholeRootOfS_77 (by decide) ?_
      refine r_lret X Y dX5_wholeRootOfS_78 (by decide) (by decide) ?_
      exact pv_j (by
        unfold rtS
        rw [hSn, hSi]
        refine (if_neg (fun z => ?_)).symm
        have z2 := hby.1.mp (by exact_mod_cast z)
        have z3 : ((isq o1 : Nat) : Int) * ((isq o1 : Nat) : Int) = (o1 : Int) := by exact_mod_cast z2.1
        have z4 : ((isq i1 : Nat) : Int) * ((isq i1 : Nat) : Int) = (i1 : Int) := by exact_mod_cast z2.2
        first | exact c66 z3 | exact c74 z4)
theorem rtS_b {a b c : Int} (h : TV a b c) : 0 ≤ rtS (Sx a b c) ∧ rtS (Sx a b c) ≤ 17179869184 := by
  have h1 := Sx_b h
  unfold rtS
  split
  · next q =>
    refine ⟨Int.natCast_nonneg _, ?_⟩
    apply Int.not_lt.mp
    intro z
    have := (mlb (a := 17179869184) (b := 17179869184) (by omega) (Int.le_of_lt z) (by omega) (Int.le_of_lt z)).2
    omega
  · omega
abbrev rX5_wholeArea : Room := { frames := 3, cells := 0, slots := 0, locals := 80 }
theorem c_X5_wholeArea {l : Launch} (hl : l.stackTraces = false) (D : va_G) (z0 : Nat) (h : Hp) (q : Nat) (a b c : Int) (ht : h q = some (triE a b c)) (hv : TV a b c) : CC l yX5_wholeArea cX5_wholeArea 1 (some .long) rX5_wholeArea D z0 h [.ref q] (PV (jv (wq (rtS (Sx a b c)) 4)) h) NX := by
  refine CC_of RX5 hl (by decide) rfl (Nat.le_of_ble_eq_true rfl) (fun K X Y Z hmn hKl => ?_)
  subst hKl
  have hb := TV_b hv
  have hS := Sx_b hv
  have hr := rtS_b hv
  show WW K D z0 1 h 0 0 0 [(0, .ref q)] []
  refine r_aload_n 0 X dX5_wholeArea_0 rfl ?_
  refine r_callV_v X dX5_wholeArea_1 kX5_95 ht (c_X5_wholeRootOfS (CX_l X) D z0 h q a b c ht hv) [] rfl rfl (Nat.le_of_ble_eq_true rfl) (by decide) rfl rfl (by decide) ?_
  refine r_ldc2 4 X dX5_wholeArea_4 nX5_99 (by decide) ?_
  refine r_callS_v X dX5_wholeArea_7 kX5_84 (c_X1_wholeQuotient (CX_l X) D z0 h (rtS (Sx a b c)) 4 ⟨by omega, by omega⟩ ⟨by omega, by omega⟩) [] rfl rfl (Nat.le_of_ble_eq_true rfl) (by decide) rfl rfl (by decide) ?_
  refine r_lret X Y dX5_wholeArea_10 (by decide) (by decide) ?_
  exact pv_j (by rfl)
abbrev rX5_innerRadius : Room := { frames := 3, cells := 0, slots := 0, locals := 80 }
theorem c_X5_innerRadius {l : Launch} (hl : l.stackTraces = false) (D : va_G) (z0 : Nat) (h : Hp) (q : Nat) (a b c : Int) (ht : h q = some (triE a b c)) (hv : TV a b c) : CC l yX5_innerRadius cX5_innerRadius 1 (some .long) rX5_innerRadius D z0 h [.ref q] (PV (jv (wq (rtS (Sx a b c)) (2 * (a + b + c)))) h) NX := by
  refine CC_of RX5 hl (by decide) rfl (Nat.le_of_ble_eq_true rfl) (fun K X Y Z hmn hKl => ?_)
  subst hKl
  have hb := TV_b hv
  have hS := Sx_b hv
  have hr := rtS_b hv
  show WW K D z0 1 h 0 0 0 [(0, .ref q)] []
  refine r_aload_n 0 X dX5_innerRadius_0 rfl ?_
  refine r_callV_v X dX5_innerRadius_1 kX5_95 ht (c_X5_wholeRootOfS (CX_l X) D z0 h q a b c ht hv) [] rfl rfl (Nat.le_of_ble_eq_true rfl) (by decide) rfl rfl (by decide) ?_
  refine r_ldc2 2 X dX5_innerRadius_4 nX5_62 (by decide) ?_
  refine r_aload_n 0 X dX5_innerRadius_7 rfl ?_
  refine r_callV_v X dX5_innerRadius_8 kX5_101 ht (c_X5_around (CX_l X) D z0 h q a b c ht hv) [jv 2, jv (rtS (Sx a b c))] rfl rfl (Nat.le_of_ble_eq_true rfl) (by decide) rfl rfl (by decide) ?_
  refine r_i2l X dX5_innerRadius_11 ⟨by omega, by omega⟩ ?_
  refine r_lmul X dX5_innerRadius_12 ?_
  refine r_callS_v X dX5_innerRadius_13 kX5_84 (c_X1_wholeQuotient (CX_l X) D z0 h (rtS (Sx a b c)) (2 * (a + b + c)) ⟨by omega, by omega⟩ ⟨by omega, by omega⟩) [] rfl rfl (Nat.le_of_ble_eq_true rfl) (by decide) rfl rfl (by decide) ?_
  refine r_lret X Y dX5_innerRadius_16 (by decide) (by decide) ?_
  exact pv_j (by rfl)
abbrev rX5_outerDiameter : Room := { frames := 3, cells := 0, slots := 0, locals := 80 }
theorem c_X5_outerDiameter {l : Launch} (hl : l.stackTraces = false) (D : va_G) (z0 : Nat) (h : Hp) (q : Nat) (a b c : Int) (ht : h q = some (triE a b c)) (hv : TV a b c) : CC l yX5_outerDiameter cX5_outerDiameter 1 (some .long) rX5_outerDiameter D z0 h [.ref q] (PV (jv (wq (2 * a * b * c) (rtS (Sx a b c)))) h) NX := by
  refine CC_of RX5 hl (by decide) rfl (Nat.le_of_ble_eq_true rfl) (fun K X Y Z hmn hKl => ?_)
  subst hKl
  have hb := TV_b hv
  have hS := Sx_b hv
  have hr := rtS_b hv
  have m1 := mlb (a := 2 * a) (x := 131070) (b := b) (y := 65535) (by omega) (by omega) (by omega) (by omega)
  have m2 := mlb (a := 2 * a * b) (x := 131070 * 65535) (b := c) (y := 65535) m1.1 m1.2 (by omega) (by omega)
  show WW K D z0 1 h 0 0 0 [(0, .ref q)] []
  refine r_ldc2 2 X dX5_outerDiameter_0 nX5_62 (by decide) ?_
  refine r_aload_n 0 X dX5_outerDiameter_3 rfl ?_
  refine r_getf X dX5_outerDiameter_4 fX5_13 ht rfl ?_
  refine r_i2l X dX5_outerDiameter_7 ⟨by omega, by omega⟩ ?_
  refine r_lmul X dX5_outerDiameter_8 ?_
  refine r_aload_n 0 X dX5_outerDiameter_9 rfl ?_
  refine r_getf X dX5_outerDiameter_10 fX5_25 ht rfl ?_
  refine r_i2l X dX5_outerDiameter_13 ⟨by omega, by omega⟩ ?_
  refine r_lmul X dX5_outerDiameter_14 ?_
  refine r_aload_n 0 X dX5_outerDiameter_15 rfl ?_
  refine r_getf X dX5_outerDiameter_16 fX5_22 ht rfl ?_
  refine r_i2l X dX5_outerDiameter_19 ⟨by omega, by omega⟩ ?_
  refine r_lmul X dX5_outerDiameter_20 ?_
  refine r_aload_n 0 X dX5_outerDiameter_21 rfl ?_
  refine r_callV_v X dX5_outerDiameter_22 kX5_95 ht (c_X5_wholeRootOfS (CX_l X) D z0 h q a b c ht hv) [jv (((2 * a) * b) * c)] rfl rfl (Nat.le_of_ble_eq_true rfl) (by decide) rfl rfl (by decide) ?_
  refine r_callS_v X dX5_outerDiameter_25 kX5_84 (c_X1_wholeQuotient (CX_l X) D z0 h (((2 * a) * b) * c) (rtS (Sx a b c)) ⟨by omega, by omega⟩ ⟨by omega, by omega⟩) [] rfl rfl (Nat.le_of_ble_eq_true rfl) (by decide) rfl rfl (by decide) ?_
  refine r_lret X Y dX5_outerDiameter_28 (by decide) (by decide) ?_
  exact pv_j (by rfl)
