/-! hypot -/
theorem dI_nn0 {n : Nat} (h : n ≤ 9007199254740992) : vf_n64 (dI n 0) := by
  by_cases z : n = 0
  · exact dI_nn (Or.inl z)
  · have hn : nOk n := ⟨by omega, h⟩
    have := nOk_f hn
    exact dI_nn (Or.inr ⟨hn, ⟨by omega, by omega⟩⟩)
theorem dcmp0 {m n : Nat} (hm : m ≤ 9007199254740992) (hn : n ≤ 9007199254740992) : FP.dcmp (dI m 0) (dI n 0) = some (compare (m : Int) (n : Int)) := by
  have := dcmp_of (k := 0) (l := 0) hm hn (by omega) (by omega)
  rw [Nat.pow_zero, Nat.mul_one, Nat.mul_one] at this
  exact this
theorem d2l0 {n : Nat} (h : n ≤ 9007199254740992) : FP.d2l (dI n 0) = Int64.ofInt (n : Int) := by
  have := d2l_of (k := 0) h (by omega)
  rw [Nat.pow_zero, Nat.div_one] at this
  exact this
theorem two_d : (4611686018427387904 : UInt64) = dI 2 0 := by decide +kernel
theorem sqgap {x y : Nat} (h : y ≤ x) : (x - y) * (x - y) + 2 * x * y = x * x + y * y := by
  obtain ⟨d, rfl⟩ := Nat.exists_eq_add_of_le h
  rw [Nat.add_sub_cancel_left]
  simp only [Nat.mul_add, Nat.add_mul]
  have := Nat.mul_comm y d
  have e : 2 * y * y = y * y + y * y := by rw [Nat.mul_assoc]; omega
  have e2 : 2 * d * y = d * y + d * y := by rw [Nat.mul_assoc]; omega
  omega
theorem mxmn (x y : Nat) : max x y * max x y + min x y * min x y = x * x + y * y := by
  rcases Nat.le_total x y with h | h
  · rw [Nat.max_eq_right h, Nat.min_eq_left h, Nat.add_comm]
  · rw [Nat.max_eq_left h, Nat.min_eq_right h]
abbrev rX1_nearestHypot : Room := { frames := 1, cells := 0, slots := 0, locals := 27 }
theorem c_X1_nearestHypot {l : Launch} (hl : l.stackTraces = false) (D : va_G) (z0 : Nat) (h : Hp) (x y : Nat) (hx : x ≤ 65535) (hy : y ≤ 65535) : CC l yX1_nearestHypot cX1_nearestHypot 10 (some .double) rX1_nearestHypot D z0 h [iv (x : Int), iv (y : Int)] (PV (.double (dR (x * x + y * y))) h) NX := by
  refine CC_of RX1 hl (by decide) rfl (Nat.le_of_ble_eq_true rfl) (fun K X Y Z hmn hKl => ?_)
  subst hKl
  have b1 := Nat.mul_le_mul hx hx
  have b2 := Nat.mul_le_mul hy hy
  have b3 := mxmn x y
  have b4 := Nat.mul_le_mul (show max x y - min x y ≤ 65535 by omega) (show max x y - min x y ≤ 65535 by omega)
  have b5 := sqgap (x := max x y) (y := min x y) (by omega)
  show WW K D z0 10 h 0 0 0 [(0, iv (x : Int)), (1, iv (y : Int))] []
  refine r_iload_n 0 X dX1_nearestHypot_0 rfl ?_
  refine r_iload_n 1 X dX1_nearestHypot_1 rfl ?_
  refine r_mmax X dX1_nearestHypot_2 kX1_23 ⟨by omega, by omega⟩ ⟨by omega, by omega⟩ (Nat.le_of_ble_eq_true rfl) (by decide) ?_
  refine r_i2d X dX1_nearestHypot_5 ?_
  refine WW_e (congrArg (fun z => Value.double z :: []) (show FP.i2d (Int32.ofInt (max (x : Int) (y : Int))) = dI (max x y) 0 by rw [show (max (x : Int) (y : Int)) = (((max x y) : Nat) : Int) by omega]; exact i2d_of (by omega))) ?_
  show WW K D z0 10 h 0 0 6 [(0, iv (x : Int)), (1, iv (y : Int))] [.double (dI (max x y) 0)]
  refine r_dstore_n (L' := [(2, .double (dI (max x y) 0)), (0, iv (x : Int)), (1, iv (y : Int))]) X dX1_nearestHypot_6 (by decide) rfl ?_
  refine r_iload_n 1 X dX1_nearestHypot_7 rfl ?_
  refine r_iload_n 2 X dX1_nearestHypot_8 rfl ?_
  refine r_mmin X dX1_nearestHypot_9 kX1_29 ⟨by omega, by omega⟩ ⟨by omega, by omega⟩ (Nat.le_of_ble_eq_true rfl) (by decide) ?_
  refine r_i2d X dX1_nearestHypot_12 ?_
  refine WW_e (congrArg (fun z => Value.double z :: []) (show FP.i2d (Int32.ofInt (min (x : Int) (y : Int))) = dI (min x y) 0 by rw [show (min (x : Int) (y : Int)) = (((min x y) : Nat) : Int) by omega]; exact i2d_of (by omega))) ?_
  show WW K D z0 10 h 0 0 13 [(2, .double (dI (max x y) 0)), (0, iv (x : Int)), (1, iv (y : Int))] [.double (dI (min x y) 0)]
  refine r_dstore (L' := [(4, .double (dI (min x y) 0)), (2, .double (dI (max x y) 0)), (0, iv (x : Int)), (1, iv (y : Int))]) X dX1_nearestHypot_13 (by decide) rfl ?_
  refine r_dload_n 1 X dX1_nearestHypot_15 rfl ?_
  refine r_dload 0 X dX1_nearestHypot_16 rfl ?_
  refine r_dsub (dI ((max x y) - (min x y)) 0) X dX1_nearestHypot_18 (dsub_of (by omega) (by omega)) (dI_nn0 (by omega)) ?_
  refine r_dstore (L' := [(6, .double (dI ((max x y) - (min x y)) 0)), (4, .double (dI (min x y) 0)), (2, .double (dI (max x y) 0)), (0, iv (x : Int)), (1, iv (y : Int))]) X dX1_nearestHypot_19 (by decide) rfl ?_
  refine r_dload 0 X dX1_nearestHypot_21 rfl ?_
  refine r_dload 1 X dX1_nearestHypot_23 rfl ?_
  refine r_dcmp X dX1_nearestHypot_25 (((max x y) - (min x y) : Nat) : Int) (((min x y) : Nat) : Int) (dcmp0 (by omega) (by omega)) (fun v25 hv25 => ?_)
  refine r_if_le 41 X dX1_nearestHypot_26 (by decide) ⟨by omega, by omega⟩ (fun c25 => ?_) (fun c25 => ?_)
  · refine r_dload 0 X dX1_nearestHypot_41 rfl ?_
    refine r_dload 0 X dX1_nearestHypot_43 rfl ?_
    refine r_dmul (dI (((max x y) - (min x y)) * ((max x y) - (min x y))) 0) X dX1_nearestHypot_45 (dmul_of (by omega) (by omega) (by omega)) (dI_nn0 (by omega)) ?_
    refine r_ldc2d X dX1_nearestHypot_46 nX1_32 ?_
    refine r_dload_n 2 X dX1_nearestHypot_49 rfl ?_
    refine r_dmul (dI (2 * (max x y)) 0) X dX1_nearestHypot_50 (by rw [two_d]; exact dmul_of (by omega) (by omega) (by omega)) (dI_nn0 (by omega)) ?_
    refine r_dload 1 X dX1_nearestHypot_51 rfl ?_
    refine r_dmul (dI (2 * (max x y) * (min x y)) 0) X dX1_nearestHypot_53 (dmul_of (by omega) (by omega) (by omega)) (dI_nn0 (by omega)) ?_
    refine r_dadd (dI (((max x y) - (min x y)) * ((max x y) - (min x y)) + 2 * (max x y) * (min x y)) 0) X dX1_nearestHypot_54 (dadd_of (by omega) (by omega) (by omega)) (dI_nn0 (by omega)) ?_
    refine r_dstore (L' := [(8, .double (dI (((max x y) - (min x y)) * ((max x y) - (min x y)) + 2 * (max x y) * (min x y)) 0)), (6, .double (dI ((max x y) - (min x y)) 0)), (4, .double (dI (min x y) 0)), (2, .double (dI (max x y) 0)), (0, iv (x : Int)), (1, iv (y : Int))]) X dX1_nearestHypot_55 (by decide) rfl ?_
    refine r_dload 0 X dX1_nearestHypot_57 rfl ?_
    refine r_d2l (((((max x y) - (min x y)) * ((max x y) - (min x y)) + 2 * (max x y) * (min x y)) : Nat) : Int) X dX1_nearestHypot_59 (d2l0 (by omega)) ?_
    refine WW_e (congrArg (fun z => jv z :: []) (show (((((max x y) - (min x y)) * ((max x y) - (min x y)) + 2 * (max x y) * (min x y)) : Nat) : Int) = ((x * x + y * y : Nat) : Int) from congrArg Nat.cast ((sqgap (by omega)).trans (mxmn x y)))) ?_
    show WW K D z0 10 h 0 0 60 [(8, .double (dI (((max x y) - (min x y)) * ((max x y) - (min x y)) + 2 * (max x y) * (min x y)) 0)), (6, .double (dI ((max x y) - (min x y)) 0)), (4, .double (dI (min x y) 0)), (2, .double (dI (max x y) 0)), (0, iv (x : Int)), (1, iv (y : Int))] [jv ((x * x + y * y : Nat) : Int)]
    refine r_callS_v X dX1_nearestHypot_60 kX1_34 (c_X1_nearestRoot (CX_l X) D z0 h (x * x + y * y) (by omega)) [] rfl rfl (Nat.le_of_ble_eq_true rfl) (by decide) rfl rfl (by decide) ?_
    refine r_dret X Y dX1_nearestHypot_63 (by decide) (by decide) ?_
    exact pv rfl
  · refine r_dload_n 2 X dX1_nearestHypot_29 rfl ?_
    refine r_dload_n 2 X dX1_nearestHypot_30 rfl ?_
    refine r_dmul (dI ((max x y) * (max x y)) 0) X dX1_nearestHypot_31 (dmul_of (by omega) (by omega) (by omega)) (dI_nn0 (by omega)) ?_
    refine r_dload 1 X dX1_nearestHypot_32 rfl ?_
    refine r_dload 1 X dX1_nearestHypot_34 rfl ?_
    refine r_dmul (dI ((min x y) * (min x y)) 0) X dX1_nearestHypot_36 (dmul_of (by omega) (by omega) (by omega)) (dI_nn0 (by omega)) ?_
    refine r_dadd (dI ((max x y) * (max x y) + (min x y) * (min x y)) 0) X dX1_nearestHypot_37 (dadd_of (by omega) (by omega) (by omega)) (dI_nn0 (by omega)) ?_
    refine r_goto 55 X dX1_nearestHypot_38 (by decide) ?_
    refine r_dstore (L' := [(8, .double (dI ((max x y) * (max x y) + (min x y) * (min x y)) 0)), (6, .double (dI ((max x y) - (min x y)) 0)), (4, .double (dI (min x y) 0)), (2, .double (dI (max x y) 0)), (0, iv (x : Int)), (1, iv (y : Int))]) X dX1_nearestHypot_55 (by decide) rfl ?_
    refine r_dload 0 X dX1_nearestHypot_57 rfl ?_
    refine r_d2l ((((max x y) * (max x y) + (min x y) * (min x y)) : Nat) : Int) X dX1_nearestHypot_59 (d2l0 (by omega)) ?_
    refine WW_e (congrArg (fun z => jv z :: []) (show ((((max x y) * (max x y) + (min x y) * (min x y)) : Nat) : Int) = ((x * x + y * y : Nat) : Int) from congrArg Nat.cast (mxmn x y))) ?_
    show WW K D z0 10 h 0 0 60 [(8, .double (dI ((max x y) * (max x y) + (min x y) * (min x y)) 0)), (6, .double (dI ((max x y) - (min x y)) 0)), (4, .double (dI (min x y) 0)), (2, .double (dI (max x y) 0)), (0, iv (x : Int)), (1, iv (y : Int))] [jv ((x * x + y * y : Nat) : Int)]
    refine r_callS_v X dX1_nearestHypot_60 kX1_34 (c_X1_nearestRoot (CX_l X) D z0 h (x * x + y * y) (by omega)) [] rfl rfl (Nat.le_of_ble_eq_true rfl) (by decide) rfl rfl (by decide) ?_
    refine r_dret X Y dX1_nearestHypot_63 (by decide) (by decide) ?_
    exact pv rfl
abbrev rX6_root : Room := { frames := 7, cells := 1, slots := 6, locals := 111 }
def cdRo (p : Int) : Int := if 0 ≤ p ∧ p ≤ 8589672450 then 0 else 1
theorem c_X6_root {l : Launch} (hl : l.stackTraces = false) (D : va_G) (z0 : Nat) (h : Hp) (x : Nat) (p : Int) (hp0 : I64 p) : CC l yX6_root cX6_root 3 (some .double) rX6_root D z0 h [.ref x, jv p] (fun w0 h' => w0 = some (.double (dR p.toNat)) ∧ h = h' ∧ cdRo p = 0) (Xn [iae] (cdRo p) h) := by
  refine CC_of RX6 hl (by decide) rfl (Nat.le_of_ble_eq_true rfl) (fun K X Y Z hmn hKl => ?_)
  subst hKl
  show WW K D z0 3 h 0 0 0 [(0, .ref x), (1, jv p)] []
  refine r_lload_n 1 X dX6_root_0 rfl ?_
  refine r_callS X dX6_root_1 kX6_147 (c_X6_requireNumber (CX_l X) D z0 h p ⟨by omega, by omega⟩) [] rfl rfl (Nat.le_of_ble_eq_true rfl) (by decide) (by decide) (fun E9 h9 hx9 => by obtain ⟨rfl, rfl, hn1⟩ := Xn1 hx9; exact WX_out X Y Z (by decide) (by decide) (Xn_mk 1 (if_neg (by omega)) (by decide) rfl)) (fun v9 h9 hv9 => ?_)
  obtain ⟨rfl, rfl, hp1⟩ := hv9
  show WW K D z0 3 h 1 6 4 [(0, .ref x), (1, jv p)] []
  refine r_lload_n 1 X dX6_root_4 rfl ?_
  refine WW_e (congrArg (fun z => jv z :: []) (show p = (p.toNat : Int) by omega)) ?_
  show WW K D z0 3 h 1 6 5 [(0, .ref x), (1, jv p)] [jv (p.toNat : Int)]
  refine r_callS_v X dX6_root_5 kX6_151 (c_X1_nearestRoot (CX_l X) D z0 h p.toNat (by omega)) [] rfl rfl (Nat.le_of_ble_eq_true rfl) (by decide) rfl rfl (by decide) ?_
  refine r_dret X Y dX6_root_8 (by decide) (by decide) ?_
  exact ⟨rfl, rfl, if_pos hp1⟩
abbrev rX6_hypot : Room := { frames := 8, cells := 5, slots := 30, locals := 132 }
def cdHy (σ : Tg) (p i k : Int) : Int := if ¬ (0 ≤ i ∧ i ≤ 2) ∨ ¬ (0 ≤ k ∧ k ≤ 2) then 1 else ms σ p 2
def hyN (σ : Tg) (p i k : Int) : Nat := (on σ p (fun a b c => ln a b c i)).toNat * (on σ p (fun a b c => ln a b c i)).toNat + (on σ p (fun a b c => ln a b c k)).toNat * (on σ p (fun a b c => ln a b c k)).toNat
theorem c_X6_hypot {l : Launch} (hl : l.stackTraces = false) (D : va_G) (z0 : Nat) (h : Hp) (x T f u v o : Nat) (n : Int) (g : Nat → Option Nat) (σ : Tg) (hc : Cy D h x T f u v o n g σ) (p : Int) (hp0 : I32 p) (i k : Int) (hi : I32 i) (hk : I32 k) : CC l yX6_hypot cX6_hypot 5 (some .double) rX6_hypot D z0 h [.ref x, iv p, iv i, iv k] (fun w0 h' => w0 = some (.double (dR (hyN σ p i k))) ∧ h = h' ∧ cdHy σ p i k = 0) (Xn [iob, nseN] (cdHy σ p i k) h) := by
  refine CC_of RX6 hl (by decide) rfl (Nat.le_of_ble_eq_true rfl) (fun K X Y Z hmn hKl => ?_)
  subst hKl
  show WW K D z0 5 h 0 0 0 [(0, .ref x), (1, iv p), (2, iv i), (3, iv k)] []
  refine r_iload_n 1 X dX6_hypot_0 rfl ?_
  refine r_callS X dX6_hypot_1 kX6_36 (c_X6_requirePlace (CX_l X) D z0 h p ⟨by omega, by omega⟩) [] rfl rfl (Nat.le_of_ble_eq_true rfl) (by decide) (by decide) (fun E9 h9 hx9 => by obtain ⟨rfl, rfl, hn1⟩ := Xn1 hx9; exact WX_out X Y Z (by decide) (by decide) (Xn_mk 1 (by unfold cdHy ms; (try simp only [isNone_f, isNone_t, true_or, or_true, false_or, or_false]); ((repeat' split) <;> first | rfl | contradiction | omega)) (by decide) rfl)) (fun v9 h9 hv9 => ?_)
  obtain ⟨rfl, rfl, hp1⟩ := hv9
  show WW K D z0 5 h 1 6 4 [(0, .ref x), (1, iv p), (2, iv i), (3, iv k)] []
  refine r_iload_n 2 X dX6_hypot_4 rfl ?_
  refine r_callS X dX6_hypot_5 kX6_74 (c_X6_requireSide (CX_l X) D z0 h i ⟨by omega, by omega⟩) [] rfl rfl (Nat.le_of_ble_eq_true rfl) (by decide) (by decide) (fun E9 h9 hx9 => by obtain ⟨rfl, rfl, hn5⟩ := Xn1 hx9; exact WX_out X Y Z (by decide) (by decide) (Xn_mk 1 (by unfold cdHy ms; (try simp only [isNone_f, isNone_t, true_or, or_true, false_or, or_false]); ((repeat' split) <;> first | rfl | contradiction | omega)) (by decide) rfl)) (fun v9 h9 hv9 => ?_)
  obtain ⟨rfl, rfl, hp5⟩ := hv9
  show WW K D z0 5 h 2 12 8 [(0, .ref x), (1, iv p), (2, iv i), (3, iv k)] []
  refine r_iload_n 3 X dX6_hypot_8 rfl ?_
  refine r_callS X dX6_hypot_9 kX6_74 (c_X6_requireSide (CX_l X) D z0 h k ⟨by omega, by omega⟩) [] rfl rfl (Nat.le_of_ble_eq_true rfl) (by decide) (by decide) (fun E9 h9 hx9 => by obtain ⟨rfl, rfl, hn9⟩ := Xn1 hx9; exact WX_out X Y Z (by decide) (by decide) (Xn_mk 1 (by unfold cdHy ms; (try simp only [isNone_f, isNone_t, true_or, or_true, false_or, or_false]); ((repeat' split) <;> first | rfl | contradiction | omega)) (by decide) rfl)) (fun v9 h9 hv9 => ?_)
  obtain ⟨rfl, rfl, hp9⟩ := hv9
  show WW K D z0 5 h 3 18 12 [(0, .ref x), (1, iv p), (2, iv i), (3, iv k)] []
  refine r_aload_n 0 X dX6_hypot_12 rfl ?_
  refine r_iload_n 1 X dX6_hypot_13 rfl ?_
  refine r_callV X dX6_hypot_14 kX6_67 hc.1 (c_X6_heldAt (CX_l X) D z0 h x T f u v o n g σ hc p ⟨by omega, by omega⟩) [] rfl rfl (Nat.le_of_ble_eq_true rfl) (by decide) (by decide) (fun E9 h9 hx9 => by obtain ⟨rfl, ⟨hn14, rfl⟩ | ⟨hn14, hz14, rfl⟩⟩ := Xn_ms hx9; exact WX_out X Y Z (by decide) (by decide) (Xn_mk 1 (by unfold cdHy ms; (try simp only [isNone_f, isNone_t, true_or, or_true, false_or, or_false]); ((repeat' split) <;> first | rfl | contradiction | omega)) (by decide) rfl); exact WX_out X Y Z (by decide) (by decide) (Xn_mk 2 (by unfold cdHy ms; (try simp only [hz14, isNone_f, isNone_t, true_or, or_true, false_or, or_false]); ((repeat' split) <;> first | rfl | contradiction | omega)) (by decide) rfl)) (fun v9 h9 hv9 => ?_)
  obtain ⟨rfl, hp14, q14, a14, b14, c014, rfl, hg14, hs14, ht14, hv14⟩ := hv9
  have hb14 := TV_b hv14
  show WW K D z0 5 h 5 30 17 [(0, .ref x), (1, iv p), (2, iv i), (3, iv k)] [.ref q14]
  refine r_astore (L' := [(4, .ref q14), (0, .ref x), (1, iv p), (2, iv i), (3, iv k)]) X dX6_hypot_17 (by decide) rfl ?_
  refine r_aload 0 X dX6_hypot_19 rfl ?_
  refine r_iload_n 3 X dX6_hypot_21 rfl ?_
  refine r_callV_v X dX6_hypot_22 kX6_77 ht14 (c_X5_length (CX_l X) D z0 h q14 a14 b14 c014 ht14 hv14 i ⟨by omega, by omega⟩) [] rfl rfl (Nat.le_of_ble_eq_true rfl) (by decide) rfl rfl (by decide) ?_
  refine r_aload 0 X dX6_hypot_25 rfl ?_
  refine r_iload_n 4 X dX6_hypot_27 rfl ?_
  refine r_callV_v X dX6_hypot_28 kX6_77 ht14 (c_X5_length (CX_l X) D z0 h q14 a14 b14 c014 ht14 hv14 k ⟨by omega, by omega⟩) [iv (ln a14 b14 c014 i)] rfl rfl (Nat.le_of_ble_eq_true rfl) (by decide) rfl rfl (by decide) ?_
  refine WW_e (show [iv (ln a14 b14 c014 k), iv (ln a14 b14 c014 i)] = [iv ((ln a14 b14 c014 k).toNat : Int), iv ((ln a14 b14 c014 i).toNat : Int)] by rw [show ((ln a14 b14 c014 k).toNat : Int) = ln a14 b14 c014 k by have := ln_b hv14 k; omega, show ((ln a14 b14 c014 i).toNat : Int) = ln a14 b14 c014 i by have := ln_b hv14 i; omega]) ?_
  refine r_callS_v X dX6_hypot_31 kX6_141 (c_X1_nearestHypot (CX_l X) D z0 h ((ln a14 b14 c014 i).toNat) ((ln a14 b14 c014 k).toNat) (by have := ln_b hv14 i; omega) (by have := ln_b hv14 k; omega)) [] rfl rfl (Nat.le_of_ble_eq_true rfl) (by decide) rfl rfl (by decide) ?_
  refine r_dret X Y dX6_hypot_34 (by decide) (by decide) ?_
  exact ⟨by unfold hyN; rw [on_s hs14, on_s hs14], rfl, (by unfold cdHy ms; (try simp only [on_s hs14, hs14, isNone_f, isNone_t, true_or, or_true, false_or, or_false]); ((repeat' split) <;> first | rfl | contradiction | omega))⟩
