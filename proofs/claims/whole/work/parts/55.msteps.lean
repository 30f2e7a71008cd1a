/-! the model: primitive ones and steps -/
theorem gcd_pr {a b c : Int} (hv : TV a b c) (h : sqb3 a b c 2 = 0) : Int.gcd a b = 1 ↔ gcd3 a b c = 1 := by
  rw [sq2] at h
  unfold gcd3
  constructor
  · intro e
    rw [e]
    exact congrArg Nat.cast (Nat.gcd_one_left _)
  · intro e
    have d1 : ((Int.gcd a b : Nat) : Int) ∣ a := Int.gcd_dvd_left _ _
    have d2 : ((Int.gcd a b : Nat) : Int) ∣ b := Int.gcd_dvd_right _ _
    have d3 : Int.gcd a b * Int.gcd a b ∣ c.natAbs * c.natAbs := by
      apply Int.natCast_dvd_natCast.mp
      rw [Int.natCast_mul, Int.natCast_mul, abs_sq, show c * c = a * a + b * b by omega]
      exact Int.dvd_add (Int.mul_dvd_mul d1 d1) (Int.mul_dvd_mul d2 d2)
    rw [← Nat.pow_two, ← Nat.pow_two] at d3
    have d4 : Int.gcd a b ∣ c.natAbs := (Nat.pow_dvd_pow_iff (by decide)).mp d3
    have d5 : ((Int.gcd a b : Nat) : Int) ∣ c := Int.dvd_natAbs.mp (Int.natCast_dvd_natCast.mpr d4)
    have d6 := Int.dvd_coe_gcd (Int.dvd_refl ((Int.gcd a b : Nat) : Int)) d5
    rw [e] at d6
    exact Nat.dvd_one.mp (Int.natCast_dvd_natCast.mp (show ((Int.gcd a b : Nat) : Int) ∣ ((1 : Nat) : Int) from d6))
theorem cdPr_ms {σ : Tg} {p : Int} (h : ms σ p 2 ≠ 0) : cdPr σ p = ms σ p 2 := by
  unfold cdPr
  unfold ms at h ⊢
  by_cases q : pl p
  · rw [if_neg (show ¬ ¬ pl p from fun z => z q)] at h
    rw [if_neg (show ¬ ¬ pl p from fun z => z q), if_neg (show ¬ ¬ pl p from fun z => z q)]
    by_cases r : (σ p.toNat).isNone = true
    · rw [if_pos r, if_pos r]
    · rw [if_neg r] at h
      exact absurd rfl h
  · rw [if_pos q, if_pos q]
abbrev rX7_isPrimitive : Room := { frames := 2, cells := 0, slots := 0, locals := 46 }
theorem c_X7_isPrimitive {l : Launch} (hl : l.stackTraces = false) (D : va_G) (z0 : Nat) (h : Hp) {y : Nat} {v : Nat → Nat} {σ : Tg} {e1 e2 e3 od : Nat → Int} {lc oc tc hi lo rf sq : Int} (hm : Mz D h y v (fA σ) (fB σ) (fC σ) e1 e2 e3 od lc oc tc hi lo rf sq) (ht : TVs σ) (p : Int) (hp : pl p) (a b c : Int) (hs : σ p.toNat = some (a, b, c)) : CC l yX7_isPrimitive cX7_isPrimitive 2 (some .boolean) rX7_isPrimitive D z0 h [.ref y, iv p] (PV (iv (if sqb3 a b c 2 = 0 ∧ gcd3 a b c = 1 then 1 else 0)) h) NX := by
  refine CC_of RX7 hl (by decide) rfl (Nat.le_of_ble_eq_true rfl) (fun K X Y Z hmn hKl => ?_)
  subst hKl
  have hv := ht p.toNat (by omega) a b c hs
  have hb := TV_b hv
  have hgl : Int.gcd a b ≤ b.natAbs := Nat.le_of_dvd (by omega) (Nat.gcd_dvd_right _ _)
  show WW K D z0 2 h 0 0 0 [(0, .ref y), (1, iv p)] []
  refine r_aload_n 0 X dX7_isPrimitive_0 rfl ?_
  refine r_iload_n 1 X dX7_isPrimitive_1 rfl ?_
  refine r_callV_v X dX7_isPrimitive_2 kX7_85 hm.1 (c_X7_kindOf (CX_l X) D z0 _ hm ht p (by omega) a b c hs ) [] rfl rfl (Nat.le_of_ble_eq_true rfl) (by decide) rfl rfl (by decide) ?_
  refine r_if_ne 31 X dX7_isPrimitive_5 (by decide) ⟨by unfold cmpv; split <;> (try split) <;> omega, by unfold cmpv; split <;> (try split) <;> omega⟩ (fun c5 => ?_) (fun c5 => ?_)
  · refine r_iconst X dX7_isPrimitive_31 ?_
    refine r_zret X Y dX7_isPrimitive_32 (Or.inl rfl) (by decide) (by decide) ?_
    exact pv_f (fun z => c5 (cmpv_z.mpr z.1))
  · refine r_aload_n 0 X dX7_isPrimitive_8 rfl ?_
    refine r_getf X dX7_isPrimitive_9 fX7_7 hm.1 rfl ?_
    refine r_iload_n 1 X dX7_isPrimitive_12 rfl ?_
    refine r_ialoadE X dX7_isPrimitive_13 hm.2.1 ⟨by omega, by omega⟩ (by decide) (fA_s hs) ?_
    refine r_aload_n 0 X dX7_isPrimitive_14 rfl ?_
    refine r_getf X dX7_isPrimitive_15 fX7_13 hm.1 rfl ?_
    refine r_iload_n 1 X dX7_isPrimitive_18 rfl ?_
    refine r_ialoadE X dX7_isPrimitive_19 hm.2.2.1 ⟨by omega, by omega⟩ (by decide) (fB_s hs) ?_
    refine r_callS_v X dX7_isPrimitive_20 kX7_79 (c_X7_divisor (CX_l X) D z0 h a b ⟨by omega, by omega⟩ ⟨by omega, by omega⟩) [] rfl rfl (Nat.le_of_ble_eq_true rfl) (by decide) rfl rfl (by decide) ?_
    refine r_iconst X dX7_isPrimitive_23 ?_
    refine r_icmp_ne 31 X dX7_isPrimitive_24 (by decide) ⟨by omega, by omega⟩ ⟨by omega, by omega⟩ (fun c24 => ?_) (fun c24 => ?_)
    · refine r_iconst X dX7_isPrimitive_31 ?_
      refine r_zret X Y dX7_isPrimitive_32 (Or.inl rfl) (by decide) (by decide) ?_
      exact pv_f (fun z => c24 (by have := (gcd_pr hv z.1).mpr z.2; omega))
    · refine r_iconst X dX7_isPrimitive_27 ?_
      refine r_goto 32 X dX7_isPrimitive_28 (by decide) ?_
      refine r_zret X Y dX7_isPrimitive_32 (Or.inr rfl) (by decide) (by decide) ?_
      exact pv_t ⟨cmpv_z.mp (by omega), (gcd_pr hv (cmpv_z.mp (by omega))).mp (by omega)⟩
abbrev rX7_odd : Room := { frames := 0, cells := 0, slots := 0, locals := 0 }
theorem c_X7_odd {l : Launch} (hl : l.stackTraces = false) (D : va_G) (z0 : Nat) (h : Hp) {y : Nat} {v : Nat → Nat} {σ : Tg} {e1 e2 e3 od : Nat → Int} {lc oc tc hi lo rf sq : Int} (hm : Mz D h y v (fA σ) (fB σ) (fC σ) e1 e2 e3 od lc oc tc hi lo rf sq) (ht : TVs σ) (p : Int) (hp : pl p) (a b c : Int) (hs : σ p.toNat = some (a, b, c)) : CC l yX7_odd cX7_odd 2 (some .int) rX7_odd D z0 h [.ref y, iv p] (PV (iv (odd2 a b)) h) NX := by
  refine CC_of RX7 hl (by decide) rfl (Nat.le_of_ble_eq_true rfl) (fun K X Y Z hmn hKl => ?_)
  subst hKl
  have hv := ht p.toNat (by omega) a b c hs
  have hb := TV_b hv
  show WW K D z0 2 h 0 0 0 [(0, .ref y), (1, iv p)] []
  refine r_aload_n 0 X dX7_odd_0 rfl ?_
  refine r_getf X dX7_odd_1 fX7_7 hm.1 rfl ?_
  refine r_iload_n 1 X dX7_odd_4 rfl ?_
  refine r_ialoadE X dX7_odd_5 hm.2.1 ⟨by omega, by omega⟩ (by decide) (fA_s hs) ?_
  refine r_iconst X dX7_odd_6 ?_
  refine r_irem X dX7_odd_7 ⟨by omega, by omega⟩ ⟨by omega, by omega⟩ ?_
  refine r_iconst X dX7_odd_8 ?_
  refine r_icmp_ne 21 X dX7_odd_9 (by decide) ⟨by omega, by omega⟩ ⟨by omega, by omega⟩ (fun c9 => ?_) (fun c9 => ?_)
  · refine r_aload_n 0 X dX7_odd_21 rfl ?_
    refine r_getf X dX7_odd_22 fX7_13 hm.1 rfl ?_
    refine r_iload_n 1 X dX7_odd_25 rfl ?_
    refine r_ialoadE X dX7_odd_26 hm.2.2.1 ⟨by omega, by omega⟩ (by decide) (fB_s hs) ?_
    refine r_iret X Y dX7_odd_27 (by decide) (by decide) ?_
    exact pv_i (by unfold odd2; split <;> omega)
  · refine r_aload_n 0 X dX7_odd_12 rfl ?_
    refine r_getf X dX7_odd_13 fX7_7 hm.1 rfl ?_
    refine r_iload_n 1 X dX7_odd_16 rfl ?_
    refine r_ialoadE X dX7_odd_17 hm.2.1 ⟨by omega, by omega⟩ (by decide) (fA_s hs) ?_
    refine r_goto 27 X dX7_odd_18 (by decide) ?_
    refine r_iret X Y dX7_odd_27 (by decide) (by decide) ?_
    exact pv_i (by unfold odd2; split <;> omega)
abbrev rX7_even : Room := { frames := 0, cells := 0, slots := 0, locals := 0 }
theorem c_X7_even {l : Launch} (hl : l.stackTraces = false) (D : va_G) (z0 : Nat) (h : Hp) {y : Nat} {v : Nat → Nat} {σ : Tg} {e1 e2 e3 od : Nat → Int} {lc oc tc hi lo rf sq : Int} (hm : Mz D h y v (fA σ) (fB σ) (fC σ) e1 e2 e3 od lc oc tc hi lo rf sq) (ht : TVs σ) (p : Int) (hp : pl p) (a b c : Int) (hs : σ p.toNat = some (a, b, c)) : CC l yX7_even cX7_even 2 (some .int) rX7_even D z0 h [.ref y, iv p] (PV (iv (eve2 a b)) h) NX := by
  refine CC_of RX7 hl (by decide) rfl (Nat.le_of_ble_eq_true rfl) (fun K X Y Z hmn hKl => ?_)
  subst hKl
  have hv := ht p.toNat (by omega) a b c hs
  have hb := TV_b hv
  show WW K D z0 2 h 0 0 0 [(0, .ref y), (1, iv p)] []
  refine r_aload_n 0 X dX7_even_0 rfl ?_
  refine r_getf X dX7_even_1 fX7_7 hm.1 rfl ?_
  refine r_iload_n 1 X dX7_even_4 rfl ?_
  refine r_ialoadE X dX7_even_5 hm.2.1 ⟨by omega, by omega⟩ (by decide) (fA_s hs) ?_
  refine r_iconst X dX7_even_6 ?_
  refine r_irem X dX7_even_7 ⟨by omega, by omega⟩ ⟨by omega, by omega⟩ ?_
  refine r_iconst X dX7_even_8 ?_
  refine r_icmp_ne 21 X dX7_even_9 (by decide) ⟨by omega, by omega⟩ ⟨by omega, by omega⟩ (fun c9 => ?_) (fun c9 => ?_)
  · refine r_aload_n 0 X dX7_even_21 rfl ?_
    refine r_getf X dX7_even_22 fX7_7 hm.1 rfl ?_
    refine r_iload_n 1 X dX7_even_25 rfl ?_
    refine r_ialoadE X dX7_even_26 hm.2.1 ⟨by omega, by omega⟩ (by decide) (fA_s hs) ?_
    refine r_iret X Y dX7_even_27 (by decide) (by decide) ?_
    exact pv_i (by unfold eve2; split <;> omega)
  · refine r_aload_n 0 X dX7_even_12 rfl ?_
    refine r_getf X dX7_even_13 fX7_13 hm.1 rfl ?_
    refine r_iload_n 1 X dX7_even_16 rfl ?_
    refine r_ialoadE X dX7_even_17 hm.2.2.1 ⟨by omega, by omega⟩ (by decide) (fB_s hs) ?_
    refine r_goto 27 X dX7_even_18 (by decide) ?_
    refine r_iret X Y dX7_even_27 (by decide) (by decide) ?_
    exact pv_i (by unfold eve2; split <;> omega)
abbrev rX7_positive : Room := { frames := 0, cells := 0, slots := 0, locals := 0 }
theorem c_X7_positive {l : Launch} (hl : l.stackTraces = false) (D : va_G) (z0 : Nat) (h : Hp) (a : Int) (ha : I32 a) : CC l yX7_positive cX7_positive 1 (some .int) rX7_positive D z0 h [iv a] (PV (iv (a.natAbs : Int)) h) NX := by
  refine CC_of RX7 hl (by decide) rfl (Nat.le_of_ble_eq_true rfl) (fun K X Y Z hmn hKl => ?_)
  subst hKl
  show WW K D z0 1 h 0 0 0 [(0, iv a)] []
  refine r_iload_n 0 X dX7_positive_0 rfl ?_
  refine r_if_ge 9 X dX7_positive_1 (by decide) ⟨by omega, by omega⟩ (fun c1 => ?_) (fun c1 => ?_)
  · refine r_iload_n 0 X dX7_positive_9 rfl ?_
    refine r_iret X Y dX7_positive_10 (by decide) (by decide) ?_
    exact pv_i (by omega)
  · refine r_iload_n 0 X dX7_positive_4 rfl ?_
    refine r_ineg X dX7_positive_5 ?_
    refine r_goto 10 X dX7_positive_6 (by decide) ?_
    refine r_iret X Y dX7_positive_10 (by decide) (by decide) ?_
    exact pv_i (by omega)
abbrev rX7_stepped : Room := { frames := 1, cells := 0, slots := 0, locals := 20 }
theorem c_X7_stepped {l : Launch} (hl : l.stackTraces = false) (D : va_G) (z0 : Nat) (h : Hp) (x y z w k : Int) (hx : 0 ≤ x ∧ x ≤ 65535) (hy : 0 ≤ y ∧ y ≤ 65535) (hz : 0 ≤ z ∧ z ≤ 65535) (hw : I32 w) (hk : I32 k) : CC l yX7_stepped cX7_stepped 7 (some .int) rX7_stepped D z0 h [iv x, iv y, iv z, iv w, iv k] (PV (iv (if k = 0 then stX w x y z else if k = 1 then stY w x y z else stZ w x y z)) h) NX := by
  refine CC_of RX7 hl (by decide) rfl (Nat.le_of_ble_eq_true rfl) (fun K X Y Z hmn hKl => ?_)
  subst hKl
  show WW K D z0 7 h 0 0 0 [(0, iv x), (1, iv y), (2, iv z), (3, iv w), (4, iv k)] []
  refine r_iload_n 3 X dX7_stepped_0 rfl ?_
  refine r_bipush X dX7_stepped_1 (by decide) ?_
  refine r_icmp_ne 59 X dX7_stepped_3 (by decide) ⟨by omega, by omega⟩ ⟨by omega, by omega⟩ (fun c3 => ?_) (fun c3 => ?_)
  · refine r_iload_n 3 X dX7_stepped_59 rfl ?_
    refine r_bipush X dX7_stepped_60 (by decide) ?_
    refine r_icmp_ne 70 X dX7_stepped_62 (by decide) ⟨by omega, by omega⟩ ⟨by omega, by omega⟩ (fun c62 => ?_) (fun c62 => ?_)
    · refine r_iload_n 0 X dX7_stepped_70 rfl ?_
      refine r_istore (L' := [(5, iv x), (0, iv x), (1, iv y), (2, iv z), (3, iv w), (4, iv k)]) X dX7_stepped_71 (by decide) rfl ?_
      refine r_iload_n 4 X dX7_stepped_73 rfl ?_
      refine r_bipush X dX7_stepped_74 (by decide) ?_
      refine r_icmp_ne 84 X dX7_stepped_76 (by decide) ⟨by omega, by omega⟩ ⟨by omega, by omega⟩ (fun c76 => ?_) (fun c76 => ?_)
      · refine r_iload_n 2 X dX7_stepped_84 rfl ?_
        refine r_istore (L' := [(6, iv y), (5, iv x), (0, iv x), (1, iv y), (2, iv z), (3, iv w), (4, iv k)]) X dX7_stepped_85 (by decide) rfl ?_
        refine r_iload 6 X dX7_stepped_87 rfl ?_
        refine r_if_ne 106 X dX7_stepped_89 (by decide) ⟨by omega, by omega⟩ (fun c89 => ?_) (fun c89 => ?_)
        · refine r_iload 6 X dX7_stepped_106 rfl ?_
          refine r_iconst X dX7_stepped_108 ?_
          refine r_icmp_ne 126 X dX7_stepped_109 (by decide) ⟨by omega, by omega⟩ ⟨by omega, by omega⟩ (fun c109 => ?_) (fun c109 => ?_)
          · refine r_iconst X dX7_stepped_126 ?_
            refine r_iload 1 X dX7_stepped_127 rfl ?_
            refine r_imul X dX7_stepped_129 ?_
            refine r_iconst X dX7_stepped_130 ?_
            refine r_iload 0 X dX7_stepped_131 rfl ?_
            refine r_imul X dX7_stepped_133 ?_
            refine r_iadd X dX7_stepped_134 ?_
            refine r_iconst X dX7_stepped_135 ?_
            refine r_iload_n 4 X dX7_stepped_136 rfl ?_
            refine r_imul X dX7_stepped_137 ?_
            refine r_iadd X dX7_stepped_138 ?_
            refine r_iret X Y dX7_stepped_139 (by decide) (by decide) ?_
            exact pv_i (by (repeat' split) <;> first | omega | (unfold stX so se; (repeat' split) <;> first | rfl | omega) | (unfold stY so se; (repeat' split) <;> first | rfl | omega) | (unfold stZ so se; (repeat' split) <;> first | rfl | omega))
          · refine r_iconst X dX7_stepped_112 ?_
            refine r_iload 1 X dX7_stepped_113 rfl ?_
            refine r_imul X dX7_stepped_115 ?_
            refine r_iload 0 X dX7_stepped_116 rfl ?_
            refine r_iadd X dX7_stepped_118 ?_
            refine r_iconst X dX7_stepped_119 ?_
            refine r_iload_n 4 X dX7_stepped_120 rfl ?_
            refine r_imul X dX7_stepped_121 ?_
            refine r_iadd X dX7_stepped_122 ?_
            refine r_goto 139 X dX7_stepped_123 (by decide) ?_
            refine r_iret X Y dX7_stepped_139 (by decide) (by decide) ?_
            exact pv_i (by (repeat' split) <;> first | omega | (unfold stX so se; (repeat' split) <;> first | rfl | omega) | (unfold stY so se; (repeat' split) <;> first | rfl | omega) | (unfold stZ so se; (repeat' split) <;> first | rfl | omega))
        · refine r_iload 1 X dX7_stepped_92 rfl ?_
          refine r_iconst X dX7_stepped_94 ?_
          refine r_iload 0 X dX7_stepped_95 rfl ?_
          refine r_imul X dX7_stepped_97 ?_
          refine r_iadd X dX7_stepped_98 ?_
          refine r_iconst X dX7_stepped_99 ?_
          refine r_iload_n 4 X dX7_stepped_100 rfl ?_
          refine r_imul X dX7_stepped_101 ?_
          refine r_iadd X dX7_stepped_102 ?_
          refine r_goto 139 X dX7_stepped_103 (by decide) ?_
          refine r_iret X Y dX7_stepped_139 (by decide) (by decide) ?_
          exact pv_i (by (repeat' split) <;> first | omega | (unfold stX so se; (repeat' split) <;> first | rfl | omega) | (unfold stY so se; (repeat' split) <;> first | rfl | omega) | (unfold stZ so se; (repeat' split) <;> first | rfl | omega))
      · refine r_iload_n 2 X dX7_stepped_79 rfl ?_
        refine r_ineg X dX7_stepped_80 ?_
        refine r_goto 85 X dX7_stepped_81 (by decide) ?_
        refine r_istore (L' := [(6, iv (-y)), (5, iv x), (0, iv x), (1, iv y), (2, iv z), (3, iv w), (4, iv k)]) X dX7_stepped_85 (by decide) rfl ?_
        refine r_iload 6 X dX7_stepped_87 rfl ?_
        refine r_if_ne 106 X dX7_stepped_89 (by decide) ⟨by omega, by omega⟩ (fun c89 => ?_) (fun c89 => ?_)
        · refine r_iload 6 X dX7_stepped_106 rfl ?_
          refine r_iconst X dX7_stepped_108 ?_
          refine r_icmp_ne 126 X dX7_stepped_109 (by decide) ⟨by omega, by omega⟩ ⟨by omega, by omega⟩ (fun c109 => ?_) (fun c109 => ?_)
          · refine r_iconst X dX7_stepped_126 ?_
            refine r_iload 1 X dX7_stepped_127 rfl ?_
            refine r_imul X dX7_stepped_129 ?_
            refine r_iconst X dX7_stepped_130 ?_
            refine r_iload 0 X dX7_stepped_131 rfl ?_
            refine r_imul X dX7_stepped_133 ?_
            refine r_iadd X dX7_stepped_134 ?_
            refine r_iconst X dX7_stepped_135 ?_
            refine r_iload_n 4 X dX7_stepped_136 rfl ?_
            refine r_imul X dX7_stepped_137 ?_
            refine r_iadd X dX7_stepped_138 ?_
            refine r_iret X Y dX7_stepped_139 (by decide) (by decide) ?_
            exact pv_i (by (repeat' split) <;> first | omega | (unfold stX so se; (repeat' split) <;> first | rfl | omega) | (unfold stY so se; (repeat' split) <;> first | rfl | omega) | (unfold stZ so se; (repeat' split) <;> first | rfl | omega))
          · refine r_iconst X dX7_stepped_112 ?_
            refine r_iload 1 X dX7_stepped_113 rfl ?_
            refine r_imul X dX7_stepped_115 ?_
            refine r_iload 0 X dX7_stepped_116 rfl ?_
            refine r_iadd X dX7_stepped_118 ?_
            refine r_iconst X dX7_stepped_119 ?_
            refine r_iload_n 4 X dX7_stepped_120 rfl ?_
            refine r_imul X dX7_stepped_121 ?_
            refine r_iadd X dX7_stepped_122 ?_
            refine r_goto 139 X dX7_stepped_123 (by decide) ?_
            refine r_iret X Y dX7_stepped_139 (by decide) (by decide) ?_
            exact pv_i (by (repeat' split) <;> first | omega | (unfold stX so se; (repeat' split) <;> first | rfl | omega) | (unfold stY so se; (repeat' split) <;> first | rfl | omega) | (unfold stZ so se; (repeat' split) <;> first | rfl | omega))
        · refine r_iload 1 X dX7_stepped_92 rfl ?_
          refine r_iconst X dX7_stepped_94 ?_
          refine r_iload 0 X dX7_stepped_95 rfl ?_
          refine r_imul X dX7_stepped_97 ?_
          refine r_iadd X dX7_stepped_98 ?_
          refine r_iconst X dX7_stepped_99 ?_
          refine r_iload_n 4 X dX7_stepped_100 rfl ?_
          refine r_imul X dX7_stepped_101 ?_
          refine r_iadd X dX7_stepped_102 ?_
          refine r_goto 139 X dX7_stepped_103 (by decide) ?_
          refine r_iret X Y dX7_stepped_139 (by decide) (by decide) ?_
          exact pv_i (by (repeat' split) <;> first | omega | (unfold stX so se; (repeat' split) <;> first | rfl | omega) | (unfold stY so se; (repeat' split) <;> first | rfl | omega) | (unfold stZ so se; (repeat' split) <;> first | rfl | omega))
    · refine r_iload_n 0 X dX7_stepped_65 rfl ?_
      refine r_ineg X dX7_stepped_66 ?_
      refine r_goto 71 X dX7_stepped_67 (by decide) ?_
      refine r_istore (L' := [(5, iv (-x)), (0, iv x), (1, iv y), (2, iv z), (3, iv w), (4, iv k)]) X dX7_stepped_71 (by decide) rfl ?_
      refine r_iload_n 4 X dX7_stepped_73 rfl ?_
      refine r_bipush X dX7_stepped_74 (by decide) ?_
      refine r_icmp_ne 84 X dX7_stepped_76 (by decide) ⟨by omega, by omega⟩ ⟨by omega, by omega⟩ (fun c76 => ?_) (fun c76 => ?_)
      · refine r_iload_n 2 X dX7_stepped_84 rfl ?_
        refine r_istore (L' := [(6, iv y), (5, iv (-x)), (0, iv x), (1, iv y), (2, iv z), (3, iv w), (4, iv k)]) X dX7_stepped_85 (by decide) rfl ?_
        refine r_iload 6 X dX7_stepped_87 rfl ?_
        refine r_if_ne 106 X dX7_stepped_89 (by decide) ⟨by omega, by omega⟩ (fun c89 => ?_) (fun c89 => ?_)
        · refine r_iload 6 X dX7_stepped_106 rfl ?_
          refine r_iconst X dX7_stepped_108 ?_
          refine r_icmp_ne 126 X dX7_stepped_109 (by decide) ⟨by omega, by omega⟩ ⟨by omega, by omega⟩ (fun c109 => ?_) (fun c109 => ?_)
          · refine r_iconst X dX7_stepped_126 ?_
            refine r_iload 1 X dX7_stepped_127 rfl ?_
            refine r_imul X dX7_stepped_129 ?_
            refine r_iconst X dX7_stepped_130 ?_
            refine r_iload 0 X dX7_stepped_131 rfl ?_
            refine r_imul X dX7_stepped_133 ?_
            refine r_iadd X dX7_stepped_134 ?_
            refine r_iconst X dX7_stepped_135 ?_
            refine r_iload_n 4 X dX7_stepped_136 rfl ?_
            refine r_imul X dX7_stepped_137 ?_
            refine r_iadd X dX7_stepped_138 ?_
            refine r_iret X Y dX7_stepped_139 (by decide) (by decide) ?_
            exact pv_i (by (repeat' split) <;> first | omega | (unfold stX so se; (repeat' split) <;> first | rfl | omega) | (unfold stY so se; (repeat' split) <;> first | rfl | omega) | (unfold stZ so se; (repeat' split) <;> first | rfl | omega))
          · refine r_iconst X dX7_stepped_112 ?_
            refine r_iload 1 X dX7_stepped_113 rfl ?_
            refine r_imul X dX7_stepped_115 ?_
            refine r_iload 0 X dX7_stepped_116 rfl ?_
            refine r_iadd X dX7_stepped_118 ?_
            refine r_iconst X dX7_stepped_119 ?_
            refine r_iload_n 4 X dX7_stepped_120 rfl ?_
            refine r_imul X dX7_stepped_121 ?_
            refine r_iadd X dX7_stepped_122 ?_
            refine r_goto 139 X dX7_stepped_123 (by decide) ?_
            refine r_iret X Y dX7_stepped_139 (by decide) (by decide) ?_
            exact pv_i (by (repeat' split) <;> first | omega | (unfold stX so se; (repeat' split) <;> first | rfl | omega) | (unfold stY so se; (repeat' split) <;> first | rfl | omega) | (unfold stZ so se; (repeat' split) <;> first | rfl | omega))
        · refine r_iload 1 X dX7_stepped_92 rfl ?_
          refine r_iconst X dX7_stepped_94 ?_
          refine r_iload 0 X dX7_stepped_95 rfl ?_
          refine r_imul X dX7_stepped_97 ?_
          refine r_iadd X dX7_stepped_98 ?_
          refine r_iconst X dX7_stepped_99 ?_
          refine r_iload_n 4 X dX7_stepped_100 rfl ?_
          refine r_imul X dX7_stepped_101 ?_
          refine r_iadd X dX7_stepped_102 ?_
          refine r_goto 139 X dX7_stepped_103 (by decide) ?_
          refine r_iret X Y dX7_stepped_139 (by decide) (by decide) ?_
          exact pv_i (by (repeat' split) <;> first | omega | (unfold stX so se; (repeat' split) <;> first | rfl | omega) | (unfold stY so se; (repeat' split) <;> first | rfl | omega) | (unfold stZ so se; (repeat' split) <;> first | rfl | omega))
      · refine r_iload_n 2 X dX7_stepped_79 rfl ?_
        refine r_ineg X dX7_stepped_80 ?_
        refine r_goto 85 X dX7_stepped_81 (by decide) ?_
        refine r_istore (L' := [(6, iv (-y)), (5, iv (-x)), (0, iv x), (1, iv y), (2, iv z), (3, iv w), (4, iv k)]) X dX7_stepped_85 (by decide) rfl ?_
        refine r_iload 6 X dX7_stepped_87 rfl ?_
        refine r_if_ne 106 X dX7_stepped_89 (by decide) ⟨by omega, by omega⟩ (fun c89 => ?_) (fun c89 => ?_)
        · refine r_iload 6 X dX7_stepped_106 rfl ?_
          refine r_iconst X dX7_stepped_108 ?_
          refine r_icmp_ne 126 X dX7_stepped_109 (by decide) ⟨by omega, by omega⟩ ⟨by omega, by omega⟩ (fun c109 => ?_) (fun c109 => ?_)
          · refine r_iconst X dX7_stepped_126 ?_
            refine r_iload 1 X dX7_stepped_127 rfl ?_
            refine r_imul X dX7_stepped_129 ?_
            refine r_iconst X dX7_stepped_130 ?_
            refine r_iload 0 X dX7_stepped_131 rfl ?_
            refine r_imul X dX7_stepped_133 ?_
            refine r_iadd X dX7_stepped_134 ?_
            refine r_iconst X dX7_stepped_135 ?_
            refine r_iload_n 4 X dX7_stepped_136 rfl ?_
            refine r_imul X dX7_stepped_137 ?_
            refine r_iadd X dX7_stepped_138 ?_
            refine r_iret X Y dX7_stepped_139 (by decide) (by decide) ?_
            exact pv_i (by (repeat' split) <;> first | omega | (unfold stX so se; (repeat' split) <;> first | rfl | omega) | (unfold stY so se; (repeat' split) <;> first | rfl | omega) | (unfold stZ so se; (repeat' split) <;> first | rfl | omega))
          · refine r_iconst X dX7_stepped_112 ?_
            refine r_iload 1 X dX7_stepped_113 rfl ?_
            refine r_imul X dX7_stepped_115 ?_
            refine r_iload 0 X dX7_stepped_116 rfl ?_
            refine r_iadd X dX7_stepped_118 ?_
            refine r_iconst X dX7_stepped_119 ?_
            refine r_iload_n 4 X dX7_stepped_120 rfl ?_
            refine r_imul X dX7_stepped_121 ?_
            refine r_iadd X dX7_stepped_122 ?_
            refine r_goto 139 X dX7_stepped_123 (by decide) ?_
            refine r_iret X Y dX7_stepped_139 (by decide) (by decide) ?_
            exact pv_i (by (repeat' split) <;> first | omega | (unfold stX so se; (repeat' split) <;> first | rfl | omega) | (unfold stY so se; (repeat' split) <;> first | rfl | omega) | (unfold stZ so se; (repeat' split) <;> first | rfl | omega))
        · refine r_iload 1 X dX7_stepped_92 rfl ?_
          refine r_iconst X dX7_stepped_94 ?_
          refine r_iload 0 X dX7_stepped_95 rfl ?_
          refine r_imul X dX7_stepped_97 ?_
          refine r_iadd X dX7_stepped_98 ?_
          refine r_iconst X dX7_stepped_99 ?_
          refine r_iload_n 4 X dX7_stepped_100 rfl ?_
          refine r_imul X dX7_stepped_101 ?_
          refine r_iadd X dX7_stepped_102 ?_
          refine r_goto 139 X dX7_stepped_103 (by decide) ?_
          refine r_iret X Y dX7_stepped_139 (by decide) (by decide) ?_
          exact pv_i (by (repeat' split) <;> first | omega | (unfold stX so se; (repeat' split) <;> first | rfl | omega) | (unfold stY so se; (repeat' split) <;> first | rfl | omega) | (unfold stZ so se; (repeat' split) <;> first | rfl | omega))
  · refine r_iload 4 X dX7_stepped_6 rfl ?_
    refine r_if_ne 26 X dX7_stepped_8 (by decide) ⟨by omega, by omega⟩ (fun c8 => ?_) (fun c8 => ?_)
    · refine r_iload 4 X dX7_stepped_26 rfl ?_
      refine r_iconst X dX7_stepped_28 ?_
      refine r_icmp_ne 47 X dX7_stepped_29 (by decide) ⟨by omega, by omega⟩ ⟨by omega, by omega⟩ (fun c29 => ?_) (fun c29 => ?_)
      · refine r_iconst X dX7_stepped_47 ?_
        refine r_iload_n 2 X dX7_stepped_48 rfl ?_
        refine r_imul X dX7_stepped_49 ?_
        refine r_iconst X dX7_stepped_50 ?_
        refine r_iload_n 0 X dX7_stepped_51 rfl ?_
        refine r_imul X dX7_stepped_52 ?_
        refine r_isub X dX7_stepped_53 ?_
        refine r_iconst X dX7_stepped_54 ?_
        refine r_iload_n 1 X dX7_stepped_55 rfl ?_
        refine r_imul X dX7_stepped_56 ?_
        refine r_isub X dX7_stepped_57 ?_
        refine r_iret X Y dX7_stepped_58 (by decide) (by decide) ?_
        exact pv_i (by (repeat' split) <;> first | omega | (unfold stX so se; (repeat' split) <;> first | rfl | omega) | (unfold stY so se; (repeat' split) <;> first | rfl | omega) | (unfold stZ so se; (repeat' split) <;> first | rfl | omega))
      · refine r_iconst X dX7_stepped_32 ?_
        refine r_iload_n 0 X dX7_stepped_33 rfl ?_
        refine r_imul X dX7_stepped_34 ?_
        refine r_iload_n 1 X dX7_stepped_35 rfl ?_
        refine r_iadd X dX7_stepped_36 ?_
        refine r_iconst X dX7_stepped_37 ?_
        refine r_iload_n 2 X dX7_stepped_38 rfl ?_
        refine r_imul X dX7_stepped_39 ?_
        refine r_isub X dX7_stepped_40 ?_
        refine r_callS_v X dX7_stepped_41 kX7_156 (c_X7_positive (CX_l X) D z0 _ (((2 * x) + y) - (2 * z)) ⟨by omega, by omega⟩) [] rfl rfl (Nat.le_of_ble_eq_true rfl) (by decide) rfl rfl (by decide) ?_
        refine r_goto 58 X dX7_stepped_44 (by decide) ?_
        refine r_iret X Y dX7_stepped_58 (by decide) (by decide) ?_
        exact pv_i (by (repeat' split) <;> first | omega | (unfold stX so se; (repeat' split) <;> first | rfl | omega) | (unfold stY so se; (repeat' split) <;> first | rfl | omega) | (unfold stZ so se; (repeat' split) <;> first | rfl | omega))
    · refine r_iload_n 0 X dX7_stepped_11 rfl ?_
      refine r_iconst X dX7_stepped_12 ?_
      refine r_iload_n 1 X dX7_stepped_13 rfl ?_
      refine r_imul X dX7_stepped_14 ?_
      refine r_iadd X dX7_stepped_15 ?_
      refine r_iconst X dX7_stepped_16 ?_
      refine r_iload_n 2 X dX7_stepped_17 rfl ?_
      refine r_imul X dX7_stepped_18 ?_
      refine r_isub X dX7_stepped_19 ?_
      refine r_callS_v X dX7_stepped_20 kX7_156 (c_X7_positive (CX_l X) D z0 _ ((x + (2 * y)) - (2 * z)) ⟨by omega, by omega⟩) [] rfl rfl (Nat.le_of_ble_eq_true rfl) (by decide) rfl rfl (by decide) ?_
      refine r_goto 58 X dX7_stepped_23 (by decide) ?_
      refine r_iret X Y dX7_stepped_58 (by decide) (by decide) ?_
      exact pv_i (by (repeat' split) <;> first | omega | (unfold stX so se; (repeat' split) <;> first | rfl | omega) | (unfold stY so se; (repeat' split) <;> first | rfl | omega) | (unfold stZ so se; (repeat' split) <;> first | rfl | omega))
theorem st_b {x y z w : Int} (hx : 0 ≤ x ∧ x ≤ 65535) (hy : 0 ≤ y ∧ y ≤ 65535) (hz : 0 ≤ z ∧ z ≤ 65535) : I32 (stX w x y z) ∧ I32 (stY w x y z) ∧ I32 (stZ w x y z) := by
  unfold stX stY stZ so se
  (repeat' split) <;> omega
abbrev rX7_canStep : Room := { frames := 3, cells := 0, slots := 0, locals := 67 }
theorem c_X7_canStep {l : Launch} (hl : l.stackTraces = false) (D : va_G) (z0 : Nat) (h : Hp) {y : Nat} {v : Nat → Nat} {σ : Tg} {e1 e2 e3 od : Nat → Int} {lc oc tc hi lo rf sq : Int} (hm : Mz D h y v (fA σ) (fB σ) (fC σ) e1 e2 e3 od lc oc tc hi lo rf sq) (ht : TVs σ) (p : Int) (hp : pl p) (a b c : Int) (hs : σ p.toNat = some (a, b, c)) (w : Int) (hw : 0 ≤ w ∧ w ≤ 65535) : CC l yX7_canStep cX7_canStep 3 (some .boolean) rX7_canStep D z0 h [.ref y, iv p, iv w] (PV (iv (if sqb3 a b c 2 = 0 ∧ gcd3 a b c = 1 ∧ stK w (odd2 a b) (eve2 a b) c then 1 else 0)) h) NX := by
  refine CC_of RX7 hl (by decide) rfl (Nat.le_of_ble_eq_true rfl) (fun K X Y Z hmn hKl => ?_)
  subst hKl
  have hv := ht p.toNat (by omega) a b c hs
  have hb := TV_b hv
  have hoe : (0 ≤ odd2 a b ∧ odd2 a b ≤ 65535) ∧ 0 ≤ eve2 a b ∧ eve2 a b ≤ 65535 := by
    unfold odd2 eve2
    split <;> omega
  have hsb := st_b (w := w) hoe.1 hoe.2 (show 0 ≤ c ∧ c ≤ 65535 by omega)
  show WW K D z0 3 h 0 0 0 [(0, .ref y), (1, iv p), (2, iv w)] []
  refine r_aload_n 0 X dX7_canStep_0 rfl ?_
  refine r_iload_n 1 X dX7_canStep_1 rfl ?_
  refine r_callV_v X dX7_canStep_2 kX7_159 hm.1 (c_X7_isPrimitive (CX_l X) D z0 _ hm ht p (by omega) a b c hs ) [] rfl rfl (Nat.le_of_ble_eq_true rfl) (by decide) rfl rfl (by decide) ?_
  refine r_ifb_ne 10 X dX7_canStep_5 (by decide) (fun c5 => ?_) (fun c5 => ?_)
  · refine r_iload_n 2 X dX7_canStep_10 rfl ?_
    refine r_bipush X dX7_canStep_11 (by decide) ?_
    refine r_icmp_ne 34 X dX7_canStep_13 (by decide) ⟨by omega, by omega⟩ ⟨by omega, by omega⟩ (fun c13 => ?_) (fun c13 => ?_)
    · refine r_aload_n 0 X dX7_canStep_34 rfl ?_
      refine r_iload_n 1 X dX7_canStep_35 rfl ?_
      refine r_callV_v X dX7_canStep_36 kX7_162 hm.1 (c_X7_odd (CX_l X) D z0 _ hm ht p (by omega) a b c hs ) [] rfl rfl (Nat.le_of_ble_eq_true rfl) (by decide) rfl rfl (by decide) ?_
      refine r_aload_n 0 X dX7_canStep_39 rfl ?_
      refine r_iload_n 1 X dX7_canStep_40 rfl ?_
      refine r_callV_v X dX7_canStep_41 kX7_165 hm.1 (c_X7_even (CX_l X) D z0 _ hm ht p (by omega) a b c hs ) [iv (odd2 a b)] rfl rfl (Nat.le_of_ble_eq_true rfl) (by decide) rfl rfl (by decide) ?_
      refine r_aload_n 0 X dX7_canStep_44 rfl ?_
      refine r_getf X dX7_canStep_45 fX7_16 hm.1 rfl ?_
      refine r_iload_n 1 X dX7_canStep_48 rfl ?_
      refine r_ialoadE X dX7_canStep_49 hm.2.2.2.1 ⟨by omega, by omega⟩ (by decide) (fC_s hs) ?_
      refine r_iload_n 2 X dX7_canStep_50 rfl ?_
      refine r_iconst X dX7_canStep_51 ?_
      refine r_callS_v X dX7_canStep_52 kX7_168 (c_X7_stepped (CX_l X) D z0 _ (odd2 a b) (eve2 a b) c w 2 ⟨by omega, by omega⟩ ⟨by omega, by omega⟩ ⟨by omega, by omega⟩ ⟨by omega, by omega⟩ (by omega)) [] rfl rfl (Nat.le_of_ble_eq_true rfl) (by decide) rfl rfl (by decide) ?_
      refine r_ldc 65535 X dX7_canStep_55 nX7_78 (by decide) ?_
      refine r_icmp_gt 64 X dX7_canStep_57 (by decide) ⟨by omega, by omega⟩ ⟨by omega, by omega⟩ (fun c57 => ?_) (fun c57 => ?_)
      · refine r_iconst X dX7_canStep_64 ?_
        refine r_zret X Y dX7_canStep_65 (Or.inl rfl) (by decide) (by decide) ?_
        exact pv_f (fun z => by have := z.2.2; omega)
      · refine r_iconst X dX7_canStep_60 ?_
        refine r_goto 65 X dX7_canStep_61 (by decide) ?_
        refine r_zret X Y dX7_canStep_65 (Or.inr rfl) (by decide) (by decide) ?_
        exact pv_t ⟨c5.1, c5.2, Or.inr ⟨by omega, by omega⟩⟩
    · refine r_aload_n 0 X dX7_canStep_16 rfl ?_
      refine r_getf X dX7_canStep_17 fX7_16 hm.1 rfl ?_
      refine r_iload_n 1 X dX7_canStep_20 rfl ?_
      refine r_ialoadE X dX7_canStep_21 hm.2.2.2.1 ⟨by omega, by omega⟩ (by decide) (fC_s hs) ?_
      refine r_iconst X dX7_canStep_22 ?_
      refine r_icmp_eq 30 X dX7_canStep_23 (by decide) ⟨by omega, by omega⟩ ⟨by omega, by omega⟩ (fun c23 => ?_) (fun c23 => ?_)
      · refine r_iconst X dX7_canStep_30 ?_
        refine r_goto 65 X dX7_canStep_31 (by decide) ?_
        refine r_zret X Y dX7_canStep_65 (Or.inl rfl) (by decide) (by decide) ?_
        exact pv_f (fun z => by have := z.2.2; omega)
      · refine r_iconst X dX7_canStep_26 ?_
        refine r_goto 65 X dX7_canStep_27 (by decide) ?_
        refine r_zret X Y dX7_canStep_65 (Or.inr rfl) (by decide) (by decide) ?_
        exact pv_t ⟨c5.1, c5.2, Or.inl ⟨by omega, by omega⟩⟩
  · refine r_iconst X dX7_canStep_8 ?_
    refine r_zret X Y dX7_canStep_9 (Or.inl rfl) (by decide) (by decide) ?_
    exact pv_f (fun z => c5 ⟨z.1, z.2.1⟩)
abbrev rX7_step : Room := { frames := 4, cells := 0, slots := 0, locals := 89 }
theorem c_X7_step {l : Launch} (hl : l.stackTraces = false) (D : va_G) (z0 : Nat) (h : Hp) {y : Nat} {v : Nat → Nat} {σ : Tg} {e1 e2 e3 od : Nat → Int} {lc oc tc hi lo rf sq : Int} (hm : Mz D h y v (fA σ) (fB σ) (fC σ) e1 e2 e3 od lc oc tc hi lo rf sq) (ht : TVs σ) (p : Int) (hp0 : I32 p) (w : Int) (hw : 0 ≤ w ∧ w ≤ 65535) : CC l yX7_step cX7_step 7 (some .int) rX7_step D z0 h [.ref y, iv p, iv w] (MO D y v σ (up σ p.toNat (onT σ p (fun a b c => st3 (stX w (odd2 a b) (eve2 a b) c) (stY w (odd2 a b) (eve2 a b) c) (stZ w (odd2 a b) (eve2 a b) c)))) e1 e2 e3 od lc oc (cdSt σ p w) (iv (on σ p (fun a b c => mx3 (stX w (odd2 a b) (eve2 a b) c) (stY w (odd2 a b) (eve2 a b) c) (stZ w (odd2 a b) (eve2 a b) c)))) (iv 0) h) NX := by
  refine CC_of RX7 hl (by decide) rfl (Nat.le_of_ble_eq_true rfl) (fun K X Y Z hmn hKl => ?_)
  subst hKl
  show WW K D z0 7 h 0 0 0 [(0, .ref y), (1, iv p), (2, iv w)] []
  refine r_iload_n 2 X dX7_step_0 rfl ?_
  refine r_bipush X dX7_step_1 (by decide) ?_
  refine r_icmp_eq 24 X dX7_step_3 (by decide) ⟨by omega, by omega⟩ ⟨by omega, by omega⟩ (fun c3 => ?_) (fun c3 => ?_)
  · refine r_iconst X dX7_step_24 ?_
    refine r_goto 29 X dX7_step_25 (by decide) ?_
    refine r_istore_n (L' := [(3, iv 1), (0, .ref y), (1, iv p), (2, iv w)]) X dX7_step_29 (by decide) rfl ?_
    refine r_aload_n 1 X dX7_step_30 rfl ?_
    refine r_iload_n 2 X dX7_step_31 rfl ?_
    refine r_callS_v X dX7_step_32 kX7_41 (c_X7_isPlace (CX_l X) D z0 _ p ⟨by omega, by omega⟩) [.ref y] rfl rfl (Nat.le_of_ble_eq_true rfl) (by decide) rfl rfl (by decide) ?_
    refine r_ifb_ne 42 X dX7_step_35 (by decide) (fun c35 => ?_) (fun c35 => ?_)
    · refine r_iload_n 0 X dX7_step_42 rfl ?_
      refine r_if_ne 50 X dX7_step_43 (by decide) ⟨by omega, by omega⟩ (fun c43 => ?_) (fun c43 => ?_)
      · refine r_aload_n 1 X dX7_step_50 rfl ?_
        refine r_iload_n 2 X dX7_step_51 rfl ?_
        refine r_callV_v X dX7_step_52 kX7_45 hm.1 (c_X7_isThere (CX_l X) D z0 _ hm ht p (by omega)) [.ref y] rfl rfl (Nat.le_of_ble_eq_true rfl) (by decide) rfl rfl (by decide) ?_
        refine r_ifb_ne 62 X dX7_step_55 (by decide) (fun c55 => ?_) (fun c55 => ?_)
        · obtain ⟨a, b, c, hs⟩ := some_of (σ := σ) (i := p.toNat) (by assumption)
          have hv := ht p.toNat (by omega) a b c hs
          have hb := TV_b hv
          refine r_aload_n 1 X dX7_step_62 rfl ?_
          refine r_iload_n 2 X dX7_step_63 rfl ?_
          refine r_iload_n 3 X dX7_step_64 rfl ?_
          refine r_callV_v X dX7_step_65 kX7_172 hm.1 (c_X7_canStep (CX_l X) D z0 _ hm ht p (by omega) a b c hs w (by omega)) [.ref y] rfl rfl (Nat.le_of_ble_eq_true rfl) (by decide) rfl rfl (by decide) ?_
          refine r_ifb_eq 75 X dX7_step_68 (by decide) (fun c68 => ?_) (fun c68 => ?_)
          · refine r_iconst X dX7_step_75 ?_
            refine r_callV X dX7_step_76 kX7_57 hm.1 (c_X7_isWrong (CX_l X) D z0 _ hm 4 ⟨by omega, by omega⟩) [] rfl rfl (Nat.le_of_ble_eq_true rfl) (by decide) (by decide) (fun _ _ z => z.elim) (fun v9 hq76 hv9 => ?_)
            obtain ⟨rfl, hm76, kp76⟩ := hv9
            show WW K D z0 7 hq76 0 0 79 [(3, iv 1), (0, .ref y), (1, iv p), (2, iv w)] [iv 1]
            refine r_if_eq 84 X dX7_step_79 (by decide) ⟨by omega, by omega⟩ (fun c79 => ?_) (fun c79 => ?_)
            · exfalso
              omega
            · refine r_iconst X dX7_step_82 ?_
              refine r_iret X Y dX7_step_83 (by decide) (by decide) ?_
              exact MO_w (by rw [cdSt_k (by omega) (by omega) hs, if_neg (by assumption)]) (by first | decide | omega) hm76 kp76
          · refine r_iconst X dX7_step_71 ?_
            refine r_goto 76 X dX7_step_72 (by decide) ?_
            refine r_callV X dX7_step_76 kX7_57 hm.1 (c_X7_isWrong (CX_l X) D z0 _ hm 0 ⟨by omega, by omega⟩) [] rfl rfl (Nat.le_of_ble_eq_true rfl) (by decide) (by decide) (fun _ _ z => z.elim) (fun v9 hq76 hv9 => ?_)
            obtain ⟨rfl, hm76, kp76⟩ := hv9
            show WW K D z0 7 hq76 0 0 79 [(3, iv 1), (0, .ref y), (1, iv p), (2, iv w)] [iv 0]
            refine r_if_eq 84 X dX7_step_79 (by decide) ⟨by omega, by omega⟩ (fun c79 => ?_) (fun c79 => ?_)
            · have hoe : (0 ≤ odd2 a b ∧ odd2 a b ≤ 65535) ∧ 0 ≤ eve2 a b ∧ eve2 a b ≤ 65535 := by
                unfold odd2 eve2
                split <;> omega
              have hsb := st_b (w := w) hoe.1 hoe.2 (show 0 ≤ c ∧ c ≤ 65535 by omega)
              have hk3 : sqb3 a b c 2 = 0 ∧ gcd3 a b c = 1 ∧ stK w (odd2 a b) (eve2 a b) c := by assumption
              have hpt := PT_of hv hk3.1 hk3.2.1
              have hv8 : TV (mn3 (stX w (odd2 a b) (eve2 a b) c) (stY w (odd2 a b) (eve2 a b) c) (stZ w (odd2 a b) (eve2 a b) c)) (md3 (stX w (odd2 a b) (eve2 a b) c) (stY w (odd2 a b) (eve2 a b) c) (stZ w (odd2 a b) (eve2 a b) c)) (mx3 (stX w (odd2 a b) (eve2 a b) c) (stY w (odd2 a b) (eve2 a b) c) (stZ w (odd2 a b) (eve2 a b) c)) := by
                rcases hk3.2.2 with ⟨w1, w2⟩ | ⟨w1, w2⟩
                · have hc5 : 5 < c := by
                    apply Int.not_le.mp
                    intro z5
                    have := pt_5 hpt z5
                    omega
                  have hbt := bk_TV hpt hc5 (by omega)
                  rw [← w1] at hbt
                  exact hbt.2
                · exact st_TV3 hpt w1 ((st_sd hpt w1).mpr w2)
              refine r_aload_n 1 X dX7_step_84 rfl ?_
              refine r_iload_n 2 X dX7_step_85 rfl ?_
              refine r_callV_v X dX7_step_86 kX7_162 hm76.1 (c_X7_odd (CX_l X) D z0 _ hm76 ht p (by omega) a b c hs ) [] rfl rfl (Nat.le_of_ble_eq_true rfl) (by decide) rfl rfl (by decide) ?_
              refine r_istore (L' := [(4, iv (odd2 a b)), (3, iv 1), (0, .ref y), (1, iv p), (2, iv w)]) X dX7_step_89 (by decide) rfl ?_
              refine r_aload_n 2 X dX7_step_91 rfl ?_
              refine r_iload_n 3 X dX7_step_92 rfl ?_
              refine r_callV_v X dX7_step_93 kX7_165 hm76.1 (c_X7_even (CX_l X) D z0 _ hm76 ht p (by omega) a b c hs ) [] rfl rfl (Nat.le_of_ble_eq_true rfl) (by decide) rfl rfl (by decide) ?_
              refine r_istore (L' := [(5, iv (eve2 a b)), (4, iv (odd2 a b)), (3, iv 1), (0, .ref y), (1, iv p), (2, iv w)]) X dX7_step_96 (by decide) rfl ?_
              refine r_aload_n 3 X dX7_step_98 rfl ?_
              refine r_getf X dX7_step_99 fX7_16 hm76.1 rfl ?_
              refine r_iload_n 4 X dX7_step_102 rfl ?_
              refine r_ialoadE X dX7_step_103 hm76.2.2.2.1 ⟨by omega, by omega⟩ (by decide) (fC_s hs) ?_
              refine r_istore (L' := [(6, iv c), (5, iv (eve2 a b)), (4, iv (odd2 a b)), (3, iv 1), (0, .ref y), (1, iv p), (2, iv w)]) X dX7_step_104 (by decide) rfl ?_
              refine r_aload_n 4 X dX7_step_106 rfl ?_
              refine r_iload_n 5 X dX7_step_107 rfl ?_
              refine r_iload 2 X dX7_step_108 rfl ?_
              refine r_iload 1 X dX7_step_110 rfl ?_
              refine r_iload 0 X dX7_step_112 rfl ?_
              refine r_iload_n 6 X dX7_step_114 rfl ?_
              refine r_iconst X dX7_step_115 ?_
              refine r_callS_v X dX7_step_116 kX7_168 (c_X7_stepped (CX_l X) D z0 _ (odd2 a b) (eve2 a b) c w 0 ⟨by omega, by omega⟩ ⟨by omega, by omega⟩ ⟨by omega, by omega⟩ ⟨by omega, by omega⟩ (by omega)) [iv p, .ref y] rfl rfl (Nat.le_of_ble_eq_true rfl) (by decide) rfl rfl (by decide) ?_
              refine r_iload 2 X dX7_step_119 rfl ?_
              refine r_iload 1 X dX7_step_121 rfl ?_
              refine r_iload 0 X dX7_step_123 rfl ?_
              refine r_iload_n 6 X dX7_step_125 rfl ?_
              refine r_iconst X dX7_step_126 ?_
              refine r_callS_v X dX7_step_127 kX7_168 (c_X7_stepped (CX_l X) D z0 _ (odd2 a b) (eve2 a b) c w 1 ⟨by omega, by omega⟩ ⟨by omega, by omega⟩ ⟨by omega, by omega⟩ ⟨by omega, by omega⟩ (by omega)) [iv (stX w (odd2 a b) (eve2 a b) c), iv p, .ref y] rfl rfl (Nat.le_of_ble_eq_true rfl) (by decide) rfl rfl (by decide) ?_
              refine r_iload 2 X dX7_step_130 rfl ?_
              refine r_iload 1 X dX7_step_132 rfl ?_
              refine r_iload 0 X dX7_step_134 rfl ?_
              refine r_iload_n 6 X dX7_step_136 rfl ?_
              refine r_iconst X dX7_step_137 ?_
              refine r_callS_v X dX7_step_138 kX7_168 (c_X7_stepped (CX_l X) D z0 _ (odd2 a b) (eve2 a b) c w 2 ⟨by omega, by omega⟩ ⟨by omega, by omega⟩ ⟨by omega, by omega⟩ ⟨by omega, by omega⟩ (by omega)) [iv (stY w (odd2 a b) (eve2 a b) c), iv (stX w (odd2 a b) (eve2 a b) c), iv p, .ref y] rfl rfl (Nat.le_of_ble_eq_true rfl) (by decide) rfl rfl (by decide) ?_
              refine r_callV X dX7_step_141 kX7_60 hm76.1 (c_X7_hold (CX_l X) D z0 _ hm76 ht p (stX w (odd2 a b) (eve2 a b) c) (stY w (odd2 a b) (eve2 a b) c) (stZ w (odd2 a b) (eve2 a b) c) (by omega) ⟨by omega, by omega⟩ ⟨by omega, by omega⟩ ⟨by omega, by omega⟩) [] rfl rfl (Nat.le_of_ble_eq_true rfl) (by decide) (by decide) (fun _ _ z => z.elim) (fun v9 hq141 hv9 => ?_)
              obtain ⟨rfl, hm141, kp141⟩ := hv9
              have ht141 : TVs (up σ p.toNat (st3 (stX w (odd2 a b) (eve2 a b) c) (stY w (odd2 a b) (eve2 a b) c) (stZ w (odd2 a b) (eve2 a b) c))) := TVs_up (x := mn3 (stX w (odd2 a b) (eve2 a b) c) (stY w (odd2 a b) (eve2 a b) c) (stZ w (odd2 a b) (eve2 a b) c)) (y := md3 (stX w (odd2 a b) (eve2 a b) c) (stY w (odd2 a b) (eve2 a b) c) (stZ w (odd2 a b) (eve2 a b) c)) (z := mx3 (stX w (odd2 a b) (eve2 a b) c) (stY w (odd2 a b) (eve2 a b) c) (stZ w (odd2 a b) (eve2 a b) c)) ht p.toNat hv8
              show WW K D z0 7 hq141 0 0 144 [(6, iv c), (5, iv (eve2 a b)), (4, iv (odd2 a b)), (3, iv 1), (0, .ref y), (1, iv p), (2, iv w)] []
              refine r_aload_n 4 X dX7_step_144 rfl ?_
              refine r_getf X dX7_step_145 fX7_16 hm141.1 rfl ?_
              refine r_iload_n 5 X dX7_step_148 rfl ?_
              refine r_ialoadE X dX7_step_149 hm141.2.2.2.1 ⟨by omega, by omega⟩ (by decide) (fC_s (up_s _ _ _)) ?_
              refine r_iret X Y dX7_step_150 (by decide) (by decide) ?_
              have e3 : (onT σ p (fun a b c => st3 (stX w (odd2 a b) (eve2 a b) c) (stY w (odd2 a b) (eve2 a b) c) (stZ w (odd2 a b) (eve2 a b) c))) = st3 (stX w (odd2 a b) (eve2 a b) c) (stY w (odd2 a b) (eve2 a b) c) (stZ w (odd2 a b) (eve2 a b) c) := onT_s hs
              rw [← e3] at hm141
              exact MO_k (by rw [cdSt_k (by omega) (by omega) hs, if_pos (by assumption)]) rfl (by rw [on_s hs]) hm141 (Keep_tr kp76 kp141)
            · exfalso
              omega
        · refine r_iconst X dX7_step_58 ?_
          refine r_goto 76 X dX7_step_59 (by decide) ?_
          refine r_callV X dX7_step_76 kX7_57 hm.1 (c_X7_isWrong (CX_l X) D z0 _ hm 3 ⟨by omega, by omega⟩) [] rfl rfl (Nat.le_of_ble_eq_true rfl) (by decide) (by decide) (fun _ _ z => z.elim) (fun v9 hq76 hv9 => ?_)
          obtain ⟨rfl, hm76, kp76⟩ := hv9
          show WW K D z0 7 hq76 0 0 79 [(3, iv 1), (0, .ref y), (1, iv p), (2, iv w)] [iv 1]
          refine r_if_eq 84 X dX7_step_79 (by decide) ⟨by omega, by omega⟩ (fun c79 => ?_) (fun c79 => ?_)
          · exfalso
            omega
          · refine r_iconst X dX7_step_82 ?_
            refine r_iret X Y dX7_step_83 (by decide) (by decide) ?_
            exact MO_w (by unfold cdSt; (try simp only [isNone_f, isNone_t, true_or, or_true, false_or, or_false]); (repeat' split) <;> first | rfl | omega | contradiction | (exfalso; simp_all; done) | (exfalso; simp_all; omega)) (by first | decide | omega) hm76 kp76
      · exfalso
        omega
    · refine r_iconst X dX7_step_38 ?_
      refine r_goto 76 X dX7_step_39 (by decide) ?_
      refine r_callV X dX7_step_76 kX7_57 hm.1 (c_X7_isWrong (CX_l X) D z0 _ hm 1 ⟨by omega, by omega⟩) [] rfl rfl (Nat.le_of_ble_eq_true rfl) (by decide) (by decide) (fun _ _ z => z.elim) (fun v9 hq76 hv9 => ?_)
      obtain ⟨rfl, hm76, kp76⟩ := hv9
      show WW K D z0 7 hq76 0 0 79 [(3, iv 1), (0, .ref y), (1, iv p), (2, iv w)] [iv 1]
      refine r_if_eq 84 X dX7_step_79 (by decide) ⟨by omega, by omega⟩ (fun c79 => ?_) (fun c79 => ?_)
      · exfalso
        omega
      · refine r_iconst X dX7_step_82 ?_
        refine r_iret X Y dX7_step_83 (by decide) (by decide) ?_
        exact MO_w (by unfold cdSt; (try simp only [isNone_f, isNone_t, true_or, or_true, false_or, or_false]); (repeat' split) <;> first | rfl | omega | contradiction | (exfalso; simp_all; done) | (exfalso; simp_all; omega)) (by first | decide | omega) hm76 kp76
  · refine r_iload_n 2 X dX7_step_6 rfl ?_
    refine r_bipush X dX7_step_7 (by decide) ?_
    refine r_icmp_eq 24 X dX7_step_9 (by decide) ⟨by omega, by omega⟩ ⟨by omega, by omega⟩ (fun c9 => ?_) (fun c9 => ?_)
    · refine r_iconst X dX7_step_24 ?_
      refine r_goto 29 X dX7_step_25 (by decide) ?_
      refine r_istore_n (L' := [(3, iv 1), (0, .ref y), (1, iv p), (2, iv w)]) X dX7_step_29 (by decide) rfl ?_
      refine r_aload_n 1 X dX7_step_30 rfl ?_
      refine r_iload_n 2 X dX7_step_31 rfl ?_
      refine r_callS_v X dX7_step_32 kX7_41 (c_X7_isPlace (CX_l X) D z0 _ p ⟨by omega, by omega⟩) [.ref y] rfl rfl (Nat.le_of_ble_eq_true rfl) (by decide) rfl rfl (by decide) ?_
      refine r_ifb_ne 42 X dX7_step_35 (by decide) (fun c35 => ?_) (fun c35 => ?_)
      · refine r_iload_n 0 X dX7_step_42 rfl ?_
        refine r_if_ne 50 X dX7_step_43 (by decide) ⟨by omega, by omega⟩ (fun c43 => ?_) (fun c43 => ?_)
        · refine r_aload_n 1 X dX7_step_50 rfl ?_
          refine r_iload_n 2 X dX7_step_51 rfl ?_
          refine r_callV_v X dX7_step_52 kX7_45 hm.1 (c_X7_isThere (CX_l X) D z0 _ hm ht p (by omega)) [.ref y] rfl rfl (Nat.le_of_ble_eq_true rfl) (by decide) rfl rfl (by decide) ?_
          refine r_ifb_ne 62 X dX7_step_55 (by decide) (fun c55 => ?_) (fun c55 => ?_)
          · obtain ⟨a, b, c, hs⟩ := some_of (σ := σ) (i := p.toNat) (by assumption)
            have hv := ht p.toNat (by omega) a b c hs
            have hb := TV_b hv
            refine r_aload_n 1 X dX7_step_62 rfl ?_
            refine r_iload_n 2 X dX7_step_63 rfl ?_
            refine r_iload_n 3 X dX7_step_64 rfl ?_
            refine r_callV_v X dX7_step_65 kX7_172 hm.1 (c_X7_canStep (CX_l X) D z0 _ hm ht p (by omega) a b c hs w (by omega)) [.ref y] rfl rfl (Nat.le_of_ble_eq_true rfl) (by decide) rfl rfl (by decide) ?_
            refine r_ifb_eq 75 X dX7_step_68 (by decide) (fun c68 => ?_) (fun c68 => ?_)
            · refine r_iconst X dX7_step_75 ?_
              refine r_callV X dX7_step_76 kX7_57 hm.1 (c_X7_isWrong (CX_l X) D z0 _ hm 4 ⟨by omega, by omega⟩) [] rfl rfl (Nat.le_of_ble_eq_true rfl) (by decide) (by decide) (fun _ _ z => z.elim) (fun v9 hq76 hv9 => ?_)
              obtain ⟨rfl, hm76, kp76⟩ := hv9
              show WW K D z0 7 hq76 0 0 79 [(3, iv 1), (0, .ref y), (1, iv p), (2, iv w)] [iv 1]
              refine r_if_eq 84 X dX7_step_79 (by decide) ⟨by omega, by omega⟩ (fun c79 => ?_) (fun c79 => ?_)
              · exfalso
                omega
              · refine r_iconst X dX7_step_82 ?_
                refine r_iret X Y dX7_step_83 (by decide) (by decide) ?_
                exact MO_w (by rw [cdSt_k (by omega) (by omega) hs, if_neg (by assumption)]) (by first | decide | omega) hm76 kp76
            · refine r_iconst X dX7_step_71 ?_
              refine r_goto 76 X dX7_step_72 (by decide) ?_
              refine r_callV X dX7_step_76 kX7_57 hm.1 (c_X7_isWrong (CX_l X) D z0 _ hm 0 ⟨by omega, by omega⟩) [] rfl rfl (Nat.le_of_ble_eq_true rfl) (by decide) (by decide) (fun _ _ z => z.elim) (fun v9 hq76 hv9 => ?_)
              obtain ⟨rfl, hm76, kp76⟩ := hv9
              show WW K D z0 7 hq76 0 0 79 [(3, iv 1), (0, .ref y), (1, iv p), (2, iv w)] [iv 0]
              refine r_if_eq 84 X dX7_step_79 (by decide) ⟨by omega, by omega⟩ (fun c79 => ?_) (fun c79 => ?_)
              · have hoe : (0 ≤ odd2 a b ∧ odd2 a b ≤ 65535) ∧ 0 ≤ eve2 a b ∧ eve2 a b ≤ 65535 := by
                  unfold odd2 eve2
                  split <;> omega
                have hsb := st_b (w := w) hoe.1 hoe.2 (show 0 ≤ c ∧ c ≤ 65535 by omega)
                have hk3 : sqb3 a b c 2 = 0 ∧ gcd3 a b c = 1 ∧ stK w (odd2 a b) (eve2 a b) c := by assumption
                have hpt := PT_of hv hk3.1 hk3.2.1
                have hv8 : TV (mn3 (stX w (odd2 a b) (eve2 a b) c) (stY w (odd2 a b) (eve2 a b) c) (stZ w (odd2 a b) (eve2 a b) c)) (md3 (stX w (odd2 a b) (eve2 a b) c) (stY w (odd2 a b) (eve2 a b) c) (stZ w (odd2 a b) (eve2 a b) c)) (mx3 (stX w (odd2 a b) (eve2 a b) c) (stY w (odd2 a b) (eve2 a b) c) (stZ w (odd2 a b) (eve2 a b) c)) := by
                  rcases hk3.2.2 with ⟨w1, w2⟩ | ⟨w1, w2⟩
                  · have hc5 : 5 < c := by
                      apply Int.not_le.mp
                      intro z5
                      have := pt_5 hpt z5
                      omega
                    have hbt := bk_TV hpt hc5 (by omega)
                    rw [← w1] at hbt
                    exact hbt.2
                  · exact st_TV3 hpt w1 ((st_sd hpt w1).mpr w2)
                refine r_aload_n 1 X dX7_step_84 rfl ?_
                refine r_iload_n 2 X dX7_step_85 rfl ?_
                refine r_callV_v X dX7_step_86 kX7_162 hm76.1 (c_X7_odd (CX_l X) D z0 _ hm76 ht p (by omega) a b c hs ) [] rfl rfl (Nat.le_of_ble_eq_true rfl) (by decide) rfl rfl (by decide) ?_
                refine r_istore (L' := [(4, iv (odd2 a b)), (3, iv 1), (0, .ref y), (1, iv p), (2, iv w)]) X dX7_step_89 (by decide) rfl ?_
                refine r_aload_n 2 X dX7_step_91 rfl ?_
                refine r_iload_n 3 X dX7_step_92 rfl ?_
                refine r_callV_v X dX7_step_93 kX7_165 hm76.1 (c_X7_even (CX_l X) D z0 _ hm76 ht p (by omega) a b c hs ) [] rfl rfl (Nat.le_of_ble_eq_true rfl) (by decide) rfl rfl (by decide) ?_
                refine r_istore (L' := [(5, iv (eve2 a b)), (4, iv (odd2 a b)), (3, iv 1), (0, .ref y), (1, iv p), (2, iv w)]) X dX7_step_96 (by decide) rfl ?_
                refine r_aload_n 3 X dX7_step_98 rfl ?_
                refine r_getf X dX7_step_99 fX7_16 hm76.1 rfl ?_
                refine r_iload_n 4 X dX7_step_102 rfl ?_
                refine r_ialoadE X dX7_step_103 hm76.2.2.2.1 ⟨by omega, by omega⟩ (by decide) (fC_s hs) ?_
                refine r_istore (L' := [(6, iv c), (5, iv (eve2 a b)), (4, iv (odd2 a b)), (3, iv 1), (0, .ref y), (1, iv p), (2, iv w)]) X dX7_step_104 (by decide) rfl ?_
                refine r_aload_n 4 X dX7_step_106 rfl ?_
                refine r_iload_n 5 X dX7_step_107 rfl ?_
                refine r_iload 2 X dX7_step_108 rfl ?_
                refine r_iload 1 X dX7_step_110 rfl ?_
                refine r_iload 0 X dX7_step_112 rfl ?_
                refine r_iload_n 6 X dX7_step_114 rfl ?_
                refine r_iconst X dX7_step_115 ?_
                refine r_callS_v X dX7_step_116 kX7_168 (c_X7_stepped (CX_l X) D z0 _ (odd2 a b) (eve2 a b) c w 0 ⟨by omega, by omega⟩ ⟨by omega, by omega⟩ ⟨by omega, by omega⟩ ⟨by omega, by omega⟩ (by omega)) [iv p, .ref y] rfl rfl (Nat.le_of_ble_eq_true rfl) (by decide) rfl rfl (by decide) ?_
                refine r_iload 2 X dX7_step_119 rfl ?_
                refine r_iload 1 X dX7_step_121 rfl ?_
                refine r_iload 0 X dX7_step_123 rfl ?_
                refine r_iload_n 6 X dX7_step_125 rfl ?_
                refine r_iconst X dX7_step_126 ?_
                refine r_callS_v X dX7_step_127 kX7_168 (c_X7_stepped (CX_l X) D z0 _ (odd2 a b) (eve2 a b) c w 1 ⟨by omega, by omega⟩ ⟨by omega, by omega⟩ ⟨by omega, by omega⟩ ⟨by omega, by omega⟩ (by omega)) [iv (stX w (odd2 a b) (eve2 a b) c), iv p, .ref y] rfl rfl (Nat.le_of_ble_eq_true rfl) (by decide) rfl rfl (by decide) ?_
                refine r_iload 2 X dX7_step_130 rfl ?_
                refine r_iload 1 X dX7_step_132 rfl ?_
                refine r_iload 0 X dX7_step_134 rfl ?_
                refine r_iload_n 6 X dX7_step_136 rfl ?_
                refine r_iconst X dX7_step_137 ?_
                refine r_callS_v X dX7_step_138 kX7_168 (c_X7_stepped (CX_l X) D z0 _ (odd2 a b) (eve2 a b) c w 2 ⟨by omega, by omega⟩ ⟨by omega, by omega⟩ ⟨by omega, by omega⟩ ⟨by omega, by omega⟩ (by omega)) [iv (stY w (odd2 a b) (eve2 a b) c), iv (stX w (odd2 a b) (eve2 a b) c), iv p, .ref y] rfl rfl (Nat.le_of_ble_eq_true rfl) (by decide) rfl rfl (by decide) ?_
                refine r_callV X dX7_step_141 kX7_60 hm76.1 (c_X7_hold (CX_l X) D z0 _ hm76 ht p (stX w (odd2 a b) (eve2 a b) c) (stY w (odd2 a b) (eve2 a b) c) (stZ w (odd2 a b) (eve2 a b) c) (by omega) ⟨by omega, by omega⟩ ⟨by omega, by omega⟩ ⟨by omega, by omega⟩) [] rfl rfl (Nat.le_of_ble_eq_true rfl) (by decide) (by decide) (fun _ _ z => z.elim) (fun v9 hq141 hv9 => ?_)
                obtain ⟨rfl, hm141, kp141⟩ := hv9
                have ht141 : TVs (up σ p.toNat (st3 (stX w (odd2 a b) (eve2 a b) c) (stY w (odd2 a b) (eve2 a b) c) (stZ w (odd2 a b) (eve2 a b) c))) := TVs_up (x := mn3 (stX w (odd2 a b) (eve2 a b) c) (stY w (odd2 a b) (eve2 a b) c) (stZ w (odd2 a b) (eve2 a b) c)) (y := md3 (stX w (odd2 a b) (eve2 a b) c) (stY w (odd2 a b) (eve2 a b) c) (stZ w (odd2 a b) (eve2 a b) c)) (z := mx3 (stX w (odd2 a b) (eve2 a b) c) (stY w (odd2 a b) (eve2 a b) c) (stZ w (odd2 a b) (eve2 a b) c)) ht p.toNat hv8
                show WW K D z0 7 hq141 0 0 144 [(6, iv c), (5, iv (eve2 a b)), (4, iv (odd2 a b)), (3, iv 1), (0, .ref y), (1, iv p), (2, iv w)] []
                refine r_aload_n 4 X dX7_step_144 rfl ?_
                refine r_getf X dX7_step_145 fX7_16 hm141.1 rfl ?_
                refine r_iload_n 5 X dX7_step_148 rfl ?_
                refine r_ialoadE X dX7_step_149 hm141.2.2.2.1 ⟨by omega, by omega⟩ (by decide) (fC_s (up_s _ _ _)) ?_
                refine r_iret X Y dX7_step_150 (by decide) (by decide) ?_
                have e3 : (onT σ p (fun a b c => st3 (stX w (odd2 a b) (eve2 a b) c) (stY w (odd2 a b) (eve2 a b) c) (stZ w (odd2 a b) (eve2 a b) c))) = st3 (stX w (odd2 a b) (eve2 a b) c) (stY w (odd2 a b) (eve2 a b) c) (stZ w (odd2 a b) (eve2 a b) c) := onT_s hs
                rw [← e3] at hm141
                exact MO_k (by rw [cdSt_k (by omega) (by omega) hs, if_pos (by assumption)]) rfl (by rw [on_s hs]) hm141 (Keep_tr kp76 kp141)
              · exfalso
                omega
          · refine r_iconst X dX7_step_58 ?_
            refine r_goto 76 X dX7_step_59 (by decide) ?_
            refine r_callV X dX7_step_76 kX7_57 hm.1 (c_X7_isWrong (CX_l X) D z0 _ hm 3 ⟨by omega, by omega⟩) [] rfl rfl (Nat.le_of_ble_eq_true rfl) (by decide) (by decide) (fun _ _ z => z.elim) (fun v9 hq76 hv9 => ?_)
            obtain ⟨rfl, hm76, kp76⟩ := hv9
            show WW K D z0 7 hq76 0 0 79 [(3, iv 1), (0, .ref y), (1, iv p), (2, iv w)] [iv 1]
            refine r_if_eq 84 X dX7_step_79 (by decide) ⟨by omega, by omega⟩ (fun c79 => ?_) (fun c79 => ?_)
            · exfalso
              omega
            · refine r_iconst X dX7_step_82 ?_
              refine r_iret X Y dX7_step_83 (by decide) (by decide) ?_
              exact MO_w (by unfold cdSt; (try simp only [isNone_f, isNone_t, true_or, or_true, false_or, or_false]); (repeat' split) <;> first | rfl | omega | contradiction | (exfalso; simp_all; done) | (exfalso; simp_all; omega)) (by first | decide | omega) hm76 kp76
        · exfalso
          omega
      · refine r_iconst X dX7_step_38 ?_
        refine r_goto 76 X dX7_step_39 (by decide) ?_
        refine r_callV X dX7_step_76 kX7_57 hm.1 (c_X7_isWrong (CX_l X) D z0 _ hm 1 ⟨by omega, by omega⟩) [] rfl rfl (Nat.le_of_ble_eq_true rfl) (by decide) (by decide) (fun _ _ z => z.elim) (fun v9 hq76 hv9 => ?_)
        obtain ⟨rfl, hm76, kp76⟩ := hv9
        show WW K D z0 7 hq76 0 0 79 [(3, iv 1), (0, .ref y), (1, iv p), (2, iv w)] [iv 1]
        refine r_if_eq 84 X dX7_step_79 (by decide) ⟨by omega, by omega⟩ (fun c79 => ?_) (fun c79 => ?_)
        · exfalso
          omega
        · refine r_iconst X dX7_step_82 ?_
          refine r_iret X Y dX7_step_83 (by decide) (by decide) ?_
          exact MO_w (by unfold cdSt; (try simp only [isNone_f, isNone_t, true_or, or_true, false_or, or_false]); (repeat' split) <;> first | rfl | omega | contradiction | (exfalso; simp_all; done) | (exfalso; simp_all; omega)) (by first | decide | omega) hm76 kp76
    · refine r_iload_n 2 X dX7_step_12 rfl ?_
      refine r_bipush X dX7_step_13 (by decide) ?_
      refine r_icmp_eq 24 X dX7_step_15 (by decide) ⟨by omega, by omega⟩ ⟨by omega, by omega⟩ (fun c15 => ?_) (fun c15 => ?_)
      · refine r_iconst X dX7_step_24 ?_
        refine r_goto 29 X dX7_step_25 (by decide) ?_
        refine r_istore_n (L' := [(3, iv 1), (0, .ref y), (1, iv p), (2, iv w)]) X dX7_step_29 (by decide) rfl ?_
        refine r_aload_n 1 X dX7_step_30 rfl ?_
        refine r_iload_n 2 X dX7_step_31 rfl ?_
        refine r_callS_v X dX7_step_32 kX7_41 (c_X7_isPlace (CX_l X) D z0 _ p ⟨by omega, by omega⟩) [.ref y] rfl rfl (Nat.le_of_ble_eq_true rfl) (by decide) rfl rfl (by decide) ?_
        refine r_ifb_ne 42 X dX7_step_35 (by decide) (fun c35 => ?_) (fun c35 => ?_)
        · refine r_iload_n 0 X dX7_step_42 rfl ?_
          refine r_if_ne 50 X dX7_step_43 (by decide) ⟨by omega, by omega⟩ (fun c43 => ?_) (fun c43 => ?_)
          · refine r_aload_n 1 X dX7_step_50 rfl ?_
            refine r_iload_n 2 X dX7_step_51 rfl ?_
            refine r_callV_v X dX7_step_52 kX7_45 hm.1 (c_X7_isThere (CX_l X) D z0 _ hm ht p (by omega)) [.ref y] rfl rfl (Nat.le_of_ble_eq_true rfl) (by decide) rfl rfl (by decide) ?_
            refine r_ifb_ne 62 X dX7_step_55 (by decide) (fun c55 => ?_) (fun c55 => ?_)
            · obtain ⟨a, b, c, hs⟩ := some_of (σ := σ) (i := p.toNat) (by assumption)
              have hv := ht p.toNat (by omega) a b c hs
              have hb := TV_b hv
              refine r_aload_n 1 X dX7_step_62 rfl ?_
              refine r_iload_n 2 X dX7_step_63 rfl ?_
              refine r_iload_n 3 X dX7_step_64 rfl ?_
              refine r_callV_v X dX7_step_65 kX7_172 hm.1 (c_X7_canStep (CX_l X) D z0 _ hm ht p (by omega) a b c hs w (by omega)) [.ref y] rfl rfl (Nat.le_of_ble_eq_true rfl) (by decide) rfl rfl (by decide) ?_
              refine r_ifb_eq 75 X dX7_step_68 (by decide) (fun c68 => ?_) (fun c68 => ?_)
              · refine r_iconst X dX7_step_75 ?_
                refine r_callV X dX7_step_76 kX7_57 hm.1 (c_X7_isWrong (CX_l X) D z0 _ hm 4 ⟨by omega, by omega⟩) [] rfl rfl (Nat.le_of_ble_eq_true rfl) (by decide) (by decide) (fun _ _ z => z.elim) (fun v9 hq76 hv9 => ?_)
                obtain ⟨rfl, hm76, kp76⟩ := hv9
                show WW K D z0 7 hq76 0 0 79 [(3, iv 1), (0, .ref y), (1, iv p), (2, iv w)] [iv 1]
                refine r_if_eq 84 X dX7_step_79 (by decide) ⟨by omega, by omega⟩ (fun c79 => ?_) (fun c79 => ?_)
                · exfalso
                  omega
                · refine r_iconst X dX7_step_82 ?_
                  refine r_iret X Y dX7_step_83 (by decide) (by decide) ?_
                  exact MO_w (by rw [cdSt_k (by omega) (by omega) hs, if_neg (by assumption)]) (by first | decide | omega) hm76 kp76
              · refine r_iconst X dX7_step_71 ?_
                refine r_goto 76 X dX7_step_72 (by decide) ?_
                refine r_callV X dX7_step_76 kX7_57 hm.1 (c_X7_isWrong (CX_l X) D z0 _ hm 0 ⟨by omega, by omega⟩) [] rfl rfl (Nat.le_of_ble_eq_true rfl) (by decide) (by decide) (fun _ _ z => z.elim) (fun v9 hq76 hv9 => ?_)
                obtain ⟨rfl, hm76, kp76⟩ := hv9
                show WW K D z0 7 hq76 0 0 79 [(3, iv 1), (0, .ref y), (1, iv p), (2, iv w)] [iv 0]
                refine r_if_eq 84 X dX7_step_79 (by decide) ⟨by omega, by omega⟩ (fun c79 => ?_) (fun c79 => ?_)
                · have hoe : (0 ≤ odd2 a b ∧ odd2 a b ≤ 65535) ∧ 0 ≤ eve2 a b ∧ eve2 a b ≤ 65535 := by
                    unfold odd2 eve2
                    split <;> omega
                  have hsb := st_b (w := w) hoe.1 hoe.2 (show 0 ≤ c ∧ c ≤ 65535 by omega)
                  have hk3 : sqb3 a b c 2 = 0 ∧ gcd3 a b c = 1 ∧ stK w (odd2 a b) (eve2 a b) c := by assumption
                  have hpt := PT_of hv hk3.1 hk3.2.1
                  have hv8 : TV (mn3 (stX w (odd2 a b) (eve2 a b) c) (stY w (odd2 a b) (eve2 a b) c) (stZ w (odd2 a b) (eve2 a b) c)) (md3 (stX w (odd2 a b) (eve2 a b) c) (stY w (odd2 a b) (eve2 a b) c) (stZ w (odd2 a b) (eve2 a b) c)) (mx3 (stX w (odd2 a b) (eve2 a b) c) (stY w (odd2 a b) (eve2 a b) c) (stZ w (odd2 a b) (eve2 a b) c)) := by
                    rcases hk3.2.2 with ⟨w1, w2⟩ | ⟨w1, w2⟩
                    · have hc5 : 5 < c := by
                        apply Int.not_le.mp
                        intro z5
                        have := pt_5 hpt z5
                        omega
                      have hbt := bk_TV hpt hc5 (by omega)
                      rw [← w1] at hbt
                      exact hbt.2
                    · exact st_TV3 hpt w1 ((st_sd hpt w1).mpr w2)
                  refine r_aload_n 1 X dX7_step_84 rfl ?_
                  refine r_iload_n 2 X dX7_step_85 rfl ?_
                  refine r_callV_v X dX7_step_86 kX7_162 hm76.1 (c_X7_odd (CX_l X) D z0 _ hm76 ht p (by omega) a b c hs ) [] rfl rfl (Nat.le_of_ble_eq_true rfl) (by decide) rfl rfl (by decide) ?_
                  refine r_istore (L' := [(4, iv (odd2 a b)), (3, iv 1), (0, .ref y), (1, iv p), (2, iv w)]) X dX7_step_89 (by decide) rfl ?_
                  refine r_aload_n 2 X dX7_step_91 rfl ?_
                  refine r_iload_n 3 X dX7_step_92 rfl ?_
                  refine r_callV_v X dX7_step_93 kX7_165 hm76.1 (c_X7_even (CX_l X) D z0 _ hm76 ht p (by omega) a b c hs ) [] rfl rfl (Nat.le_of_ble_eq_true rfl) (by decide) rfl rfl (by decide) ?_
                  refine r_istore (L' := [(5, iv (eve2 a b)), (4, iv (odd2 a b)), (3, iv 1), (0, .ref y), (1, iv p), (2, iv w)]) X dX7_step_96 (by decide) rfl ?_
                  refine r_aload_n 3 X dX7_step_98 rfl ?_
                  refine r_getf X dX7_step_99 fX7_16 hm76.1 rfl ?_
                  refine r_iload_n 4 X dX7_step_102 rfl ?_
                  refine r_ialoadE X dX7_step_103 hm76.2.2.2.1 ⟨by omega, by omega⟩ (by decide) (fC_s hs) ?_
                  refine r_istore (L' := [(6, iv c), (5, iv (eve2 a b)), (4, iv (odd2 a b)), (3, iv 1), (0, .ref y), (1, iv p), (2, iv w)]) X dX7_step_104 (by decide) rfl ?_
                  refine r_aload_n 4 X dX7_step_106 rfl ?_
                  refine r_iload_n 5 X dX7_step_107 rfl ?_
                  refine r_iload 2 X dX7_step_108 rfl ?_
                  refine r_iload 1 X dX7_step_110 rfl ?_
                  refine r_iload 0 X dX7_step_112 rfl ?_
                  refine r_iload_n 6 X dX7_step_114 rfl ?_
                  refine r_iconst X dX7_step_115 ?_
                  refine r_callS_v X dX7_step_116 kX7_168 (c_X7_stepped (CX_l X) D z0 _ (odd2 a b) (eve2 a b) c w 0 ⟨by omega, by omega⟩ ⟨by omega, by omega⟩ ⟨by omega, by omega⟩ ⟨by omega, by omega⟩ (by omega)) [iv p, .ref y] rfl rfl (Nat.le_of_ble_eq_true rfl) (by decide) rfl rfl (by decide) ?_
                  refine r_iload 2 X dX7_step_119 rfl ?_
                  refine r_iload 1 X dX7_step_121 rfl ?_
                  refine r_iload 0 X dX7_step_123 rfl ?_
                  refine r_iload_n 6 X dX7_step_125 rfl ?_
                  refine r_iconst X dX7_step_126 ?_
                  refine r_callS_v X dX7_step_127 kX7_168 (c_X7_stepped (CX_l X) D z0 _ (odd2 a b) (eve2 a b) c w 1 ⟨by omega, by omega⟩ ⟨by omega, by omega⟩ ⟨by omega, by omega⟩ ⟨by omega, by omega⟩ (by omega)) [iv (stX w (odd2 a b) (eve2 a b) c), iv p, .ref y] rfl rfl (Nat.le_of_ble_eq_true rfl) (by decide) rfl rfl (by decide) ?_
                  refine r_iload 2 X dX7_step_130 rfl ?_
                  refine r_iload 1 X dX7_step_132 rfl ?_
                  refine r_iload 0 X dX7_step_134 rfl ?_
                  refine r_iload_n 6 X dX7_step_136 rfl ?_
                  refine r_iconst X dX7_step_137 ?_
                  refine r_callS_v X dX7_step_138 kX7_168 (c_X7_stepped (CX_l X) D z0 _ (odd2 a b) (eve2 a b) c w 2 ⟨by omega, by omega⟩ ⟨by omega, by omega⟩ ⟨by omega, by omega⟩ ⟨by omega, by omega⟩ (by omega)) [iv (stY w (odd2 a b) (eve2 a b) c), iv (stX w (odd2 a b) (eve2 a b) c), iv p, .ref y] rfl rfl (Nat.le_of_ble_eq_true rfl) (by decide) rfl rfl (by decide) ?_
                  refine r_callV X dX7_step_141 kX7_60 hm76.1 (c_X7_hold (CX_l X) D z0 _ hm76 ht p (stX w (odd2 a b) (eve2 a b) c) (stY w (odd2 a b) (eve2 a b) c) (stZ w (odd2 a b) (eve2 a b) c) (by omega) ⟨by omega, by omega⟩ ⟨by omega, by omega⟩ ⟨by omega, by omega⟩) [] rfl rfl (Nat.le_of_ble_eq_true rfl) (by decide) (by decide) (fun _ _ z => z.elim) (fun v9 hq141 hv9 => ?_)
                  obtain ⟨rfl, hm141, kp141⟩ := hv9
                  have ht141 : TVs (up σ p.toNat (st3 (stX w (odd2 a b) (eve2 a b) c) (stY w (odd2 a b) (eve2 a b) c) (stZ w (odd2 a b) (eve2 a b) c))) := TVs_up (x := mn3 (stX w (odd2 a b) (eve2 a b) c) (stY w (odd2 a b) (eve2 a b) c) (stZ w (odd2 a b) (eve2 a b) c)) (y := md3 (stX w (odd2 a b) (eve2 a b) c) (stY w (odd2 a b) (eve2 a b) c) (stZ w (odd2 a b) (eve2 a b) c)) (z := mx3 (stX w (odd2 a b) (eve2 a b) c) (stY w (odd2 a b) (eve2 a b) c) (stZ w (odd2 a b) (eve2 a b) c)) ht p.toNat hv8
                  show WW K D z0 7 hq141 0 0 144 [(6, iv c), (5, iv (eve2 a b)), (4, iv (odd2 a b)), (3, iv 1), (0, .ref y), (1, iv p), (2, iv w)] []
                  refine r_aload_n 4 X dX7_step_144 rfl ?_
                  refine r_getf X dX7_step_145 fX7_16 hm141.1 rfl ?_
                  refine r_iload_n 5 X dX7_step_148 rfl ?_
                  refine r_ialoadE X dX7_step_149 hm141.2.2.2.1 ⟨by omega, by omega⟩ (by decide) (fC_s (up_s _ _ _)) ?_
                  refine r_iret X Y dX7_step_150 (by decide) (by decide) ?_
                  have e3 : (onT σ p (fun a b c => st3 (stX w (odd2 a b) (eve2 a b) c) (stY w (odd2 a b) (eve2 a b) c) (stZ w (odd2 a b) (eve2 a b) c))) = st3 (stX w (odd2 a b) (eve2 a b) c) (stY w (odd2 a b) (eve2 a b) c) (stZ w (odd2 a b) (eve2 a b) c) := onT_s hs
                  rw [← e3] at hm141
                  exact MO_k (by rw [cdSt_k (by omega) (by omega) hs, if_pos (by assumption)]) rfl (by rw [on_s hs]) hm141 (Keep_tr kp76 kp141)
                · exfalso
                  omega
            · refine r_iconst X dX7_step_58 ?_
              refine r_goto 76 X dX7_step_59 (by decide) ?_
              refine r_callV X dX7_step_76 kX7_57 hm.1 (c_X7_isWrong (CX_l X) D z0 _ hm 3 ⟨by omega, by omega⟩) [] rfl rfl (Nat.le_of_ble_eq_true rfl) (by decide) (by decide) (fun _ _ z => z.elim) (fun v9 hq76 hv9 => ?_)
              obtain ⟨rfl, hm76, kp76⟩ := hv9
              show WW K D z0 7 hq76 0 0 79 [(3, iv 1), (0, .ref y), (1, iv p), (2, iv w)] [iv 1]
              refine r_if_eq 84 X dX7_step_79 (by decide) ⟨by omega, by omega⟩ (fun c79 => ?_) (fun c79 => ?_)
              · exfalso
                omega
              · refine r_iconst X dX7_step_82 ?_
                refine r_iret X Y dX7_step_83 (by decide) (by decide) ?_
                exact MO_w (by unfold cdSt; (try simp only [isNone_f, isNone_t, true_or, or_true, false_or, or_false]); (repeat' split) <;> first | rfl | omega | contradiction | (exfalso; simp_all; done) | (exfalso; simp_all; omega)) (by first | decide | omega) hm76 kp76
          · exfalso
            omega
        · refine r_iconst X dX7_step_38 ?_
          refine r_goto 76 X dX7_step_39 (by decide) ?_
          refine r_callV X dX7_step_76 kX7_57 hm.1 (c_X7_isWrong (CX_l X) D z0 _ hm 1 ⟨by omega, by omega⟩) [] rfl rfl (Nat.le_of_ble_eq_true rfl) (by decide) (by decide) (fun _ _ z => z.elim) (fun v9 hq76 hv9 => ?_)
          obtain ⟨rfl, hm76, kp76⟩ := hv9
          show WW K D z0 7 hq76 0 0 79 [(3, iv 1), (0, .ref y), (1, iv p), (2, iv w)] [iv 1]
          refine r_if_eq 84 X dX7_step_79 (by decide) ⟨by omega, by omega⟩ (fun c79 => ?_) (fun c79 => ?_)
          · exfalso
            omega
          · refine r_iconst X dX7_step_82 ?_
            refine r_iret X Y dX7_step_83 (by decide) (by decide) ?_
            exact MO_w (by unfold cdSt; (try simp only [isNone_f, isNone_t, true_or, or_true, false_or, or_false]); (repeat' split) <;> first | rfl | omega | contradiction | (exfalso; simp_all; done) | (exfalso; simp_all; omega)) (by first | decide | omega) hm76 kp76
      · refine r_iload_n 2 X dX7_step_18 rfl ?_
        refine r_bipush X dX7_step_19 (by decide) ?_
        refine r_icmp_ne 28 X dX7_step_21 (by decide) ⟨by omega, by omega⟩ ⟨by omega, by omega⟩ (fun c21 => ?_) (fun c21 => ?_)
        · refine r_iconst X dX7_step_28 ?_
          refine r_istore_n (L' := [(3, iv 0), (0, .ref y), (1, iv p), (2, iv w)]) X dX7_step_29 (by decide) rfl ?_
          refine r_aload_n 1 X dX7_step_30 rfl ?_
          refine r_iload_n 2 X dX7_step_31 rfl ?_
          refine r_callS_v X dX7_step_32 kX7_41 (c_X7_isPlace (CX_l X) D z0 _ p ⟨by omega, by omega⟩) [.ref y] rfl rfl (Nat.le_of_ble_eq_true rfl) (by decide) rfl rfl (by decide) ?_
          refine r_ifb_ne 42 X dX7_step_35 (by decide) (fun c35 => ?_) (fun c35 => ?_)
          · refine r_iload_n 0 X dX7_step_42 rfl ?_
            refine r_if_ne 50 X dX7_step_43 (by decide) ⟨by omega, by omega⟩ (fun c43 => ?_) (fun c43 => ?_)
            · exfalso
              omega
            · refine r_iconst X dX7_step_46 ?_
              refine r_goto 76 X dX7_step_47 (by decide) ?_
              refine r_callV X dX7_step_76 kX7_57 hm.1 (c_X7_isWrong (CX_l X) D z0 _ hm 2 ⟨by omega, by omega⟩) [] rfl rfl (Nat.le_of_ble_eq_true rfl) (by decide) (by decide) (fun _ _ z => z.elim) (fun v9 hq76 hv9 => ?_)
              obtain ⟨rfl, hm76, kp76⟩ := hv9
              show WW K D z0 7 hq76 0 0 79 [(3, iv 0), (0, .ref y), (1, iv p), (2, iv w)] [iv 1]
              refine r_if_eq 84 X dX7_step_79 (by decide) ⟨by omega, by omega⟩ (fun c79 => ?_) (fun c79 => ?_)
              · exfalso
                omega
              · refine r_iconst X dX7_step_82 ?_
                refine r_iret X Y dX7_step_83 (by decide) (by decide) ?_
                exact MO_w (by unfold cdSt; (try simp only [isNone_f, isNone_t, true_or, or_true, false_or, or_false]); (repeat' split) <;> first | rfl | omega | contradiction | (exfalso; simp_all; done) | (exfalso; simp_all; omega)) (by first | decide | omega) hm76 kp76
          · refine r_iconst X dX7_step_38 ?_
            refine r_goto 76 X dX7_step_39 (by decide) ?_
            refine r_callV X dX7_step_76 kX7_57 hm.1 (c_X7_isWrong (CX_l X) D z0 _ hm 1 ⟨by omega, by omega⟩) [] rfl rfl (Nat.le_of_ble_eq_true rfl) (by decide) (by decide) (fun _ _ z => z.elim) (fun v9 hq76 hv9 => ?_)
            obtain ⟨rfl, hm76, kp76⟩ := hv9
            show WW K D z0 7 hq76 0 0 79 [(3, iv 0), (0, .ref y), (1, iv p), (2, iv w)] [iv 1]
            refine r_if_eq 84 X dX7_step_79 (by decide) ⟨by omega, by omega⟩ (fun c79 => ?_) (fun c79 => ?_)
            · exfalso
              omega
            · refine r_iconst X dX7_step_82 ?_
              refine r_iret X Y dX7_step_83 (by decide) (by decide) ?_
              exact MO_w (by unfold cdSt; (try simp only [isNone_f, isNone_t, true_or, or_true, false_or, or_false]); (repeat' split) <;> first | rfl | omega | contradiction | (exfalso; simp_all; done) | (exfalso; simp_all; omega)) (by first | decide | omega) hm76 kp76
        · refine r_iconst X dX7_step_24 ?_
          refine r_goto 29 X dX7_step_25 (by decide) ?_
          refine r_istore_n (L' := [(3, iv 1), (0, .ref y), (1, iv p), (2, iv w)]) X dX7_step_29 (by decide) rfl ?_
          refine r_aload_n 1 X dX7_step_30 rfl ?_
          refine r_iload_n 2 X dX7_step_31 rfl ?_
          refine r_callS_v X dX7_step_32 kX7_41 (c_X7_isPlace (CX_l X) D z0 _ p ⟨by omega, by omega⟩) [.ref y] rfl rfl (Nat.le_of_ble_eq_true rfl) (by decide) rfl rfl (by decide) ?_
          refine r_ifb_ne 42 X dX7_step_35 (by decide) (fun c35 => ?_) (fun c35 => ?_)
          · refine r_iload_n 0 X dX7_step_42 rfl ?_
            refine r_if_ne 50 X dX7_step_43 (by decide) ⟨by omega, by omega⟩ (fun c43 => ?_) (fun c43 => ?_)
            · refine r_aload_n 1 X dX7_step_50 rfl ?_
              refine r_iload_n 2 X dX7_step_51 rfl ?_
              refine r_callV_v X dX7_step_52 kX7_45 hm.1 (c_X7_isThere (CX_l X) D z0 _ hm ht p (by omega)) [.ref y] rfl rfl (Nat.le_of_ble_eq_true rfl) (by decide) rfl rfl (by decide) ?_
              refine r_ifb_ne 62 X dX7_step_55 (by decide) (fun c55 => ?_) (fun c55 => ?_)
              · obtain ⟨a, b, c, hs⟩ := some_of (σ := σ) (i := p.toNat) (by assumption)
                have hv := ht p.toNat (by omega) a b c hs
                have hb := TV_b hv
                refine r_aload_n 1 X dX7_step_62 rfl ?_
                refine r_iload_n 2 X dX7_step_63 rfl ?_
                refine r_iload_n 3 X dX7_step_64 rfl ?_
                refine r_callV_v X dX7_step_65 kX7_172 hm.1 (c_X7_canStep (CX_l X) D z0 _ hm ht p (by omega) a b c hs w (by omega)) [.ref y] rfl rfl (Nat.le_of_ble_eq_true rfl) (by decide) rfl rfl (by decide) ?_
                refine r_ifb_eq 75 X dX7_step_68 (by decide) (fun c68 => ?_) (fun c68 => ?_)
                · refine r_iconst X dX7_step_75 ?_
                  refine r_callV X dX7_step_76 kX7_57 hm.1 (c_X7_isWrong (CX_l X) D z0 _ hm 4 ⟨by omega, by omega⟩) [] rfl rfl (Nat.le_of_ble_eq_true rfl) (by decide) (by decide) (fun _ _ z => z.elim) (fun v9 hq76 hv9 => ?_)
                  obtain ⟨rfl, hm76, kp76⟩ := hv9
                  show WW K D z0 7 hq76 0 0 79 [(3, iv 1), (0, .ref y), (1, iv p), (2, iv w)] [iv 1]
                  refine r_if_eq 84 X dX7_step_79 (by decide) ⟨by omega, by omega⟩ (fun c79 => ?_) (fun c79 => ?_)
                  · exfalso
                    omega
                  · refine r_iconst X dX7_step_82 ?_
                    refine r_iret X Y dX7_step_83 (by decide) (by decide) ?_
                    exact MO_w (by rw [cdSt_k (by omega) (by omega) hs, if_neg (by assumption)]) (by first | decide | omega) hm76 kp76
                · refine r_iconst X dX7_step_71 ?_
                  refine r_goto 76 X dX7_step_72 (by decide) ?_
                  refine r_callV X dX7_step_76 kX7_57 hm.1 (c_X7_isWrong (CX_l X) D z0 _ hm 0 ⟨by omega, by omega⟩) [] rfl rfl (Nat.le_of_ble_eq_true rfl) (by decide) (by decide) (fun _ _ z => z.elim) (fun v9 hq76 hv9 => ?_)
                  obtain ⟨rfl, hm76, kp76⟩ := hv9
                  show WW K D z0 7 hq76 0 0 79 [(3, iv 1), (0, .ref y), (1, iv p), (2, iv w)] [iv 0]
                  refine r_if_eq 84 X dX7_step_79 (by decide) ⟨by omega, by omega⟩ (fun c79 => ?_) (fun c79 => ?_)
                  · have hoe : (0 ≤ odd2 a b ∧ odd2 a b ≤ 65535) ∧ 0 ≤ eve2 a b ∧ eve2 a b ≤ 65535 := by
                      unfold odd2 eve2
                      split <;> omega
                    have hsb := st_b (w := w) hoe.1 hoe.2 (show 0 ≤ c ∧ c ≤ 65535 by omega)
                    have hk3 : sqb3 a b c 2 = 0 ∧ gcd3 a b c = 1 ∧ stK w (odd2 a b) (eve2 a b) c := by assumption
                    have hpt := PT_of hv hk3.1 hk3.2.1
                    have hv8 : TV (mn3 (stX w (odd2 a b) (eve2 a b) c) (stY w (odd2 a b) (eve2 a b) c) (stZ w (odd2 a b) (eve2 a b) c)) (md3 (stX w (odd2 a b) (eve2 a b) c) (stY w (odd2 a b) (eve2 a b) c) (stZ w (odd2 a b) (eve2 a b) c)) (mx3 (stX w (odd2 a b) (eve2 a b) c) (stY w (odd2 a b) (eve2 a b) c) (stZ w (odd2 a b) (eve2 a b) c)) := by
                      rcases hk3.2.2 with ⟨w1, w2⟩ | ⟨w1, w2⟩
                      · have hc5 : 5 < c := by
                          apply Int.not_le.mp
                          intro z5
                          have := pt_5 hpt z5
                          omega
                        have hbt := bk_TV hpt hc5 (by omega)
                        rw [← w1] at hbt
                        exact hbt.2
                      · exact st_TV3 hpt w1 ((st_sd hpt w1).mpr w2)
                    refine r_aload_n 1 X dX7_step_84 rfl ?_
                    refine r_iload_n 2 X dX7_step_85 rfl ?_
                    refine r_callV_v X dX7_step_86 kX7_162 hm76.1 (c_X7_odd (CX_l X) D z0 _ hm76 ht p (by omega) a b c hs ) [] rfl rfl (Nat.le_of_ble_eq_true rfl) (by decide) rfl rfl (by decide) ?_
                    refine r_istore (L' := [(4, iv (odd2 a b)), (3, iv 1), (0, .ref y), (1, iv p), (2, iv w)]) X dX7_step_89 (by decide) rfl ?_
                    refine r_aload_n 2 X dX7_step_91 rfl ?_
                    refine r_iload_n 3 X dX7_step_92 rfl ?_
                    refine r_callV_v X dX7_step_93 kX7_165 hm76.1 (c_X7_even (CX_l X) D z0 _ hm76 ht p (by omega) a b c hs ) [] rfl rfl (Nat.le_of_ble_eq_true rfl) (by decide) rfl rfl (by decide) ?_
                    refine r_istore (L' := [(5, iv (eve2 a b)), (4, iv (odd2 a b)), (3, iv 1), (0, .ref y), (1, iv p), (2, iv w)]) X dX7_step_96 (by decide) rfl ?_
                    refine r_aload_n 3 X dX7_step_98 rfl ?_
                    refine r_getf X dX7_step_99 fX7_16 hm76.1 rfl ?_
                    refine r_iload_n 4 X dX7_step_102 rfl ?_
                    refine r_ialoadE X dX7_step_103 hm76.2.2.2.1 ⟨by omega, by omega⟩ (by decide) (fC_s hs) ?_
                    refine r_istore (L' := [(6, iv c), (5, iv (eve2 a b)), (4, iv (odd2 a b)), (3, iv 1), (0, .ref y), (1, iv p), (2, iv w)]) X dX7_step_104 (by decide) rfl ?_
                    refine r_aload_n 4 X dX7_step_106 rfl ?_
                    refine r_iload_n 5 X dX7_step_107 rfl ?_
                    refine r_iload 2 X dX7_step_108 rfl ?_
                    refine r_iload 1 X dX7_step_110 rfl ?_
                    refine r_iload 0 X dX7_step_112 rfl ?_
                    refine r_iload_n 6 X dX7_step_114 rfl ?_
                    refine r_iconst X dX7_step_115 ?_
                    refine r_callS_v X dX7_step_116 kX7_168 (c_X7_stepped (CX_l X) D z0 _ (odd2 a b) (eve2 a b) c w 0 ⟨by omega, by omega⟩ ⟨by omega, by omega⟩ ⟨by omega, by omega⟩ ⟨by omega, by omega⟩ (by omega)) [iv p, .ref y] rfl rfl (Nat.le_of_ble_eq_true rfl) (by decide) rfl rfl (by decide) ?_
                    refine r_iload 2 X dX7_step_119 rfl ?_
                    refine r_iload 1 X dX7_step_121 rfl ?_
                    refine r_iload 0 X dX7_step_123 rfl ?_
                    refine r_iload_n 6 X dX7_step_125 rfl ?_
                    refine r_iconst X dX7_step_126 ?_
                    refine r_callS_v X dX7_step_127 kX7_168 (c_X7_stepped (CX_l X) D z0 _ (odd2 a b) (eve2 a b) c w 1 ⟨by omega, by omega⟩ ⟨by omega, by omega⟩ ⟨by omega, by omega⟩ ⟨by omega, by omega⟩ (by omega)) [iv (stX w (odd2 a b) (eve2 a b) c), iv p, .ref y] rfl rfl (Nat.le_of_ble_eq_true rfl) (by decide) rfl rfl (by decide) ?_
                    refine r_iload 2 X dX7_step_130 rfl ?_
                    refine r_iload 1 X dX7_step_132 rfl ?_
                    refine r_iload 0 X dX7_step_134 rfl ?_
                    refine r_iload_n 6 X dX7_step_136 rfl ?_
                    refine r_iconst X dX7_step_137 ?_
                    refine r_callS_v X dX7_step_138 kX7_168 (c_X7_stepped (CX_l X) D z0 _ (odd2 a b) (eve2 a b) c w 2 ⟨by omega, by omega⟩ ⟨by omega, by omega⟩ ⟨by omega, by omega⟩ ⟨by omega, by omega⟩ (by omega)) [iv (stY w (odd2 a b) (eve2 a b) c), iv (stX w (odd2 a b) (eve2 a b) c), iv p, .ref y] rfl rfl (Nat.le_of_ble_eq_true rfl) (by decide) rfl rfl (by decide) ?_
                    refine r_callV X dX7_step_141 kX7_60 hm76.1 (c_X7_hold (CX_l X) D z0 _ hm76 ht p (stX w (odd2 a b) (eve2 a b) c) (stY w (odd2 a b) (eve2 a b) c) (stZ w (odd2 a b) (eve2 a b) c) (by omega) ⟨by omega, by omega⟩ ⟨by omega, by omega⟩ ⟨by omega, by omega⟩) [] rfl rfl (Nat.le_of_ble_eq_true rfl) (by decide) (by decide) (fun _ _ z => z.elim) (fun v9 hq141 hv9 => ?_)
                    obtain ⟨rfl, hm141, kp141⟩ := hv9
                    have ht141 : TVs (up σ p.toNat (st3 (stX w (odd2 a b) (eve2 a b) c) (stY w (odd2 a b) (eve2 a b) c) (stZ w (odd2 a b) (eve2 a b) c))) := TVs_up (x := mn3 (stX w (odd2 a b) (eve2 a b) c) (stY w (odd2 a b) (eve2 a b) c) (stZ w (odd2 a b) (eve2 a b) c)) (y := md3 (stX w (odd2 a b) (eve2 a b) c) (stY w (odd2 a b) (eve2 a b) c) (stZ w (odd2 a b) (eve2 a b) c)) (z := mx3 (stX w (odd2 a b) (eve2 a b) c) (stY w (odd2 a b) (eve2 a b) c) (stZ w (odd2 a b) (eve2 a b) c)) ht p.toNat hv8
                    show WW K D z0 7 hq141 0 0 144 [(6, iv c), (5, iv (eve2 a b)), (4, iv (odd2 a b)), (3, iv 1), (0, .ref y), (1, iv p), (2, iv w)] []
                    refine r_aload_n 4 X dX7_step_144 rfl ?_
                    refine r_getf X dX7_step_145 fX7_16 hm141.1 rfl ?_
                    refine r_iload_n 5 X dX7_step_148 rfl ?_
                    refine r_ialoadE X dX7_step_149 hm141.2.2.2.1 ⟨by omega, by omega⟩ (by decide) (fC_s (up_s _ _ _)) ?_
                    refine r_iret X Y dX7_step_150 (by decide) (by decide) ?_
                    have e3 : (onT σ p (fun a b c => st3 (stX w (odd2 a b) (eve2 a b) c) (stY w (odd2 a b) (eve2 a b) c) (stZ w (odd2 a b) (eve2 a b) c))) = st3 (stX w (odd2 a b) (eve2 a b) c) (stY w (odd2 a b) (eve2 a b) c) (stZ w (odd2 a b) (eve2 a b) c) := onT_s hs
                    rw [← e3] at hm141
                    exact MO_k (by rw [cdSt_k (by omega) (by omega) hs, if_pos (by assumption)]) rfl (by rw [on_s hs]) hm141 (Keep_tr kp76 kp141)
                  · exfalso
                    omega
              · refine r_iconst X dX7_step_58 ?_
                refine r_goto 76 X dX7_step_59 (by decide) ?_
                refine r_callV X dX7_step_76 kX7_57 hm.1 (c_X7_isWrong (CX_l X) D z0 _ hm 3 ⟨by omega, by omega⟩) [] rfl rfl (Nat.le_of_ble_eq_true rfl) (by decide) (by decide) (fun _ _ z => z.elim) (fun v9 hq76 hv9 => ?_)
                obtain ⟨rfl, hm76, kp76⟩ := hv9
                show WW K D z0 7 hq76 0 0 79 [(3, iv 1), (0, .ref y), (1, iv p), (2, iv w)] [iv 1]
                refine r_if_eq 84 X dX7_step_79 (by decide) ⟨by omega, by omega⟩ (fun c79 => ?_) (fun c79 => ?_)
                · exfalso
                  omega
                · refine r_iconst X dX7_step_82 ?_
                  refine r_iret X Y dX7_step_83 (by decide) (by decide) ?_
                  exact MO_w (by unfold cdSt; (try simp only [isNone_f, isNone_t, true_or, or_true, false_or, or_false]); (repeat' split) <;> first | rfl | omega | contradiction | (exfalso; simp_all; done) | (exfalso; simp_all; omega)) (by first | decide | omega) hm76 kp76
            · exfalso
              omega
          · refine r_iconst X dX7_step_38 ?_
            refine r_goto 76 X dX7_step_39 (by decide) ?_
            refine r_callV X dX7_step_76 kX7_57 hm.1 (c_X7_isWrong (CX_l X) D z0 _ hm 1 ⟨by omega, by omega⟩) [] rfl rfl (Nat.le_of_ble_eq_true rfl) (by decide) (by decide) (fun _ _ z => z.elim) (fun v9 hq76 hv9 => ?_)
            obtain ⟨rfl, hm76, kp76⟩ := hv9
            show WW K D z0 7 hq76 0 0 79 [(3, iv 1), (0, .ref y), (1, iv p), (2, iv w)] [iv 1]
            refine r_if_eq 84 X dX7_step_79 (by decide) ⟨by omega, by omega⟩ (fun c79 => ?_) (fun c79 => ?_)
            · exfalso
              omega
            · refine r_iconst X dX7_step_82 ?_
              refine r_iret X Y dX7_step_83 (by decide) (by decide) ?_
              exact MO_w (by unfold cdSt; (try simp only [isNone_f, isNone_t, true_or, or_true, false_or, or_false]); (repeat' split) <;> first | rfl | omega | contradiction | (exfalso; simp_all; done) | (exfalso; simp_all; omega)) (by first | decide | omega) hm76 kp76
abbrev rX7_depth : Room := { frames := 3, cells := 0, slots := 0, locals := 67 }
theorem c_X7_depth {l : Launch} (hl : l.stackTraces = false) (D : va_G) (z0 : Nat) (h : Hp) {y : Nat} {v : Nat → Nat} {σ : Tg} {e1 e2 e3 od : Nat → Int} {lc oc tc hi lo rf sq : Int} (hm : Mz D h y v (fA σ) (fB σ) (fC σ) e1 e2 e3 od lc oc tc hi lo rf sq) (ht : TVs σ) (p : Int) (hp0 : I32 p) : CC l yX7_depth cX7_depth 9 (some .int) rX7_depth D z0 h [.ref y, iv p] (MO D y v σ σ e1 e2 e3 od lc oc (cdPr σ p) (iv (vDe σ p)) (iv 0) h) NX := by
  refine CC_of RX7 hl (by decide) rfl (Nat.le_of_ble_eq_true rfl) (fun K X Y Z hmn hKl => ?_)
  subst hKl
  show WW K D z0 9 h 0 0 0 [(0, .ref y), (1, iv p)] []
  refine r_aload_n 0 X dX7_depth_0 rfl ?_
  refine r_iload_n 1 X dX7_depth_1 rfl ?_
  refine r_iconst X dX7_depth_2 ?_
  refine r_callV_v X dX7_depth_3 kX7_68 hm.1 (c_X7_missing (CX_l X) D z0 _ hm ht p 2 ⟨by omega, by omega⟩) [] rfl rfl (Nat.le_of_ble_eq_true rfl) (by decide) rfl rfl (by decide) ?_
  refine r_istore_n (L' := [(2, iv (ms σ p 2)), (0, .ref y), (1, iv p)]) X dX7_depth_6 (by decide) rfl ?_
  refine r_aload_n 1 X dX7_depth_7 rfl ?_
  refine r_iload_n 0 X dX7_depth_8 rfl ?_
  refine r_if_eq 16 X dX7_depth_9 (by decide) (ms_b ⟨by decide, by decide⟩) (fun c9 => ?_) (fun c9 => ?_)
  · have hcd : ms σ p 2 = 0 := by omega
    obtain ⟨hp_p, a, b, c, hs⟩ := ms_0 (by decide) hcd
    have hv := ht p.toNat (by omega) a b c hs
    have hb := TV_b hv
    refine r_aload_n 1 X dX7_depth_16 rfl ?_
    refine r_iload_n 2 X dX7_depth_17 rfl ?_
    refine r_callV_v X dX7_depth_18 kX7_159 hm.1 (c_X7_isPrimitive (CX_l X) D z0 _ hm ht p (by omega) a b c hs ) [.ref y] rfl rfl (Nat.le_of_ble_eq_true rfl) (by decide) rfl rfl (by decide) ?_
    refine r_ifb_eq 28 X dX7_depth_21 (by decide) (fun c21 => ?_) (fun c21 => ?_)
    · refine r_iconst X dX7_depth_28 ?_
      refine r_callV X dX7_depth_29 kX7_57 hm.1 (c_X7_isWrong (CX_l X) D z0 _ hm 3 ⟨by omega, by omega⟩) [] rfl rfl (Nat.le_of_ble_eq_true rfl) (by decide) (by decide) (fun _ _ z => z.elim) (fun v9 hq29 hv9 => ?_)
      obtain ⟨rfl, hm29, kp29⟩ := hv9
      show WW K D z0 9 hq29 0 0 32 [(2, iv (ms σ p 2)), (0, .ref y), (1, iv p)] [iv 1]
      refine r_if_eq 37 X dX7_depth_32 (by decide) ⟨by omega, by omega⟩ (fun c32 => ?_) (fun c32 => ?_)
      · exfalso
        omega
      · refine r_iconst X dX7_depth_35 ?_
        refine r_iret X Y dX7_depth_36 (by decide) (by decide) ?_
        exact MO_w (by unfold cdPr; rw [if_neg (fun z => z hp_p), hs, if_neg (by simp), on_s hs, on_s hs, if_neg (by assumption)]) (by first | decide | omega) hm29 kp29
    · refine r_iconst X dX7_depth_24 ?_
      refine r_goto 29 X dX7_depth_25 (by decide) ?_
      refine r_callV X dX7_depth_29 kX7_57 hm.1 (c_X7_isWrong (CX_l X) D z0 _ hm 0 ⟨by omega, by omega⟩) [] rfl rfl (Nat.le_of_ble_eq_true rfl) (by decide) (by decide) (fun _ _ z => z.elim) (fun v9 hq29 hv9 => ?_)
      obtain ⟨rfl, hm29, kp29⟩ := hv9
      show WW K D z0 9 hq29 0 0 32 [(2, iv (ms σ p 2)), (0, .ref y), (1, iv p)] [iv 0]
      refine r_if_eq 37 X dX7_depth_32 (by decide) ⟨by omega, by omega⟩ (fun c32 => ?_) (fun c32 => ?_)
      · have hk3 : sqb3 a b c 2 = 0 ∧ gcd3 a b c = 1 := by assumption
        have hpt := PT_of hv hk3.1 hk3.2
        have hpl := pt_lt hpt
        have hp1 := hpt.1
        have hp2 := hpt.2.1
        refine r_aload_n 1 X dX7_depth_37 rfl ?_
        refine r_iload_n 2 X dX7_depth_38 rfl ?_
        refine r_callV_v X dX7_depth_39 kX7_162 hm29.1 (c_X7_odd (CX_l X) D z0 _ hm29 ht p (by omega) a b c hs ) [] rfl rfl (Nat.le_of_ble_eq_true rfl) (by decide) rfl rfl (by decide) ?_
        refine r_istore_n (L' := [(3, iv (odd2 a b)), (2, iv (ms σ p 2)), (0, .ref y), (1, iv p)]) X dX7_depth_42 (by decide) rfl ?_
        refine r_aload_n 2 X dX7_depth_43 rfl ?_
        refine r_iload_n 3 X dX7_depth_44 rfl ?_
        refine r_callV_v X dX7_depth_45 kX7_165 hm29.1 (c_X7_even (CX_l X) D z0 _ hm29 ht p (by omega) a b c hs ) [] rfl rfl (Nat.le_of_ble_eq_true rfl) (by decide) rfl rfl (by decide) ?_
        refine r_istore (L' := [(4, iv (eve2 a b)), (3, iv (odd2 a b)), (2, iv (ms σ p 2)), (0, .ref y), (1, iv p)]) X dX7_depth_48 (by decide) rfl ?_
        refine r_aload_n 3 X dX7_depth_50 rfl ?_
        refine r_getf X dX7_depth_51 fX7_16 hm29.1 rfl ?_
        refine r_iload_n 4 X dX7_depth_54 rfl ?_
        refine r_ialoadE X dX7_depth_55 hm29.2.2.2.1 ⟨by omega, by omega⟩ (by decide) (fC_s hs) ?_
        refine r_istore (L' := [(5, iv c), (4, iv (eve2 a b)), (3, iv (odd2 a b)), (2, iv (ms σ p 2)), (0, .ref y), (1, iv p)]) X dX7_depth_56 (by decide) rfl ?_
        refine r_iconst X dX7_depth_58 ?_
        refine r_istore (L' := [(6, iv 0), (5, iv c), (4, iv (eve2 a b)), (3, iv (odd2 a b)), (2, iv (ms σ p 2)), (0, .ref y), (1, iv p)]) X dX7_depth_59 (by decide) rfl ?_
        obtain ⟨R, hR0⟩ : ∃ R, dpN 256 (odd2 a b) (eve2 a b) c = R := ⟨_, rfl⟩
        have loop : ∀ (m : Nat) (x9 y9 z : Int) (t : Nat), t + m = 256 → PT x9 y9 z → z + x9 ≤ 2 * ((m : Int) * (m : Int)) → z ≤ 65535 → t + dpN m x9 y9 z = R → WW K D z0 9 hq29 0 0 61 [(6, iv (t : Int)), (5, iv z), (4, iv y9), (3, iv x9)] [] := by
          intro m
          induction m with
          | zero =>
            intro x9 y9 z t ht9 hpp hu hz hR
            have := hpp.1
            have := hpp.2.2.1
            rw [show ((0 : Nat) : Int) * ((0 : Nat) : Int) = 0 from rfl] at hu
            omega
          | succ m ih =>
            intro x9 y9 z t ht9 hpp hu hz hR
            have hpl9 := pt_lt hpp
            have hp19 := hpp.1
            have hp29 := hpp.2.1
            have hp39 := hpp.2.2.1
            refine r_iload 1 X dX7_depth_61 rfl ?_
            refine r_iconst X dX7_depth_63 ?_
            refine r_icmp_le 119 X dX7_depth_64 (by decide) ⟨by omega, by omega⟩ ⟨by omega, by omega⟩ (fun c64 => ?_) (fun c64 => ?_)
            · refine r_iload 0 X dX7_depth_119 rfl ?_
              refine r_iret X Y dX7_depth_121 (by decide) (by decide) ?_
              rw [dpN_s, if_neg (show ¬ 5 < z by omega)] at hR
              exact MO_k (by unfold cdPr; rw [if_neg (fun z => z hp_p), hs, if_neg (by simp), on_s hs, on_s hs, if_pos hk3]) rfl (congrArg iv (show (t : Int) = vDe σ p by unfold vDe; rw [on_s hs]; omega)) hm29 kp29
            · have hz5 : 5 < z := by omega
              refine r_iload_n 3 X dX7_depth_67 rfl ?_
              refine r_iload 2 X dX7_depth_68 rfl ?_
              refine r_iload 1 X dX7_depth_70 rfl ?_
              refine r_bipush X dX7_depth_72 (by decide) ?_
              refine r_iconst X dX7_depth_74 ?_
              refine r_callS_v X dX7_depth_75 kX7_168 (c_X7_stepped (CX_l X) D z0 _ x9 y9 z 112 0 ⟨by omega, by omega⟩ ⟨by omega, by omega⟩ ⟨by omega, by omega⟩ ⟨by omega, by omega⟩ (by omega)) [] rfl rfl (Nat.le_of_ble_eq_true rfl) (by decide) rfl rfl (by decide) ?_
              refine r_istore (L' := [(7, iv (stX 112 x9 y9 z)), (6, iv (t : Int)), (5, iv z), (4, iv y9), (3, iv x9)]) X dX7_depth_78 (by decide) rfl ?_
              refine r_iload_n 4 X dX7_depth_80 rfl ?_
              refine r_iload 3 X dX7_depth_81 rfl ?_
              refine r_iload 2 X dX7_depth_83 rfl ?_
              refine r_bipush X dX7_depth_85 (by decide) ?_
              refine r_iconst X dX7_depth_87 ?_
              refine r_callS_v X dX7_depth_88 kX7_168 (c_X7_stepped (CX_l X) D z0 _ x9 y9 z 112 1 ⟨by omega, by omega⟩ ⟨by omega, by omega⟩ ⟨by omega, by omega⟩ ⟨by omega, by omega⟩ (by omega)) [] rfl rfl (Nat.le_of_ble_eq_true rfl) (by decide) rfl rfl (by decide) ?_
              refine r_istore (L' := [(8, iv (stY 112 x9 y9 z)), (7, iv (stX 112 x9 y9 z)), (6, iv (t : Int)), (5, iv z), (4, iv y9), (3, iv x9)]) X dX7_depth_91 (by decide) rfl ?_
              refine r_iload_n 5 X dX7_depth_93 rfl ?_
              refine r_iload 4 X dX7_depth_94 rfl ?_
              refine r_iload 3 X dX7_depth_96 rfl ?_
              refine r_bipush X dX7_depth_98 (by decide) ?_
              refine r_iconst X dX7_depth_100 ?_
              refine r_callS_v X dX7_depth_101 kX7_168 (c_X7_stepped (CX_l X) D z0 _ x9 y9 z 112 2 ⟨by omega, by omega⟩ ⟨by omega, by omega⟩ ⟨by omega, by omega⟩ ⟨by omega, by omega⟩ (by omega)) [] rfl rfl (Nat.le_of_ble_eq_true rfl) (by decide) rfl rfl (by decide) ?_
              refine r_istore (L' := [(5, iv (stZ 112 x9 y9 z)), (8, iv (stY 112 x9 y9 z)), (7, iv (stX 112 x9 y9 z)), (6, iv (t : Int)), (4, iv y9), (3, iv x9)]) X dX7_depth_104 (by decide) rfl ?_
              refine r_iload 2 X dX7_depth_106 rfl ?_
              refine r_istore_n (L' := [(3, iv (stX 112 x9 y9 z)), (5, iv (stZ 112 x9 y9 z)), (8, iv (stY 112 x9 y9 z)), (7, iv (stX 112 x9 y9 z)), (6, iv (t : Int)), (4, iv y9)]) X dX7_depth_108 (by decide) rfl ?_
              refine r_iload 2 X dX7_depth_109 rfl ?_
              refine r_istore (L' := [(4, iv (stY 112 x9 y9 z)), (3, iv (stX 112 x9 y9 z)), (5, iv (stZ 112 x9 y9 z)), (8, iv (stY 112 x9 y9 z)), (7, iv (stX 112 x9 y9 z)), (6, iv (t : Int))]) X dX7_depth_111 (by decide) rfl ?_
              refine r_iinc 5 (L' := [(6, iv ((t : Int) + 1)), (4, iv (stY 112 x9 y9 z)), (3, iv (stX 112 x9 y9 z)), (5, iv (stZ 112 x9 y9 z)), (8, iv (stY 112 x9 y9 z)), (7, iv (stX 112 x9 y9 z))]) X dX7_depth_113 rfl (by decide) rfl ?_
              refine r_goto 61 X dX7_depth_116 (by decide) ?_
              refine WW_sub (L' := [(6, iv ((t : Int) + 1)), (5, iv (stZ 112 x9 y9 z)), (4, iv (stY 112 x9 y9 z)), (3, iv (stX 112 x9 y9 z))]) [0, 3, 1, 2] rfl ?_
              have hb := pt_back hpp hz5
              have hpo := pt_pot (k := ((m + 1 : Nat) : Int)) hpp (by omega) hu
              rw [dpN_s, if_pos hz5] at hR
              exact ih (((x9 + 2 * y9 - 2 * z).natAbs : Nat) : Int) (((2 * x9 + y9 - 2 * z).natAbs : Nat) : Int) (3 * z - 2 * x9 - 2 * y9) (t + 1) (by omega) hb.1 (by rw [show (m : Int) = ((m + 1 : Nat) : Int) - 1 by omega]; exact hpo) (by omega) (by omega)
        refine WW_sub (L' := [(6, iv 0), (5, iv c), (4, iv (eve2 a b)), (3, iv (odd2 a b))]) [0, 1, 2, 3] rfl ?_
        exact loop 256 (odd2 a b) (eve2 a b) c 0 rfl hpt (by omega) (by omega) (by omega)
      · exfalso
        omega
  · refine r_iload_n 0 X dX7_depth_12 rfl ?_
    refine r_goto 29 X dX7_depth_13 (by decide) ?_
    refine r_callV X dX7_depth_29 kX7_57 hm.1 (c_X7_isWrong (CX_l X) D z0 _ hm (ms σ p 2) (ms_b ⟨by decide, by decide⟩)) [] rfl rfl (Nat.le_of_ble_eq_true rfl) (by decide) (by decide) (fun _ _ z => z.elim) (fun v9 hq29 hv9 => ?_)
    obtain ⟨rfl, hm29, kp29⟩ := hv9
    show WW K D z0 9 hq29 0 0 32 [(2, iv (ms σ p 2)), (0, .ref y), (1, iv p)] [iv (if (ms σ p 2) ≠ 0 then 1 else 0)]
    refine r_ifb_eq 37 X dX7_depth_32 (by decide) (fun c32 => ?_) (fun c32 => ?_)
    · exfalso
      omega
    · refine r_iconst X dX7_depth_35 ?_
      refine r_iret X Y dX7_depth_36 (by decide) (by decide) ?_
      exact MO_w (cdPr_ms (by omega)) (by first | decide | omega) hm29 kp29
abbrev rX7_generator : Room := { frames := 3, cells := 0, slots := 0, locals := 67 }
theorem c_X7_generator {l : Launch} (hl : l.stackTraces = false) (D : va_G) (z0 : Nat) (h : Hp) {y : Nat} {v : Nat → Nat} {σ : Tg} {e1 e2 e3 od : Nat → Int} {lc oc tc hi lo rf sq : Int} (hm : Mz D h y v (fA σ) (fB σ) (fC σ) e1 e2 e3 od lc oc tc hi lo rf sq) (ht : TVs σ) (p : Int) (hp0 : I32 p) (w : Int) (hw : 0 ≤ w ∧ w ≤ 65535) : CC l yX7_generator cX7_generator 6 (some .int) rX7_generator D z0 h [.ref y, iv p, iv w] (MO D y v σ σ e1 e2 e3 od lc oc (cdGe σ p w) (iv (vGe σ p w)) (iv 0) h) NX := by
  refine CC_of RX7 hl (by decide) rfl (Nat.le_of_ble_eq_true rfl) (fun K X Y Z hmn hKl => ?_)
  subst hKl
  show WW K D z0 6 h 0 0 0 [(0, .ref y), (1, iv p), (2, iv w)] []
  refine r_iload_n 2 X dX7_generator_0 rfl ?_
  refine r_bipush X dX7_generator_1 (by decide) ?_
  refine r_icmp_eq 12 X dX7_generator_3 (by decide) ⟨by omega, by omega⟩ ⟨by omega, by omega⟩ (fun c3 => ?_) (fun c3 => ?_)
  · refine r_iconst X dX7_generator_12 ?_
    refine r_goto 17 X dX7_generator_13 (by decide) ?_
    refine r_istore_n (L' := [(3, iv 1), (0, .ref y), (1, iv p), (2, iv w)]) X dX7_generator_17 (by decide) rfl ?_
    refine r_aload_n 1 X dX7_generator_18 rfl ?_
    refine r_iload_n 2 X dX7_generator_19 rfl ?_
    refine r_callS_v X dX7_generator_20 kX7_41 (c_X7_isPlace (CX_l X) D z0 _ p ⟨by omega, by omega⟩) [.ref y] rfl rfl (Nat.le_of_ble_eq_true rfl) (by decide) rfl rfl (by decide) ?_
    refine r_ifb_ne 30 X dX7_generator_23 (by decide) (fun c23 => ?_) (fun c23 => ?_)
    · refine r_iload_n 0 X dX7_generator_30 rfl ?_
      refine r_if_ne 38 X dX7_generator_31 (by decide) ⟨by omega, by omega⟩ (fun c31 => ?_) (fun c31 => ?_)
      · refine r_aload_n 1 X dX7_generator_38 rfl ?_
        refine r_iload_n 2 X dX7_generator_39 rfl ?_
        refine r_callV_v X dX7_generator_40 kX7_45 hm.1 (c_X7_isThere (CX_l X) D z0 _ hm ht p (by omega)) [.ref y] rfl rfl (Nat.le_of_ble_eq_true rfl) (by decide) rfl rfl (by decide) ?_
        refine r_ifb_ne 50 X dX7_generator_43 (by decide) (fun c43 => ?_) (fun c43 => ?_)
        · obtain ⟨a, b, c, hs⟩ := some_of (σ := σ) (i := p.toNat) (by assumption)
          have hv := ht p.toNat (by omega) a b c hs
          have hb := TV_b hv
          refine r_aload_n 1 X dX7_generator_50 rfl ?_
          refine r_iload_n 2 X dX7_generator_51 rfl ?_
          refine r_callV_v X dX7_generator_52 kX7_159 hm.1 (c_X7_isPrimitive (CX_l X) D z0 _ hm ht p (by omega) a b c hs ) [.ref y] rfl rfl (Nat.le_of_ble_eq_true rfl) (by decide) rfl rfl (by decide) ?_
          refine r_ifb_eq 62 X dX7_generator_55 (by decide) (fun c55 => ?_) (fun c55 => ?_)
          · refine r_iconst X dX7_generator_62 ?_
            refine r_callV X dX7_generator_63 kX7_57 hm.1 (c_X7_isWrong (CX_l X) D z0 _ hm 4 ⟨by omega, by omega⟩) [] rfl rfl (Nat.le_of_ble_eq_true rfl) (by decide) (by decide) (fun _ _ z => z.elim) (fun v9 hq63 hv9 => ?_)
            obtain ⟨rfl, hm63, kp63⟩ := hv9
            show WW K D z0 6 hq63 0 0 66 [(3, iv 1), (0, .ref y), (1, iv p), (2, iv w)] [iv 1]
            refine r_if_eq 71 X dX7_generator_66 (by decide) ⟨by omega, by omega⟩ (fun c66 => ?_) (fun c66 => ?_)
            · exfalso
              omega
            · refine r_iconst X dX7_generator_69 ?_
              refine r_iret X Y dX7_generator_70 (by decide) (by decide) ?_
              exact MO_w (by unfold cdGe; rw [if_neg (fun z => z (by omega)), if_neg (by omega), hs, if_neg (by simp), on_s hs, on_s hs, if_neg (by assumption)]) (by first | decide | omega) hm63 kp63
          · refine r_iconst X dX7_generator_58 ?_
            refine r_goto 63 X dX7_generator_59 (by decide) ?_
            refine r_callV X dX7_generator_63 kX7_57 hm.1 (c_X7_isWrong (CX_l X) D z0 _ hm 0 ⟨by omega, by omega⟩) [] rfl rfl (Nat.le_of_ble_eq_true rfl) (by decide) (by decide) (fun _ _ z => z.elim) (fun v9 hq63 hv9 => ?_)
            obtain ⟨rfl, hm63, kp63⟩ := hv9
            show WW K D z0 6 hq63 0 0 66 [(3, iv 1), (0, .ref y), (1, iv p), (2, iv w)] [iv 0]
            refine r_if_eq 71 X dX7_generator_66 (by decide) ⟨by omega, by omega⟩ (fun c66 => ?_) (fun c66 => ?_)
            · have hk3 : sqb3 a b c 2 = 0 ∧ gcd3 a b c = 1 := by assumption
              have hpt := PT_of hv hk3.1 hk3.2
              have hpl := pt_lt hpt
              have hp1 := hpt.1
              obtain ⟨M, N, hN1, hNM, hM, hN, -, -, -⟩ := PT_mn hpt
              have hcd9 : cdGe σ p w = 0 := by unfold cdGe; rw [if_neg (fun z => z (by omega)), if_neg (by omega), hs, if_neg (by simp), on_s hs, on_s hs, if_pos hk3]
              have hoe : 1 ≤ odd2 a b ∧ odd2 a b ≤ 65535 := by unfold odd2; split <;> omega
              refine r_iconst X dX7_generator_71 ?_
              refine r_istore (L' := [(4, iv 1), (3, iv 1), (0, .ref y), (1, iv p), (2, iv w)]) X dX7_generator_72 (by decide) rfl ?_
              refine r_iload_n 4 X dX7_generator_74 rfl ?_
              refine r_bipush X dX7_generator_75 (by decide) ?_
              refine r_icmp_ne 95 X dX7_generator_77 (by decide) ⟨by omega, by omega⟩ ⟨by omega, by omega⟩ (fun c77 => ?_) (fun c77 => ?_)
              · refine r_aload_n 2 X dX7_generator_95 rfl ?_
                refine r_getf X dX7_generator_96 fX7_16 hm63.1 rfl ?_
                refine r_iload_n 3 X dX7_generator_99 rfl ?_
                refine r_ialoadE X dX7_generator_100 hm63.2.2.2.1 ⟨by omega, by omega⟩ (by decide) (fC_s hs) ?_
                refine r_aload_n 2 X dX7_generator_101 rfl ?_
                refine r_iload_n 3 X dX7_generator_102 rfl ?_
                refine r_callV_v X dX7_generator_103 kX7_162 hm63.1 (c_X7_odd (CX_l X) D z0 _ hm63 ht p (by omega) a b c hs ) [iv c] rfl rfl (Nat.le_of_ble_eq_true rfl) (by decide) rfl rfl (by decide) ?_
                refine r_isub X dX7_generator_106 ?_
                refine r_iconst X dX7_generator_107 ?_
                refine r_idiv X dX7_generator_108 ⟨by omega, by omega⟩ ⟨by omega, by omega⟩ ?_
                refine r_istore (L' := [(5, iv ((c - (odd2 a b)) / 2)), (4, iv 1), (3, iv 1), (0, .ref y), (1, iv p), (2, iv w)]) X dX7_generator_109 (by decide) rfl ?_
                have eV : ((N * N : Nat) : Int) = (N : Int) * N := rfl
                have hV2 : N * N ≤ 65535 := by omega
                have loop : ∀ (q i : Nat), i + q = N → 1 ≤ i → WW K D z0 6 hq63 0 0 111 [(5, iv ((N * N : Nat) : Int)), (4, iv (i : Int))] [] := by
                  intro q
                  induction q with
                  | zero =>
                    intro i hi hi1
                    have hi2 := Nat.mul_le_mul (show i ≤ N by omega) (show i ≤ N by omega)
                    have hie : ((i * i : Nat) : Int) = (i : Int) * i := rfl
                    refine r_iload 1 X dX7_generator_111 rfl ?_
                    refine r_iload 1 X dX7_generator_113 rfl ?_
                    refine r_imul X dX7_generator_115 ?_
                    refine r_iload 0 X dX7_generator_116 rfl ?_
                    refine r_icmp_ge 127 X dX7_generator_118 (by decide) ⟨by omega, by omega⟩ ⟨by omega, by omega⟩ (fun c118 => ?_) (fun c118 => ?_)
                    · refine r_iload 1 X dX7_generator_127 rfl ?_
                      refine r_iret X Y dX7_generator_129 (by decide) (by decide) ?_
                      exact MO_k (by rw [hcd9]) rfl (congrArg iv (show (i : Int) = vGe σ p w by unfold vGe; rw [on_s hs, if_neg (by omega), show ((c - odd2 a b) / 2 : Int) = ((N * N : Nat) : Int) by omega, Int.toNat_natCast, isq_sq]; omega)) hm63 kp63
                    · exfalso
                      have : i = N := by omega
                      rw [this] at hie c118
                      omega
                  | succ q ih =>
                    intro i hi hi1
                    have hi2 := Nat.mul_le_mul (show i ≤ N by omega) (show i ≤ N by omega)
                    have hie : ((i * i : Nat) : Int) = (i : Int) * i := rfl
                    refine r_iload 1 X dX7_generator_111 rfl ?_
                    refine r_iload 1 X dX7_generator_113 rfl ?_
                    refine r_imul X dX7_generator_115 ?_
                    refine r_iload 0 X dX7_generator_116 rfl ?_
                    refine r_icmp_ge 127 X dX7_generator_118 (by decide) ⟨by omega, by omega⟩ ⟨by omega, by omega⟩ (fun c118 => ?_) (fun c118 => ?_)
                    · exfalso
                      have := Nat.mul_self_lt_mul_self (show i < N by omega)
                      omega
                    · refine r_iinc 1 (L' := [(4, iv ((i : Int) + 1)), (5, iv ((N * N : Nat) : Int))]) X dX7_generator_121 rfl (by decide) rfl ?_
                      refine r_goto 111 X dX7_generator_124 (by decide) ?_
                      refine WW_sub (L' := [(5, iv ((N * N : Nat) : Int)), (4, iv ((i : Int) + 1))]) [1, 0] rfl ?_
                      exact ih (i + 1) (by omega) (by omega)
                refine WW_sub (L' := [(5, iv ((c - (odd2 a b)) / 2)), (4, iv 1)]) [0, 1] rfl ?_
                rw [show (c - (odd2 a b)) / 2 = ((N * N : Nat) : Int) by omega]
                exact loop (N - 1) 1 (by omega) (by omega)
              · refine r_aload_n 2 X dX7_generator_80 rfl ?_
                refine r_getf X dX7_generator_81 fX7_16 hm63.1 rfl ?_
                refine r_iload_n 3 X dX7_generator_84 rfl ?_
                refine r_ialoadE X dX7_generator_85 hm63.2.2.2.1 ⟨by omega, by omega⟩ (by decide) (fC_s hs) ?_
                refine r_aload_n 2 X dX7_generator_86 rfl ?_
                refine r_iload_n 3 X dX7_generator_87 rfl ?_
                refine r_callV_v X dX7_generator_88 kX7_162 hm63.1 (c_X7_odd (CX_l X) D z0 _ hm63 ht p (by omega) a b c hs ) [iv c] rfl rfl (Nat.le_of_ble_eq_true rfl) (by decide) rfl rfl (by decide) ?_
                refine r_iadd X dX7_generator_91 ?_
                refine r_goto 107 X dX7_generator_92 (by decide) ?_
                refine r_iconst X dX7_generator_107 ?_
                refine r_idiv X dX7_generator_108 ⟨by omega, by omega⟩ ⟨by omega, by omega⟩ ?_
                refine r_istore (L' := [(5, iv ((c + (odd2 a b)) / 2)), (4, iv 1), (3, iv 1), (0, .ref y), (1, iv p), (2, iv w)]) X dX7_generator_109 (by decide) rfl ?_
                have eV : ((M * M : Nat) : Int) = (M : Int) * M := rfl
                have hV2 : M * M ≤ 65535 := by omega
                have loop : ∀ (q i : Nat), i + q = M → 1 ≤ i → WW K D z0 6 hq63 0 0 111 [(5, iv ((M * M : Nat) : Int)), (4, iv (i : Int))] [] := by
                  intro q
                  induction q with
                  | zero =>
                    intro i hi hi1
                    have hi2 := Nat.mul_le_mul (show i ≤ M by omega) (show i ≤ M by omega)
                    have hie : ((i * i : Nat) : Int) = (i : Int) * i := rfl
                    refine r_iload 1 X dX7_generator_111 rfl ?_
                    refine r_iload 1 X dX7_generator_113 rfl ?_
                    refine r_imul X dX7_generator_115 ?_
                    refine r_iload 0 X dX7_generator_116 rfl ?_
                    refine r_icmp_ge 127 X dX7_generator_118 (by decide) ⟨by omega, by omega⟩ ⟨by omega, by omega⟩ (fun c118 => ?_) (fun c118 => ?_)
                    · refine r_iload 1 X dX7_generator_127 rfl ?_
                      refine r_iret X Y dX7_generator_129 (by decide) (by decide) ?_
                      exact MO_k (by rw [hcd9]) rfl (congrArg iv (show (i : Int) = vGe σ p w by unfold vGe; rw [on_s hs, if_pos (by omega), show ((c + odd2 a b) / 2 : Int) = ((M * M : Nat) : Int) by omega, Int.toNat_natCast, isq_sq]; omega)) hm63 kp63
                    · exfalso
                      have : i = M := by omega
                      rw [this] at hie c118
                      omega
                  | succ q ih =>
                    intro i hi hi1
                    have hi2 := Nat.mul_le_mul (show i ≤ M by omega) (show i ≤ M by omega)
                    have hie : ((i * i : Nat) : Int) = (i : Int) * i := rfl
                    refine r_iload 1 X dX7_generator_111 rfl ?_
                    refine r_iload 1 X dX7_generator_113 rfl ?_
                    refine r_imul X dX7_generator_115 ?_
                    refine r_iload 0 X dX7_generator_116 rfl ?_
                    refine r_icmp_ge 127 X dX7_generator_118 (by decide) ⟨by omega, by omega⟩ ⟨by omega, by omega⟩ (fun c118 => ?_) (fun c118 => ?_)
                    · exfalso
                      have := Nat.mul_self_lt_mul_self (show i < M by omega)
                      omega
                    · refine r_iinc 1 (L' := [(4, iv ((i : Int) + 1)), (5, iv ((M * M : Nat) : Int))]) X dX7_generator_121 rfl (by decide) rfl ?_
                      refine r_goto 111 X dX7_generator_124 (by decide) ?_
                      refine WW_sub (L' := [(5, iv ((M * M : Nat) : Int)), (4, iv ((i : Int) + 1))]) [1, 0] rfl ?_
                      exact ih (i + 1) (by omega) (by omega)
                refine WW_sub (L' := [(5, iv ((c + (odd2 a b)) / 2)), (4, iv 1)]) [0, 1] rfl ?_
                rw [show (c + (odd2 a b)) / 2 = ((M * M : Nat) : Int) by omega]
                exact loop (M - 1) 1 (by omega) (by omega)
            · exfalso
              omega
        · refine r_iconst X dX7_generator_46 ?_
          refine r_goto 63 X dX7_generator_47 (by decide) ?_
          refine r_callV X dX7_generator_63 kX7_57 hm.1 (c_X7_isWrong (CX_l X) D z0 _ hm 3 ⟨by omega, by omega⟩) [] rfl rfl (Nat.le_of_ble_eq_true rfl) (by decide) (by decide) (fun _ _ z => z.elim) (fun v9 hq63 hv9 => ?_)
          obtain ⟨rfl, hm63, kp63⟩ := hv9
          show WW K D z0 6 hq63 0 0 66 [(3, iv 1), (0, .ref y), (1, iv p), (2, iv w)] [iv 1]
          refine r_if_eq 71 X dX7_generator_66 (by decide) ⟨by omega, by omega⟩ (fun c66 => ?_) (fun c66 => ?_)
          · exfalso
            omega
          · refine r_iconst X dX7_generator_69 ?_
            refine r_iret X Y dX7_generator_70 (by decide) (by decide) ?_
            exact MO_w (by unfold cdGe; (try simp only [isNone_f, isNone_t, true_or, or_true, false_or, or_false]); (repeat' split) <;> first | rfl | omega | contradiction | (exfalso; simp_all; done) | (exfalso; simp_all; omega)) (by first | decide | omega) hm63 kp63
      · exfalso
        omega
    · refine r_iconst X dX7_generator_26 ?_
      refine r_goto 63 X dX7_generator_27 (by decide) ?_
      refine r_callV X dX7_generator_63 kX7_57 hm.1 (c_X7_isWrong (CX_l X) D z0 _ hm 1 ⟨by omega, by omega⟩) [] rfl rfl (Nat.le_of_ble_eq_true rfl) (by decide) (by decide) (fun _ _ z => z.elim) (fun v9 hq63 hv9 => ?_)
      obtain ⟨rfl, hm63, kp63⟩ := hv9
      show WW K D z0 6 hq63 0 0 66 [(3, iv 1), (0, .ref y), (1, iv p), (2, iv w)] [iv 1]
      refine r_if_eq 71 X dX7_generator_66 (by decide) ⟨by omega, by omega⟩ (fun c66 => ?_) (fun c66 => ?_)
      · exfalso
        omega
      · refine r_iconst X dX7_generator_69 ?_
        refine r_iret X Y dX7_generator_70 (by decide) (by decide) ?_
        exact MO_w (by unfold cdGe; (try simp only [isNone_f, isNone_t, true_or, or_true, false_or, or_false]); (repeat' split) <;> first | rfl | omega | contradiction | (exfalso; simp_all; done) | (exfalso; simp_all; omega)) (by first | decide | omega) hm63 kp63
  · refine r_iload_n 2 X dX7_generator_6 rfl ?_
    refine r_bipush X dX7_generator_7 (by decide) ?_
    refine r_icmp_ne 16 X dX7_generator_9 (by decide) ⟨by omega, by omega⟩ ⟨by omega, by omega⟩ (fun c9 => ?_) (fun c9 => ?_)
    · refine r_iconst X dX7_generator_16 ?_
      refine r_istore_n (L' := [(3, iv 0), (0, .ref y), (1, iv p), (2, iv w)]) X dX7_generator_17 (by decide) rfl ?_
      refine r_aload_n 1 X dX7_generator_18 rfl ?_
      refine r_iload_n 2 X dX7_generator_19 rfl ?_
      refine r_callS_v X dX7_generator_20 kX7_41 (c_X7_isPlace (CX_l X) D z0 _ p ⟨by omega, by omega⟩) [.ref y] rfl rfl (Nat.le_of_ble_eq_true rfl) (by decide) rfl rfl (by decide) ?_
      refine r_ifb_ne 30 X dX7_generator_23 (by decide) (fun c23 => ?_) (fun c23 => ?_)
      · refine r_iload_n 0 X dX7_generator_30 rfl ?_
        refine r_if_ne 38 X dX7_generator_31 (by decide) ⟨by omega, by omega⟩ (fun c31 => ?_) (fun c31 => ?_)
        · exfalso
          omega
        · refine r_iconst X dX7_generator_34 ?_
          refine r_goto 63 X dX7_generator_35 (by decide) ?_
          refine r_callV X dX7_generator_63 kX7_57 hm.1 (c_X7_isWrong (CX_l X) D z0 _ hm 2 ⟨by omega, by omega⟩) [] rfl rfl (Nat.le_of_ble_eq_true rfl) (by decide) (by decide) (fun _ _ z => z.elim) (fun v9 hq63 hv9 => ?_)
          obtain ⟨rfl, hm63, kp63⟩ := hv9
          show WW K D z0 6 hq63 0 0 66 [(3, iv 0), (0, .ref y), (1, iv p), (2, iv w)] [iv 1]
          refine r_if_eq 71 X dX7_generator_66 (by decide) ⟨by omega, by omega⟩ (fun c66 => ?_) (fun c66 => ?_)
          · exfalso
            omega
          · refine r_iconst X dX7_generator_69 ?_
            refine r_iret X Y dX7_generator_70 (by decide) (by decide) ?_
            exact MO_w (by unfold cdGe; (try simp only [isNone_f, isNone_t, true_or, or_true, false_or, or_false]); (repeat' split) <;> first | rfl | omega | contradiction | (exfalso; simp_all; done) | (exfalso; simp_all; omega)) (by first | decide | omega) hm63 kp63
      · refine r_iconst X dX7_generator_26 ?_
        refine r_goto 63 X dX7_generator_27 (by decide) ?_
        refine r_callV X dX7_generator_63 kX7_57 hm.1 (c_X7_isWrong (CX_l X) D z0 _ hm 1 ⟨by omega, by omega⟩) [] rfl rfl (Nat.le_of_ble_eq_true rfl) (by decide) (by decide) (fun _ _ z => z.elim) (fun v9 hq63 hv9 => ?_)
        obtain ⟨rfl, hm63, kp63⟩ := hv9
        show WW K D z0 6 hq63 0 0 66 [(3, iv 0), (0, .ref y), (1, iv p), (2, iv w)] [iv 1]
        refine r_if_eq 71 X dX7_generator_66 (by decide) ⟨by omega, by omega⟩ (fun c66 => ?_) (fun c66 => ?_)
        · exfalso
          omega
        · refine r_iconst X dX7_generator_69 ?_
          refine r_iret X Y dX7_generator_70 (by decide) (by decide) ?_
          exact MO_w (by unfold cdGe; (try simp only [isNone_f, isNone_t, true_or, or_true, false_or, or_false]); (repeat' split) <;> first | rfl | omega | contradiction | (exfalso; simp_all; done) | (exfalso; simp_all; omega)) (by first | decide | omega) hm63 kp63
    · refine r_iconst X dX7_generator_12 ?_
      refine r_goto 17 X dX7_generator_13 (by decide) ?_
      refine r_istore_n (L' := [(3, iv 1), (0, .ref y), (1, iv p), (2, iv w)]) X dX7_generator_17 (by decide) rfl ?_
      refine r_aload_n 1 X dX7_generator_18 rfl ?_
      refine r_iload_n 2 X dX7_generator_19 rfl ?_
      refine r_callS_v X dX7_generator_20 kX7_41 (c_X7_isPlace (CX_l X) D z0 _ p ⟨by omega, by omega⟩) [.ref y] rfl rfl (Nat.le_of_ble_eq_true rfl) (by decide) rfl rfl (by decide) ?_
      refine r_ifb_ne 30 X dX7_generator_23 (by decide) (fun c23 => ?_) (fun c23 => ?_)
      · refine r_iload_n 0 X dX7_generator_30 rfl ?_
        refine r_if_ne 38 X dX7_generator_31 (by decide) ⟨by omega, by omega⟩ (fun c31 => ?_) (fun c31 => ?_)
        · refine r_aload_n 1 X dX7_generator_38 rfl ?_
          refine r_iload_n 2 X dX7_generator_39 rfl ?_
          refine r_callV_v X dX7_generator_40 kX7_45 hm.1 (c_X7_isThere (CX_l X) D z0 _ hm ht p (by omega)) [.ref y] rfl rfl (Nat.le_of_ble_eq_true rfl) (by decide) rfl rfl (by decide) ?_
          refine r_ifb_ne 50 X dX7_generator_43 (by decide) (fun c43 => ?_) (fun c43 => ?_)
          · obtain ⟨a, b, c, hs⟩ := some_of (σ := σ) (i := p.toNat) (by assumption)
            have hv := ht p.toNat (by omega) a b c hs
            have hb := TV_b hv
            refine r_aload_n 1 X dX7_generator_50 rfl ?_
            refine r_iload_n 2 X dX7_generator_51 rfl ?_
            refine r_callV_v X dX7_generator_52 kX7_159 hm.1 (c_X7_isPrimitive (CX_l X) D z0 _ hm ht p (by omega) a b c hs ) [.ref y] rfl rfl (Nat.le_of_ble_eq_true rfl) (by decide) rfl rfl (by decide) ?_
            refine r_ifb_eq 62 X dX7_generator_55 (by decide) (fun c55 => ?_) (fun c55 => ?_)
            · refine r_iconst X dX7_generator_62 ?_
              refine r_callV X dX7_generator_63 kX7_57 hm.1 (c_X7_isWrong (CX_l X) D z0 _ hm 4 ⟨by omega, by omega⟩) [] rfl rfl (Nat.le_of_ble_eq_true rfl) (by decide) (by decide) (fun _ _ z => z.elim) (fun v9 hq63 hv9 => ?_)
              obtain ⟨rfl, hm63, kp63⟩ := hv9
              show WW K D z0 6 hq63 0 0 66 [(3, iv 1), (0, .ref y), (1, iv p), (2, iv w)] [iv 1]
              refine r_if_eq 71 X dX7_generator_66 (by decide) ⟨by omega, by omega⟩ (fun c66 => ?_) (fun c66 => ?_)
              · exfalso
                omega
              · refine r_iconst X dX7_generator_69 ?_
                refine r_iret X Y dX7_generator_70 (by decide) (by decide) ?_
                exact MO_w (by unfold cdGe; rw [if_neg (fun z => z (by omega)), if_neg (by omega), hs, if_neg (by simp), on_s hs, on_s hs, if_neg (by assumption)]) (by first | decide | omega) hm63 kp63
            · refine r_iconst X dX7_generator_58 ?_
              refine r_goto 63 X dX7_generator_59 (by decide) ?_
              refine r_callV X dX7_generator_63 kX7_57 hm.1 (c_X7_isWrong (CX_l X) D z0 _ hm 0 ⟨by omega, by omega⟩) [] rfl rfl (Nat.le_of_ble_eq_true rfl) (by decide) (by decide) (fun _ _ z => z.elim) (fun v9 hq63 hv9 => ?_)
              obtain ⟨rfl, hm63, kp63⟩ := hv9
              show WW K D z0 6 hq63 0 0 66 [(3, iv 1), (0, .ref y), (1, iv p), (2, iv w)] [iv 0]
              refine r_if_eq 71 X dX7_generator_66 (by decide) ⟨by omega, by omega⟩ (fun c66 => ?_) (fun c66 => ?_)
              · have hk3 : sqb3 a b c 2 = 0 ∧ gcd3 a b c = 1 := by assumption
                have hpt := PT_of hv hk3.1 hk3.2
                have hpl := pt_lt hpt
                have hp1 := hpt.1
                obtain ⟨M, N, hN1, hNM, hM, hN, -, -, -⟩ := PT_mn hpt
                have hcd9 : cdGe σ p w = 0 := by unfold cdGe; rw [if_neg (fun z => z (by omega)), if_neg (by omega), hs, if_neg (by simp), on_s hs, on_s hs, if_pos hk3]
                have hoe : 1 ≤ odd2 a b ∧ odd2 a b ≤ 65535 := by unfold odd2; split <;> omega
                refine r_iconst X dX7_generator_71 ?_
                refine r_istore (L' := [(4, iv 1), (3, iv 1), (0, .ref y), (1, iv p), (2, iv w)]) X dX7_generator_72 (by decide) rfl ?_
                refine r_iload_n 4 X dX7_generator_74 rfl ?_
                refine r_bipush X dX7_generator_75 (by decide) ?_
                refine r_icmp_ne 95 X dX7_generator_77 (by decide) ⟨by omega, by omega⟩ ⟨by omega, by omega⟩ (fun c77 => ?_) (fun c77 => ?_)
                · refine r_aload_n 2 X dX7_generator_95 rfl ?_
                  refine r_getf X dX7_generator_96 fX7_16 hm63.1 rfl ?_
                  refine r_iload_n 3 X dX7_generator_99 rfl ?_
                  refine r_ialoadE X dX7_generator_100 hm63.2.2.2.1 ⟨by omega, by omega⟩ (by decide) (fC_s hs) ?_
                  refine r_aload_n 2 X dX7_generator_101 rfl ?_
                  refine r_iload_n 3 X dX7_generator_102 rfl ?_
                  refine r_callV_v X dX7_generator_103 kX7_162 hm63.1 (c_X7_odd (CX_l X) D z0 _ hm63 ht p (by omega) a b c hs ) [iv c] rfl rfl (Nat.le_of_ble_eq_true rfl) (by decide) rfl rfl (by decide) ?_
                  refine r_isub X dX7_generator_106 ?_
                  refine r_iconst X dX7_generator_107 ?_
                  refine r_idiv X dX7_generator_108 ⟨by omega, by omega⟩ ⟨by omega, by omega⟩ ?_
                  refine r_istore (L' := [(5, iv ((c - (odd2 a b)) / 2)), (4, iv 1), (3, iv 1), (0, .ref y), (1, iv p), (2, iv w)]) X dX7_generator_109 (by decide) rfl ?_
                  have eV : ((N * N : Nat) : Int) = (N : Int) * N := rfl
                  have hV2 : N * N ≤ 65535 := by omega
                  have loop : ∀ (q i : Nat), i + q = N → 1 ≤ i → WW K D z0 6 hq63 0 0 111 [(5, iv ((N * N : Nat) : Int)), (4, iv (i : Int))] [] := by
                    intro q
                    induction q with
                    | zero =>
                      intro i hi hi1
                      have hi2 := Nat.mul_le_mul (show i ≤ N by omega) (show i ≤ N by omega)
                      have hie : ((i * i : Nat) : Int) = (i : Int) * i := rfl
                      refine r_iload 1 X dX7_generator_111 rfl ?_
                      refine r_iload 1 X dX7_generator_113 rfl ?_
                      refine r_imul X dX7_generator_115 ?_
                      refine r_iload 0 X dX7_generator_116 rfl ?_
                      refine r_icmp_ge 127 X dX7_generator_118 (by decide) ⟨by omega, by omega⟩ ⟨by omega, by omega⟩ (fun c118 => ?_) (fun c118 => ?_)
                      · refine r_iload 1 X dX7_generator_127 rfl ?_
                        refine r_iret X Y dX7_generator_129 (by decide) (by decide) ?_
                        exact MO_k (by rw [hcd9]) rfl (congrArg iv (show (i : Int) = vGe σ p w by unfold vGe; rw [on_s hs, if_neg (by omega), show ((c - odd2 a b) / 2 : Int) = ((N * N : Nat) : Int) by omega, Int.toNat_natCast, isq_sq]; omega)) hm63 kp63
                      · exfalso
                        have : i = N := by omega
                        rw [this] at hie c118
                        omega
                    | succ q ih =>
                      intro i hi hi1
                      have hi2 := Nat.mul_le_mul (show i ≤ N by omega) (show i ≤ N by omega)
                      have hie : ((i * i : Nat) : Int) = (i : Int) * i := rfl
                      refine r_iload 1 X dX7_generator_111 rfl ?_
                      refine r_iload 1 X dX7_generator_113 rfl ?_
                      refine r_imul X dX7_generator_115 ?_
                      refine r_iload 0 X dX7_generator_116 rfl ?_
                      refine r_icmp_ge 127 X dX7_generator_118 (by decide) ⟨by omega, by omega⟩ ⟨by omega, by omega⟩ (fun c118 => ?_) (fun c118 => ?_)
                      · exfalso
                        have := Nat.mul_self_lt_mul_self (show i < N by omega)
                        omega
                      · refine r_iinc 1 (L' := [(4, iv ((i : Int) + 1)), (5, iv ((N * N : Nat) : Int))]) X dX7_generator_121 rfl (by decide) rfl ?_
                        refine r_goto 111 X dX7_generator_124 (by decide) ?_
                        refine WW_sub (L' := [(5, iv ((N * N : Nat) : Int)), (4, iv ((i : Int) + 1))]) [1, 0] rfl ?_
                        exact ih (i + 1) (by omega) (by omega)
                  refine WW_sub (L' := [(5, iv ((c - (odd2 a b)) / 2)), (4, iv 1)]) [0, 1] rfl ?_
                  rw [show (c - (odd2 a b)) / 2 = ((N * N : Nat) : Int) by omega]
                  exact loop (N - 1) 1 (by omega) (by omega)
                · refine r_aload_n 2 X dX7_generator_80 rfl ?_
                  refine r_getf X dX7_generator_81 fX7_16 hm63.1 rfl ?_
                  refine r_iload_n 3 X dX7_generator_84 rfl ?_
                  refine r_ialoadE X dX7_generator_85 hm63.2.2.2.1 ⟨by omega, by omega⟩ (by decide) (fC_s hs) ?_
                  refine r_aload_n 2 X dX7_generator_86 rfl ?_
                  refine r_iload_n 3 X dX7_generator_87 rfl ?_
                  refine r_callV_v X dX7_generator_88 kX7_162 hm63.1 (c_X7_odd (CX_l X) D z0 _ hm63 ht p (by omega) a b c hs ) [iv c] rfl rfl (Nat.le_of_ble_eq_true rfl) (by decide) rfl rfl (by decide) ?_
                  refine r_iadd X dX7_generator_91 ?_
                  refine r_goto 107 X dX7_generator_92 (by decide) ?_
                  refine r_iconst X dX7_generator_107 ?_
                  refine r_idiv X dX7_generator_108 ⟨by omega, by omega⟩ ⟨by omega, by omega⟩ ?_
                  refine r_istore (L' := [(5, iv ((c + (odd2 a b)) / 2)), (4, iv 1), (3, iv 1), (0, .ref y), (1, iv p), (2, iv w)]) X dX7_generator_109 (by decide) rfl ?_
                  have eV : ((M * M : Nat) : Int) = (M : Int) * M := rfl
                  have hV2 : M * M ≤ 65535 := by omega
                  have loop : ∀ (q i : Nat), i + q = M → 1 ≤ i → WW K D z0 6 hq63 0 0 111 [(5, iv ((M * M : Nat) : Int)), (4, iv (i : Int))] [] := by
                    intro q
                    induction q with
                    | zero =>
                      intro i hi hi1
                      have hi2 := Nat.mul_le_mul (show i ≤ M by omega) (show i ≤ M by omega)
                      have hie : ((i * i : Nat) : Int) = (i : Int) * i := rfl
                      refine r_iload 1 X dX7_generator_111 rfl ?_
                      refine r_iload 1 X dX7_generator_113 rfl ?_
                      refine r_imul X dX7_generator_115 ?_
                      refine r_iload 0 X dX7_generator_116 rfl ?_
                      refine r_icmp_ge 127 X dX7_generator_118 (by decide) ⟨by omega, by omega⟩ ⟨by omega, by omega⟩ (fun c118 => ?_) (fun c118 => ?_)
                      · refine r_iload 1 X dX7_generator_127 rfl ?_
                        refine r_iret X Y dX7_generator_129 (by decide) (by decide) ?_
                        exact MO_k (by rw [hcd9]) rfl (congrArg iv (show (i : Int) = vGe σ p w by unfold vGe; rw [on_s hs, if_pos (by omega), show ((c + odd2 a b) / 2 : Int) = ((M * M : Nat) : Int) by omega, Int.toNat_natCast, isq_sq]; omega)) hm63 kp63
                      · exfalso
                        have : i = M := by omega
                        rw [this] at hie c118
                        omega
                    | succ q ih =>
                      intro i hi hi1
                      have hi2 := Nat.mul_le_mul (show i ≤ M by omega) (show i ≤ M by omega)
                      have hie : ((i * i : Nat) : Int) = (i : Int) * i := rfl
                      refine r_iload 1 X dX7_generator_111 rfl ?_
                      refine r_iload 1 X dX7_generator_113 rfl ?_
                      refine r_imul X dX7_generator_115 ?_
                      refine r_iload 0 X dX7_generator_116 rfl ?_
                      refine r_icmp_ge 127 X dX7_generator_118 (by decide) ⟨by omega, by omega⟩ ⟨by omega, by omega⟩ (fun c118 => ?_) (fun c118 => ?_)
                      · exfalso
                        have := Nat.mul_self_lt_mul_self (show i < M by omega)
                        omega
                      · refine r_iinc 1 (L' := [(4, iv ((i : Int) + 1)), (5, iv ((M * M : Nat) : Int))]) X dX7_generator_121 rfl (by decide) rfl ?_
                        refine r_goto 111 X dX7_generator_124 (by decide) ?_
                        refine WW_sub (L' := [(5, iv ((M * M : Nat) : Int)), (4, iv ((i : Int) + 1))]) [1, 0] rfl ?_
                        exact ih (i + 1) (by omega) (by omega)
                  refine WW_sub (L' := [(5, iv ((c + (odd2 a b)) / 2)), (4, iv 1)]) [0, 1] rfl ?_
                  rw [show (c + (odd2 a b)) / 2 = ((M * M : Nat) : Int) by omega]
                  exact loop (M - 1) 1 (by omega) (by omega)
              · exfalso
                omega
          · refine r_iconst X dX7_generator_46 ?_
            refine r_goto 63 X dX7_generator_47 (by decide) ?_
            refine r_callV X dX7_generator_63 kX7_57 hm.1 (c_X7_isWrong (CX_l X) D z0 _ hm 3 ⟨by omega, by omega⟩) [] rfl rfl (Nat.le_of_ble_eq_true rfl) (by decide) (by decide) (fun _ _ z => z.elim) (fun v9 hq63 hv9 => ?_)
            obtain ⟨rfl, hm63, kp63⟩ := hv9
            show WW K D z0 6 hq63 0 0 66 [(3, iv 1), (0, .ref y), (1, iv p), (2, iv w)] [iv 1]
            refine r_if_eq 71 X dX7_generator_66 (by decide) ⟨by omega, by omega⟩ (fun c66 => ?_) (fun c66 => ?_)
            · exfalso
              omega
            · refine r_iconst X dX7_generator_69 ?_
              refine r_iret X Y dX7_generator_70 (by decide) (by decide) ?_
              exact MO_w (by unfold cdGe; (try simp only [isNone_f, isNone_t, true_or, or_true, false_or, or_false]); (repeat' split) <;> first | rfl | omega | contradiction | (exfalso; simp_all; done) | (exfalso; simp_all; omega)) (by first | decide | omega) hm63 kp63
        · exfalso
          omega
      · refine r_iconst X dX7_generator_26 ?_
        refine r_goto 63 X dX7_generator_27 (by decide) ?_
        refine r_callV X dX7_generator_63 kX7_57 hm.1 (c_X7_isWrong (CX_l X) D z0 _ hm 1 ⟨by omega, by omega⟩) [] rfl rfl (Nat.le_of_ble_eq_true rfl) (by decide) (by decide) (fun _ _ z => z.elim) (fun v9 hq63 hv9 => ?_)
        obtain ⟨rfl, hm63, kp63⟩ := hv9
        show WW K D z0 6 hq63 0 0 66 [(3, iv 1), (0, .ref y), (1, iv p), (2, iv w)] [iv 1]
        refine r_if_eq 71 X dX7_generator_66 (by decide) ⟨by omega, by omega⟩ (fun c66 => ?_) (fun c66 => ?_)
        · exfalso
          omega
        · refine r_iconst X dX7_generator_69 ?_
          refine r_iret X Y dX7_generator_70 (by decide) (by decide) ?_
          exact MO_w (by unfold cdGe; (try simp only [isNone_f, isNone_t, true_or, or_true, false_or, or_false]); (repeat' split) <;> first | rfl | omega | contradiction | (exfalso; simp_all; done) | (exfalso; simp_all; omega)) (by first | decide | omega) hm63 kp63
