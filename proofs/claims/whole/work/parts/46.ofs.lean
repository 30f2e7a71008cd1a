/-! the theorem: of S, of right ones, of primitive ones, of a triangle -/
abbrev rX4_isSIfSquaresAreTaken : Room := { frames := 2, cells := 0, slots := 0, locals := 44 }
theorem c_X4_isSIfSquaresAreTaken {l : Launch} (hl : l.stackTraces = false) (D : va_G) (z0 : Nat) (h : Hp) (q : Nat) (a b c : Int) (ht : h q = some (triE a b c)) (hv : TV a b c) : CC l yX4_isSIfSquaresAreTaken cX4_isSIfSquaresAreTaken 9 (some .boolean) rX4_isSIfSquaresAreTaken D z0 h [.ref q] (PV (iv 1) h) NX := by
  refine CC_of RX4 hl (by decide) rfl (Nat.le_of_ble_eq_true rfl) (fun K X Y Z hmn hKl => ?_)
  subst hKl
  have hb := TV_b hv
  have hS := Sx_b hv
  have hl1 := sqb3_b hv 2
  have hab := mlb (a := 2 * a) (x := 131070) (b := b) (y := 65535) (by omega) (by omega) (by omega) (by omega)
  have hSq := S_sq a b c
  have habs := abs_sq (sqb3 a b c 2)
  generalize hG : sqb3 a b c 2 = G at *
  obtain ⟨g, hg⟩ : ∃ g : Int, g = (G.natAbs : Int) := ⟨_, rfl⟩
  have hgb : 0 ≤ g ∧ g ≤ 12884508675 := by omega
  rw [← hg] at habs
  generalize hT : 2 * a * b = t at *
  have m1 := mlb (a := g / 262144) (x := 49151) (b := g) (y := 12884508675) (by omega) (by omega) (by omega) (by omega)
  have m2 := mlb (a := t / 262144) (x := 49151) (b := t) (y := 12884508675) (by omega) (by omega) (by omega) (by omega)
  have m3 := mlb (a := g) (x := 12884508675) (b := g) (y := 12884508675) (by omega) (by omega) (by omega) (by omega)
  have m4 := mlb (a := t) (x := 12884508675) (b := t) (y := 12884508675) (by omega) (by omega) (by omega) (by omega)
  show WW K D z0 9 h 0 0 0 [(0, .ref q)] []
  refine r_ldc2 2 X dX4_isSIfSquaresAreTaken_0 nX4_107 (by decide) ?_
  refine r_aload_n 0 X dX4_isSIfSquaresAreTaken_3 rfl ?_
  refine r_getf X dX4_isSIfSquaresAreTaken_4 fX4_31 ht rfl ?_
  refine r_i2l X dX4_isSIfSquaresAreTaken_7 ⟨by omega, by omega⟩ ?_
  refine r_lmul X dX4_isSIfSquaresAreTaken_8 ?_
  refine r_aload_n 0 X dX4_isSIfSquaresAreTaken_9 rfl ?_
  refine r_getf X dX4_isSIfSquaresAreTaken_10 fX4_37 ht rfl ?_
  refine r_i2l X dX4_isSIfSquaresAreTaken_13 ⟨by omega, by omega⟩ ?_
  refine r_lmul X dX4_isSIfSquaresAreTaken_14 ?_
  refine WW_e (congrArg (fun z => jv z :: []) (show (2 * a) * b = t from hT)) ?_
  show WW K D z0 9 h 0 0 15 [(0, .ref q)] [jv t]
  refine r_lstore_n (L' := [(1, jv t), (0, .ref q)]) X dX4_isSIfSquaresAreTaken_15 (by decide) rfl ?_
  refine r_aload_n 1 X dX4_isSIfSquaresAreTaken_16 rfl ?_
  refine r_iconst X dX4_isSIfSquaresAreTaken_17 ?_
  refine r_callV_v X dX4_isSIfSquaresAreTaken_18 kX4_109 ht (c_X5_squaresBeside (CX_l X) D z0 h q a b c ht hv 2 ⟨by omega, by omega⟩) [] rfl rfl (Nat.le_of_ble_eq_true rfl) (by decide) rfl rfl (by decide) ?_
  refine r_labs X dX4_isSIfSquaresAreTaken_21 kX4_113 ⟨by rw [hG]; omega, by rw [hG]; omega⟩ (Nat.le_of_ble_eq_true rfl) (by decide) ?_
  refine WW_e (congrArg (fun z => jv z :: []) (show ((sqb3 a b c 2).natAbs : Int) = g by rw [hg, hG])) ?_
  show WW K D z0 9 h 0 0 24 [(1, jv t), (0, .ref q)] [jv g]
  refine r_lstore_n (L' := [(3, jv g), (1, jv t), (0, .ref q)]) X dX4_isSIfSquaresAreTaken_24 (by decide) rfl ?_
  refine r_aload_n 2 X dX4_isSIfSquaresAreTaken_25 rfl ?_
  refine r_getf X dX4_isSIfSquaresAreTaken_26 fX4_98 ht rfl ?_
  refine r_lload_n 0 X dX4_isSIfSquaresAreTaken_29 rfl ?_
  refine r_lload_n 0 X dX4_isSIfSquaresAreTaken_30 rfl ?_
  refine r_callS_v X dX4_isSIfSquaresAreTaken_31 kX4_118 (c_X1_low (CX_l X) D z0 h g g) [jv (Sx a b c % 262144)] rfl rfl (Nat.le_of_ble_eq_true rfl) (by decide) rfl rfl (by decide) ?_
  refine r_ladd X dX4_isSIfSquaresAreTaken_34 ?_
  refine r_lstore (L' := [(5, jv ((Sx a b c % 262144) + (g * g % 262144))), (3, jv g), (1, jv t), (0, .ref q)]) X dX4_isSIfSquaresAreTaken_35 (by decide) rfl ?_
  refine r_aload_n 3 X dX4_isSIfSquaresAreTaken_37 rfl ?_
  refine r_getf X dX4_isSIfSquaresAreTaken_38 fX4_94 ht rfl ?_
  refine r_lload_n 1 X dX4_isSIfSquaresAreTaken_41 rfl ?_
  refine r_lload_n 1 X dX4_isSIfSquaresAreTaken_42 rfl ?_
  refine r_callS_v X dX4_isSIfSquaresAreTaken_43 kX4_122 (c_X1_high (CX_l X) D z0 h g g ⟨by omega, by omega⟩ ⟨by omega, by omega⟩ (by omega)) [jv (Sx a b c / 262144)] rfl rfl (Nat.le_of_ble_eq_true rfl) (by decide) rfl rfl (by decide) ?_
  refine r_ladd X dX4_isSIfSquaresAreTaken_46 ?_
  refine r_lload 0 X dX4_isSIfSquaresAreTaken_47 rfl ?_
  refine r_bipush X dX4_isSIfSquaresAreTaken_49 (by decide) ?_
  refine r_lshr X dX4_isSIfSquaresAreTaken_51 18 262144 (by decide) (by decide) (by decide) ⟨by omega, by omega⟩ ?_
  refine r_ladd X dX4_isSIfSquaresAreTaken_52 ?_
  refine r_lstore (L' := [(7, jv (((Sx a b c / 262144) + (g * g / 262144)) + (((Sx a b c % 262144) + (g * g % 262144)) / 262144))), (5, jv ((Sx a b c % 262144) + (g * g % 262144))), (3, jv g), (1, jv t), (0, .ref q)]) X dX4_isSIfSquaresAreTaken_53 (by decide) rfl ?_
  refine r_lload 0 X dX4_isSIfSquaresAreTaken_55 rfl ?_
  refine r_lload_n 3 X dX4_isSIfSquaresAreTaken_57 rfl ?_
  refine r_lload_n 3 X dX4_isSIfSquaresAreTaken_58 rfl ?_
  refine r_callS_v X dX4_isSIfSquaresAreTaken_59 kX4_122 (c_X1_high (CX_l X) D z0 h t t ⟨by omega, by omega⟩ ⟨by omega, by omega⟩ (by omega)) [jv (((Sx a b c / 262144) + (g * g / 262144)) + (((Sx a b c % 262144) + (g * g % 262144)) / 262144))] rfl rfl (Nat.le_of_ble_eq_true rfl) (by decide) rfl rfl (by decide) ?_
  refine r_lcmp_ne 85 X dX4_isSIfSquaresAreTaken_62 dX4_isSIfSquaresAreTaken_63 (by decide) ⟨by omega, by omega⟩ ⟨by omega, by omega⟩ (fun c62 => ?_) (fun c62 => ?_)
  · refine r_iconst X dX4_isSIfSquaresAreTaken_85 ?_
    refine r_zret X Y dX4_isSIfSquaresAreTaken_86 (Or.inl rfl) (by decide) (by decide) ?_
    exfalso
    omega
  · refine r_lload 1 X dX4_isSIfSquaresAreTaken_66 rfl ?_
    refine r_ldc2 262143 X dX4_isSIfSquaresAreTaken_68 nX4_125 (by decide) ?_
    refine r_land X dX4_isSIfSquaresAreTaken_71 18 262144 (by decide) (by decide) (by decide) ?_
    refine r_lload_n 3 X dX4_isSIfSquaresAreTaken_72 rfl ?_
    refine r_lload_n 3 X dX4_isSIfSquaresAreTaken_73 rfl ?_
    refine r_callS_v X dX4_isSIfSquaresAreTaken_74 kX4_118 (c_X1_low (CX_l X) D z0 h t t) [jv (((Sx a b c % 262144) + (g * g % 262144)) % 262144)] rfl rfl (Nat.le_of_ble_eq_true rfl) (by decide) rfl rfl (by decide) ?_
    refine r_lcmp_ne 85 X dX4_isSIfSquaresAreTaken_77 dX4_isSIfSquaresAreTaken_78 (by decide) ⟨by omega, by omega⟩ ⟨by omega, by omega⟩ (fun c77 => ?_) (fun c77 => ?_)
    · refine r_iconst X dX4_isSIfSquaresAreTaken_85 ?_
      refine r_zret X Y dX4_isSIfSquaresAreTaken_86 (Or.inl rfl) (by decide) (by decide) ?_
      exfalso
      omega
    · refine r_iconst X dX4_isSIfSquaresAreTaken_81 ?_
      refine r_goto 86 X dX4_isSIfSquaresAreTaken_82 (by decide) ?_
      refine r_zret X Y dX4_isSIfSquaresAreTaken_86 (Or.inr rfl) (by decide) (by decide) ?_
      exact pv rfl
abbrev rX4_isSBelowSides : Room := { frames := 1, cells := 0, slots := 0, locals := 23 }
theorem c_X4_isSBelowSides {l : Launch} (hl : l.stackTraces = false) (D : va_G) (z0 : Nat) (h : Hp) (q : Nat) (a b c : Int) (ht : h q = some (triE a b c)) (hv : TV a b c) : CC l yX4_isSBelowSides cX4_isSBelowSides 9 (some .boolean) rX4_isSBelowSides D z0 h [.ref q] (PV (iv 1) h) NX := by
  refine CC_of RX4 hl (by decide) rfl (Nat.le_of_ble_eq_true rfl) (fun K X Y Z hmn hKl => ?_)
  subst hKl
  have hb := TV_b hv
  have hS := Sx_b hv
  have hbl := S_below hv
  have n1 := mlb (a := a) (x := 65535) (b := b) (y := 65535) (by omega) (by omega) (by omega) (by omega)
  have n2 := mlb (a := a * b) (x := 4294836225) (b := c) (y := 65535) (by omega) (by omega) (by omega) (by omega)
  generalize hG : a * b * c = G at *
  have n3 := mlb (a := G / 262144) (x := 1073692676) (b := a + b + c) (y := 196605) (by omega) (by omega) (by omega) (by omega)
  have n4 := mlb (a := G) (x := 281462092005375) (b := a + b + c) (y := 196605) (by omega) (by omega) (by omega) (by omega)
  generalize hU : G * (a + b + c) = U at *
  show WW K D z0 9 h 0 0 0 [(0, .ref q)] []
  refine r_aload_n 0 X dX4_isSBelowSides_0 rfl ?_
  refine r_getf X dX4_isSBelowSides_1 fX4_31 ht rfl ?_
  refine r_i2l X dX4_isSBelowSides_4 ⟨by omega, by omega⟩ ?_
  refine r_aload_n 0 X dX4_isSBelowSides_5 rfl ?_
  refine r_getf X dX4_isSBelowSides_6 fX4_37 ht rfl ?_
  refine r_i2l X dX4_isSBelowSides_9 ⟨by omega, by omega⟩ ?_
  refine r_lmul X dX4_isSBelowSides_10 ?_
  refine r_aload_n 0 X dX4_isSBelowSides_11 rfl ?_
  refine r_getf X dX4_isSBelowSides_12 fX4_46 ht rfl ?_
  refine r_i2l X dX4_isSBelowSides_15 ⟨by omega, by omega⟩ ?_
  refine r_lmul X dX4_isSBelowSides_16 ?_
  refine WW_e (congrArg (fun z => jv z :: []) (show (a * b) * c = G from hG)) ?_
  show WW K D z0 9 h 0 0 17 [(0, .ref q)] [jv G]
  refine r_lstore_n (L' := [(1, jv G), (0, .ref q)]) X dX4_isSBelowSides_17 (by decide) rfl ?_
  refine r_lload_n 0 X dX4_isSBelowSides_18 rfl ?_
  refine r_aload_n 1 X dX4_isSBelowSides_19 rfl ?_
  refine r_callV_v X dX4_isSBelowSides_20 kX4_87 ht (c_X5_around (CX_l X) D z0 h q a b c ht hv) [jv G] rfl rfl (Nat.le_of_ble_eq_true rfl) (by decide) rfl rfl (by decide) ?_
  refine r_i2l X dX4_isSBelowSides_23 ⟨by omega, by omega⟩ ?_
  refine r_callS_v X dX4_isSBelowSides_24 kX4_122 (c_X1_high (CX_l X) D z0 h G (a + b + c) ⟨by omega, by omega⟩ ⟨by omega, by omega⟩ (by omega)) [] rfl rfl (Nat.le_of_ble_eq_true rfl) (by decide) rfl rfl (by decide) ?_
  refine WW_e (congrArg (fun z => jv z :: []) (show G * (a + b + c) / 262144 = U / 262144 by rw [hU])) ?_
  show WW K D z0 9 h 0 0 27 [(1, jv G), (0, .ref q)] [jv (U / 262144)]
  refine r_lstore_n (L' := [(3, jv (U / 262144)), (1, jv G), (0, .ref q)]) X dX4_isSBelowSides_27 (by decide) rfl ?_
  refine r_lload_n 1 X dX4_isSBelowSides_28 rfl ?_
  refine r_aload_n 2 X dX4_isSBelowSides_29 rfl ?_
  refine r_callV_v X dX4_isSBelowSides_30 kX4_87 ht (c_X5_around (CX_l X) D z0 h q a b c ht hv) [jv G] rfl rfl (Nat.le_of_ble_eq_true rfl) (by decide) rfl rfl (by decide) ?_
  refine r_i2l X dX4_isSBelowSides_33 ⟨by omega, by omega⟩ ?_
  refine r_callS_v X dX4_isSBelowSides_34 kX4_118 (c_X1_low (CX_l X) D z0 h G (a + b + c)) [] rfl rfl (Nat.le_of_ble_eq_true rfl) (by decide) rfl rfl (by decide) ?_
  refine WW_e (congrArg (fun z => jv z :: []) (show G * (a + b + c) % 262144 = U % 262144 by rw [hU])) ?_
  show WW K D z0 9 h 0 0 37 [(3, jv (U / 262144)), (1, jv G), (0, .ref q)] [jv (U % 262144)]
  refine r_lstore (L' := [(5, jv (U % 262144)), (3, jv (U / 262144)), (1, jv G), (0, .ref q)]) X dX4_isSBelowSides_37 (by decide) rfl ?_
  refine r_aload_n 3 X dX4_isSBelowSides_39 rfl ?_
  refine r_getf X dX4_isSBelowSides_40 fX4_94 ht rfl ?_
  refine r_lload_n 1 X dX4_isSBelowSides_43 rfl ?_
  refine r_lcmp_ne 62 X dX4_isSBelowSides_44 dX4_isSBelowSides_45 (by decide) ⟨by omega, by omega⟩ ⟨by omega, by omega⟩ (fun c44 => ?_) (fun c44 => ?_)
  · refine r_iconst X dX4_isSBelowSides_62 ?_
    refine r_istore (L' := [(7, iv 0), (5, jv (U % 262144)), (3, jv (U / 262144)), (1, jv G), (0, .ref q)]) X dX4_isSBelowSides_63 (by decide) rfl ?_
    refine r_aload_n 4 X dX4_isSBelowSides_65 rfl ?_
    refine r_getf X dX4_isSBelowSides_66 fX4_94 ht rfl ?_
    refine r_lload_n 2 X dX4_isSBelowSides_69 rfl ?_
    refine r_lcmp_lt 93 X dX4_isSBelowSides_70 dX4_isSBelowSides_71 (by decide) ⟨by omega, by omega⟩ ⟨by omega, by omega⟩ (fun c70 => ?_) (fun c70 => ?_)
    · refine r_iconst X dX4_isSBelowSides_93 ?_
      refine r_goto 98 X dX4_isSBelowSides_94 (by decide) ?_
      refine r_istore (L' := [(8, iv 1), (7, iv 0), (5, jv (U % 262144)), (3, jv (U / 262144)), (1, jv G), (0, .ref q)]) X dX4_isSBelowSides_98 (by decide) rfl ?_
      refine r_aload_n 5 X dX4_isSBelowSides_100 rfl ?_
      refine r_getf X dX4_isSBelowSides_101 fX4_31 ht rfl ?_
      refine r_aload_n 5 X dX4_isSBelowSides_104 rfl ?_
      refine r_getf X dX4_isSBelowSides_105 fX4_46 ht rfl ?_
      refine r_icmp_ne 116 X dX4_isSBelowSides_108 (by decide) ⟨by omega, by omega⟩ ⟨by omega, by omega⟩ (fun c108 => ?_) (fun c108 => ?_)
      · refine r_iload 0 X dX4_isSBelowSides_116 rfl ?_
        refine r_zret X Y dX4_isSBelowSides_118 (Or.inr rfl) (by decide) (by decide) ?_
        exact pv rfl
      · refine r_iload 1 X dX4_isSBelowSides_111 rfl ?_
        refine r_goto 118 X dX4_isSBelowSides_113 (by decide) ?_
        refine r_zret X Y dX4_isSBelowSides_118 (Or.inl rfl) (by decide) (by decide) ?_
        exfalso
        omega
    · refine r_aload_n 4 X dX4_isSBelowSides_74 rfl ?_
      refine r_getf X dX4_isSBelowSides_75 fX4_94 ht rfl ?_
      refine r_lload_n 2 X dX4_isSBelowSides_78 rfl ?_
      refine r_lcmp_ne 97 X dX4_isSBelowSides_79 dX4_isSBelowSides_80 (by decide) ⟨by omega, by omega⟩ ⟨by omega, by omega⟩ (fun c79 => ?_) (fun c79 => ?_)
      · refine r_iconst X dX4_isSBelowSides_97 ?_
        refine r_istore (L' := [(8, iv 0), (7, iv 0), (5, jv (U % 262144)), (3, jv (U / 262144)), (1, jv G), (0, .ref q)]) X dX4_isSBelowSides_98 (by decide) rfl ?_
        refine r_aload_n 5 X dX4_isSBelowSides_100 rfl ?_
        refine r_getf X dX4_isSBelowSides_101 fX4_31 ht rfl ?_
        refine r_aload_n 5 X dX4_isSBelowSides_104 rfl ?_
        refine r_getf X dX4_isSBelowSides_105 fX4_46 ht rfl ?_
        refine r_icmp_ne 116 X dX4_isSBelowSides_108 (by decide) ⟨by omega, by omega⟩ ⟨by omega, by omega⟩ (fun c108 => ?_) (fun c108 => ?_)
        · refine r_iload 0 X dX4_isSBelowSides_116 rfl ?_
          refine r_zret X Y dX4_isSBelowSides_118 (Or.inl rfl) (by decide) (by decide) ?_
          exfalso
          omega
        · refine r_iload 1 X dX4_isSBelowSides_111 rfl ?_
          refine r_goto 118 X dX4_isSBelowSides_113 (by decide) ?_
          refine r_zret X Y dX4_isSBelowSides_118 (Or.inl rfl) (by decide) (by decide) ?_
          exfalso
          omega
      · refine r_aload_n 4 X dX4_isSBelowSides_83 rfl ?_
        refine r_getf X dX4_isSBelowSides_84 fX4_98 ht rfl ?_
        refine r_lload 1 X dX4_isSBelowSides_87 rfl ?_
        refine r_lcmp_ge 97 X dX4_isSBelowSides_89 dX4_isSBelowSides_90 (by decide) ⟨by omega, by omega⟩ ⟨by omega, by omega⟩ (fun c89 => ?_) (fun c89 => ?_)
        · refine r_iconst X dX4_isSBelowSides_97 ?_
          refine r_istore (L' := [(8, iv 0), (7, iv 0), (5, jv (U % 262144)), (3, jv (U / 262144)), (1, jv G), (0, .ref q)]) X dX4_isSBelowSides_98 (by decide) rfl ?_
          refine r_aload_n 5 X dX4_isSBelowSides_100 rfl ?_
          refine r_getf X dX4_isSBelowSides_101 fX4_31 ht rfl ?_
          refine r_aload_n 5 X dX4_isSBelowSides_104 rfl ?_
          refine r_getf X dX4_isSBelowSides_105 fX4_46 ht rfl ?_
          refine r_icmp_ne 116 X dX4_isSBelowSides_108 (by decide) ⟨by omega, by omega⟩ ⟨by omega, by omega⟩ (fun c108 => ?_) (fun c108 => ?_)
          · refine r_iload 0 X dX4_isSBelowSides_116 rfl ?_
            refine r_zret X Y dX4_isSBelowSides_118 (Or.inl rfl) (by decide) (by decide) ?_
            exfalso
            omega
          · refine r_iload 1 X dX4_isSBelowSides_111 rfl ?_
            refine r_goto 118 X dX4_isSBelowSides_113 (by decide) ?_
            refine r_zret X Y dX4_isSBelowSides_118 (Or.inl rfl) (by decide) (by decide) ?_
            exfalso
            omega
        · refine r_iconst X dX4_isSBelowSides_93 ?_
          refine r_goto 98 X dX4_isSBelowSides_94 (by decide) ?_
          refine r_istore (L' := [(8, iv 1), (7, iv 0), (5, jv (U % 262144)), (3, jv (U / 262144)), (1, jv G), (0, .ref q)]) X dX4_isSBelowSides_98 (by decide) rfl ?_
          refine r_aload_n 5 X dX4_isSBelowSides_100 rfl ?_
          refine r_getf X dX4_isSBelowSides_101 fX4_31 ht rfl ?_
          refine r_aload_n 5 X dX4_isSBelowSides_104 rfl ?_
          refine r_getf X dX4_isSBelowSides_105 fX4_46 ht rfl ?_
          refine r_icmp_ne 116 X dX4_isSBelowSides_108 (by decide) ⟨by omega, by omega⟩ ⟨by omega, by omega⟩ (fun c108 => ?_) (fun c108 => ?_)
          · refine r_iload 0 X dX4_isSBelowSides_116 rfl ?_
            refine r_zret X Y dX4_isSBelowSides_118 (Or.inr rfl) (by decide) (by decide) ?_
            exact pv rfl
          · refine r_iload 1 X dX4_isSBelowSides_111 rfl ?_
            refine r_goto 118 X dX4_isSBelowSides_113 (by decide) ?_
            refine r_zret X Y dX4_isSBelowSides_118 (Or.inl rfl) (by decide) (by decide) ?_
            exfalso
            omega
  · refine r_aload_n 3 X dX4_isSBelowSides_48 rfl ?_
    refine r_getf X dX4_isSBelowSides_49 fX4_98 ht rfl ?_
    refine r_lload 0 X dX4_isSBelowSides_52 rfl ?_
    refine r_lcmp_ne 62 X dX4_isSBelowSides_54 dX4_isSBelowSides_55 (by decide) ⟨by omega, by omega⟩ ⟨by omega, by omega⟩ (fun c54 => ?_) (fun c54 => ?_)
    · refine r_iconst X dX4_isSBelowSides_62 ?_
      refine r_istore (L' := [(7, iv 0), (5, jv (U % 262144)), (3, jv (U / 262144)), (1, jv G), (0, .ref q)]) X dX4_isSBelowSides_63 (by decide) rfl ?_
      refine r_aload_n 4 X dX4_isSBelowSides_65 rfl ?_
      refine r_getf X dX4_isSBelowSides_66 fX4_94 ht rfl ?_
      refine r_lload_n 2 X dX4_isSBelowSides_69 rfl ?_
      refine r_lcmp_lt 93 X dX4_isSBelowSides_70 dX4_isSBelowSides_71 (by decide) ⟨by omega, by omega⟩ ⟨by omega, by omega⟩ (fun c70 => ?_) (fun c70 => ?_)
      · refine r_iconst X dX4_isSBelowSides_93 ?_
        refine r_goto 98 X dX4_isSBelowSides_94 (by decide) ?_
        refine r_istore (L' := [(8, iv 1), (7, iv 0), (5, jv (U % 262144)), (3, jv (U / 262144)), (1, jv G), (0, .ref q)]) X dX4_isSBelowSides_98 (by decide) rfl ?_
        refine r_aload_n 5 X dX4_isSBelowSides_100 rfl ?_
        refine r_getf X dX4_isSBelowSides_101 fX4_31 ht rfl ?_
        refine r_aload_n 5 X dX4_isSBelowSides_104 rfl ?_
        refine r_getf X dX4_isSBelowSides_105 fX4_46 ht rfl ?_
        refine r_icmp_ne 116 X dX4_isSBelowSides_108 (by decide) ⟨by omega, by omega⟩ ⟨by omega, by omega⟩ (fun c108 => ?_) (fun c108 => ?_)
        · refine r_iload 0 X dX4_isSBelowSides_116 rfl ?_
          refine r_zret X Y dX4_isSBelowSides_118 (Or.inr rfl) (by decide) (by decide) ?_
          exact pv rfl
        · refine r_iload 1 X dX4_isSBelowSides_111 rfl ?_
          refine r_goto 118 X dX4_isSBelowSides_113 (by decide) ?_
          refine r_zret X Y dX4_isSBelowSides_118 (Or.inl rfl) (by decide) (by decide) ?_
          exfalso
          omega
      · refine r_aload_n 4 X dX4_isSBelowSides_74 rfl ?_
        refine r_getf X dX4_isSBelowSides_75 fX4_94 ht rfl ?_
        refine r_lload_n 2 X dX4_isSBelowSides_78 rfl ?_
        refine r_lcmp_ne 97 X dX4_isSBelowSides_79 dX4_isSBelowSides_80 (by decide) ⟨by omega, by omega⟩ ⟨by omega, by omega⟩ (fun c79 => ?_) (fun c79 => ?_)
        · refine r_iconst X dX4_isSBelowSides_97 ?_
          refine r_istore (L' := [(8, iv 0), (7, iv 0), (5, jv (U % 262144)), (3, jv (U / 262144)), (1, jv G), (0, .ref q)]) X dX4_isSBelowSides_98 (by decide) rfl ?_
          refine r_aload_n 5 X dX4_isSBelowSides_100 rfl ?_
          refine r_getf X dX4_isSBelowSides_101 fX4_31 ht rfl ?_
          refine r_aload_n 5 X dX4_isSBelowSides_104 rfl ?_
          refine r_getf X dX4_isSBelowSides_105 fX4_46 ht rfl ?_
          refine r_icmp_ne 116 X dX4_isSBelowSides_108 (by decide) ⟨by omega, by omega⟩ ⟨by omega, by omega⟩ (fun c108 => ?_) (fun c108 => ?_)
          · refine r_iload 0 X dX4_isSBelowSides_116 rfl ?_
            refine r_zret X Y dX4_isSBelowSides_118 (Or.inl rfl) (by decide) (by decide) ?_
            exfalso
            omega
          · refine r_iload 1 X dX4_isSBelowSides_111 rfl ?_
            refine r_goto 118 X dX4_isSBelowSides_113 (by decide) ?_
            refine r_zret X Y dX4_isSBelowSides_118 (Or.inl rfl) (by decide) (by decide) ?_
            exfalso
            omega
        · refine r_aload_n 4 X dX4_isSBelowSides_83 rfl ?_
          refine r_getf X dX4_isSBelowSides_84 fX4_98 ht rfl ?_
          refine r_lload 1 X dX4_isSBelowSides_87 rfl ?_
          refine r_lcmp_ge 97 X dX4_isSBelowSides_89 dX4_isSBelowSides_90 (by decide) ⟨by omega, by omega⟩ ⟨by omega, by omega⟩ (fun c89 => ?_) (fun c89 => ?_)
          · refine r_iconst X dX4_isSBelowSides_97 ?_
            refine r_istore (L' := [(8, iv 0), (7, iv 0), (5, jv (U % 262144)), (3, jv (U / 262144)), (1, jv G), (0, .ref q)]) X dX4_isSBelowSides_98 (by decide) rfl ?_
            refine r_aload_n 5 X dX4_isSBelowSides_100 rfl ?_
            refine r_getf X dX4_isSBelowSides_101 fX4_31 ht rfl ?_
            refine r_aload_n 5 X dX4_isSBelowSides_104 rfl ?_
            refine r_getf X dX4_isSBelowSides_105 fX4_46 ht rfl ?_
            refine r_icmp_ne 116 X dX4_isSBelowSides_108 (by decide) ⟨by omega, by omega⟩ ⟨by omega, by omega⟩ (fun c108 => ?_) (fun c108 => ?_)
            · refine r_iload 0 X dX4_isSBelowSides_116 rfl ?_
              refine r_zret X Y dX4_isSBelowSides_118 (Or.inl rfl) (by decide) (by decide) ?_
              exfalso
              omega
            · refine r_iload 1 X dX4_isSBelowSides_111 rfl ?_
              refine r_goto 118 X dX4_isSBelowSides_113 (by decide) ?_
              refine r_zret X Y dX4_isSBelowSides_118 (Or.inl rfl) (by decide) (by decide) ?_
              exfalso
              omega
          · refine r_iconst X dX4_isSBelowSides_93 ?_
            refine r_goto 98 X dX4_isSBelowSides_94 (by decide) ?_
            refine r_istore (L' := [(8, iv 1), (7, iv 0), (5, jv (U % 262144)), (3, jv (U / 262144)), (1, jv G), (0, .ref q)]) X dX4_isSBelowSides_98 (by decide) rfl ?_
            refine r_aload_n 5 X dX4_isSBelowSides_100 rfl ?_
            refine r_getf X dX4_isSBelowSides_101 fX4_31 ht rfl ?_
            refine r_aload_n 5 X dX4_isSBelowSides_104 rfl ?_
            refine r_getf X dX4_isSBelowSides_105 fX4_46 ht rfl ?_
            refine r_icmp_ne 116 X dX4_isSBelowSides_108 (by decide) ⟨by omega, by omega⟩ ⟨by omega, by omega⟩ (fun c108 => ?_) (fun c108 => ?_)
            · refine r_iload 0 X dX4_isSBelowSides_116 rfl ?_
              refine r_zret X Y dX4_isSBelowSides_118 (Or.inr rfl) (by decide) (by decide) ?_
              exact pv rfl
            · refine r_iload 1 X dX4_isSBelowSides_111 rfl ?_
              refine r_goto 118 X dX4_isSBelowSides_113 (by decide) ?_
              refine r_zret X Y dX4_isSBelowSides_118 (Or.inl rfl) (by decide) (by decide) ?_
              exfalso
              omega
    · refine r_iconst X dX4_isSBelowSides_58 ?_
      refine r_goto 63 X dX4_isSBelowSides_59 (by decide) ?_
      refine r_istore (L' := [(7, iv 1), (5, jv (U % 262144)), (3, jv (U / 262144)), (1, jv G), (0, .ref q)]) X dX4_isSBelowSides_63 (by decide) rfl ?_
      refine r_aload_n 4 X dX4_isSBelowSides_65 rfl ?_
      refine r_getf X dX4_isSBelowSides_66 fX4_94 ht rfl ?_
      refine r_lload_n 2 X dX4_isSBelowSides_69 rfl ?_
      refine r_lcmp_lt 93 X dX4_isSBelowSides_70 dX4_isSBelowSides_71 (by decide) ⟨by omega, by omega⟩ ⟨by omega, by omega⟩ (fun c70 => ?_) (fun c70 => ?_)
      · refine r_iconst X dX4_isSBelowSides_93 ?_
        refine r_goto 98 X dX4_isSBelowSides_94 (by decide) ?_
        refine r_istore (L' := [(8, iv 1), (7, iv 1), (5, jv (U % 262144)), (3, jv (U / 262144)), (1, jv G), (0, .ref q)]) X dX4_isSBelowSides_98 (by decide) rfl ?_
        refine r_aload_n 5 X dX4_isSBelowSides_100 rfl ?_
        refine r_getf X dX4_isSBelowSides_101 fX4_31 ht rfl ?_
        refine r_aload_n 5 X dX4_isSBelowSides_104 rfl ?_
        refine r_getf X dX4_isSBelowSides_105 fX4_46 ht rfl ?_
        refine r_icmp_ne 116 X dX4_isSBelowSides_108 (by decide) ⟨by omega, by omega⟩ ⟨by omega, by omega⟩ (fun c108 => ?_) (fun c108 => ?_)
        · refine r_iload 0 X dX4_isSBelowSides_116 rfl ?_
          refine r_zret X Y dX4_isSBelowSides_118 (Or.inr rfl) (by decide) (by decide) ?_
          exact pv rfl
        · refine r_iload 1 X dX4_isSBelowSides_111 rfl ?_
          refine r_goto 118 X dX4_isSBelowSides_113 (by decide) ?_
          refine r_zret X Y dX4_isSBelowSides_118 (Or.inr rfl) (by decide) (by decide) ?_
          exact pv rfl
      · refine r_aload_n 4 X dX4_isSBelowSides_74 rfl ?_
        refine r_getf X dX4_isSBelowSides_75 fX4_94 ht rfl ?_
        refine r_lload_n 2 X dX4_isSBelowSides_78 rfl ?_
        refine r_lcmp_ne 97 X dX4_isSBelowSides_79 dX4_isSBelowSides_80 (by decide) ⟨by omega, by omega⟩ ⟨by omega, by omega⟩ (fun c79 => ?_) (fun c79 => ?_)
        · refine r_iconst X dX4_isSBelowSides_97 ?_
          refine r_istore (L' := [(8, iv 0), (7, iv 1), (5, jv (U % 262144)), (3, jv (U / 262144)), (1, jv G), (0, .ref q)]) X dX4_isSBelowSides_98 (by decide) rfl ?_
          refine r_aload_n 5 X dX4_isSBelowSides_100 rfl ?_
          refine r_getf X dX4_isSBelowSides_101 fX4_31 ht rfl ?_
          refine r_aload_n 5 X dX4_isSBelowSides_104 rfl ?_
          refine r_getf X dX4_isSBelowSides_105 fX4_46 ht rfl ?_
          refine r_icmp_ne 116 X dX4_isSBelowSides_108 (by decide) ⟨by omega, by omega⟩ ⟨by omega, by omega⟩ (fun c108 => ?_) (fun c108 => ?_)
          · refine r_iload 0 X dX4_isSBelowSides_116 rfl ?_
            refine r_zret X Y dX4_isSBelowSides_118 (Or.inl rfl) (by decide) (by decide) ?_
            exfalso
            omega
          · refine r_iload 1 X dX4_isSBelowSides_111 rfl ?_
            refine r_goto 118 X dX4_isSBelowSides_113 (by decide) ?_
            refine r_zret X Y dX4_isSBelowSides_118 (Or.inr rfl) (by decide) (by decide) ?_
            exact pv rfl
        · refine r_aload_n 4 X dX4_isSBelowSides_83 rfl ?_
          refine r_getf X dX4_isSBelowSides_84 fX4_98 ht rfl ?_
          refine r_lload 1 X dX4_isSBelowSides_87 rfl ?_
          refine r_lcmp_ge 97 X dX4_isSBelowSides_89 dX4_isSBelowSides_90 (by decide) ⟨by omega, by omega⟩ ⟨by omega, by omega⟩ (fun c89 => ?_) (fun c89 => ?_)
          · refine r_iconst X dX4_isSBelowSides_97 ?_
            refine r_istore (L' := [(8, iv 0), (7, iv 1), (5, jv (U % 262144)), (3, jv (U / 262144)), (1, jv G), (0, .ref q)]) X dX4_isSBelowSides_98 (by decide) rfl ?_
            refine r_aload_n 5 X dX4_isSBelowSides_100 rfl ?_
            refine r_getf X dX4_isSBelowSides_101 fX4_31 ht rfl ?_
            refine r_aload_n 5 X dX4_isSBelowSides_104 rfl ?_
            refine r_getf X dX4_isSBelowSides_105 fX4_46 ht rfl ?_
            refine r_icmp_ne 116 X dX4_isSBelowSides_108 (by decide) ⟨by omega, by omega⟩ ⟨by omega, by omega⟩ (fun c108 => ?_) (fun c108 => ?_)
            · refine r_iload 0 X dX4_isSBelowSides_116 rfl ?_
              refine r_zret X Y dX4_isSBelowSides_118 (Or.inl rfl) (by decide) (by decide) ?_
              exfalso
              omega
            · refine r_iload 1 X dX4_isSBelowSides_111 rfl ?_
              refine r_goto 118 X dX4_isSBelowSides_113 (by decide) ?_
              refine r_zret X Y dX4_isSBelowSides_118 (Or.inr rfl) (by decide) (by decide) ?_
              exact pv rfl
          · refine r_iconst X dX4_isSBelowSides_93 ?_
            refine r_goto 98 X dX4_isSBelowSides_94 (by decide) ?_
            refine r_istore (L' := [(8, iv 1), (7, iv 1), (5, jv (U % 262144)), (3, jv (U / 262144)), (1, jv G), (0, .ref q)]) X dX4_isSBelowSides_98 (by decide) rfl ?_
            refine r_aload_n 5 X dX4_isSBelowSides_100 rfl ?_
            refine r_getf X dX4_isSBelowSides_101 fX4_31 ht rfl ?_
            refine r_aload_n 5 X dX4_isSBelowSides_104 rfl ?_
            refine r_getf X dX4_isSBelowSides_105 fX4_46 ht rfl ?_
            refine r_icmp_ne 116 X dX4_isSBelowSides_108 (by decide) ⟨by omega, by omega⟩ ⟨by omega, by omega⟩ (fun c108 => ?_) (fun c108 => ?_)
            · refine r_iload 0 X dX4_isSBelowSides_116 rfl ?_
              refine r_zret X Y dX4_isSBelowSides_118 (Or.inr rfl) (by decide) (by decide) ?_
              exact pv rfl
            · refine r_iload 1 X dX4_isSBelowSides_111 rfl ?_
              refine r_goto 118 X dX4_isSBelowSides_113 (by decide) ?_
              refine r_zret X Y dX4_isSBelowSides_118 (Or.inr rfl) (by decide) (by decide) ?_
              exact pv rfl
abbrev rX4_ofS : Room := { frames := 3, cells := 0, slots := 0, locals := 80 }
theorem c_X4_ofS {l : Launch} (hl : l.stackTraces = false) (D : va_G) (z0 : Nat) (h : Hp) (q : Nat) (a b c : Int) (ht : h q = some (triE a b c)) (hv : TV a b c) : CC l yX4_ofS cX4_ofS 4 (some .boolean) rX4_ofS D z0 h [.ref q] (PV (iv 1) h) NX := by
  refine CC_of RX4 hl (by decide) rfl (Nat.le_of_ble_eq_true rfl) (fun K X Y Z hmn hKl => ?_)
  subst hKl
  have hb := TV_b hv
  have hS := Sx_b hv
  have hrt := S_root hv
  have hrb := rtS_b hv
  show WW K D z0 4 h 0 0 0 [(0, .ref q)] []
  refine r_aload_n 0 X dX4_ofS_0 rfl ?_
  refine r_callV_v X dX4_ofS_1 kX4_83 ht (c_X5_wholeRootOfS (CX_l X) D z0 h q a b c ht hv) [] rfl rfl (Nat.le_of_ble_eq_true rfl) (by decide) rfl rfl (by decide) ?_
  refine r_lstore_n (L' := [(1, jv (rtS (Sx a b c))), (0, .ref q)]) X dX4_ofS_4 (by decide) rfl ?_
  refine r_lload_n 0 X dX4_ofS_5 rfl ?_
  refine r_lconst 0 X dX4_ofS_6 (by decide) ?_
  refine r_lcmp_eq 44 X dX4_ofS_7 dX4_ofS_8 (by decide) ⟨by omega, by omega⟩ ⟨by omega, by omega⟩ (fun c7 => ?_) (fun c7 => ?_)
  · refine r_iconst X dX4_ofS_44 ?_
    refine r_goto 49 X dX4_ofS_45 (by decide) ?_
    refine r_istore_n (L' := [(3, iv 1), (1, jv (rtS (Sx a b c))), (0, .ref q)]) X dX4_ofS_49 (by decide) rfl ?_
    refine r_aload_n 2 X dX4_ofS_50 rfl ?_
    refine r_getf X dX4_ofS_51 fX4_94 ht rfl ?_
    refine r_lconst 0 X dX4_ofS_54 (by decide) ?_
    refine r_lcmp_gt 68 X dX4_ofS_55 dX4_ofS_56 (by decide) ⟨by omega, by omega⟩ ⟨by omega, by omega⟩ (fun c55 => ?_) (fun c55 => ?_)
    · refine r_aload_n 2 X dX4_ofS_68 rfl ?_
      refine r_callS_v X dX4_ofS_69 kX4_101 (c_X4_isSIfSquaresAreTaken (CX_l X) D z0 h q a b c ht hv) [] rfl rfl (Nat.le_of_ble_eq_true rfl) (by decide) rfl rfl (by decide) ?_
      refine r_if_eq 90 X dX4_ofS_72 (by decide) ⟨by omega, by omega⟩ (fun c72 => ?_) (fun c72 => ?_)
      · refine r_iconst X dX4_ofS_90 ?_
        refine r_zret X Y dX4_ofS_91 (Or.inl rfl) (by decide) (by decide) ?_
        exfalso
        omega
      · refine r_aload_n 2 X dX4_ofS_75 rfl ?_
        refine r_callS_v X dX4_ofS_76 kX4_104 (c_X4_isSBelowSides (CX_l X) D z0 h q a b c ht hv) [] rfl rfl (Nat.le_of_ble_eq_true rfl) (by decide) rfl rfl (by decide) ?_
        refine r_if_eq 90 X dX4_ofS_79 (by decide) ⟨by omega, by omega⟩ (fun c79 => ?_) (fun c79 => ?_)
        · refine r_iconst X dX4_ofS_90 ?_
          refine r_zret X Y dX4_ofS_91 (Or.inl rfl) (by decide) (by decide) ?_
          exfalso
          omega
        · refine r_iload_n 0 X dX4_ofS_82 rfl ?_
          refine r_if_eq 90 X dX4_ofS_83 (by decide) ⟨by omega, by omega⟩ (fun c83 => ?_) (fun c83 => ?_)
          · refine r_iconst X dX4_ofS_90 ?_
            refine r_zret X Y dX4_ofS_91 (Or.inl rfl) (by decide) (by decide) ?_
            exfalso
            omega
          · refine r_iconst X dX4_ofS_86 ?_
            refine r_goto 91 X dX4_ofS_87 (by decide) ?_
            refine r_zret X Y dX4_ofS_91 (Or.inr rfl) (by decide) (by decide) ?_
            exact pv rfl
    · refine r_aload_n 2 X dX4_ofS_59 rfl ?_
      refine r_getf X dX4_ofS_60 fX4_98 ht rfl ?_
      refine r_lconst 0 X dX4_ofS_63 (by decide) ?_
      refine r_lcmp_le 90 X dX4_ofS_64 dX4_ofS_65 (by decide) ⟨by omega, by omega⟩ ⟨by omega, by omega⟩ (fun c64 => ?_) (fun c64 => ?_)
      · refine r_iconst X dX4_ofS_90 ?_
        refine r_zret X Y dX4_ofS_91 (Or.inl rfl) (by decide) (by decide) ?_
        exfalso
        omega
      · refine r_aload_n 2 X dX4_ofS_68 rfl ?_
        refine r_callS_v X dX4_ofS_69 kX4_101 (c_X4_isSIfSquaresAreTaken (CX_l X) D z0 h q a b c ht hv) [] rfl rfl (Nat.le_of_ble_eq_true rfl) (by decide) rfl rfl (by decide) ?_
        refine r_if_eq 90 X dX4_ofS_72 (by decide) ⟨by omega, by omega⟩ (fun c72 => ?_) (fun c72 => ?_)
        · refine r_iconst X dX4_ofS_90 ?_
          refine r_zret X Y dX4_ofS_91 (Or.inl rfl) (by decide) (by decide) ?_
          exfalso
          omega
        · refine r_aload_n 2 X dX4_ofS_75 rfl ?_
          refine r_callS_v X dX4_ofS_76 kX4_104 (c_X4_isSBelowSides (CX_l X) D z0 h q a b c ht hv) [] rfl rfl (Nat.le_of_ble_eq_true rfl) (by decide) rfl rfl (by decide) ?_
          refine r_if_eq 90 X dX4_ofS_79 (by decide) ⟨by omega, by omega⟩ (fun c79 => ?_) (fun c79 => ?_)
          · refine r_iconst X dX4_ofS_90 ?_
            refine r_zret X Y dX4_ofS_91 (Or.inl rfl) (by decide) (by decide) ?_
            exfalso
            omega
          · refine r_iload_n 0 X dX4_ofS_82 rfl ?_
            refine r_if_eq 90 X dX4_ofS_83 (by decide) ⟨by omega, by omega⟩ (fun c83 => ?_) (fun c83 => ?_)
            · refine r_iconst X dX4_ofS_90 ?_
              refine r_zret X Y dX4_ofS_91 (Or.inl rfl) (by decide) (by decide) ?_
              exfalso
              omega
            · refine r_iconst X dX4_ofS_86 ?_
              refine r_goto 91 X dX4_ofS_87 (by decide) ?_
              refine r_zret X Y dX4_ofS_91 (Or.inr rfl) (by decide) (by decide) ?_
              exact pv rfl
  · refine r_aload_n 1 X dX4_ofS_11 rfl ?_
    refine r_callV_v X dX4_ofS_12 kX4_87 ht (c_X5_around (CX_l X) D z0 h q a b c ht hv) [] rfl rfl (Nat.le_of_ble_eq_true rfl) (by decide) rfl rfl (by decide) ?_
    refine r_iconst X dX4_ofS_15 ?_
    refine r_irem X dX4_ofS_16 ⟨by omega, by omega⟩ ⟨by omega, by omega⟩ ?_
    refine r_if_ne 48 X dX4_ofS_17 (by decide) ⟨by omega, by omega⟩ (fun c17 => ?_) (fun c17 => ?_)
    · refine r_iconst X dX4_ofS_48 ?_
      refine r_istore_n (L' := [(3, iv 0), (1, jv (rtS (Sx a b c))), (0, .ref q)]) X dX4_ofS_49 (by decide) rfl ?_
      refine r_aload_n 2 X dX4_ofS_50 rfl ?_
      refine r_getf X dX4_ofS_51 fX4_94 ht rfl ?_
      refine r_lconst 0 X dX4_ofS_54 (by decide) ?_
      refine r_lcmp_gt 68 X dX4_ofS_55 dX4_ofS_56 (by decide) ⟨by omega, by omega⟩ ⟨by omega, by omega⟩ (fun c55 => ?_) (fun c55 => ?_)
      · refine r_aload_n 2 X dX4_ofS_68 rfl ?_
        refine r_callS_v X dX4_ofS_69 kX4_101 (c_X4_isSIfSquaresAreTaken (CX_l X) D z0 h q a b c ht hv) [] rfl rfl (Nat.le_of_ble_eq_true rfl) (by decide) rfl rfl (by decide) ?_
        refine r_if_eq 90 X dX4_ofS_72 (by decide) ⟨by omega, by omega⟩ (fun c72 => ?_) (fun c72 => ?_)
        · refine r_iconst X dX4_ofS_90 ?_
          refine r_zret X Y dX4_ofS_91 (Or.inl rfl) (by decide) (by decide) ?_
          exfalso
          omega
        · refine r_aload_n 2 X dX4_ofS_75 rfl ?_
          refine r_callS_v X dX4_ofS_76 kX4_104 (c_X4_isSBelowSides (CX_l X) D z0 h q a b c ht hv) [] rfl rfl (Nat.le_of_ble_eq_true rfl) (by decide) rfl rfl (by decide) ?_
          refine r_if_eq 90 X dX4_ofS_79 (by decide) ⟨by omega, by omega⟩ (fun c79 => ?_) (fun c79 => ?_)
          · refine r_iconst X dX4_ofS_90 ?_
            refine r_zret X Y dX4_ofS_91 (Or.inl rfl) (by decide) (by decide) ?_
            exfalso
            omega
          · refine r_iload_n 0 X dX4_ofS_82 rfl ?_
            refine r_if_eq 90 X dX4_ofS_83 (by decide) ⟨by omega, by omega⟩ (fun c83 => ?_) (fun c83 => ?_)
            · refine r_iconst X dX4_ofS_90 ?_
              refine r_zret X Y dX4_ofS_91 (Or.inl rfl) (by decide) (by decide) ?_
              exfalso
              omega
            · refine r_iconst X dX4_ofS_86 ?_
              refine r_goto 91 X dX4_ofS_87 (by decide) ?_
              refine r_zret X Y dX4_ofS_91 (Or.inr rfl) (by decide) (by decide) ?_
              exact pv rfl
      · refine r_aload_n 2 X dX4_ofS_59 rfl ?_
        refine r_getf X dX4_ofS_60 fX4_98 ht rfl ?_
        refine r_lconst 0 X dX4_ofS_63 (by decide) ?_
        refine r_lcmp_le 90 X dX4_ofS_64 dX4_ofS_65 (by decide) ⟨by omega, by omega⟩ ⟨by omega, by omega⟩ (fun c64 => ?_) (fun c64 => ?_)
        · refine r_iconst X dX4_ofS_90 ?_
          refine r_zret X Y dX4_ofS_91 (Or.inl rfl) (by decide) (by decide) ?_
          exfalso
          omega
        · refine r_aload_n 2 X dX4_ofS_68 rfl ?_
          refine r_callS_v X dX4_ofS_69 kX4_101 (c_X4_isSIfSquaresAreTaken (CX_l X) D z0 h q a b c ht hv) [] rfl rfl (Nat.le_of_ble_eq_true rfl) (by decide) rfl rfl (by decide) ?_
          refine r_if_eq 90 X dX4_ofS_72 (by decide) ⟨by omega, by omega⟩ (fun c72 => ?_) (fun c72 => ?_)
          · refine r_iconst X dX4_ofS_90 ?_
            refine r_zret X Y dX4_ofS_91 (Or.inl rfl) (by decide) (by decide) ?_
            exfalso
            omega
          · refine r_aload_n 2 X dX4_ofS_75 rfl ?_
            refine r_callS_v X dX4_ofS_76 kX4_104 (c_X4_isSBelowSides (CX_l X) D z0 h q a b c ht hv) [] rfl rfl (Nat.le_of_ble_eq_true rfl) (by decide) rfl rfl (by decide) ?_
            refine r_if_eq 90 X dX4_ofS_79 (by decide) ⟨by omega, by omega⟩ (fun c79 => ?_) (fun c79 => ?_)
            · refine r_iconst X dX4_ofS_90 ?_
              refine r_zret X Y dX4_ofS_91 (Or.inl rfl) (by decide) (by decide) ?_
              exfalso
              omega
            · refine r_iload_n 0 X dX4_ofS_82 rfl ?_
              refine r_if_eq 90 X dX4_ofS_83 (by decide) ⟨by omega, by omega⟩ (fun c83 => ?_) (fun c83 => ?_)
              · refine r_iconst X dX4_ofS_90 ?_
                refine r_zret X Y dX4_ofS_91 (Or.inl rfl) (by decide) (by decide) ?_
                exfalso
                omega
              · refine r_iconst X dX4_ofS_86 ?_
                refine r_goto 91 X dX4_ofS_87 (by decide) ?_
                refine r_zret X Y dX4_ofS_91 (Or.inr rfl) (by decide) (by decide) ?_
                exact pv rfl
    · refine r_lload_n 0 X dX4_ofS_20 rfl ?_
      refine r_ldc2 4 X dX4_ofS_21 nX4_90 (by decide) ?_
      refine r_lrem X dX4_ofS_24 ⟨by omega, by omega⟩ ⟨by omega, by omega⟩ ?_
      refine r_lconst 0 X dX4_ofS_25 (by decide) ?_
      refine r_lcmp_ne 48 X dX4_ofS_26 dX4_ofS_27 (by decide) ⟨by omega, by omega⟩ ⟨by omega, by omega⟩ (fun c26 => ?_) (fun c26 => ?_)
      · refine r_iconst X dX4_ofS_48 ?_
        refine r_istore_n (L' := [(3, iv 0), (1, jv (rtS (Sx a b c))), (0, .ref q)]) X dX4_ofS_49 (by decide) rfl ?_
        refine r_aload_n 2 X dX4_ofS_50 rfl ?_
        refine r_getf X dX4_ofS_51 fX4_94 ht rfl ?_
        refine r_lconst 0 X dX4_ofS_54 (by decide) ?_
        refine r_lcmp_gt 68 X dX4_ofS_55 dX4_ofS_56 (by decide) ⟨by omega, by omega⟩ ⟨by omega, by omega⟩ (fun c55 => ?_) (fun c55 => ?_)
        · refine r_aload_n 2 X dX4_ofS_68 rfl ?_
          refine r_callS_v X dX4_ofS_69 kX4_101 (c_X4_isSIfSquaresAreTaken (CX_l X) D z0 h q a b c ht hv) [] rfl rfl (Nat.le_of_ble_eq_true rfl) (by decide) rfl rfl (by decide) ?_
          refine r_if_eq 90 X dX4_ofS_72 (by decide) ⟨by omega, by omega⟩ (fun c72 => ?_) (fun c72 => ?_)
          · refine r_iconst X dX4_ofS_90 ?_
            refine r_zret X Y dX4_ofS_91 (Or.inl rfl) (by decide) (by decide) ?_
            exfalso
            omega
          · refine r_aload_n 2 X dX4_ofS_75 rfl ?_
            refine r_callS_v X dX4_ofS_76 kX4_104 (c_X4_isSBelowSides (CX_l X) D z0 h q a b c ht hv) [] rfl rfl (Nat.le_of_ble_eq_true rfl) (by decide) rfl rfl (by decide) ?_
            refine r_if_eq 90 X dX4_ofS_79 (by decide) ⟨by omega, by omega⟩ (fun c79 => ?_) (fun c79 => ?_)
            · refine r_iconst X dX4_ofS_90 ?_
              refine r_zret X Y dX4_ofS_91 (Or.inl rfl) (by decide) (by decide) ?_
              exfalso
              omega
            · refine r_iload_n 0 X dX4_ofS_82 rfl ?_
              refine r_if_eq 90 X dX4_ofS_83 (by decide) ⟨by omega, by omega⟩ (fun c83 => ?_) (fun c83 => ?_)
              · refine r_iconst X dX4_ofS_90 ?_
                refine r_zret X Y dX4_ofS_91 (Or.inl rfl) (by decide) (by decide) ?_
                exfalso
                omega
              · refine r_iconst X dX4_ofS_86 ?_
                refine r_goto 91 X dX4_ofS_87 (by decide) ?_
                refine r_zret X Y dX4_ofS_91 (Or.inr rfl) (by decide) (by decide) ?_
                exact pv rfl
        · refine r_aload_n 2 X dX4_ofS_59 rfl ?_
          refine r_getf X dX4_ofS_60 fX4_98 ht rfl ?_
          refine r_lconst 0 X dX4_ofS_63 (by decide) ?_
          refine r_lcmp_le 90 X dX4_ofS_64 dX4_ofS_65 (by decide) ⟨by omega, by omega⟩ ⟨by omega, by omega⟩ (fun c64 => ?_) (fun c64 => ?_)
          · refine r_iconst X dX4_ofS_90 ?_
            refine r_zret X Y dX4_ofS_91 (Or.inl rfl) (by decide) (by decide) ?_
            exfalso
            omega
          · refine r_aload_n 2 X dX4_ofS_68 rfl ?_
            refine r_callS_v X dX4_ofS_69 kX4_101 (c_X4_isSIfSquaresAreTaken (CX_l X) D z0 h q a b c ht hv) [] rfl rfl (Nat.le_of_ble_eq_true rfl) (by decide) rfl rfl (by decide) ?_
            refine r_if_eq 90 X dX4_ofS_72 (by decide) ⟨by omega, by omega⟩ (fun c72 => ?_) (fun c72 => ?_)
            · refine r_iconst X dX4_ofS_90 ?_
              refine r_zret X Y dX4_ofS_91 (Or.inl rfl) (by decide) (by decide) ?_
              exfalso
              omega
            · refine r_aload_n 2 X dX4_ofS_75 rfl ?_
              refine r_callS_v X dX4_ofS_76 kX4_104 (c_X4_isSBelowSides (CX_l X) D z0 h q a b c ht hv) [] rfl rfl (Nat.le_of_ble_eq_true rfl) (by decide) rfl rfl (by decide) ?_
              refine r_if_eq 90 X dX4_ofS_79 (by decide) ⟨by omega, by omega⟩ (fun c79 => ?_) (fun c79 => ?_)
              · refine r_iconst X dX4_ofS_90 ?_
                refine r_zret X Y dX4_ofS_91 (Or.inl rfl) (by decide) (by decide) ?_
                exfalso
                omega
              · refine r_iload_n 0 X dX4_ofS_82 rfl ?_
                refine r_if_eq 90 X dX4_ofS_83 (by decide) ⟨by omega, by omega⟩ (fun c83 => ?_) (fun c83 => ?_)
                · refine r_iconst X dX4_ofS_90 ?_
                  refine r_zret X Y dX4_ofS_91 (Or.inl rfl) (by decide) (by decide) ?_
                  exfalso
                  omega
                · refine r_iconst X dX4_ofS_86 ?_
                  refine r_goto 91 X dX4_ofS_87 (by decide) ?_
                  refine r_zret X Y dX4_ofS_91 (Or.inr rfl) (by decide) (by decide) ?_
                  exact pv rfl
      · refine r_lload_n 0 X dX4_ofS_30 rfl ?_
        refine r_ldc2 4 X dX4_ofS_31 nX4_90 (by decide) ?_
        refine r_ldiv X dX4_ofS_34 ⟨by omega, by omega⟩ ⟨by omega, by omega⟩ ?_
        refine r_ldc2 6 X dX4_ofS_35 nX4_92 (by decide) ?_
        refine r_lrem X dX4_ofS_38 ⟨by omega, by omega⟩ ⟨by omega, by omega⟩ ?_
        refine r_lconst 0 X dX4_ofS_39 (by decide) ?_
        refine r_lcmp_ne 48 X dX4_ofS_40 dX4_ofS_41 (by decide) ⟨by omega, by omega⟩ ⟨by omega, by omega⟩ (fun c40 => ?_) (fun c40 => ?_)
        · refine r_iconst X dX4_ofS_48 ?_
          refine r_istore_n (L' := [(3, iv 0), (1, jv (rtS (Sx a b c))), (0, .ref q)]) X dX4_ofS_49 (by decide) rfl ?_
          refine r_aload_n 2 X dX4_ofS_50 rfl ?_
          refine r_getf X dX4_ofS_51 fX4_94 ht rfl ?_
          refine r_lconst 0 X dX4_ofS_54 (by decide) ?_
          refine r_lcmp_gt 68 X dX4_ofS_55 dX4_ofS_56 (by decide) ⟨by omega, by omega⟩ ⟨by omega, by omega⟩ (fun c55 => ?_) (fun c55 => ?_)
          · refine r_aload_n 2 X dX4_ofS_68 rfl ?_
            refine r_callS_v X dX4_ofS_69 kX4_101 (c_X4_isSIfSquaresAreTaken (CX_l X) D z0 h q a b c ht hv) [] rfl rfl (Nat.le_of_ble_eq_true rfl) (by decide) rfl rfl (by decide) ?_
            refine r_if_eq 90 X dX4_ofS_72 (by decide) ⟨by omega, by omega⟩ (fun c72 => ?_) (fun c72 => ?_)
            · refine r_iconst X dX4_ofS_90 ?_
              refine r_zret X Y dX4_ofS_91 (Or.inl rfl) (by decide) (by decide) ?_
              exfalso
              omega
            · refine r_aload_n 2 X dX4_ofS_75 rfl ?_
              refine r_callS_v X dX4_ofS_76 kX4_104 (c_X4_isSBelowSides (CX_l X) D z0 h q a b c ht hv) [] rfl rfl (Nat.le_of_ble_eq_true rfl) (by decide) rfl rfl (by decide) ?_
              refine r_if_eq 90 X dX4_ofS_79 (by decide) ⟨by omega, by omega⟩ (fun c79 => ?_) (fun c79 => ?_)
              · refine r_iconst X dX4_ofS_90 ?_
                refine r_zret X Y dX4_ofS_91 (Or.inl rfl) (by decide) (by decide) ?_
                exfalso
                omega
              · refine r_iload_n 0 X dX4_ofS_82 rfl ?_
                refine r_if_eq 90 X dX4_ofS_83 (by decide) ⟨by omega, by omega⟩ (fun c83 => ?_) (fun c83 => ?_)
                · refine r_iconst X dX4_ofS_90 ?_
                  refine r_zret X Y dX4_ofS_91 (Or.inl rfl) (by decide) (by decide) ?_
                  exfalso
                  omega
                · refine r_iconst X dX4_ofS_86 ?_
                  refine r_goto 91 X dX4_ofS_87 (by decide) ?_
                  refine r_zret X Y dX4_ofS_91 (Or.inr rfl) (by decide) (by decide) ?_
                  exact pv rfl
          · refine r_aload_n 2 X dX4_ofS_59 rfl ?_
            refine r_getf X dX4_ofS_60 fX4_98 ht rfl ?_
            refine r_lconst 0 X dX4_ofS_63 (by decide) ?_
            refine r_lcmp_le 90 X dX4_ofS_64 dX4_ofS_65 (by decide) ⟨by omega, by omega⟩ ⟨by omega, by omega⟩ (fun c64 => ?_) (fun c64 => ?_)
            · refine r_iconst X dX4_ofS_90 ?_
              refine r_zret X Y dX4_ofS_91 (Or.inl rfl) (by decide) (by decide) ?_
              exfalso
              omega
            · refine r_aload_n 2 X dX4_ofS_68 rfl ?_
              refine r_callS_v X dX4_ofS_69 kX4_101 (c_X4_isSIfSquaresAreTaken (CX_l X) D z0 h q a b c ht hv) [] rfl rfl (Nat.le_of_ble_eq_true rfl) (by decide) rfl rfl (by decide) ?_
              refine r_if_eq 90 X dX4_ofS_72 (by decide) ⟨by omega, by omega⟩ (fun c72 => ?_) (fun c72 => ?_)
              · refine r_iconst X dX4_ofS_90 ?_
                refine r_zret X Y dX4_ofS_91 (Or.inl rfl) (by decide) (by decide) ?_
                exfalso
                omega
              · refine r_aload_n 2 X dX4_ofS_75 rfl ?_
                refine r_callS_v X dX4_ofS_76 kX4_104 (c_X4_isSBelowSides (CX_l X) D z0 h q a b c ht hv) [] rfl rfl (Nat.le_of_ble_eq_true rfl) (by decide) rfl rfl (by decide) ?_
                refine r_if_eq 90 X dX4_ofS_79 (by decide) ⟨by omega, by omega⟩ (fun c79 => ?_) (fun c79 => ?_)
                · refine r_iconst X dX4_ofS_90 ?_
                  refine r_zret X Y dX4_ofS_91 (Or.inl rfl) (by decide) (by decide) ?_
                  exfalso
                  omega
                · refine r_iload_n 0 X dX4_ofS_82 rfl ?_
                  refine r_if_eq 90 X dX4_ofS_83 (by decide) ⟨by omega, by omega⟩ (fun c83 => ?_) (fun c83 => ?_)
                  · refine r_iconst X dX4_ofS_90 ?_
                    refine r_zret X Y dX4_ofS_91 (Or.inl rfl) (by decide) (by decide) ?_
                    exfalso
                    omega
                  · refine r_iconst X dX4_ofS_86 ?_
                    refine r_goto 91 X dX4_ofS_87 (by decide) ?_
                    refine r_zret X Y dX4_ofS_91 (Or.inr rfl) (by decide) (by decide) ?_
                    exact pv rfl
        · refine r_iconst X dX4_ofS_44 ?_
          refine r_goto 49 X dX4_ofS_45 (by decide) ?_
          refine r_istore_n (L' := [(3, iv 1), (1, jv (rtS (Sx a b c))), (0, .ref q)]) X dX4_ofS_49 (by decide) rfl ?_
          refine r_aload_n 2 X dX4_ofS_50 rfl ?_
          refine r_getf X dX4_ofS_51 fX4_94 ht rfl ?_
          refine r_lconst 0 X dX4_ofS_54 (by decide) ?_
          refine r_lcmp_gt 68 X dX4_ofS_55 dX4_ofS_56 (by decide) ⟨by omega, by omega⟩ ⟨by omega, by omega⟩ (fun c55 => ?_) (fun c55 => ?_)
          · refine r_aload_n 2 X dX4_ofS_68 rfl ?_
            refine r_callS_v X dX4_ofS_69 kX4_101 (c_X4_isSIfSquaresAreTaken (CX_l X) D z0 h q a b c ht hv) [] rfl rfl (Nat.le_of_ble_eq_true rfl) (by decide) rfl rfl (by decide) ?_
            refine r_if_eq 90 X dX4_ofS_72 (by decide) ⟨by omega, by omega⟩ (fun c72 => ?_) (fun c72 => ?_)
            · refine r_iconst X dX4_ofS_90 ?_
              refine r_zret X Y dX4_ofS_91 (Or.inl rfl) (by decide) (by decide) ?_
              exfalso
              omega
            · refine r_aload_n 2 X dX4_ofS_75 rfl ?_
              refine r_callS_v X dX4_ofS_76 kX4_104 (c_X4_isSBelowSides (CX_l X) D z0 h q a b c ht hv) [] rfl rfl (Nat.le_of_ble_eq_true rfl) (by decide) rfl rfl (by decide) ?_
              refine r_if_eq 90 X dX4_ofS_79 (by decide) ⟨by omega, by omega⟩ (fun c79 => ?_) (fun c79 => ?_)
              · refine r_iconst X dX4_ofS_90 ?_
                refine r_zret X Y dX4_ofS_91 (Or.inl rfl) (by decide) (by decide) ?_
                exfalso
                omega
              · refine r_iload_n 0 X dX4_ofS_82 rfl ?_
                refine r_if_eq 90 X dX4_ofS_83 (by decide) ⟨by omega, by omega⟩ (fun c83 => ?_) (fun c83 => ?_)
                · refine r_iconst X dX4_ofS_90 ?_
                  refine r_zret X Y dX4_ofS_91 (Or.inl rfl) (by decide) (by decide) ?_
                  exfalso
                  omega
                · refine r_iconst X dX4_ofS_86 ?_
                  refine r_goto 91 X dX4_ofS_87 (by decide) ?_
                  refine r_zret X Y dX4_ofS_91 (Or.inr rfl) (by decide) (by decide) ?_
                  exact pv rfl
          · refine r_aload_n 2 X dX4_ofS_59 rfl ?_
            refine r_getf X dX4_ofS_60 fX4_98 ht rfl ?_
            refine r_lconst 0 X dX4_ofS_63 (by decide) ?_
            refine r_lcmp_le 90 X dX4_ofS_64 dX4_ofS_65 (by decide) ⟨by omega, by omega⟩ ⟨by omega, by omega⟩ (fun c64 => ?_) (fun c64 => ?_)
            · refine r_iconst X dX4_ofS_90 ?_
              refine r_zret X Y dX4_ofS_91 (Or.inl rfl) (by decide) (by decide) ?_
              exfalso
              omega
            · refine r_aload_n 2 X dX4_ofS_68 rfl ?_
              refine r_callS_v X dX4_ofS_69 kX4_101 (c_X4_isSIfSquaresAreTaken (CX_l X) D z0 h q a b c ht hv) [] rfl rfl (Nat.le_of_ble_eq_true rfl) (by decide) rfl rfl (by decide) ?_
              refine r_if_eq 90 X dX4_ofS_72 (by decide) ⟨by omega, by omega⟩ (fun c72 => ?_) (fun c72 => ?_)
              · refine r_iconst X dX4_ofS_90 ?_
                refine r_zret X Y dX4_ofS_91 (Or.inl rfl) (by decide) (by decide) ?_
                exfalso
                omega
              · refine r_aload_n 2 X dX4_ofS_75 rfl ?_
                refine r_callS_v X dX4_ofS_76 kX4_104 (c_X4_isSBelowSides (CX_l X) D z0 h q a b c ht hv) [] rfl rfl (Nat.le_of_ble_eq_true rfl) (by decide) rfl rfl (by decide) ?_
                refine r_if_eq 90 X dX4_ofS_79 (by decide) ⟨by omega, by omega⟩ (fun c79 => ?_) (fun c79 => ?_)
                · refine r_iconst X dX4_ofS_90 ?_
                  refine r_zret X Y dX4_ofS_91 (Or.inl rfl) (by decide) (by decide) ?_
                  exfalso
                  omega
                · refine r_iload_n 0 X dX4_ofS_82 rfl ?_
                  refine r_if_eq 90 X dX4_ofS_83 (by decide) ⟨by omega, by omega⟩ (fun c83 => ?_) (fun c83 => ?_)
                  · refine r_iconst X dX4_ofS_90 ?_
                    refine r_zret X Y dX4_ofS_91 (Or.inl rfl) (by decide) (by decide) ?_
                    exfalso
                    omega
                  · refine r_iconst X dX4_ofS_86 ?_
                    refine r_goto 91 X dX4_ofS_87 (by decide) ?_
                    refine r_zret X Y dX4_ofS_91 (Or.inr rfl) (by decide) (by decide) ?_
                    exact pv rfl
abbrev rX4_ofRight : Room := { frames := 4, cells := 0, slots := 0, locals := 100 }
theorem c_X4_ofRight {l : Launch} (hl : l.stackTraces = false) (D : va_G) (z0 : Nat) (h : Hp) (q : Nat) (a b c : Int) (ht : h q = some (triE a b c)) (hv : TV a b c) (h0 : sqb3 a b c 2 = 0) : CC l yX4_ofRight cX4_ofRight 3 (some .boolean) rX4_ofRight D z0 h [.ref q] (PV (iv 1) h) NX := by
  refine CC_of RX4 hl (by decide) rfl (Nat.le_of_ble_eq_true rfl) (fun K X Y Z hmn hKl => ?_)
  subst hKl
  have hb := TV_b hv
  have hS := Sx_b hv
  obtain ⟨f1, f2, f3, f4, f5, f6, f7⟩ := rt_facts hv h0
  rw [← f3] at f4 f6
  have f8 : wq (2 * a * b * c) (rtS (Sx a b c)) = c := by rw [f3]; exact f7
  clear f7 f3
  have hrb := rtS_b hv
  have hwb := wqi_b hv
  have hwo := wqo_b hv
  show WW K D z0 3 h 0 0 0 [(0, .ref q)] []
  refine r_aload_n 0 X dX4_ofRight_0 rfl ?_
  refine r_getf X dX4_ofRight_1 fX4_31 ht rfl ?_
  refine r_aload_n 0 X dX4_ofRight_4 rfl ?_
  refine r_getf X dX4_ofRight_5 fX4_37 ht rfl ?_
  refine r_icmp_eq 33 X dX4_ofRight_8 (by decide) ⟨by omega, by omega⟩ ⟨by omega, by omega⟩ (fun c8 => ?_) (fun c8 => ?_)
  · refine r_iconst X dX4_ofRight_33 ?_
    refine r_istore_n (L' := [(1, iv 0), (0, .ref q)]) X dX4_ofRight_34 (by decide) rfl ?_
    refine r_aload_n 1 X dX4_ofRight_35 rfl ?_
    refine r_getf X dX4_ofRight_36 fX4_31 ht rfl ?_
    refine r_aload_n 1 X dX4_ofRight_39 rfl ?_
    refine r_getf X dX4_ofRight_40 fX4_37 ht rfl ?_
    refine r_iadd X dX4_ofRight_43 ?_
    refine r_aload_n 1 X dX4_ofRight_44 rfl ?_
    refine r_getf X dX4_ofRight_45 fX4_46 ht rfl ?_
    refine r_isub X dX4_ofRight_48 ?_
    refine r_istore_n (L' := [(2, iv ((a + b) - c)), (1, iv 0), (0, .ref q)]) X dX4_ofRight_49 (by decide) rfl ?_
    refine r_iload_n 1 X dX4_ofRight_50 rfl ?_
    refine r_if_eq 98 X dX4_ofRight_51 (by decide) ⟨by omega, by omega⟩ (fun c51 => ?_) (fun c51 => ?_)
    · refine r_iconst X dX4_ofRight_98 ?_
      refine r_zret X Y dX4_ofRight_99 (Or.inl rfl) (by decide) (by decide) ?_
      exfalso
      omega
    · refine r_aload_n 2 X dX4_ofRight_54 rfl ?_
      refine r_callV_v X dX4_ofRight_55 kX4_83 ht (c_X5_wholeRootOfS (CX_l X) D z0 h q a b c ht hv) [] rfl rfl (Nat.le_of_ble_eq_true rfl) (by decide) rfl rfl (by decide) ?_
      refine r_lconst 0 X dX4_ofRight_58 (by decide) ?_
      refine r_lcmp_le 98 X dX4_ofRight_59 dX4_ofRight_60 (by decide) ⟨by omega, by omega⟩ ⟨by omega, by omega⟩ (fun c59 => ?_) (fun c59 => ?_)
      · refine r_iconst X dX4_ofRight_98 ?_
        refine r_zret X Y dX4_ofRight_99 (Or.inl rfl) (by decide) (by decide) ?_
        exfalso
        omega
      · refine r_iload_n 0 X dX4_ofRight_63 rfl ?_
        refine r_iconst X dX4_ofRight_64 ?_
        refine r_irem X dX4_ofRight_65 ⟨by omega, by omega⟩ ⟨by omega, by omega⟩ ?_
        refine r_if_ne 98 X dX4_ofRight_66 (by decide) ⟨by omega, by omega⟩ (fun c66 => ?_) (fun c66 => ?_)
        · refine r_iconst X dX4_ofRight_98 ?_
          refine r_zret X Y dX4_ofRight_99 (Or.inl rfl) (by decide) (by decide) ?_
          exfalso
          omega
        · refine r_aload_n 2 X dX4_ofRight_69 rfl ?_
          refine r_callV_v X dX4_ofRight_70 kX4_127 ht (c_X5_innerRadius (CX_l X) D z0 h q a b c ht hv) [] rfl rfl (Nat.le_of_ble_eq_true rfl) (by decide) rfl rfl (by decide) ?_
          refine r_iload_n 0 X dX4_ofRight_73 rfl ?_
          refine r_iconst X dX4_ofRight_74 ?_
          refine r_idiv X dX4_ofRight_75 ⟨by omega, by omega⟩ ⟨by omega, by omega⟩ ?_
          refine r_i2l X dX4_ofRight_76 ⟨by omega, by omega⟩ ?_
          refine r_lcmp_ne 98 X dX4_ofRight_77 dX4_ofRight_78 (by decide) ⟨by omega, by omega⟩ ⟨by omega, by omega⟩ (fun c77 => ?_) (fun c77 => ?_)
          · refine r_iconst X dX4_ofRight_98 ?_
            refine r_zret X Y dX4_ofRight_99 (Or.inl rfl) (by decide) (by decide) ?_
            exfalso
            omega
          · refine r_aload_n 2 X dX4_ofRight_81 rfl ?_
            refine r_callV_v X dX4_ofRight_82 kX4_130 ht (c_X5_outerDiameter (CX_l X) D z0 h q a b c ht hv) [] rfl rfl (Nat.le_of_ble_eq_true rfl) (by decide) rfl rfl (by decide) ?_
            refine r_aload_n 2 X dX4_ofRight_85 rfl ?_
            refine r_getf X dX4_ofRight_86 fX4_46 ht rfl ?_
            refine r_i2l X dX4_ofRight_89 ⟨by omega, by omega⟩ ?_
            refine r_lcmp_ne 98 X dX4_ofRight_90 dX4_ofRight_91 (by decide) ⟨by omega, by omega⟩ ⟨by omega, by omega⟩ (fun c90 => ?_) (fun c90 => ?_)
            · refine r_iconst X dX4_ofRight_98 ?_
              refine r_zret X Y dX4_ofRight_99 (Or.inl rfl) (by decide) (by decide) ?_
              exfalso
              omega
            · refine r_iconst X dX4_ofRight_94 ?_
              refine r_goto 99 X dX4_ofRight_95 (by decide) ?_
              refine r_zret X Y dX4_ofRight_99 (Or.inr rfl) (by decide) (by decide) ?_
              exact pv rfl
  · refine r_aload_n 0 X dX4_ofRight_11 rfl ?_
    refine r_getf X dX4_ofRight_12 fX4_31 ht rfl ?_
    refine r_iconst X dX4_ofRight_15 ?_
    refine r_irem X dX4_ofRight_16 ⟨by omega, by omega⟩ ⟨by omega, by omega⟩ ?_
    refine r_if_eq 29 X dX4_ofRight_17 (by decide) ⟨by omega, by omega⟩ (fun c17 => ?_) (fun c17 => ?_)
    · refine r_iconst X dX4_ofRight_29 ?_
      refine r_goto 34 X dX4_ofRight_30 (by decide) ?_
      refine r_istore_n (L' := [(1, iv 1), (0, .ref q)]) X dX4_ofRight_34 (by decide) rfl ?_
      refine r_aload_n 1 X dX4_ofRight_35 rfl ?_
      refine r_getf X dX4_ofRight_36 fX4_31 ht rfl ?_
      refine r_aload_n 1 X dX4_ofRight_39 rfl ?_
      refine r_getf X dX4_ofRight_40 fX4_37 ht rfl ?_
      refine r_iadd X dX4_ofRight_43 ?_
      refine r_aload_n 1 X dX4_ofRight_44 rfl ?_
      refine r_getf X dX4_ofRight_45 fX4_46 ht rfl ?_
      refine r_isub X dX4_ofRight_48 ?_
      refine r_istore_n (L' := [(2, iv ((a + b) - c)), (1, iv 1), (0, .ref q)]) X dX4_ofRight_49 (by decide) rfl ?_
      refine r_iload_n 1 X dX4_ofRight_50 rfl ?_
      refine r_if_eq 98 X dX4_ofRight_51 (by decide) ⟨by omega, by omega⟩ (fun c51 => ?_) (fun c51 => ?_)
      · refine r_iconst X dX4_ofRight_98 ?_
        refine r_zret X Y dX4_ofRight_99 (Or.inl rfl) (by decide) (by decide) ?_
        exfalso
        omega
      · refine r_aload_n 2 X dX4_ofRight_54 rfl ?_
        refine r_callV_v X dX4_ofRight_55 kX4_83 ht (c_X5_wholeRootOfS (CX_l X) D z0 h q a b c ht hv) [] rfl rfl (Nat.le_of_ble_eq_true rfl) (by decide) rfl rfl (by decide) ?_
        refine r_lconst 0 X dX4_ofRight_58 (by decide) ?_
        refine r_lcmp_le 98 X dX4_ofRight_59 dX4_ofRight_60 (by decide) ⟨by omega, by omega⟩ ⟨by omega, by omega⟩ (fun c59 => ?_) (fun c59 => ?_)
        · refine r_iconst X dX4_ofRight_98 ?_
          refine r_zret X Y dX4_ofRight_99 (Or.inl rfl) (by decide) (by decide) ?_
          exfalso
          omega
        · refine r_iload_n 0 X dX4_ofRight_63 rfl ?_
          refine r_iconst X dX4_ofRight_64 ?_
          refine r_irem X dX4_ofRight_65 ⟨by omega, by omega⟩ ⟨by omega, by omega⟩ ?_
          refine r_if_ne 98 X dX4_ofRight_66 (by decide) ⟨by omega, by omega⟩ (fun c66 => ?_) (fun c66 => ?_)
          · refine r_iconst X dX4_ofRight_98 ?_
            refine r_zret X Y dX4_ofRight_99 (Or.inl rfl) (by decide) (by decide) ?_
            exfalso
            omega
          · refine r_aload_n 2 X dX4_ofRight_69 rfl ?_
            refine r_callV_v X dX4_ofRight_70 kX4_127 ht (c_X5_innerRadius (CX_l X) D z0 h q a b c ht hv) [] rfl rfl (Nat.le_of_ble_eq_true rfl) (by decide) rfl rfl (by decide) ?_
            refine r_iload_n 0 X dX4_ofRight_73 rfl ?_
            refine r_iconst X dX4_ofRight_74 ?_
            refine r_idiv X dX4_ofRight_75 ⟨by omega, by omega⟩ ⟨by omega, by omega⟩ ?_
            refine r_i2l X dX4_ofRight_76 ⟨by omega, by omega⟩ ?_
            refine r_lcmp_ne 98 X dX4_ofRight_77 dX4_ofRight_78 (by decide) ⟨by omega, by omega⟩ ⟨by omega, by omega⟩ (fun c77 => ?_) (fun c77 => ?_)
            · refine r_iconst X dX4_ofRight_98 ?_
              refine r_zret X Y dX4_ofRight_99 (Or.inl rfl) (by decide) (by decide) ?_
              exfalso
              omega
            · refine r_aload_n 2 X dX4_ofRight_81 rfl ?_
              refine r_callV_v X dX4_ofRight_82 kX4_130 ht (c_X5_outerDiameter (CX_l X) D z0 h q a b c ht hv) [] rfl rfl (Nat.le_of_ble_eq_true rfl) (by decide) rfl rfl (by decide) ?_
              refine r_aload_n 2 X dX4_ofRight_85 rfl ?_
              refine r_getf X dX4_ofRight_86 fX4_46 ht rfl ?_
              refine r_i2l X dX4_ofRight_89 ⟨by omega, by omega⟩ ?_
              refine r_lcmp_ne 98 X dX4_ofRight_90 dX4_ofRight_91 (by decide) ⟨by omega, by omega⟩ ⟨by omega, by omega⟩ (fun c90 => ?_) (fun c90 => ?_)
              · refine r_iconst X dX4_ofRight_98 ?_
                refine r_zret X Y dX4_ofRight_99 (Or.inl rfl) (by decide) (by decide) ?_
                exfalso
                omega
              · refine r_iconst X dX4_ofRight_94 ?_
                refine r_goto 99 X dX4_ofRight_95 (by decide) ?_
                refine r_zret X Y dX4_ofRight_99 (Or.inr rfl) (by decide) (by decide) ?_
                exact pv rfl
    · refine r_aload_n 0 X dX4_ofRight_20 rfl ?_
      refine r_getf X dX4_ofRight_21 fX4_37 ht rfl ?_
      refine r_iconst X dX4_ofRight_24 ?_
      refine r_irem X dX4_ofRight_25 ⟨by omega, by omega⟩ ⟨by omega, by omega⟩ ?_
      refine r_if_ne 33 X dX4_ofRight_26 (by decide) ⟨by omega, by omega⟩ (fun c26 => ?_) (fun c26 => ?_)
      · refine r_iconst X dX4_ofRight_33 ?_
        refine r_istore_n (L' := [(1, iv 0), (0, .ref q)]) X dX4_ofRight_34 (by decide) rfl ?_
        refine r_aload_n 1 X dX4_ofRight_35 rfl ?_
        refine r_getf X dX4_ofRight_36 fX4_31 ht rfl ?_
        refine r_aload_n 1 X dX4_ofRight_39 rfl ?_
        refine r_getf X dX4_ofRight_40 fX4_37 ht rfl ?_
        refine r_iadd X dX4_ofRight_43 ?_
        refine r_aload_n 1 X dX4_ofRight_44 rfl ?_
        refine r_getf X dX4_ofRight_45 fX4_46 ht rfl ?_
        refine r_isub X dX4_ofRight_48 ?_
        refine r_istore_n (L' := [(2, iv ((a + b) - c)), (1, iv 0), (0, .ref q)]) X dX4_ofRight_49 (by decide) rfl ?_
        refine r_iload_n 1 X dX4_ofRight_50 rfl ?_
        refine r_if_eq 98 X dX4_ofRight_51 (by decide) ⟨by omega, by omega⟩ (fun c51 => ?_) (fun c51 => ?_)
        · refine r_iconst X dX4_ofRight_98 ?_
          refine r_zret X Y dX4_ofRight_99 (Or.inl rfl) (by decide) (by decide) ?_
          exfalso
          omega
        · refine r_aload_n 2 X dX4_ofRight_54 rfl ?_
          refine r_callV_v X dX4_ofRight_55 kX4_83 ht (c_X5_wholeRootOfS (CX_l X) D z0 h q a b c ht hv) [] rfl rfl (Nat.le_of_ble_eq_true rfl) (by decide) rfl rfl (by decide) ?_
          refine r_lconst 0 X dX4_ofRight_58 (by decide) ?_
          refine r_lcmp_le 98 X dX4_ofRight_59 dX4_ofRight_60 (by decide) ⟨by omega, by omega⟩ ⟨by omega, by omega⟩ (fun c59 => ?_) (fun c59 => ?_)
          · refine r_iconst X dX4_ofRight_98 ?_
            refine r_zret X Y dX4_ofRight_99 (Or.inl rfl) (by decide) (by decide) ?_
            exfalso
            omega
          · refine r_iload_n 0 X dX4_ofRight_63 rfl ?_
            refine r_iconst X dX4_ofRight_64 ?_
            refine r_irem X dX4_ofRight_65 ⟨by omega, by omega⟩ ⟨by omega, by omega⟩ ?_
            refine r_if_ne 98 X dX4_ofRight_66 (by decide) ⟨by omega, by omega⟩ (fun c66 => ?_) (fun c66 => ?_)
            · refine r_iconst X dX4_ofRight_98 ?_
              refine r_zret X Y dX4_ofRight_99 (Or.inl rfl) (by decide) (by decide) ?_
              exfalso
              omega
            · refine r_aload_n 2 X dX4_ofRight_69 rfl ?_
              refine r_callV_v X dX4_ofRight_70 kX4_127 ht (c_X5_innerRadius (CX_l X) D z0 h q a b c ht hv) [] rfl rfl (Nat.le_of_ble_eq_true rfl) (by decide) rfl rfl (by decide) ?_
              refine r_iload_n 0 X dX4_ofRight_73 rfl ?_
              refine r_iconst X dX4_ofRight_74 ?_
              refine r_idiv X dX4_ofRight_75 ⟨by omega, by omega⟩ ⟨by omega, by omega⟩ ?_
              refine r_i2l X dX4_ofRight_76 ⟨by omega, by omega⟩ ?_
              refine r_lcmp_ne 98 X dX4_ofRight_77 dX4_ofRight_78 (by decide) ⟨by omega, by omega⟩ ⟨by omega, by omega⟩ (fun c77 => ?_) (fun c77 => ?_)
              · refine r_iconst X dX4_ofRight_98 ?_
                refine r_zret X Y dX4_ofRight_99 (Or.inl rfl) (by decide) (by decide) ?_
                exfalso
                omega
              · refine r_aload_n 2 X dX4_ofRight_81 rfl ?_
                refine r_callV_v X dX4_ofRight_82 kX4_130 ht (c_X5_outerDiameter (CX_l X) D z0 h q a b c ht hv) [] rfl rfl (Nat.le_of_ble_eq_true rfl) (by decide) rfl rfl (by decide) ?_
                refine r_aload_n 2 X dX4_ofRight_85 rfl ?_
                refine r_getf X dX4_ofRight_86 fX4_46 ht rfl ?_
                refine r_i2l X dX4_ofRight_89 ⟨by omega, by omega⟩ ?_
                refine r_lcmp_ne 98 X dX4_ofRight_90 dX4_ofRight_91 (by decide) ⟨by omega, by omega⟩ ⟨by omega, by omega⟩ (fun c90 => ?_) (fun c90 => ?_)
                · refine r_iconst X dX4_ofRight_98 ?_
                  refine r_zret X Y dX4_ofRight_99 (Or.inl rfl) (by decide) (by decide) ?_
                  exfalso
                  omega
                · refine r_iconst X dX4_ofRight_94 ?_
                  refine r_goto 99 X dX4_ofRight_95 (by decide) ?_
                  refine r_zret X Y dX4_ofRight_99 (Or.inr rfl) (by decide) (by decide) ?_
                  exact pv rfl
      · refine r_iconst X dX4_ofRight_29 ?_
        refine r_goto 34 X dX4_ofRight_30 (by decide) ?_
        refine r_istore_n (L' := [(1, iv 1), (0, .ref q)]) X dX4_ofRight_34 (by decide) rfl ?_
        refine r_aload_n 1 X dX4_ofRight_35 rfl ?_
        refine r_getf X dX4_ofRight_36 fX4_31 ht rfl ?_
        refine r_aload_n 1 X dX4_ofRight_39 rfl ?_
        refine r_getf X dX4_ofRight_40 fX4_37 ht rfl ?_
        refine r_iadd X dX4_ofRight_43 ?_
        refine r_aload_n 1 X dX4_ofRight_44 rfl ?_
        refine r_getf X dX4_ofRight_45 fX4_46 ht rfl ?_
        refine r_isub X dX4_ofRight_48 ?_
        refine r_istore_n (L' := [(2, iv ((a + b) - c)), (1, iv 1), (0, .ref q)]) X dX4_ofRight_49 (by decide) rfl ?_
        refine r_iload_n 1 X dX4_ofRight_50 rfl ?_
        refine r_if_eq 98 X dX4_ofRight_51 (by decide) ⟨by omega, by omega⟩ (fun c51 => ?_) (fun c51 => ?_)
        · refine r_iconst X dX4_ofRight_98 ?_
          refine r_zret X Y dX4_ofRight_99 (Or.inl rfl) (by decide) (by decide) ?_
          exfalso
          omega
        · refine r_aload_n 2 X dX4_ofRight_54 rfl ?_
          refine r_callV_v X dX4_ofRight_55 kX4_83 ht (c_X5_wholeRootOfS (CX_l X) D z0 h q a b c ht hv) [] rfl rfl (Nat.le_of_ble_eq_true rfl) (by decide) rfl rfl (by decide) ?_
          refine r_lconst 0 X dX4_ofRight_58 (by decide) ?_
          refine r_lcmp_le 98 X dX4_ofRight_59 dX4_ofRight_60 (by decide) ⟨by omega, by omega⟩ ⟨by omega, by omega⟩ (fun c59 => ?_) (fun c59 => ?_)
          · refine r_iconst X dX4_ofRight_98 ?_
            refine r_zret X Y dX4_ofRight_99 (Or.inl rfl) (by decide) (by decide) ?_
            exfalso
            omega
          · refine r_iload_n 0 X dX4_ofRight_63 rfl ?_
            refine r_iconst X dX4_ofRight_64 ?_
            refine r_irem X dX4_ofRight_65 ⟨by omega, by omega⟩ ⟨by omega, by omega⟩ ?_
            refine r_if_ne 98 X dX4_ofRight_66 (by decide) ⟨by omega, by omega⟩ (fun c66 => ?_) (fun c66 => ?_)
            · refine r_iconst X dX4_ofRight_98 ?_
              refine r_zret X Y dX4_ofRight_99 (Or.inl rfl) (by decide) (by decide) ?_
              exfalso
              omega
            · refine r_aload_n 2 X dX4_ofRight_69 rfl ?_
              refine r_callV_v X dX4_ofRight_70 kX4_127 ht (c_X5_innerRadius (CX_l X) D z0 h q a b c ht hv) [] rfl rfl (Nat.le_of_ble_eq_true rfl) (by decide) rfl rfl (by decide) ?_
              refine r_iload_n 0 X dX4_ofRight_73 rfl ?_
              refine r_iconst X dX4_ofRight_74 ?_
              refine r_idiv X dX4_ofRight_75 ⟨by omega, by omega⟩ ⟨by omega, by omega⟩ ?_
              refine r_i2l X dX4_ofRight_76 ⟨by omega, by omega⟩ ?_
              refine r_lcmp_ne 98 X dX4_ofRight_77 dX4_ofRight_78 (by decide) ⟨by omega, by omega⟩ ⟨by omega, by omega⟩ (fun c77 => ?_) (fun c77 => ?_)
              · refine r_iconst X dX4_ofRight_98 ?_
                refine r_zret X Y dX4_ofRight_99 (Or.inl rfl) (by decide) (by decide) ?_
                exfalso
                omega
              · refine r_aload_n 2 X dX4_ofRight_81 rfl ?_
                refine r_callV_v X dX4_ofRight_82 kX4_130 ht (c_X5_outerDiameter (CX_l X) D z0 h q a b c ht hv) [] rfl rfl (Nat.le_of_ble_eq_true rfl) (by decide) rfl rfl (by decide) ?_
                refine r_aload_n 2 X dX4_ofRight_85 rfl ?_
                refine r_getf X dX4_ofRight_86 fX4_46 ht rfl ?_
                refine r_i2l X dX4_ofRight_89 ⟨by omega, by omega⟩ ?_
                refine r_lcmp_ne 98 X dX4_ofRight_90 dX4_ofRight_91 (by decide) ⟨by omega, by omega⟩ ⟨by omega, by omega⟩ (fun c90 => ?_) (fun c90 => ?_)
                · refine r_iconst X dX4_ofRight_98 ?_
                  refine r_zret X Y dX4_ofRight_99 (Or.inl rfl) (by decide) (by decide) ?_
                  exfalso
                  omega
                · refine r_iconst X dX4_ofRight_94 ?_
                  refine r_goto 99 X dX4_ofRight_95 (by decide) ?_
                  refine r_zret X Y dX4_ofRight_99 (Or.inr rfl) (by decide) (by decide) ?_
                  exact pv rfl
abbrev rX4_isByNumber : Room := { frames := 2, cells := 0, slots := 0, locals := 50 }
theorem c_X4_isByNumber {l : Launch} (hl : l.stackTraces = false) (D : va_G) (z0 : Nat) (h : Hp) (q : Nat) (a b c : Int) (ht : h q = some (triE a b c)) (hv : TV a b c) (hq0 : sqb3 a b c 2 = 0) (M N : Nat) (hN1 : 1 ≤ N) (hNM : N < M) (hM : c + odd2 a b = 2 * ((M : Int) * M)) (hN : c - odd2 a b = 2 * ((N : Int) * N)) (hy : eve2 a b = 2 * M * N) (hg1 : Nat.gcd M N = 1) (hp2 : (M + N) % 2 = 1) (hM255 : M ≤ 255) (m : Int) (hm : 2 ≤ m ∧ m ≤ 255) : CC l yX4_isByNumber cX4_isByNumber 4 (some .boolean) rX4_isByNumber D z0 h [.ref q, iv m] (PV (iv (if m = (M : Int) then 1 else 0)) h) NX := by
  refine CC_of RX4 hl (by decide) rfl (Nat.le_of_ble_eq_true rfl) (fun K X Y Z hmn hKl => ?_)
  subst hKl
  have hb := TV_b hv
  have hS := Sx_b hv
  show WW K D z0 4 h 0 0 0 [(0, .ref q), (1, iv m)] []
  by_cases hmM : m = (M : Int)
  · subst hmM
    have eN : ((N * N : Nat) : Int) = (N : Int) * N := rfl
    have hbN := Nat.mul_le_mul (show N ≤ 255 by omega) (show N ≤ 255 by omega)
    have hN0 := Nat.mul_pos hN1 hN1
    have hcS : CC K.2.1 yX1_isSquare cX1_isSquare 4 (some .boolean) rX1_isSquare D z0 h [jv ((N * N : Nat) : Int)] (PV (iv (if True then 1 else 0)) h) NX := by
      have := c_X1_isSquare (CX_l X) D z0 h ((N * N : Nat) : Int) ⟨by omega, by omega⟩
      rw [show (((N * N : Nat) : Int)).toNat = N * N from rfl, isq_sq, if_pos (by rfl)] at this
      exact this
    have hcR : CC K.2.1 yX1_wholeRoot cX1_wholeRoot 8 (some .long) rX1_wholeRoot D z0 h [jv ((N * N : Nat) : Int)] (PV (jv (N : Int)) h) NX := by
      have := c_X1_wholeRoot (CX_l X) D z0 h ((N * N : Nat) : Int) ⟨by omega, by omega⟩
      rw [show (((N * N : Nat) : Int)).toNat = N * N from rfl, isq_sq] at this
      exact this
    have hcG : CC K.2.1 yX1_commonDivisor cX1_commonDivisor 11 (some .long) rX1_commonDivisor D z0 h [jv (M : Int), jv (N : Int)] (PV (jv 1) h) NX := by
      have := c_X1_commonDivisor (CX_l X) D z0 h (M : Int) (N : Int) ⟨by omega, by omega⟩ ⟨by omega, by omega⟩
      rw [show Int.gcd (M : Int) (N : Int) = 1 from hg1] at this
      exact this
    have hol : 1 ≤ odd2 a b ∧ odd2 a b < c := by
      have := rt_lt hv hq0
      unfold odd2
      split <;> omega
    have hel : 1 ≤ 2 * (M : Int) * N ∧ 2 * (M : Int) * N < c := by
      have := rt_lt hv hq0
      rw [← hy]
      unfold eve2
      split <;> omega
    refine r_aload_n 0 X dX4_isByNumber_0 rfl ?_
    refine r_getf X dX4_isByNumber_1 fX4_46 ht rfl ?_
    refine r_iload_n 1 X dX4_isByNumber_4 rfl ?_
    refine r_iload_n 1 X dX4_isByNumber_5 rfl ?_
    refine r_imul X dX4_isByNumber_6 ?_
    refine r_isub X dX4_isByNumber_7 ?_
    refine WW_e (congrArg (fun z => iv z :: []) (show c - ((M : Int) * (M : Int)) = ((N * N : Nat) : Int) by omega)) ?_
    show WW K D z0 4 h 0 0 8 [(0, .ref q), (1, iv (M : Int))] [iv ((N * N : Nat) : Int)]
    refine r_istore_n (L' := [(2, iv ((N * N : Nat) : Int)), (0, .ref q), (1, iv (M : Int))]) X dX4_isByNumber_8 (by decide) rfl ?_
    refine r_iload_n 0 X dX4_isByNumber_9 rfl ?_
    refine r_iconst X dX4_isByNumber_10 ?_
    refine r_icmp_lt 22 X dX4_isByNumber_11 (by decide) ⟨by omega, by omega⟩ ⟨by omega, by omega⟩ (fun c11 => ?_) (fun c11 => ?_)
    · refine r_iconst X dX4_isByNumber_22 ?_
      refine r_zret X Y dX4_isByNumber_23 (Or.inl rfl) (by decide) (by decide) ?_
      exfalso
      first | omega | exact absurd trivial c19 | (unfold odd2 at hM hN; omega) | (unfold eve2 at hy; omega)
    · refine r_iload_n 0 X dX4_isByNumber_14 rfl ?_
      refine r_i2l X dX4_isByNumber_15 ⟨by omega, by omega⟩ ?_
      refine r_callS_v X dX4_isByNumber_16 kX4_27 hcS [] rfl rfl (Nat.le_of_ble_eq_true rfl) (by decide) rfl rfl (by decide) ?_
      refine r_ifb_ne 24 X dX4_isByNumber_19 (by decide) (fun c19 => ?_) (fun c19 => ?_)
      · refine r_iload_n 0 X dX4_isByNumber_24 rfl ?_
        refine r_i2l X dX4_isByNumber_25 ⟨by omega, by omega⟩ ?_
        refine r_callS_v X dX4_isByNumber_26 kX4_9 hcR [] rfl rfl (Nat.le_of_ble_eq_true rfl) (by decide) rfl rfl (by decide) ?_
        refine r_l2i X dX4_isByNumber_29 ?_
        refine r_istore_n (L' := [(3, iv (N : Int)), (2, iv ((N * N : Nat) : Int)), (0, .ref q), (1, iv (M : Int))]) X dX4_isByNumber_30 (by decide) rfl ?_
        refine r_iload_n 3 X dX4_isByNumber_31 rfl ?_
        refine r_iload_n 0 X dX4_isByNumber_32 rfl ?_
        refine r_icmp_le 85 X dX4_isByNumber_33 (by decide) ⟨by omega, by omega⟩ ⟨by omega, by omega⟩ (fun c33 => ?_) (fun c33 => ?_)
        · refine r_iconst X dX4_isByNumber_85 ?_
          refine r_zret X Y dX4_isByNumber_86 (Or.inl rfl) (by decide) (by decide) ?_
          exfalso
          first | omega | exact absurd trivial c19 | (unfold odd2 at hM hN; omega) | (unfold eve2 at hy; omega)
        · refine r_iload_n 3 X dX4_isByNumber_36 rfl ?_
          refine r_iload_n 0 X dX4_isByNumber_37 rfl ?_
          refine r_iadd X dX4_isByNumber_38 ?_
          refine r_iconst X dX4_isByNumber_39 ?_
          refine r_irem X dX4_isByNumber_40 ⟨by omega, by omega⟩ ⟨by omega, by omega⟩ ?_
          refine r_iconst X dX4_isByNumber_41 ?_
          refine r_icmp_ne 85 X dX4_isByNumber_42 (by decide) ⟨by omega, by omega⟩ ⟨by omega, by omega⟩ (fun c42 => ?_) (fun c42 => ?_)
          · refine r_iconst X dX4_isByNumber_85 ?_
            refine r_zret X Y dX4_isByNumber_86 (Or.inl rfl) (by decide) (by decide) ?_
            exfalso
            first | omega | exact absurd trivial c19 | (unfold odd2 at hM hN; omega) | (unfold eve2 at hy; omega)
          · refine r_iload_n 3 X dX4_isByNumber_45 rfl ?_
            refine r_i2l X dX4_isByNumber_46 ⟨by omega, by omega⟩ ?_
            refine r_iload_n 0 X dX4_isByNumber_47 rfl ?_
            refine r_i2l X dX4_isByNumber_48 ⟨by omega, by omega⟩ ?_
            refine r_callS_v X dX4_isByNumber_49 kX4_149 hcG [] rfl rfl (Nat.le_of_ble_eq_true rfl) (by decide) rfl rfl (by decide) ?_
            refine r_lconst 1 X dX4_isByNumber_52 (by decide) ?_
            refine r_lcmp_ne 85 X dX4_isByNumber_53 dX4_isByNumber_54 (by decide) ⟨by omega, by omega⟩ ⟨by omega, by omega⟩ (fun c53 => ?_) (fun c53 => ?_)
            · refine r_iconst X dX4_isByNumber_85 ?_
              refine r_zret X Y dX4_isByNumber_86 (Or.inl rfl) (by decide) (by decide) ?_
              exfalso
              first | omega | exact absurd trivial c19 | (unfold odd2 at hM hN; omega) | (unfold eve2 at hy; omega)
            · refine r_iload_n 3 X dX4_isByNumber_57 rfl ?_
              refine r_iload_n 3 X dX4_isByNumber_58 rfl ?_
              refine r_imul X dX4_isByNumber_59 ?_
              refine r_iload_n 1 X dX4_isByNumber_60 rfl ?_
              refine r_isub X dX4_isByNumber_61 ?_
              refine r_aload_n 2 X dX4_isByNumber_62 rfl ?_
              refine r_callV_v X dX4_isByNumber_63 kX4_137 ht (c_X5_oddLeg (CX_l X) D z0 h q a b c ht hv) [iv (((M : Int) * (M : Int)) - ((N * N : Nat) : Int))] rfl rfl (Nat.le_of_ble_eq_true rfl) (by decide) rfl rfl (by decide) ?_
              refine r_icmp_ne 85 X dX4_isByNumber_66 (by decide) ⟨by omega, by omega⟩ ⟨by omega, by omega⟩ (fun c66 => ?_) (fun c66 => ?_)
              · refine r_iconst X dX4_isByNumber_85 ?_
                refine r_zret X Y dX4_isByNumber_86 (Or.inl rfl) (by decide) (by decide) ?_
                exfalso
                first | omega | exact absurd trivial c19 | (unfold odd2 at hM hN; omega) | (unfold eve2 at hy; omega)
              · refine r_iconst X dX4_isByNumber_69 ?_
                refine r_iload_n 3 X dX4_isByNumber_70 rfl ?_
                refine r_imul X dX4_isByNumber_71 ?_
                refine r_iload_n 0 X dX4_isByNumber_72 rfl ?_
                refine r_imul X dX4_isByNumber_73 ?_
                refine r_aload_n 2 X dX4_isByNumber_74 rfl ?_
                refine r_callV_v X dX4_isByNumber_75 kX4_140 ht (c_X5_evenLeg (CX_l X) D z0 h q a b c ht hv) [iv ((2 * (M : Int)) * (N : Int))] rfl rfl (Nat.le_of_ble_eq_true rfl) (by decide) rfl rfl (by decide) ?_
                refine r_icmp_ne 85 X dX4_isByNumber_78 (by decide) ⟨by omega, by omega⟩ ⟨by omega, by omega⟩ (fun c78 => ?_) (fun c78 => ?_)
                · refine r_iconst X dX4_isByNumber_85 ?_
                  refine r_zret X Y dX4_isByNumber_86 (Or.inl rfl) (by decide) (by decide) ?_
                  exfalso
                  first | omega | exact absurd trivial c19 | (unfold odd2 at hM hN; omega) | (unfold eve2 at hy; omega)
                · refine r_iconst X dX4_isByNumber_81 ?_
                  refine r_goto 86 X dX4_isByNumber_82 (by decide) ?_
                  refine r_zret X Y dX4_isByNumber_86 (Or.inr rfl) (by decide) (by decide) ?_
                  exact pv (by rw [if_pos rfl])
      · refine r_iconst X dX4_isByNumber_22 ?_
        refine r_zret X Y dX4_isByNumber_23 (Or.inl rfl) (by decide) (by decide) ?_
        exfalso
        first | omega | exact absurd trivial c19 | (unfold odd2 at hM hN; omega) | (unfold eve2 at hy; omega)
  · have hno : ¬ 2 * (m * m) = c + odd2 a b := by
      intro z
      rw [hM] at z
      apply hmM
      have z1 : m * m = (M : Int) * M := by omega
      rcases Int.lt_trichotomy m (M : Int) with w | w | w
      · have := sq_lt2 w (by omega)
        omega
      · exact w
      · have := sq_lt2 w (by omega)
        omega
    have hmm := mlb (a := m) (x := 255) (b := m) (y := 255) (by omega) (by omega) (by omega) (by omega)
    refine r_aload_n 0 X dX4_isByNumber_0 rfl ?_
    refine r_getf X dX4_isByNumber_1 fX4_46 ht rfl ?_
    refine r_iload_n 1 X dX4_isByNumber_4 rfl ?_
    refine r_iload_n 1 X dX4_isByNumber_5 rfl ?_
    refine r_imul X dX4_isByNumber_6 ?_
    refine r_isub X dX4_isByNumber_7 ?_
    refine r_istore_n (L' := [(2, iv (c - (m * m))), (0, .ref q), (1, iv m)]) X dX4_isByNumber_8 (by decide) rfl ?_
    refine r_iload_n 0 X dX4_isByNumber_9 rfl ?_
    refine r_iconst X dX4_isByNumber_10 ?_
    refine r_icmp_lt 22 X dX4_isByNumber_11 (by decide) ⟨by omega, by omega⟩ ⟨by omega, by omega⟩ (fun c11 => ?_) (fun c11 => ?_)
    · refine r_iconst X dX4_isByNumber_22 ?_
      refine r_zret X Y dX4_isByNumber_23 (Or.inl rfl) (by decide) (by decide) ?_
      exact pv (by rw [if_neg hmM])
    · refine r_iload_n 0 X dX4_isByNumber_14 rfl ?_
      refine r_i2l X dX4_isByNumber_15 ⟨by omega, by omega⟩ ?_
      refine r_callS_v X dX4_isByNumber_16 kX4_27 (c_X1_isSquare (CX_l X) D z0 h (c - (m * m)) ⟨by omega, by omega⟩) [] rfl rfl (Nat.le_of_ble_eq_true rfl) (by decide) rfl rfl (by decide) ?_
      refine r_ifb_ne 24 X dX4_isByNumber_19 (by decide) (fun c19 => ?_) (fun c19 => ?_)
      · have hsqr := isq_spec (c - m * m).toNat
        have hsql := isq_lt (a := 131072) (N := (c - m * m).toNat) (by omega)
        have hgl : Int.gcd m ((isq (c - m * m).toNat : Nat) : Int) ≤ m.natAbs := Nat.le_of_dvd (by omega) (Nat.gcd_dvd_left _ _)
        have hum := mlb (a := 2 * m) (x := 510) (b := ((isq (c - m * m).toNat : Nat) : Int)) (y := 131072) (by omega) (by omega) (by omega) (by omega)
        refine r_iload_n 0 X dX4_isByNumber_24 rfl ?_
        refine r_i2l X dX4_isByNumber_25 ⟨by omega, by omega⟩ ?_
        refine r_callS_v X dX4_isByNumber_26 kX4_9 (c_X1_wholeRoot (CX_l X) D z0 h (c - (m * m)) ⟨by omega, by omega⟩) [] rfl rfl (Nat.le_of_ble_eq_true rfl) (by decide) rfl rfl (by decide) ?_
        refine r_l2i X dX4_isByNumber_29 ?_
        refine r_istore_n (L' := [(3, iv ((isq (c - m * m).toNat : Nat) : Int)), (2, iv (c - (m * m))), (0, .ref q), (1, iv m)]) X dX4_isByNumber_30 (by decide) rfl ?_
        refine r_iload_n 3 X dX4_isByNumber_31 rfl ?_
        refine r_iload_n 0 X dX4_isByNumber_32 rfl ?_
        refine r_icmp_le 85 X dX4_isByNumber_33 (by decide) ⟨by omega, by omega⟩ ⟨by omega, by omega⟩ (fun c33 => ?_) (fun c33 => ?_)
        · refine r_iconst X dX4_isByNumber_85 ?_
          refine r_zret X Y dX4_isByNumber_86 (Or.inl rfl) (by decide) (by decide) ?_
          exact pv (by rw [if_neg hmM])
        · refine r_iload_n 3 X dX4_isByNumber_36 rfl ?_
          refine r_iload_n 0 X dX4_isByNumber_37 rfl ?_
          refine r_iadd X dX4_isByNumber_38 ?_
          refine r_iconst X dX4_isByNumber_39 ?_
          refine r_irem X dX4_isByNumber_40 ⟨by omega, by omega⟩ ⟨by omega, by omega⟩ ?_
          refine r_iconst X dX4_isByNumber_41 ?_
          refine r_icmp_ne 85 X dX4_isByNumber_42 (by decide) ⟨by omega, by omega⟩ ⟨by omega, by omega⟩ (fun c42 => ?_) (fun c42 => ?_)
          · refine r_iconst X dX4_isByNumber_85 ?_
            refine r_zret X Y dX4_isByNumber_86 (Or.inl rfl) (by decide) (by decide) ?_
            exact pv (by rw [if_neg hmM])
          · refine r_iload_n 3 X dX4_isByNumber_45 rfl ?_
            refine r_i2l X dX4_isByNumber_46 ⟨by omega, by omega⟩ ?_
            refine r_iload_n 0 X dX4_isByNumber_47 rfl ?_
            refine r_i2l X dX4_isByNumber_48 ⟨by omega, by omega⟩ ?_
            refine r_callS_v X dX4_isByNumber_49 kX4_149 (c_X1_commonDivisor (CX_l X) D z0 h m ((isq (c - m * m).toNat : Nat) : Int) ⟨by omega, by omega⟩ ⟨by omega, by omega⟩) [] rfl rfl (Nat.le_of_ble_eq_true rfl) (by decide) rfl rfl (by decide) ?_
            refine r_lconst 1 X dX4_isByNumber_52 (by decide) ?_
            refine r_lcmp_ne 85 X dX4_isByNumber_53 dX4_isByNumber_54 (by decide) ⟨by omega, by omega⟩ ⟨by omega, by omega⟩ (fun c53 => ?_) (fun c53 => ?_)
            · refine r_iconst X dX4_isByNumber_85 ?_
              refine r_zret X Y dX4_isByNumber_86 (Or.inl rfl) (by decide) (by decide) ?_
              exact pv (by rw [if_neg hmM])
            · refine r_iload_n 3 X dX4_isByNumber_57 rfl ?_
              refine r_iload_n 3 X dX4_isByNumber_58 rfl ?_
              refine r_imul X dX4_isByNumber_59 ?_
              refine r_iload_n 1 X dX4_isByNumber_60 rfl ?_
              refine r_isub X dX4_isByNumber_61 ?_
              refine r_aload_n 2 X dX4_isByNumber_62 rfl ?_
              refine r_callV_v X dX4_isByNumber_63 kX4_137 ht (c_X5_oddLeg (CX_l X) D z0 h q a b c ht hv) [iv ((m * m) - (c - (m * m)))] rfl rfl (Nat.le_of_ble_eq_true rfl) (by decide) rfl rfl (by decide) ?_
              refine r_icmp_ne 85 X dX4_isByNumber_66 (by decide) ⟨by omega, by omega⟩ ⟨by omega, by omega⟩ (fun c66 => ?_) (fun c66 => ?_)
              · refine r_iconst X dX4_isByNumber_85 ?_
                refine r_zret X Y dX4_isByNumber_86 (Or.inl rfl) (by decide) (by decide) ?_
                exact pv (by rw [if_neg hmM])
              · refine r_iconst X dX4_isByNumber_69 ?_
                refine r_iload_n 3 X dX4_isByNumber_70 rfl ?_
                refine r_imul X dX4_isByNumber_71 ?_
                refine r_iload_n 0 X dX4_isByNumber_72 rfl ?_
                refine r_imul X dX4_isByNumber_73 ?_
                refine r_aload_n 2 X dX4_isByNumber_74 rfl ?_
                refine r_callV_v X dX4_isByNumber_75 kX4_140 ht (c_X5_evenLeg (CX_l X) D z0 h q a b c ht hv) [iv ((2 * m) * ((isq (c - m * m).toNat : Nat) : Int))] rfl rfl (Nat.le_of_ble_eq_true rfl) (by decide) rfl rfl (by decide) ?_
                refine r_icmp_ne 85 X dX4_isByNumber_78 (by decide) ⟨by omega, by omega⟩ ⟨by omega, by omega⟩ (fun c78 => ?_) (fun c78 => ?_)
                · refine r_iconst X dX4_isByNumber_85 ?_
                  refine r_zret X Y dX4_isByNumber_86 (Or.inl rfl) (by decide) (by decide) ?_
                  exact pv (by rw [if_neg hmM])
                · refine r_iconst X dX4_isByNumber_81 ?_
                  refine r_goto 86 X dX4_isByNumber_82 (by decide) ?_
                  refine r_zret X Y dX4_isByNumber_86 (Or.inr rfl) (by decide) (by decide) ?_
                  exfalso
                  unfold odd2 at hno
                  omega
      · refine r_iconst X dX4_isByNumber_22 ?_
        refine r_zret X Y dX4_isByNumber_23 (Or.inl rfl) (by decide) (by decide) ?_
        exact pv (by rw [if_neg hmM])
