/-! the theorem: of primitive ones, of a triangle -/
abbrev rX4_ofPrimitive : Room := { frames := 3, cells := 0, slots := 0, locals := 73 }
theorem c_X4_ofPrimitive {l : Launch} (hl : l.stackTraces = false) (D : va_G) (z0 : Nat) (h : Hp) (q : Nat) (a b c : Int) (ht : h q = some (triE a b c)) (hv : TV a b c) (hq0 : sqb3 a b c 2 = 0) (hg : gcd3 a b c = 1) : CC l yX4_ofPrimitive cX4_ofPrimitive 3 (some .boolean) rX4_ofPrimitive D z0 h [.ref q] (PV (iv 1) h) NX := by
  refine CC_of RX4 hl (by decide) rfl (Nat.le_of_ble_eq_true rfl) (fun K X Y Z hmn hKl => ?_)
  subst hKl
  have hb := TV_b hv
  have hS := Sx_b hv
  show WW K D z0 3 h 0 0 0 [(0, .ref q)] []
  have hPT := PT_of hv hq0 hg
  obtain ⟨M, N, hN1, hNM, hM, hN, hy, hmn, hp2⟩ := PT_mn hPT
  have hM255 : M ≤ 255 := by
    have hl := pt_lt hPT
    apply Nat.not_lt.mp
    intro w
    have := Nat.mul_le_mul (show 256 ≤ M by omega) (show 256 ≤ M by omega)
    have : ((M * M : Nat) : Int) = (M : Int) * M := rfl
    omega
  have hM2 : 2 ≤ M := by omega
  have hdp := dpN_b 256 (odd2 a b) (eve2 a b) c
  have loop : ∀ (k : Nat) (m : Int), m + k = 256 → 2 ≤ m → WW K D z0 3 h 0 0 4 [(2, iv m), (1, iv (if (M : Int) < m then (1 : Int) else 0)), (0, .ref q)] [] := by
    intro k
    induction k with
    | zero =>
      intro m hk hm
      refine r_iload_n 0 X dX4_ofPrimitive_4 rfl ?_
      refine r_sipush X dX4_ofPrimitive_5 (by decide) ?_
      refine r_icmp_gt 33 X dX4_ofPrimitive_8 (by decide) ⟨by omega, by omega⟩ ⟨by omega, by omega⟩ (fun c8 => ?_) (fun c8 => ?_)
      · refine r_iload_n 1 X dX4_ofPrimitive_33 rfl ?_
        refine r_iconst X dX4_ofPrimitive_34 ?_
        refine r_icmp_ne 60 X dX4_ofPrimitive_35 (by decide) if_b ⟨by omega, by omega⟩ (fun c35 => ?_) (fun c35 => ?_)
        · refine r_iconst X dX4_ofPrimitive_60 ?_
          refine r_zret X Y dX4_ofPrimitive_61 (Or.inl rfl) (by decide) (by decide) ?_
          exact absurd (if_pos (by omega)) c35
        · refine r_aload_n 2 X dX4_ofPrimitive_38 rfl ?_
          refine r_callV_v X dX4_ofPrimitive_39 kX4_137 ht (c_X5_oddLeg (CX_l X) D z0 h q a b c ht hv) [] rfl rfl (Nat.le_of_ble_eq_true rfl) (by decide) rfl rfl (by decide) ?_
          refine r_aload_n 2 X dX4_ofPrimitive_42 rfl ?_
          refine r_callV_v X dX4_ofPrimitive_43 kX4_140 ht (c_X5_evenLeg (CX_l X) D z0 h q a b c ht hv) [iv (if a % 2 = 1 then a else b)] rfl rfl (Nat.le_of_ble_eq_true rfl) (by decide) rfl rfl (by decide) ?_
          refine r_aload_n 2 X dX4_ofPrimitive_46 rfl ?_
          refine r_getf X dX4_ofPrimitive_47 fX4_46 ht rfl ?_
          refine r_callS_v X dX4_ofPrimitive_50 kX4_143 (c_X3_stepsFromFirst (CX_l X) D z0 h (odd2 a b) (eve2 a b) c hPT (by omega)) [] rfl rfl (Nat.le_of_ble_eq_true rfl) (by decide) rfl rfl (by decide) ?_
          refine r_if_lt 60 X dX4_ofPrimitive_53 (by decide) ⟨by omega, by omega⟩ (fun c53 => ?_) (fun c53 => ?_)
          · refine r_iconst X dX4_ofPrimitive_60 ?_
            refine r_zret X Y dX4_ofPrimitive_61 (Or.inl rfl) (by decide) (by decide) ?_
            exfalso
            omega
          · refine r_iconst X dX4_ofPrimitive_56 ?_
            refine r_goto 61 X dX4_ofPrimitive_57 (by decide) ?_
            refine r_zret X Y dX4_ofPrimitive_61 (Or.inr rfl) (by decide) (by decide) ?_
            exact pv rfl
      · exfalso
        omega
    | succ k ih =>
      intro m hk hm
      refine r_iload_n 0 X dX4_ofPrimitive_4 rfl ?_
      refine r_sipush X dX4_ofPrimitive_5 (by decide) ?_
      refine r_icmp_gt 33 X dX4_ofPrimitive_8 (by decide) ⟨by omega, by omega⟩ ⟨by omega, by omega⟩ (fun c8 => ?_) (fun c8 => ?_)
      · exfalso
        omega
      · refine r_iload_n 1 X dX4_ofPrimitive_11 rfl ?_
        refine r_aload_n 2 X dX4_ofPrimitive_12 rfl ?_
        refine r_iload_n 0 X dX4_ofPrimitive_13 rfl ?_
        refine r_callS_v X dX4_ofPrimitive_14 kX4_133 (c_X4_isByNumber (CX_l X) D z0 h q a b c ht hv hq0 M N hN1 hNM hM hN hy hmn hp2 hM255 m ⟨by omega, by omega⟩) [iv (if (M : Int) < m then (1 : Int) else 0)] rfl rfl (Nat.le_of_ble_eq_true rfl) (by decide) rfl rfl (by decide) ?_
        refine r_ifb_eq 24 X dX4_ofPrimitive_17 (by decide) (fun c17 => ?_) (fun c17 => ?_)
        · refine r_iconst X dX4_ofPrimitive_24 ?_
          refine r_iadd X dX4_ofPrimitive_25 ?_
          refine r_istore_n (L' := [(1, iv ((if (M : Int) < m then (1 : Int) else 0) + 0)), (2, iv m), (0, .ref q)]) X dX4_ofPrimitive_26 (by decide) rfl ?_
          refine r_iinc 1 (L' := [(2, iv (m + 1)), (1, iv ((if (M : Int) < m then (1 : Int) else 0) + 0)), (0, .ref q)]) X dX4_ofPrimitive_27 rfl (by decide) rfl ?_
          refine r_goto 4 X dX4_ofPrimitive_30 (by decide) ?_
          rw [show (if (M : Int) < m then (1 : Int) else 0) + 0 = (if (M : Int) < m + 1 then (1 : Int) else 0) by (repeat' split) <;> omega]
          exact ih (m + 1) (by omega) (by omega)
        · refine r_iconst X dX4_ofPrimitive_20 ?_
          refine r_goto 25 X dX4_ofPrimitive_21 (by decide) ?_
          refine r_iadd X dX4_ofPrimitive_25 ?_
          refine r_istore_n (L' := [(1, iv ((if (M : Int) < m then (1 : Int) else 0) + 1)), (2, iv m), (0, .ref q)]) X dX4_ofPrimitive_26 (by decide) rfl ?_
          refine r_iinc 1 (L' := [(2, iv (m + 1)), (1, iv ((if (M : Int) < m then (1 : Int) else 0) + 1)), (0, .ref q)]) X dX4_ofPrimitive_27 rfl (by decide) rfl ?_
          refine r_goto 4 X dX4_ofPrimitive_30 (by decide) ?_
          rw [show (if (M : Int) < m then (1 : Int) else 0) + 1 = (if (M : Int) < m + 1 then (1 : Int) else 0) by (repeat' split) <;> omega]
          exact ih (m + 1) (by omega) (by omega)
  refine r_iconst X dX4_ofPrimitive_0 ?_
  refine r_istore_n (L' := [(1, iv 0), (0, .ref q)]) X dX4_ofPrimitive_1 (by decide) rfl ?_
  refine r_iconst X dX4_ofPrimitive_2 ?_
  refine r_istore_n (L' := [(2, iv 2), (1, iv 0), (0, .ref q)]) X dX4_ofPrimitive_3 (by decide) rfl ?_
  rw [show (0 : Int) = (if (M : Int) < 2 then (1 : Int) else 0) from (if_neg (by omega)).symm]
  exact loop 254 2 rfl (by omega)
abbrev rX4_ofTriangle : Room := { frames := 5, cells := 0, slots := 0, locals := 122 }
theorem c_X4_ofTriangle {l : Launch} (hl : l.stackTraces = false) (D : va_G) (z0 : Nat) (h : Hp) (q : Nat) (a b c : Int) (ht : h q = some (triE a b c)) (hv : TV a b c) : CC l yX4_ofTriangle cX4_ofTriangle 2 (some .boolean) rX4_ofTriangle D z0 h [.ref q] (PV (iv 1) h) NX := by
  refine CC_of RX4 hl (by decide) rfl (Nat.le_of_ble_eq_true rfl) (fun K X Y Z hmn hKl => ?_)
  subst hKl
  have hb := TV_b hv
  have hS := Sx_b hv
  show WW K D z0 2 h 0 0 0 [(0, .ref q)] []
  refine r_aload_n 0 X dX4_ofTriangle_0 rfl ?_
  refine r_getf X dX4_ofTriangle_1 fX4_31 ht rfl ?_
  refine r_aload_n 0 X dX4_ofTriangle_4 rfl ?_
  refine r_getf X dX4_ofTriangle_5 fX4_37 ht rfl ?_
  refine WW_e (show [iv b, iv a] = [iv (b.toNat : Int), iv (a.toNat : Int)] by rw [show (b.toNat : Int) = b by omega, show (a.toNat : Int) = a by omega]) ?_
  refine r_callS_v X dX4_ofTriangle_8 kX4_40 (c_X4_ofHypot (CX_l X) D z0 h a.toNat b.toNat (by omega) (by omega)) [] rfl rfl (Nat.le_of_ble_eq_true rfl) (by decide) rfl rfl (by decide) ?_
  refine r_if_eq 60 X dX4_ofTriangle_11 (by decide) ⟨by omega, by omega⟩ (fun c11 => ?_) (fun c11 => ?_)
  · refine r_iconst X dX4_ofTriangle_60 ?_
    refine r_istore_n (L' := [(1, iv 0), (0, .ref q)]) X dX4_ofTriangle_61 (by decide) rfl ?_
    refine r_iload_n 0 X dX4_ofTriangle_62 rfl ?_
    refine r_if_eq 73 X dX4_ofTriangle_63 (by decide) ⟨by omega, by omega⟩ (fun c63 => ?_) (fun c63 => ?_)
    · refine r_iload_n 0 X dX4_ofTriangle_73 rfl ?_
      refine r_zret X Y dX4_ofTriangle_74 (Or.inl rfl) (by decide) (by decide) ?_
      exfalso
      omega
    · refine r_aload_n 1 X dX4_ofTriangle_66 rfl ?_
      refine r_callV_v X dX4_ofTriangle_67 kX4_56 ht (c_X5_sharpness (CX_l X) D z0 h q a b c ht hv) [] rfl rfl (Nat.le_of_ble_eq_true rfl) (by decide) rfl rfl (by decide) ?_
      refine r_if_eq 75 X dX4_ofTriangle_70 (by decide) ⟨by unfold cmpv; split <;> (try split) <;> omega, by unfold cmpv; split <;> (try split) <;> omega⟩ (fun c70 => ?_) (fun c70 => ?_)
      · refine r_aload_n 1 X dX4_ofTriangle_75 rfl ?_
        refine r_callS_v X dX4_ofTriangle_76 kX4_60 (c_X4_ofRight (CX_l X) D z0 h q a b c ht hv (cmpv_z.mp c70)) [] rfl rfl (Nat.le_of_ble_eq_true rfl) (by decide) rfl rfl (by decide) ?_
        refine r_if_eq 100 X dX4_ofTriangle_79 (by decide) ⟨by omega, by omega⟩ (fun c79 => ?_) (fun c79 => ?_)
        · refine r_iconst X dX4_ofTriangle_100 ?_
          refine r_zret X Y dX4_ofTriangle_101 (Or.inl rfl) (by decide) (by decide) ?_
          exfalso
          omega
        · refine r_aload_n 1 X dX4_ofTriangle_82 rfl ?_
          refine r_callV_v X dX4_ofTriangle_83 kX4_63 ht (c_X5_isPrimitive (CX_l X) D z0 h q a b c ht hv) [] rfl rfl (Nat.le_of_ble_eq_true rfl) (by decide) rfl rfl (by decide) ?_
          refine r_ifb_eq 96 X dX4_ofTriangle_86 (by decide) (fun c86 => ?_) (fun c86 => ?_)
          · refine r_iconst X dX4_ofTriangle_96 ?_
            refine r_goto 101 X dX4_ofTriangle_97 (by decide) ?_
            refine r_zret X Y dX4_ofTriangle_101 (Or.inr rfl) (by decide) (by decide) ?_
            exact pv rfl
          · refine r_aload_n 1 X dX4_ofTriangle_89 rfl ?_
            refine r_callS_v X dX4_ofTriangle_90 kX4_67 (c_X4_ofPrimitive (CX_l X) D z0 h q a b c ht hv (cmpv_z.mp c70) c86.2) [] rfl rfl (Nat.le_of_ble_eq_true rfl) (by decide) rfl rfl (by decide) ?_
            refine r_if_eq 100 X dX4_ofTriangle_93 (by decide) ⟨by omega, by omega⟩ (fun c93 => ?_) (fun c93 => ?_)
            · refine r_iconst X dX4_ofTriangle_100 ?_
              refine r_zret X Y dX4_ofTriangle_101 (Or.inl rfl) (by decide) (by decide) ?_
              exfalso
              omega
            · refine r_iconst X dX4_ofTriangle_96 ?_
              refine r_goto 101 X dX4_ofTriangle_97 (by decide) ?_
              refine r_zret X Y dX4_ofTriangle_101 (Or.inr rfl) (by decide) (by decide) ?_
              exact pv rfl
      · refine r_iload_n 0 X dX4_ofTriangle_73 rfl ?_
        refine r_zret X Y dX4_ofTriangle_74 (Or.inl rfl) (by decide) (by decide) ?_
        exfalso
        omega
  · refine r_aload_n 0 X dX4_ofTriangle_14 rfl ?_
    refine r_getf X dX4_ofTriangle_15 fX4_31 ht rfl ?_
    refine r_aload_n 0 X dX4_ofTriangle_18 rfl ?_
    refine r_getf X dX4_ofTriangle_19 fX4_46 ht rfl ?_
    refine WW_e (show [iv c, iv a] = [iv (c.toNat : Int), iv (a.toNat : Int)] by rw [show (c.toNat : Int) = c by omega, show (a.toNat : Int) = a by omega]) ?_
    refine r_callS_v X dX4_ofTriangle_22 kX4_40 (c_X4_ofHypot (CX_l X) D z0 h a.toNat c.toNat (by omega) (by omega)) [] rfl rfl (Nat.le_of_ble_eq_true rfl) (by decide) rfl rfl (by decide) ?_
    refine r_if_eq 60 X dX4_ofTriangle_25 (by decide) ⟨by omega, by omega⟩ (fun c25 => ?_) (fun c25 => ?_)
    · refine r_iconst X dX4_ofTriangle_60 ?_
      refine r_istore_n (L' := [(1, iv 0), (0, .ref q)]) X dX4_ofTriangle_61 (by decide) rfl ?_
      refine r_iload_n 0 X dX4_ofTriangle_62 rfl ?_
      refine r_if_eq 73 X dX4_ofTriangle_63 (by decide) ⟨by omega, by omega⟩ (fun c63 => ?_) (fun c63 => ?_)
      · refine r_iload_n 0 X dX4_ofTriangle_73 rfl ?_
        refine r_zret X Y dX4_ofTriangle_74 (Or.inl rfl) (by decide) (by decide) ?_
        exfalso
        omega
      · refine r_aload_n 1 X dX4_ofTriangle_66 rfl ?_
        refine r_callV_v X dX4_ofTriangle_67 kX4_56 ht (c_X5_sharpness (CX_l X) D z0 h q a b c ht hv) [] rfl rfl (Nat.le_of_ble_eq_true rfl) (by decide) rfl rfl (by decide) ?_
        refine r_if_eq 75 X dX4_ofTriangle_70 (by decide) ⟨by unfold cmpv; split <;> (try split) <;> omega, by unfold cmpv; split <;> (try split) <;> omega⟩ (fun c70 => ?_) (fun c70 => ?_)
        · refine r_aload_n 1 X dX4_ofTriangle_75 rfl ?_
          refine r_callS_v X dX4_ofTriangle_76 kX4_60 (c_X4_ofRight (CX_l X) D z0 h q a b c ht hv (cmpv_z.mp c70)) [] rfl rfl (Nat.le_of_ble_eq_true rfl) (by decide) rfl rfl (by decide) ?_
          refine r_if_eq 100 X dX4_ofTriangle_79 (by decide) ⟨by omega, by omega⟩ (fun c79 => ?_) (fun c79 => ?_)
          · refine r_iconst X dX4_ofTriangle_100 ?_
            refine r_zret X Y dX4_ofTriangle_101 (Or.inl rfl) (by decide) (by decide) ?_
            exfalso
            omega
          · refine r_aload_n 1 X dX4_ofTriangle_82 rfl ?_
            refine r_callV_v X dX4_ofTriangle_83 kX4_63 ht (c_X5_isPrimitive (CX_l X) D z0 h q a b c ht hv) [] rfl rfl (Nat.le_of_ble_eq_true rfl) (by decide) rfl rfl (by decide) ?_
            refine r_ifb_eq 96 X dX4_ofTriangle_86 (by decide) (fun c86 => ?_) (fun c86 => ?_)
            · refine r_iconst X dX4_ofTriangle_96 ?_
              refine r_goto 101 X dX4_ofTriangle_97 (by decide) ?_
              refine r_zret X Y dX4_ofTriangle_101 (Or.inr rfl) (by decide) (by decide) ?_
              exact pv rfl
            · refine r_aload_n 1 X dX4_ofTriangle_89 rfl ?_
              refine r_callS_v X dX4_ofTriangle_90 kX4_67 (c_X4_ofPrimitive (CX_l X) D z0 h q a b c ht hv (cmpv_z.mp c70) c86.2) [] rfl rfl (Nat.le_of_ble_eq_true rfl) (by decide) rfl rfl (by decide) ?_
              refine r_if_eq 100 X dX4_ofTriangle_93 (by decide) ⟨by omega, by omega⟩ (fun c93 => ?_) (fun c93 => ?_)
              · refine r_iconst X dX4_ofTriangle_100 ?_
                refine r_zret X Y dX4_ofTriangle_101 (Or.inl rfl) (by decide) (by decide) ?_
                exfalso
                omega
              · refine r_iconst X dX4_ofTriangle_96 ?_
                refine r_goto 101 X dX4_ofTriangle_97 (by decide) ?_
                refine r_zret X Y dX4_ofTriangle_101 (Or.inr rfl) (by decide) (by decide) ?_
                exact pv rfl
        · refine r_iload_n 0 X dX4_ofTriangle_73 rfl ?_
          refine r_zret X Y dX4_ofTriangle_74 (Or.inl rfl) (by decide) (by decide) ?_
          exfalso
          omega
    · refine r_aload_n 0 X dX4_ofTriangle_28 rfl ?_
      refine r_getf X dX4_ofTriangle_29 fX4_37 ht rfl ?_
      refine r_aload_n 0 X dX4_ofTriangle_32 rfl ?_
      refine r_getf X dX4_ofTriangle_33 fX4_46 ht rfl ?_
      refine WW_e (show [iv c, iv b] = [iv (c.toNat : Int), iv (b.toNat : Int)] by rw [show (c.toNat : Int) = c by omega, show (b.toNat : Int) = b by omega]) ?_
      refine r_callS_v X dX4_ofTriangle_36 kX4_40 (c_X4_ofHypot (CX_l X) D z0 h b.toNat c.toNat (by omega) (by omega)) [] rfl rfl (Nat.le_of_ble_eq_true rfl) (by decide) rfl rfl (by decide) ?_
      refine r_if_eq 60 X dX4_ofTriangle_39 (by decide) ⟨by omega, by omega⟩ (fun c39 => ?_) (fun c39 => ?_)
      · refine r_iconst X dX4_ofTriangle_60 ?_
        refine r_istore_n (L' := [(1, iv 0), (0, .ref q)]) X dX4_ofTriangle_61 (by decide) rfl ?_
        refine r_iload_n 0 X dX4_ofTriangle_62 rfl ?_
        refine r_if_eq 73 X dX4_ofTriangle_63 (by decide) ⟨by omega, by omega⟩ (fun c63 => ?_) (fun c63 => ?_)
        · refine r_iload_n 0 X dX4_ofTriangle_73 rfl ?_
          refine r_zret X Y dX4_ofTriangle_74 (Or.inl rfl) (by decide) (by decide) ?_
          exfalso
          omega
        · refine r_aload_n 1 X dX4_ofTriangle_66 rfl ?_
          refine r_callV_v X dX4_ofTriangle_67 kX4_56 ht (c_X5_sharpness (CX_l X) D z0 h q a b c ht hv) [] rfl rfl (Nat.le_of_ble_eq_true rfl) (by decide) rfl rfl (by decide) ?_
          refine r_if_eq 75 X dX4_ofTriangle_70 (by decide) ⟨by unfold cmpv; split <;> (try split) <;> omega, by unfold cmpv; split <;> (try split) <;> omega⟩ (fun c70 => ?_) (fun c70 => ?_)
          · refine r_aload_n 1 X dX4_ofTriangle_75 rfl ?_
            refine r_callS_v X dX4_ofTriangle_76 kX4_60 (c_X4_ofRight (CX_l X) D z0 h q a b c ht hv (cmpv_z.mp c70)) [] rfl rfl (Nat.le_of_ble_eq_true rfl) (by decide) rfl rfl (by decide) ?_
            refine r_if_eq 100 X dX4_ofTriangle_79 (by decide) ⟨by omega, by omega⟩ (fun c79 => ?_) (fun c79 => ?_)
            · refine r_iconst X dX4_ofTriangle_100 ?_
              refine r_zret X Y dX4_ofTriangle_101 (Or.inl rfl) (by decide) (by decide) ?_
              exfalso
              omega
            · refine r_aload_n 1 X dX4_ofTriangle_82 rfl ?_
              refine r_callV_v X dX4_ofTriangle_83 kX4_63 ht (c_X5_isPrimitive (CX_l X) D z0 h q a b c ht hv) [] rfl rfl (Nat.le_of_ble_eq_true rfl) (by decide) rfl rfl (by decide) ?_
              refine r_ifb_eq 96 X dX4_ofTriangle_86 (by decide) (fun c86 => ?_) (fun c86 => ?_)
              · refine r_iconst X dX4_ofTriangle_96 ?_
                refine r_goto 101 X dX4_ofTriangle_97 (by decide) ?_
                refine r_zret X Y dX4_ofTriangle_101 (Or.inr rfl) (by decide) (by decide) ?_
                exact pv rfl
              · refine r_aload_n 1 X dX4_ofTriangle_89 rfl ?_
                refine r_callS_v X dX4_ofTriangle_90 kX4_67 (c_X4_ofPrimitive (CX_l X) D z0 h q a b c ht hv (cmpv_z.mp c70) c86.2) [] rfl rfl (Nat.le_of_ble_eq_true rfl) (by decide) rfl rfl (by decide) ?_
                refine r_if_eq 100 X dX4_ofTriangle_93 (by decide) ⟨by omega, by omega⟩ (fun c93 => ?_) (fun c93 => ?_)
                · refine r_iconst X dX4_ofTriangle_100 ?_
                  refine r_zret X Y dX4_ofTriangle_101 (Or.inl rfl) (by decide) (by decide) ?_
                  exfalso
                  omega
                · refine r_iconst X dX4_ofTriangle_96 ?_
                  refine r_goto 101 X dX4_ofTriangle_97 (by decide) ?_
                  refine r_zret X Y dX4_ofTriangle_101 (Or.inr rfl) (by decide) (by decide) ?_
                  exact pv rfl
          · refine r_iload_n 0 X dX4_ofTriangle_73 rfl ?_
            refine r_zret X Y dX4_ofTriangle_74 (Or.inl rfl) (by decide) (by decide) ?_
            exfalso
            omega
      · refine r_aload_n 0 X dX4_ofTriangle_42 rfl ?_
        refine r_callS_v X dX4_ofTriangle_43 kX4_49 (c_X4_ofSharpness (CX_l X) D z0 h q a b c ht hv) [] rfl rfl (Nat.le_of_ble_eq_true rfl) (by decide) rfl rfl (by decide) ?_
        refine r_if_eq 60 X dX4_ofTriangle_46 (by decide) ⟨by omega, by omega⟩ (fun c46 => ?_) (fun c46 => ?_)
        · refine r_iconst X dX4_ofTriangle_60 ?_
          refine r_istore_n (L' := [(1, iv 0), (0, .ref q)]) X dX4_ofTriangle_61 (by decide) rfl ?_
          refine r_iload_n 0 X dX4_ofTriangle_62 rfl ?_
          refine r_if_eq 73 X dX4_ofTriangle_63 (by decide) ⟨by omega, by omega⟩ (fun c63 => ?_) (fun c63 => ?_)
          · refine r_iload_n 0 X dX4_ofTriangle_73 rfl ?_
            refine r_zret X Y dX4_ofTriangle_74 (Or.inl rfl) (by decide) (by decide) ?_
            exfalso
            omega
          · refine r_aload_n 1 X dX4_ofTriangle_66 rfl ?_
            refine r_callV_v X dX4_ofTriangle_67 kX4_56 ht (c_X5_sharpness (CX_l X) D z0 h q a b c ht hv) [] rfl rfl (Nat.le_of_ble_eq_true rfl) (by decide) rfl rfl (by decide) ?_
            refine r_if_eq 75 X dX4_ofTriangle_70 (by decide) ⟨by unfold cmpv; split <;> (try split) <;> omega, by unfold cmpv; split <;> (try split) <;> omega⟩ (fun c70 => ?_) (fun c70 => ?_)
            · refine r_aload_n 1 X dX4_ofTriangle_75 rfl ?_
              refine r_callS_v X dX4_ofTriangle_76 kX4_60 (c_X4_ofRight (CX_l X) D z0 h q a b c ht hv (cmpv_z.mp c70)) [] rfl rfl (Nat.le_of_ble_eq_true rfl) (by decide) rfl rfl (by decide) ?_
              refine r_if_eq 100 X dX4_ofTriangle_79 (by decide) ⟨by omega, by omega⟩ (fun c79 => ?_) (fun c79 => ?_)
              · refine r_iconst X dX4_ofTriangle_100 ?_
                refine r_zret X Y dX4_ofTriangle_101 (Or.inl rfl) (by decide) (by decide) ?_
                exfalso
                omega
              · refine r_aload_n 1 X dX4_ofTriangle_82 rfl ?_
                refine r_callV_v X dX4_ofTriangle_83 kX4_63 ht (c_X5_isPrimitive (CX_l X) D z0 h q a b c ht hv) [] rfl rfl (Nat.le_of_ble_eq_true rfl) (by decide) rfl rfl (by decide) ?_
                refine r_ifb_eq 96 X dX4_ofTriangle_86 (by decide) (fun c86 => ?_) (fun c86 => ?_)
                · refine r_iconst X dX4_ofTriangle_96 ?_
                  refine r_goto 101 X dX4_ofTriangle_97 (by decide) ?_
                  refine r_zret X Y dX4_ofTriangle_101 (Or.inr rfl) (by decide) (by decide) ?_
                  exact pv rfl
                · refine r_aload_n 1 X dX4_ofTriangle_89 rfl ?_
                  refine r_callS_v X dX4_ofTriangle_90 kX4_67 (c_X4_ofPrimitive (CX_l X) D z0 h q a b c ht hv (cmpv_z.mp c70) c86.2) [] rfl rfl (Nat.le_of_ble_eq_true rfl) (by decide) rfl rfl (by decide) ?_
                  refine r_if_eq 100 X dX4_ofTriangle_93 (by decide) ⟨by omega, by omega⟩ (fun c93 => ?_) (fun c93 => ?_)
                  · refine r_iconst X dX4_ofTriangle_100 ?_
                    refine r_zret X Y dX4_ofTriangle_101 (Or.inl rfl) (by decide) (by decide) ?_
                    exfalso
                    omega
                  · refine r_iconst X dX4_ofTriangle_96 ?_
                    refine r_goto 101 X dX4_ofTriangle_97 (by decide) ?_
                    refine r_zret X Y dX4_ofTriangle_101 (Or.inr rfl) (by decide) (by decide) ?_
                    exact pv rfl
            · refine r_iload_n 0 X dX4_ofTriangle_73 rfl ?_
              refine r_zret X Y dX4_ofTriangle_74 (Or.inl rfl) (by decide) (by decide) ?_
              exfalso
              omega
        · refine r_aload_n 0 X dX4_ofTriangle_49 rfl ?_
          refine r_callS_v X dX4_ofTriangle_50 kX4_53 (c_X4_ofS (CX_l X) D z0 h q a b c ht hv) [] rfl rfl (Nat.le_of_ble_eq_true rfl) (by decide) rfl rfl (by decide) ?_
          refine r_if_eq 60 X dX4_ofTriangle_53 (by decide) ⟨by omega, by omega⟩ (fun c53 => ?_) (fun c53 => ?_)
          · refine r_iconst X dX4_ofTriangle_60 ?_
            refine r_istore_n (L' := [(1, iv 0), (0, .ref q)]) X dX4_ofTriangle_61 (by decide) rfl ?_
            refine r_iload_n 0 X dX4_ofTriangle_62 rfl ?_
            refine r_if_eq 73 X dX4_ofTriangle_63 (by decide) ⟨by omega, by omega⟩ (fun c63 => ?_) (fun c63 => ?_)
            · refine r_iload_n 0 X dX4_ofTriangle_73 rfl ?_
              refine r_zret X Y dX4_ofTriangle_74 (Or.inl rfl) (by decide) (by decide) ?_
              exfalso
              omega
            · refine r_aload_n 1 X dX4_ofTriangle_66 rfl ?_
              refine r_callV_v X dX4_ofTriangle_67 kX4_56 ht (c_X5_sharpness (CX_l X) D z0 h q a b c ht hv) [] rfl rfl (Nat.le_of_ble_eq_true rfl) (by decide) rfl rfl (by decide) ?_
              refine r_if_eq 75 X dX4_ofTriangle_70 (by decide) ⟨by unfold cmpv; split <;> (try split) <;> omega, by unfold cmpv; split <;> (try split) <;> omega⟩ (fun c70 => ?_) (fun c70 => ?_)
              · refine r_aload_n 1 X dX4_ofTriangle_75 rfl ?_
                refine r_callS_v X dX4_ofTriangle_76 kX4_60 (c_X4_ofRight (CX_l X) D z0 h q a b c ht hv (cmpv_z.mp c70)) [] rfl rfl (Nat.le_of_ble_eq_true rfl) (by decide) rfl rfl (by decide) ?_
                refine r_if_eq 100 X dX4_ofTriangle_79 (by decide) ⟨by omega, by omega⟩ (fun c79 => ?_) (fun c79 => ?_)
                · refine r_iconst X dX4_ofTriangle_100 ?_
                  refine r_zret X Y dX4_ofTriangle_101 (Or.inl rfl) (by decide) (by decide) ?_
                  exfalso
                  omega
                · refine r_aload_n 1 X dX4_ofTriangle_82 rfl ?_
                  refine r_callV_v X dX4_ofTriangle_83 kX4_63 ht (c_X5_isPrimitive (CX_l X) D z0 h q a b c ht hv) [] rfl rfl (Nat.le_of_ble_eq_true rfl) (by decide) rfl rfl (by decide) ?_
                  refine r_ifb_eq 96 X dX4_ofTriangle_86 (by decide) (fun c86 => ?_) (fun c86 => ?_)
                  · refine r_iconst X dX4_ofTriangle_96 ?_
                    refine r_goto 101 X dX4_ofTriangle_97 (by decide) ?_
                    refine r_zret X Y dX4_ofTriangle_101 (Or.inr rfl) (by decide) (by decide) ?_
                    exact pv rfl
                  · refine r_aload_n 1 X dX4_ofTriangle_89 rfl ?_
                    refine r_callS_v X dX4_ofTriangle_90 kX4_67 (c_X4_ofPrimitive (CX_l X) D z0 h q a b c ht hv (cmpv_z.mp c70) c86.2) [] rfl rfl (Nat.le_of_ble_eq_true rfl) (by decide) rfl rfl (by decide) ?_
                    refine r_if_eq 100 X dX4_ofTriangle_93 (by decide) ⟨by omega, by omega⟩ (fun c93 => ?_) (fun c93 => ?_)
                    · refine r_iconst X dX4_ofTriangle_100 ?_
                      refine r_zret X Y dX4_ofTriangle_101 (Or.inl rfl) (by decide) (by decide) ?_
                      exfalso
                      omega
                    · refine r_iconst X dX4_ofTriangle_96 ?_
                      refine r_goto 101 X dX4_ofTriangle_97 (by decide) ?_
                      refine r_zret X Y dX4_ofTriangle_101 (Or.inr rfl) (by decide) (by decide) ?_
                      exact pv rfl
              · refine r_iload_n 0 X dX4_ofTriangle_73 rfl ?_
                refine r_zret X Y dX4_ofTriangle_74 (Or.inl rfl) (by decide) (by decide) ?_
                exfalso
                omega
          · refine r_iconst X dX4_ofTriangle_56 ?_
            refine r_goto 61 X dX4_ofTriangle_57 (by decide) ?_
            refine r_istore_n (L' := [(1, iv 1), (0, .ref q)]) X dX4_ofTriangle_61 (by decide) rfl ?_
            refine r_iload_n 0 X dX4_ofTriangle_62 rfl ?_
            refine r_if_eq 73 X dX4_ofTriangle_63 (by decide) ⟨by omega, by omega⟩ (fun c63 => ?_) (fun c63 => ?_)
            · refine r_iload_n 0 X dX4_ofTriangle_73 rfl ?_
              refine r_zret X Y dX4_ofTriangle_74 (Or.inr rfl) (by decide) (by decide) ?_
              exact pv rfl
            · refine r_aload_n 1 X dX4_ofTriangle_66 rfl ?_
              refine r_callV_v X dX4_ofTriangle_67 kX4_56 ht (c_X5_sharpness (CX_l X) D z0 h q a b c ht hv) [] rfl rfl (Nat.le_of_ble_eq_true rfl) (by decide) rfl rfl (by decide) ?_
              refine r_if_eq 75 X dX4_ofTriangle_70 (by decide) ⟨by unfold cmpv; split <;> (try split) <;> omega, by unfold cmpv; split <;> (try split) <;> omega⟩ (fun c70 => ?_) (fun c70 => ?_)
              · refine r_aload_n 1 X dX4_ofTriangle_75 rfl ?_
                refine r_callS_v X dX4_ofTriangle_76 kX4_60 (c_X4_ofRight (CX_l X) D z0 h q a b c ht hv (cmpv_z.mp c70)) [] rfl rfl (Nat.le_of_ble_eq_true rfl) (by decide) rfl rfl (by decide) ?_
                refine r_if_eq 100 X dX4_ofTriangle_79 (by decide) ⟨by omega, by omega⟩ (fun c79 => ?_) (fun c79 => ?_)
                · refine r_iconst X dX4_ofTriangle_100 ?_
                  refine r_zret X Y dX4_ofTriangle_101 (Or.inl rfl) (by decide) (by decide) ?_
                  exfalso
                  omega
                · refine r_aload_n 1 X dX4_ofTriangle_82 rfl ?_
                  refine r_callV_v X dX4_ofTriangle_83 kX4_63 ht (c_X5_isPrimitive (CX_l X) D z0 h q a b c ht hv) [] rfl rfl (Nat.le_of_ble_eq_true rfl) (by decide) rfl rfl (by decide) ?_
                  refine r_ifb_eq 96 X dX4_ofTriangle_86 (by decide) (fun c86 => ?_) (fun c86 => ?_)
                  · refine r_iconst X dX4_ofTriangle_96 ?_
                    refine r_goto 101 X dX4_ofTriangle_97 (by decide) ?_
                    refine r_zret X Y dX4_ofTriangle_101 (Or.inr rfl) (by decide) (by decide) ?_
                    exact pv rfl
                  · refine r_aload_n 1 X dX4_ofTriangle_89 rfl ?_
                    refine r_callS_v X dX4_ofTriangle_90 kX4_67 (c_X4_ofPrimitive (CX_l X) D z0 h q a b c ht hv (cmpv_z.mp c70) c86.2) [] rfl rfl (Nat.le_of_ble_eq_true rfl) (by decide) rfl rfl (by decide) ?_
                    refine r_if_eq 100 X dX4_ofTriangle_93 (by decide) ⟨by omega, by omega⟩ (fun c93 => ?_) (fun c93 => ?_)
                    · refine r_iconst X dX4_ofTriangle_100 ?_
                      refine r_zret X Y dX4_ofTriangle_101 (Or.inl rfl) (by decide) (by decide) ?_
                      exfalso
                      omega
                    · refine r_iconst X dX4_ofTriangle_96 ?_
                      refine r_goto 101 X dX4_ofTriangle_97 (by decide) ?_
                      refine r_zret X Y dX4_ofTriangle_101 (Or.inr rfl) (by decide) (by decide) ?_
                      exact pv rfl
              · refine r_iload_n 0 X dX4_ofTriangle_73 rfl ?_
                refine r_zret X Y dX4_ofTriangle_74 (Or.inr rfl) (by decide) (by decide) ?_
                exact pv rfl
abbrev rX6_isTrue : Room := { frames := 8, cells := 2, slots := 12, locals := 143 }
theorem c_X6_isTrue {l : Launch} (hl : l.stackTraces = false) (D : va_G) (z0 : Nat) (h : Hp) (x T f u v o : Nat) (n : Int) (g : Nat → Option Nat) (σ : Tg) (hc : Cy D h x T f u v o n g σ) (p : Int) (hp0 : I32 p) : CC l yX6_isTrue cX6_isTrue 2 (some .boolean) rX6_isTrue D z0 h [.ref x, iv p] (fun v h' => v = some (iv 1) ∧ h = h' ∧ ms σ p 2 = 0) (Xn [iob, nseN] (ms σ p 2) h) := by
  refine CC_of RX6 hl (by decide) rfl (Nat.le_of_ble_eq_true rfl) (fun K X Y Z hmn hKl => ?_)
  subst hKl
  show WW K D z0 2 h 0 0 0 [(0, .ref x), (1, iv p)] []
  refine r_aload_n 0 X dX6_isTrue_0 rfl ?_
  refine r_iload_n 1 X dX6_isTrue_1 rfl ?_
  refine r_callV X dX6_isTrue_2 kX6_67 hc.1 (c_X6_heldAt (CX_l X) D z0 h x T f u v o n g σ hc p ⟨by omega, by omega⟩) [] rfl rfl (Nat.le_of_ble_eq_true rfl) (by decide) (by decide) (fun E9 h9 hx9 => by obtain ⟨rfl, ⟨hn2, rfl⟩ | ⟨hn2, hz2, rfl⟩⟩ := Xn_ms hx9; exact WX_out X Y Z (by decide) (by decide) (Xn_mk 1 (by unfold ms; (try simp only [isNone_f, isNone_t, true_or, or_true, false_or, or_false]); ((repeat' split) <;> first | rfl | contradiction | omega)) (by decide) rfl); exact WX_out X Y Z (by decide) (by decide) (Xn_mk 2 (by unfold ms; (try simp only [hz2, isNone_f, isNone_t, true_or, or_true, false_or, or_false]); ((repeat' split) <;> first | rfl | contradiction | omega)) (by decide) rfl)) (fun v9 h9 hv9 => ?_)
  obtain ⟨rfl, hp2, q2, a2, b2, c02, rfl, hg2, hs2, ht2, hv2⟩ := hv9
  have hb2 := TV_b hv2
  show WW K D z0 2 h 2 12 5 [(0, .ref x), (1, iv p)] [.ref q2]
  refine r_callS_v X dX6_isTrue_5 kX6_251 (c_X4_ofTriangle (CX_l X) D z0 h q2 a2 b2 c02 ht2 hv2) [] rfl rfl (Nat.le_of_ble_eq_true rfl) (by decide) rfl rfl (by decide) ?_
  refine r_zret X Y dX6_isTrue_8 (Or.inr rfl) (by decide) (by decide) ?_
  exact ⟨rfl, rfl, (by unfold ms; (try simp only [on_s hs2, hs2, isNone_f, isNone_t, true_or, or_true, false_or, or_false]); ((repeat' split) <;> first | rfl | contradiction | omega))⟩
