/-! the theorem: of roots, of hypot, of sharpness -/
theorem if_b {P : Prop} [Decidable P] : -2147483648 ≤ (if P then (1 : Int) else 0) ∧ (if P then (1 : Int) else 0) < 2147483648 := by split <;> omega
abbrev rX4_ofRoot : Room := { frames := 1, cells := 0, slots := 0, locals := 27 }
theorem c_X4_ofRoot {l : Launch} (hl : l.stackTraces = false) (D : va_G) (z0 : Nat) (h : Hp) (n : Nat) (hn : n ≤ 8589672450) : CC l yX4_ofRoot cX4_ofRoot 8 (some .boolean) rX4_ofRoot D z0 h [jv (n : Int)] (PV (iv 1) h) NX := by
  refine CC_of RX4 hl (by decide) rfl (Nat.le_of_ble_eq_true rfl) (fun K X Y Z hmn hKl => ?_)
  subst hKl
  have hs := isq_spec n
  have hl3 := isq_lt (a := 131072) (N := n) (by omega)
  have hI1 : ((isq n : Nat) : Int) * ((isq n : Nat) : Int) ≤ (n : Int) := by exact_mod_cast hs.1
  have hI2 : (n : Int) < (((isq n : Nat) : Int) + 1) * (((isq n : Nat) : Int) + 1) := by exact_mod_cast hs.2
  have hI0 : 0 ≤ ((isq n : Nat) : Int) * ((isq n : Nat) : Int) := by exact_mod_cast Nat.zero_le _
  have hI3 : (((isq n : Nat) : Int) + 1) * (((isq n : Nat) : Int) + 1) ≤ 17179869184 := by
    have h9 := Nat.mul_le_mul (show isq n + 1 ≤ 131072 by omega) (show isq n + 1 ≤ 131072 by omega)
    have h8 : (((isq n + 1) * (isq n + 1) : Nat) : Int) ≤ 17179869184 := by omega
    exact h8
  show WW K D z0 8 h 0 0 0 [(0, jv (n : Int))] []
  refine r_lload_n 0 X dX4_ofRoot_0 rfl ?_
  refine r_callS_v X dX4_ofRoot_1 kX4_9 (c_X1_wholeRoot (CX_l X) D z0 h (n : Int) ⟨by omega, by omega⟩) [] rfl rfl (Nat.le_of_ble_eq_true rfl) (by decide) rfl rfl (by decide) ?_
  refine r_lstore_n (L' := [(2, jv ((isq n : Nat) : Int)), (0, jv (n : Int))]) X dX4_ofRoot_4 (by decide) rfl ?_
  refine r_lload_n 1 X dX4_ofRoot_5 rfl ?_
  refine r_callS_v X dX4_ofRoot_6 kX4_15 (c_X1_nearestRoot (CX_l X) D z0 h n (by omega)) [] rfl rfl (Nat.le_of_ble_eq_true rfl) (by decide) rfl rfl (by decide) ?_
  refine r_dstore (L' := [(4, .double (dR n)), (2, jv ((isq n : Nat) : Int)), (0, jv (n : Int))]) X dX4_ofRoot_9 (by decide) rfl ?_
  refine r_lload_n 1 X dX4_ofRoot_11 rfl ?_
  refine r_lload_n 1 X dX4_ofRoot_12 rfl ?_
  refine r_lmul X dX4_ofRoot_13 ?_
  refine r_lload_n 2 X dX4_ofRoot_14 rfl ?_
  refine r_lcmp_gt 35 X dX4_ofRoot_15 dX4_ofRoot_16 (by decide) ⟨by omega, by omega⟩ ⟨by omega, by omega⟩ (fun c15 => ?_) (fun c15 => ?_)
  · refine r_iconst X dX4_ofRoot_35 ?_
    refine r_istore (L' := [(6, iv 0), (4, .double (dR n)), (2, jv ((isq n : Nat) : Int)), (0, jv (n : Int))]) X dX4_ofRoot_36 (by decide) rfl ?_
    refine r_dload 1 X dX4_ofRoot_38 rfl ?_
    refine r_callS_v X dX4_ofRoot_40 kX4_19 (c_isWhole_R (CX_l X) D z0 h n (by omega)) [] rfl rfl (Nat.le_of_ble_eq_true rfl) (by decide) rfl rfl (by decide) ?_
    refine r_lload_n 2 X dX4_ofRoot_43 rfl ?_
    refine r_lload_n 2 X dX4_ofRoot_44 rfl ?_
    refine r_lmul X dX4_ofRoot_45 ?_
    refine r_lload_n 3 X dX4_ofRoot_46 rfl ?_
    refine r_lcmp_ne 55 X dX4_ofRoot_47 dX4_ofRoot_48 (by decide) ⟨by omega, by omega⟩ ⟨by omega, by omega⟩ (fun c47 => ?_) (fun c47 => ?_)
    · refine r_iconst X dX4_ofRoot_55 ?_
      refine r_icmp_ne 63 X dX4_ofRoot_56 (by decide) if_b ⟨by omega, by omega⟩ (fun c56 => ?_) (fun c56 => ?_)
      · refine r_iconst X dX4_ofRoot_63 ?_
        refine r_istore (L' := [(7, iv 0), (6, iv 0), (4, .double (dR n)), (2, jv ((isq n : Nat) : Int)), (0, jv (n : Int))]) X dX4_ofRoot_64 (by decide) rfl ?_
        refine r_iload 1 X dX4_ofRoot_66 rfl ?_
        refine r_if_eq 88 X dX4_ofRoot_68 (by decide) ⟨by omega, by omega⟩ (fun c68 => ?_) (fun c68 => ?_)
        · refine r_iconst X dX4_ofRoot_88 ?_
          refine r_zret X Y dX4_ofRoot_89 (Or.inl rfl) (by decide) (by decide) ?_
          exfalso
          first | omega | (split at c56 <;> omega)
        · refine r_iload 0 X dX4_ofRoot_71 rfl ?_
          refine r_if_eq 88 X dX4_ofRoot_73 (by decide) ⟨by omega, by omega⟩ (fun c73 => ?_) (fun c73 => ?_)
          · refine r_iconst X dX4_ofRoot_88 ?_
            refine r_zret X Y dX4_ofRoot_89 (Or.inl rfl) (by decide) (by decide) ?_
            exfalso
            first | omega | (split at c56 <;> omega)
          · refine r_dload 2 X dX4_ofRoot_76 rfl ?_
            refine r_d2l ((isq n : Nat) : Int) X dX4_ofRoot_78 (dR_l (by omega)) ?_
            refine r_lload_n 3 X dX4_ofRoot_79 rfl ?_
            refine r_lcmp_ne 88 X dX4_ofRoot_80 dX4_ofRoot_81 (by decide) ⟨by omega, by omega⟩ ⟨by omega, by omega⟩ (fun c80 => ?_) (fun c80 => ?_)
            · refine r_iconst X dX4_ofRoot_88 ?_
              refine r_zret X Y dX4_ofRoot_89 (Or.inl rfl) (by decide) (by decide) ?_
              exact absurd rfl c80
            · refine r_iconst X dX4_ofRoot_84 ?_
              refine r_goto 89 X dX4_ofRoot_85 (by decide) ?_
              refine r_zret X Y dX4_ofRoot_89 (Or.inr rfl) (by decide) (by decide) ?_
              exact pv rfl
      · refine r_iconst X dX4_ofRoot_59 ?_
        refine r_goto 64 X dX4_ofRoot_60 (by decide) ?_
        refine r_istore (L' := [(7, iv 1), (6, iv 0), (4, .double (dR n)), (2, jv ((isq n : Nat) : Int)), (0, jv (n : Int))]) X dX4_ofRoot_64 (by decide) rfl ?_
        refine r_iload 1 X dX4_ofRoot_66 rfl ?_
        refine r_if_eq 88 X dX4_ofRoot_68 (by decide) ⟨by omega, by omega⟩ (fun c68 => ?_) (fun c68 => ?_)
        · refine r_iconst X dX4_ofRoot_88 ?_
          refine r_zret X Y dX4_ofRoot_89 (Or.inl rfl) (by decide) (by decide) ?_
          exfalso
          first | omega | (split at c56 <;> omega)
        · refine r_iload 0 X dX4_ofRoot_71 rfl ?_
          refine r_if_eq 88 X dX4_ofRoot_73 (by decide) ⟨by omega, by omega⟩ (fun c73 => ?_) (fun c73 => ?_)
          · refine r_iconst X dX4_ofRoot_88 ?_
            refine r_zret X Y dX4_ofRoot_89 (Or.inl rfl) (by decide) (by decide) ?_
            exfalso
            first | omega | (split at c56 <;> omega)
          · refine r_dload 2 X dX4_ofRoot_76 rfl ?_
            refine r_d2l ((isq n : Nat) : Int) X dX4_ofRoot_78 (dR_l (by omega)) ?_
            refine r_lload_n 3 X dX4_ofRoot_79 rfl ?_
            refine r_lcmp_ne 88 X dX4_ofRoot_80 dX4_ofRoot_81 (by decide) ⟨by omega, by omega⟩ ⟨by omega, by omega⟩ (fun c80 => ?_) (fun c80 => ?_)
            · refine r_iconst X dX4_ofRoot_88 ?_
              refine r_zret X Y dX4_ofRoot_89 (Or.inl rfl) (by decide) (by decide) ?_
              exact absurd rfl c80
            · refine r_iconst X dX4_ofRoot_84 ?_
              refine r_goto 89 X dX4_ofRoot_85 (by decide) ?_
              refine r_zret X Y dX4_ofRoot_89 (Or.inr rfl) (by decide) (by decide) ?_
              exact pv rfl
    · refine r_iconst X dX4_ofRoot_51 ?_
      refine r_goto 56 X dX4_ofRoot_52 (by decide) ?_
      refine r_icmp_ne 63 X dX4_ofRoot_56 (by decide) if_b ⟨by omega, by omega⟩ (fun c56 => ?_) (fun c56 => ?_)
      · refine r_iconst X dX4_ofRoot_63 ?_
        refine r_istore (L' := [(7, iv 0), (6, iv 0), (4, .double (dR n)), (2, jv ((isq n : Nat) : Int)), (0, jv (n : Int))]) X dX4_ofRoot_64 (by decide) rfl ?_
        refine r_iload 1 X dX4_ofRoot_66 rfl ?_
        refine r_if_eq 88 X dX4_ofRoot_68 (by decide) ⟨by omega, by omega⟩ (fun c68 => ?_) (fun c68 => ?_)
        · refine r_iconst X dX4_ofRoot_88 ?_
          refine r_zret X Y dX4_ofRoot_89 (Or.inl rfl) (by decide) (by decide) ?_
          exfalso
          first | omega | (split at c56 <;> omega)
        · refine r_iload 0 X dX4_ofRoot_71 rfl ?_
          refine r_if_eq 88 X dX4_ofRoot_73 (by decide) ⟨by omega, by omega⟩ (fun c73 => ?_) (fun c73 => ?_)
          · refine r_iconst X dX4_ofRoot_88 ?_
            refine r_zret X Y dX4_ofRoot_89 (Or.inl rfl) (by decide) (by decide) ?_
            exfalso
            first | omega | (split at c56 <;> omega)
          · refine r_dload 2 X dX4_ofRoot_76 rfl ?_
            refine r_d2l ((isq n : Nat) : Int) X dX4_ofRoot_78 (dR_l (by omega)) ?_
            refine r_lload_n 3 X dX4_ofRoot_79 rfl ?_
            refine r_lcmp_ne 88 X dX4_ofRoot_80 dX4_ofRoot_81 (by decide) ⟨by omega, by omega⟩ ⟨by omega, by omega⟩ (fun c80 => ?_) (fun c80 => ?_)
            · refine r_iconst X dX4_ofRoot_88 ?_
              refine r_zret X Y dX4_ofRoot_89 (Or.inl rfl) (by decide) (by decide) ?_
              exact absurd rfl c80
            · refine r_iconst X dX4_ofRoot_84 ?_
              refine r_goto 89 X dX4_ofRoot_85 (by decide) ?_
              refine r_zret X Y dX4_ofRoot_89 (Or.inr rfl) (by decide) (by decide) ?_
              exact pv rfl
      · refine r_iconst X dX4_ofRoot_59 ?_
        refine r_goto 64 X dX4_ofRoot_60 (by decide) ?_
        refine r_istore (L' := [(7, iv 1), (6, iv 0), (4, .double (dR n)), (2, jv ((isq n : Nat) : Int)), (0, jv (n : Int))]) X dX4_ofRoot_64 (by decide) rfl ?_
        refine r_iload 1 X dX4_ofRoot_66 rfl ?_
        refine r_if_eq 88 X dX4_ofRoot_68 (by decide) ⟨by omega, by omega⟩ (fun c68 => ?_) (fun c68 => ?_)
        · refine r_iconst X dX4_ofRoot_88 ?_
          refine r_zret X Y dX4_ofRoot_89 (Or.inl rfl) (by decide) (by decide) ?_
          exfalso
          first | omega | (split at c56 <;> omega)
        · refine r_iload 0 X dX4_ofRoot_71 rfl ?_
          refine r_if_eq 88 X dX4_ofRoot_73 (by decide) ⟨by omega, by omega⟩ (fun c73 => ?_) (fun c73 => ?_)
          · refine r_iconst X dX4_ofRoot_88 ?_
            refine r_zret X Y dX4_ofRoot_89 (Or.inl rfl) (by decide) (by decide) ?_
            exfalso
            first | omega | (split at c56 <;> omega)
          · refine r_dload 2 X dX4_ofRoot_76 rfl ?_
            refine r_d2l ((isq n : Nat) : Int) X dX4_ofRoot_78 (dR_l (by omega)) ?_
            refine r_lload_n 3 X dX4_ofRoot_79 rfl ?_
            refine r_lcmp_ne 88 X dX4_ofRoot_80 dX4_ofRoot_81 (by decide) ⟨by omega, by omega⟩ ⟨by omega, by omega⟩ (fun c80 => ?_) (fun c80 => ?_)
            · refine r_iconst X dX4_ofRoot_88 ?_
              refine r_zret X Y dX4_ofRoot_89 (Or.inl rfl) (by decide) (by decide) ?_
              exact absurd rfl c80
            · refine r_iconst X dX4_ofRoot_84 ?_
              refine r_goto 89 X dX4_ofRoot_85 (by decide) ?_
              refine r_zret X Y dX4_ofRoot_89 (Or.inr rfl) (by decide) (by decide) ?_
              exact pv rfl
  · refine r_lload_n 1 X dX4_ofRoot_19 rfl ?_
    refine r_lconst 1 X dX4_ofRoot_20 (by decide) ?_
    refine r_ladd X dX4_ofRoot_21 ?_
    refine r_lload_n 1 X dX4_ofRoot_22 rfl ?_
    refine r_lconst 1 X dX4_ofRoot_23 (by decide) ?_
    refine r_ladd X dX4_ofRoot_24 ?_
    refine r_lmul X dX4_ofRoot_25 ?_
    refine r_lload_n 2 X dX4_ofRoot_26 rfl ?_
    refine r_lcmp_le 35 X dX4_ofRoot_27 dX4_ofRoot_28 (by decide) ⟨by omega, by omega⟩ ⟨by omega, by omega⟩ (fun c27 => ?_) (fun c27 => ?_)
    · refine r_iconst X dX4_ofRoot_35 ?_
      refine r_istore (L' := [(6, iv 0), (4, .double (dR n)), (2, jv ((isq n : Nat) : Int)), (0, jv (n : Int))]) X dX4_ofRoot_36 (by decide) rfl ?_
      refine r_dload 1 X dX4_ofRoot_38 rfl ?_
      refine r_callS_v X dX4_ofRoot_40 kX4_19 (c_isWhole_R (CX_l X) D z0 h n (by omega)) [] rfl rfl (Nat.le_of_ble_eq_true rfl) (by decide) rfl rfl (by decide) ?_
      refine r_lload_n 2 X dX4_ofRoot_43 rfl ?_
      refine r_lload_n 2 X dX4_ofRoot_44 rfl ?_
      refine r_lmul X dX4_ofRoot_45 ?_
      refine r_lload_n 3 X dX4_ofRoot_46 rfl ?_
      refine r_lcmp_ne 55 X dX4_ofRoot_47 dX4_ofRoot_48 (by decide) ⟨by omega, by omega⟩ ⟨by omega, by omega⟩ (fun c47 => ?_) (fun c47 => ?_)
      · refine r_iconst X dX4_ofRoot_55 ?_
        refine r_icmp_ne 63 X dX4_ofRoot_56 (by decide) if_b ⟨by omega, by omega⟩ (fun c56 => ?_) (fun c56 => ?_)
        · refine r_iconst X dX4_ofRoot_63 ?_
          refine r_istore (L' := [(7, iv 0), (6, iv 0), (4, .double (dR n)), (2, jv ((isq n : Nat) : Int)), (0, jv (n : Int))]) X dX4_ofRoot_64 (by decide) rfl ?_
          refine r_iload 1 X dX4_ofRoot_66 rfl ?_
          refine r_if_eq 88 X dX4_ofRoot_68 (by decide) ⟨by omega, by omega⟩ (fun c68 => ?_) (fun c68 => ?_)
          · refine r_iconst X dX4_ofRoot_88 ?_
            refine r_zret X Y dX4_ofRoot_89 (Or.inl rfl) (by decide) (by decide) ?_
            exfalso
            first | omega | (split at c56 <;> omega)
          · refine r_iload 0 X dX4_ofRoot_71 rfl ?_
            refine r_if_eq 88 X dX4_ofRoot_73 (by decide) ⟨by omega, by omega⟩ (fun c73 => ?_) (fun c73 => ?_)
            · refine r_iconst X dX4_ofRoot_88 ?_
              refine r_zret X Y dX4_ofRoot_89 (Or.inl rfl) (by decide) (by decide) ?_
              exfalso
              first | omega | (split at c56 <;> omega)
            · refine r_dload 2 X dX4_ofRoot_76 rfl ?_
              refine r_d2l ((isq n : Nat) : Int) X dX4_ofRoot_78 (dR_l (by omega)) ?_
              refine r_lload_n 3 X dX4_ofRoot_79 rfl ?_
              refine r_lcmp_ne 88 X dX4_ofRoot_80 dX4_ofRoot_81 (by decide) ⟨by omega, by omega⟩ ⟨by omega, by omega⟩ (fun c80 => ?_) (fun c80 => ?_)
              · refine r_iconst X dX4_ofRoot_88 ?_
                refine r_zret X Y dX4_ofRoot_89 (Or.inl rfl) (by decide) (by decide) ?_
                exact absurd rfl c80
              · refine r_iconst X dX4_ofRoot_84 ?_
                refine r_goto 89 X dX4_ofRoot_85 (by decide) ?_
                refine r_zret X Y dX4_ofRoot_89 (Or.inr rfl) (by decide) (by decide) ?_
                exact pv rfl
        · refine r_iconst X dX4_ofRoot_59 ?_
          refine r_goto 64 X dX4_ofRoot_60 (by decide) ?_
          refine r_istore (L' := [(7, iv 1), (6, iv 0), (4, .double (dR n)), (2, jv ((isq n : Nat) : Int)), (0, jv (n : Int))]) X dX4_ofRoot_64 (by decide) rfl ?_
          refine r_iload 1 X dX4_ofRoot_66 rfl ?_
          refine r_if_eq 88 X dX4_ofRoot_68 (by decide) ⟨by omega, by omega⟩ (fun c68 => ?_) (fun c68 => ?_)
          · refine r_iconst X dX4_ofRoot_88 ?_
            refine r_zret X Y dX4_ofRoot_89 (Or.inl rfl) (by decide) (by decide) ?_
            exfalso
            first | omega | (split at c56 <;> omega)
          · refine r_iload 0 X dX4_ofRoot_71 rfl ?_
            refine r_if_eq 88 X dX4_ofRoot_73 (by decide) ⟨by omega, by omega⟩ (fun c73 => ?_) (fun c73 => ?_)
            · refine r_iconst X dX4_ofRoot_88 ?_
              refine r_zret X Y dX4_ofRoot_89 (Or.inl rfl) (by decide) (by decide) ?_
              exfalso
              first | omega | (split at c56 <;> omega)
            · refine r_dload 2 X dX4_ofRoot_76 rfl ?_
              refine r_d2l ((isq n : Nat) : Int) X dX4_ofRoot_78 (dR_l (by omega)) ?_
              refine r_lload_n 3 X dX4_ofRoot_79 rfl ?_
              refine r_lcmp_ne 88 X dX4_ofRoot_80 dX4_ofRoot_81 (by decide) ⟨by omega, by omega⟩ ⟨by omega, by omega⟩ (fun c80 => ?_) (fun c80 => ?_)
              · refine r_iconst X dX4_ofRoot_88 ?_
                refine r_zret X Y dX4_ofRoot_89 (Or.inl rfl) (by decide) (by decide) ?_
                exact absurd rfl c80
              · refine r_iconst X dX4_ofRoot_84 ?_
                refine r_goto 89 X dX4_ofRoot_85 (by decide) ?_
                refine r_zret X Y dX4_ofRoot_89 (Or.inr rfl) (by decide) (by decide) ?_
                exact pv rfl
      · refine r_iconst X dX4_ofRoot_51 ?_
        refine r_goto 56 X dX4_ofRoot_52 (by decide) ?_
        refine r_icmp_ne 63 X dX4_ofRoot_56 (by decide) if_b ⟨by omega, by omega⟩ (fun c56 => ?_) (fun c56 => ?_)
        · refine r_iconst X dX4_ofRoot_63 ?_
          refine r_istore (L' := [(7, iv 0), (6, iv 0), (4, .double (dR n)), (2, jv ((isq n : Nat) : Int)), (0, jv (n : Int))]) X dX4_ofRoot_64 (by decide) rfl ?_
          refine r_iload 1 X dX4_ofRoot_66 rfl ?_
          refine r_if_eq 88 X dX4_ofRoot_68 (by decide) ⟨by omega, by omega⟩ (fun c68 => ?_) (fun c68 => ?_)
          · refine r_iconst X dX4_ofRoot_88 ?_
            refine r_zret X Y dX4_ofRoot_89 (Or.inl rfl) (by decide) (by decide) ?_
            exfalso
            first | omega | (split at c56 <;> omega)
          · refine r_iload 0 X dX4_ofRoot_71 rfl ?_
            refine r_if_eq 88 X dX4_ofRoot_73 (by decide) ⟨by omega, by omega⟩ (fun c73 => ?_) (fun c73 => ?_)
            · refine r_iconst X dX4_ofRoot_88 ?_
              refine r_zret X Y dX4_ofRoot_89 (Or.inl rfl) (by decide) (by decide) ?_
              exfalso
              first | omega | (split at c56 <;> omega)
            · refine r_dload 2 X dX4_ofRoot_76 rfl ?_
              refine r_d2l ((isq n : Nat) : Int) X dX4_ofRoot_78 (dR_l (by omega)) ?_
              refine r_lload_n 3 X dX4_ofRoot_79 rfl ?_
              refine r_lcmp_ne 88 X dX4_ofRoot_80 dX4_ofRoot_81 (by decide) ⟨by omega, by omega⟩ ⟨by omega, by omega⟩ (fun c80 => ?_) (fun c80 => ?_)
              · refine r_iconst X dX4_ofRoot_88 ?_
                refine r_zret X Y dX4_ofRoot_89 (Or.inl rfl) (by decide) (by decide) ?_
                exact absurd rfl c80
              · refine r_iconst X dX4_ofRoot_84 ?_
                refine r_goto 89 X dX4_ofRoot_85 (by decide) ?_
                refine r_zret X Y dX4_ofRoot_89 (Or.inr rfl) (by decide) (by decide) ?_
                exact pv rfl
        · refine r_iconst X dX4_ofRoot_59 ?_
          refine r_goto 64 X dX4_ofRoot_60 (by decide) ?_
          refine r_istore (L' := [(7, iv 1), (6, iv 0), (4, .double (dR n)), (2, jv ((isq n : Nat) : Int)), (0, jv (n : Int))]) X dX4_ofRoot_64 (by decide) rfl ?_
          refine r_iload 1 X dX4_ofRoot_66 rfl ?_
          refine r_if_eq 88 X dX4_ofRoot_68 (by decide) ⟨by omega, by omega⟩ (fun c68 => ?_) (fun c68 => ?_)
          · refine r_iconst X dX4_ofRoot_88 ?_
            refine r_zret X Y dX4_ofRoot_89 (Or.inl rfl) (by decide) (by decide) ?_
            exfalso
            first | omega | (split at c56 <;> omega)
          · refine r_iload 0 X dX4_ofRoot_71 rfl ?_
            refine r_if_eq 88 X dX4_ofRoot_73 (by decide) ⟨by omega, by omega⟩ (fun c73 => ?_) (fun c73 => ?_)
            · refine r_iconst X dX4_ofRoot_88 ?_
              refine r_zret X Y dX4_ofRoot_89 (Or.inl rfl) (by decide) (by decide) ?_
              exfalso
              first | omega | (split at c56 <;> omega)
            · refine r_dload 2 X dX4_ofRoot_76 rfl ?_
              refine r_d2l ((isq n : Nat) : Int) X dX4_ofRoot_78 (dR_l (by omega)) ?_
              refine r_lload_n 3 X dX4_ofRoot_79 rfl ?_
              refine r_lcmp_ne 88 X dX4_ofRoot_80 dX4_ofRoot_81 (by decide) ⟨by omega, by omega⟩ ⟨by omega, by omega⟩ (fun c80 => ?_) (fun c80 => ?_)
              · refine r_iconst X dX4_ofRoot_88 ?_
                refine r_zret X Y dX4_ofRoot_89 (Or.inl rfl) (by decide) (by decide) ?_
                exact absurd rfl c80
              · refine r_iconst X dX4_ofRoot_84 ?_
                refine r_goto 89 X dX4_ofRoot_85 (by decide) ?_
                refine r_zret X Y dX4_ofRoot_89 (Or.inr rfl) (by decide) (by decide) ?_
                exact pv rfl
    · refine r_iconst X dX4_ofRoot_31 ?_
      refine r_goto 36 X dX4_ofRoot_32 (by decide) ?_
      refine r_istore (L' := [(6, iv 1), (4, .double (dR n)), (2, jv ((isq n : Nat) : Int)), (0, jv (n : Int))]) X dX4_ofRoot_36 (by decide) rfl ?_
      refine r_dload 1 X dX4_ofRoot_38 rfl ?_
      refine r_callS_v X dX4_ofRoot_40 kX4_19 (c_isWhole_R (CX_l X) D z0 h n (by omega)) [] rfl rfl (Nat.le_of_ble_eq_true rfl) (by decide) rfl rfl (by decide) ?_
      refine r_lload_n 2 X dX4_ofRoot_43 rfl ?_
      refine r_lload_n 2 X dX4_ofRoot_44 rfl ?_
      refine r_lmul X dX4_ofRoot_45 ?_
      refine r_lload_n 3 X dX4_ofRoot_46 rfl ?_
      refine r_lcmp_ne 55 X dX4_ofRoot_47 dX4_ofRoot_48 (by decide) ⟨by omega, by omega⟩ ⟨by omega, by omega⟩ (fun c47 => ?_) (fun c47 => ?_)
      · refine r_iconst X dX4_ofRoot_55 ?_
        refine r_icmp_ne 63 X dX4_ofRoot_56 (by decide) if_b ⟨by omega, by omega⟩ (fun c56 => ?_) (fun c56 => ?_)
        · refine r_iconst X dX4_ofRoot_63 ?_
          refine r_istore (L' := [(7, iv 0), (6, iv 1), (4, .double (dR n)), (2, jv ((isq n : Nat) : Int)), (0, jv (n : Int))]) X dX4_ofRoot_64 (by decide) rfl ?_
          refine r_iload 1 X dX4_ofRoot_66 rfl ?_
          refine r_if_eq 88 X dX4_ofRoot_68 (by decide) ⟨by omega, by omega⟩ (fun c68 => ?_) (fun c68 => ?_)
          · refine r_iconst X dX4_ofRoot_88 ?_
            refine r_zret X Y dX4_ofRoot_89 (Or.inl rfl) (by decide) (by decide) ?_
            exfalso
            first | omega | (split at c56 <;> omega)
          · refine r_iload 0 X dX4_ofRoot_71 rfl ?_
            refine r_if_eq 88 X dX4_ofRoot_73 (by decide) ⟨by omega, by omega⟩ (fun c73 => ?_) (fun c73 => ?_)
            · refine r_iconst X dX4_ofRoot_88 ?_
              refine r_zret X Y dX4_ofRoot_89 (Or.inl rfl) (by decide) (by decide) ?_
              exfalso
              first | omega | (split at c56 <;> omega)
            · refine r_dload 2 X dX4_ofRoot_76 rfl ?_
              refine r_d2l ((isq n : Nat) : Int) X dX4_ofRoot_78 (dR_l (by omega)) ?_
              refine r_lload_n 3 X dX4_ofRoot_79 rfl ?_
              refine r_lcmp_ne 88 X dX4_ofRoot_80 dX4_ofRoot_81 (by decide) ⟨by omega, by omega⟩ ⟨by omega, by omega⟩ (fun c80 => ?_) (fun c80 => ?_)
              · refine r_iconst X dX4_ofRoot_88 ?_
                refine r_zret X Y dX4_ofRoot_89 (Or.inl rfl) (by decide) (by decide) ?_
                exact absurd rfl c80
              · refine r_iconst X dX4_ofRoot_84 ?_
                refine r_goto 89 X dX4_ofRoot_85 (by decide) ?_
                refine r_zret X Y dX4_ofRoot_89 (Or.inr rfl) (by decide) (by decide) ?_
                exact pv rfl
        · refine r_iconst X dX4_ofRoot_59 ?_
          refine r_goto 64 X dX4_ofRoot_60 (by decide) ?_
          refine r_istore (L' := [(7, iv 1), (6, iv 1), (4, .double (dR n)), (2, jv ((isq n : Nat) : Int)), (0, jv (n : Int))]) X dX4_ofRoot_64 (by decide) rfl ?_
          refine r_iload 1 X dX4_ofRoot_66 rfl ?_
          refine r_if_eq 88 X dX4_ofRoot_68 (by decide) ⟨by omega, by omega⟩ (fun c68 => ?_) (fun c68 => ?_)
          · refine r_iconst X dX4_ofRoot_88 ?_
            refine r_zret X Y dX4_ofRoot_89 (Or.inl rfl) (by decide) (by decide) ?_
            exfalso
            first | omega | (split at c56 <;> omega)
          · refine r_iload 0 X dX4_ofRoot_71 rfl ?_
            refine r_if_eq 88 X dX4_ofRoot_73 (by decide) ⟨by omega, by omega⟩ (fun c73 => ?_) (fun c73 => ?_)
            · refine r_iconst X dX4_ofRoot_88 ?_
              refine r_zret X Y dX4_ofRoot_89 (Or.inl rfl) (by decide) (by decide) ?_
              exfalso
              first | omega | (split at c56 <;> omega)
            · refine r_dload 2 X dX4_ofRoot_76 rfl ?_
              refine r_d2l ((isq n : Nat) : Int) X dX4_ofRoot_78 (dR_l (by omega)) ?_
              refine r_lload_n 3 X dX4_ofRoot_79 rfl ?_
              refine r_lcmp_ne 88 X dX4_ofRoot_80 dX4_ofRoot_81 (by decide) ⟨by omega, by omega⟩ ⟨by omega, by omega⟩ (fun c80 => ?_) (fun c80 => ?_)
              · refine r_iconst X dX4_ofRoot_88 ?_
                refine r_zret X Y dX4_ofRoot_89 (Or.inl rfl) (by decide) (by decide) ?_
                exact absurd rfl c80
              · refine r_iconst X dX4_ofRoot_84 ?_
                refine r_goto 89 X dX4_ofRoot_85 (by decide) ?_
                refine r_zret X Y dX4_ofRoot_89 (Or.inr rfl) (by decide) (by decide) ?_
                exact pv rfl
      · refine r_iconst X dX4_ofRoot_51 ?_
        refine r_goto 56 X dX4_ofRoot_52 (by decide) ?_
        refine r_icmp_ne 63 X dX4_ofRoot_56 (by decide) if_b ⟨by omega, by omega⟩ (fun c56 => ?_) (fun c56 => ?_)
        · refine r_iconst X dX4_ofRoot_63 ?_
          refine r_istore (L' := [(7, iv 0), (6, iv 1), (4, .double (dR n)), (2, jv ((isq n : Nat) : Int)), (0, jv (n : Int))]) X dX4_ofRoot_64 (by decide) rfl ?_
          refine r_iload 1 X dX4_ofRoot_66 rfl ?_
          refine r_if_eq 88 X dX4_ofRoot_68 (by decide) ⟨by omega, by omega⟩ (fun c68 => ?_) (fun c68 => ?_)
          · refine r_iconst X dX4_ofRoot_88 ?_
            refine r_zret X Y dX4_ofRoot_89 (Or.inl rfl) (by decide) (by decide) ?_
            exfalso
            first | omega | (split at c56 <;> omega)
          · refine r_iload 0 X dX4_ofRoot_71 rfl ?_
            refine r_if_eq 88 X dX4_ofRoot_73 (by decide) ⟨by omega, by omega⟩ (fun c73 => ?_) (fun c73 => ?_)
            · refine r_iconst X dX4_ofRoot_88 ?_
              refine r_zret X Y dX4_ofRoot_89 (Or.inl rfl) (by decide) (by decide) ?_
              exfalso
              first | omega | (split at c56 <;> omega)
            · refine r_dload 2 X dX4_ofRoot_76 rfl ?_
              refine r_d2l ((isq n : Nat) : Int) X dX4_ofRoot_78 (dR_l (by omega)) ?_
              refine r_lload_n 3 X dX4_ofRoot_79 rfl ?_
              refine r_lcmp_ne 88 X dX4_ofRoot_80 dX4_ofRoot_81 (by decide) ⟨by omega, by omega⟩ ⟨by omega, by omega⟩ (fun c80 => ?_) (fun c80 => ?_)
              · refine r_iconst X dX4_ofRoot_88 ?_
                refine r_zret X Y dX4_ofRoot_89 (Or.inl rfl) (by decide) (by decide) ?_
                exact absurd rfl c80
              · refine r_iconst X dX4_ofRoot_84 ?_
                refine r_goto 89 X dX4_ofRoot_85 (by decide) ?_
                refine r_zret X Y dX4_ofRoot_89 (Or.inr rfl) (by decide) (by decide) ?_
                exact pv rfl
        · refine r_iconst X dX4_ofRoot_59 ?_
          refine r_goto 64 X dX4_ofRoot_60 (by decide) ?_
          refine r_istore (L' := [(7, iv 1), (6, iv 1), (4, .double (dR n)), (2, jv ((isq n : Nat) : Int)), (0, jv (n : Int))]) X dX4_ofRoot_64 (by decide) rfl ?_
          refine r_iload 1 X dX4_ofRoot_66 rfl ?_
          refine r_if_eq 88 X dX4_ofRoot_68 (by decide) ⟨by omega, by omega⟩ (fun c68 => ?_) (fun c68 => ?_)
          · refine r_iconst X dX4_ofRoot_88 ?_
            refine r_zret X Y dX4_ofRoot_89 (Or.inl rfl) (by decide) (by decide) ?_
            exfalso
            first | omega | (split at c56 <;> omega)
          · refine r_iload 0 X dX4_ofRoot_71 rfl ?_
            refine r_if_eq 88 X dX4_ofRoot_73 (by decide) ⟨by omega, by omega⟩ (fun c73 => ?_) (fun c73 => ?_)
            · refine r_iconst X dX4_ofRoot_88 ?_
              refine r_zret X Y dX4_ofRoot_89 (Or.inl rfl) (by decide) (by decide) ?_
              exfalso
              first | omega | (split at c56 <;> omega)
            · refine r_dload 2 X dX4_ofRoot_76 rfl ?_
              refine r_d2l ((isq n : Nat) : Int) X dX4_ofRoot_78 (dR_l (by omega)) ?_
              refine r_lload_n 3 X dX4_ofRoot_79 rfl ?_
              refine r_lcmp_ne 88 X dX4_ofRoot_80 dX4_ofRoot_81 (by decide) ⟨by omega, by omega⟩ ⟨by omega, by omega⟩ (fun c80 => ?_) (fun c80 => ?_)
              · refine r_iconst X dX4_ofRoot_88 ?_
                refine r_zret X Y dX4_ofRoot_89 (Or.inl rfl) (by decide) (by decide) ?_
                exact absurd rfl c80
              · refine r_iconst X dX4_ofRoot_84 ?_
                refine r_goto 89 X dX4_ofRoot_85 (by decide) ?_
                refine r_zret X Y dX4_ofRoot_89 (Or.inr rfl) (by decide) (by decide) ?_
                exact pv rfl
abbrev rX6_rootIsTrue : Room := { frames := 7, cells := 1, slots := 6, locals := 111 }
theorem c_X6_rootIsTrue {l : Launch} (hl : l.stackTraces = false) (D : va_G) (z0 : Nat) (h : Hp) (x : Nat) (p : Int) (hp0 : I64 p) : CC l yX6_rootIsTrue cX6_rootIsTrue 3 (some .boolean) rX6_rootIsTrue D z0 h [.ref x, jv p] (fun w0 h' => w0 = some (iv 1) ∧ h = h' ∧ cdRo p = 0) (Xn [iae] (cdRo p) h) := by
  refine CC_of RX6 hl (by decide) rfl (Nat.le_of_ble_eq_true rfl) (fun K X Y Z hmn hKl => ?_)
  subst hKl
  show WW K D z0 3 h 0 0 0 [(0, .ref x), (1, jv p)] []
  refine r_lload_n 1 X dX6_rootIsTrue_0 rfl ?_
  refine r_callS X dX6_rootIsTrue_1 kX6_147 (c_X6_requireNumber (CX_l X) D z0 h p ⟨by omega, by omega⟩) [] rfl rfl (Nat.le_of_ble_eq_true rfl) (by decide) (by decide) (fun E9 h9 hx9 => by obtain ⟨rfl, rfl, hn1⟩ := Xn1 hx9; exact WX_out X Y Z (by decide) (by decide) (Xn_mk 1 (if_neg (by omega)) (by decide) rfl)) (fun v9 h9 hv9 => ?_)
  obtain ⟨rfl, rfl, hp1⟩ := hv9
  show WW K D z0 3 h 1 6 4 [(0, .ref x), (1, jv p)] []
  refine r_lload_n 1 X dX6_rootIsTrue_4 rfl ?_
  refine WW_e (congrArg (fun z => jv z :: []) (show p = (p.toNat : Int) by omega)) ?_
  show WW K D z0 3 h 1 6 5 [(0, .ref x), (1, jv p)] [jv (p.toNat : Int)]
  refine r_callS_v X dX6_rootIsTrue_5 kX6_257 (c_X4_ofRoot (CX_l X) D z0 h p.toNat (by omega)) [] rfl rfl (Nat.le_of_ble_eq_true rfl) (by decide) rfl rfl (by decide) ?_
  refine r_zret X Y dX6_rootIsTrue_8 (Or.inr rfl) (by decide) (by decide) ?_
  exact ⟨rfl, rfl, if_pos (by omega)⟩
abbrev rX4_ofHypot : Room := { frames := 2, cells := 0, slots := 0, locals := 56 }
theorem c_X4_ofHypot {l : Launch} (hl : l.stackTraces = false) (D : va_G) (z0 : Nat) (h : Hp) (x y : Nat) (hx : x ≤ 65535) (hy : y ≤ 65535) : CC l yX4_ofHypot cX4_ofHypot 6 (some .boolean) rX4_ofHypot D z0 h [iv (x : Int), iv (y : Int)] (PV (iv 1) h) NX := by
  refine CC_of RX4 hl (by decide) rfl (Nat.le_of_ble_eq_true rfl) (fun K X Y Z hmn hKl => ?_)
  subst hKl
  have b1 := Nat.mul_le_mul hx hx
  have b2 := Nat.mul_le_mul hy hy
  have hN : (x * x + y * y) < 17179869184 := by omega
  show WW K D z0 6 h 0 0 0 [(0, iv (x : Int)), (1, iv (y : Int))] []
  refine r_iload_n 0 X dX4_ofHypot_0 rfl ?_
  refine r_i2l X dX4_ofHypot_1 ⟨by omega, by omega⟩ ?_
  refine r_iload_n 0 X dX4_ofHypot_2 rfl ?_
  refine r_i2l X dX4_ofHypot_3 ⟨by omega, by omega⟩ ?_
  refine r_lmul X dX4_ofHypot_4 ?_
  refine r_iload_n 1 X dX4_ofHypot_5 rfl ?_
  refine r_i2l X dX4_ofHypot_6 ⟨by omega, by omega⟩ ?_
  refine r_iload_n 1 X dX4_ofHypot_7 rfl ?_
  refine r_i2l X dX4_ofHypot_8 ⟨by omega, by omega⟩ ?_
  refine r_lmul X dX4_ofHypot_9 ?_
  refine r_ladd X dX4_ofHypot_10 ?_
  refine WW_e (congrArg (fun z => jv z :: []) (show ((x : Int) * (x : Int)) + ((y : Int) * (y : Int)) = (((x * x + y * y) : Nat) : Int) from rfl)) ?_
  show WW K D z0 6 h 0 0 11 [(0, iv (x : Int)), (1, iv (y : Int))] [jv (((x * x + y * y) : Nat) : Int)]
  refine r_lstore_n (L' := [(2, jv (((x * x + y * y) : Nat) : Int)), (0, iv (x : Int)), (1, iv (y : Int))]) X dX4_ofHypot_11 (by decide) rfl ?_
  refine r_iload_n 1 X dX4_ofHypot_12 rfl ?_
  refine r_iload_n 2 X dX4_ofHypot_13 rfl ?_
  refine r_callS_v X dX4_ofHypot_14 kX4_23 (c_X1_nearestHypot (CX_l X) D z0 h x y hx hy) [] rfl rfl (Nat.le_of_ble_eq_true rfl) (by decide) rfl rfl (by decide) ?_
  refine r_dstore (L' := [(4, .double (dR (x * x + y * y))), (2, jv (((x * x + y * y) : Nat) : Int)), (0, iv (x : Int)), (1, iv (y : Int))]) X dX4_ofHypot_17 (by decide) rfl ?_
  refine r_dload 0 X dX4_ofHypot_19 rfl ?_
  refine r_lload_n 1 X dX4_ofHypot_21 rfl ?_
  refine r_callS_v X dX4_ofHypot_22 kX4_15 (c_X1_nearestRoot (CX_l X) D z0 h (x * x + y * y) hN) [.double (dR (x * x + y * y))] rfl rfl (Nat.le_of_ble_eq_true rfl) (by decide) rfl rfl (by decide) ?_
  refine r_dcmp X dX4_ofHypot_25 0 0 (dR_c hN) (fun v25 hv25 => ?_)
  refine r_if_ne 56 X dX4_ofHypot_26 (by decide) ⟨by omega, by omega⟩ (fun c25 => ?_) (fun c25 => ?_)
  · refine r_iconst X dX4_ofHypot_56 ?_
    refine r_zret X Y dX4_ofHypot_57 (Or.inl rfl) (by decide) (by decide) ?_
    exfalso
    omega
  · refine r_dload 0 X dX4_ofHypot_29 rfl ?_
    refine r_iload_n 3 X dX4_ofHypot_31 rfl ?_
    refine r_iload_n 2 X dX4_ofHypot_32 rfl ?_
    refine r_callS_v X dX4_ofHypot_33 kX4_23 (c_X1_nearestHypot (CX_l X) D z0 h y x hy hx) [.double (dR (x * x + y * y))] rfl rfl (Nat.le_of_ble_eq_true rfl) (by decide) rfl rfl (by decide) ?_
    refine WW_e (congrArg (fun z => Value.double z :: [.double (dR (x * x + y * y))]) (show dR (y * y + x * x) = dR (x * x + y * y) by rw [Nat.add_comm])) ?_
    show WW K D z0 6 h 0 0 36 [(4, .double (dR (x * x + y * y))), (2, jv (((x * x + y * y) : Nat) : Int)), (0, iv (x : Int)), (1, iv (y : Int))] [.double (dR (x * x + y * y)), .double (dR (x * x + y * y))]
    refine r_dcmp X dX4_ofHypot_36 0 0 (dR_c hN) (fun v36 hv36 => ?_)
    refine r_if_ne 56 X dX4_ofHypot_37 (by decide) ⟨by omega, by omega⟩ (fun c36 => ?_) (fun c36 => ?_)
    · refine r_iconst X dX4_ofHypot_56 ?_
      refine r_zret X Y dX4_ofHypot_57 (Or.inl rfl) (by decide) (by decide) ?_
      exfalso
      omega
    · refine r_dload 0 X dX4_ofHypot_40 rfl ?_
      refine r_callS_v X dX4_ofHypot_42 kX4_19 (c_isWhole_R (CX_l X) D z0 h (x * x + y * y) hN) [] rfl rfl (Nat.le_of_ble_eq_true rfl) (by decide) rfl rfl (by decide) ?_
      refine r_lload_n 1 X dX4_ofHypot_45 rfl ?_
      refine r_callS_v X dX4_ofHypot_46 kX4_27 (c_X1_isSquare (CX_l X) D z0 h (((x * x + y * y) : Nat) : Int) ⟨by omega, by omega⟩) [iv (if ((isq (x * x + y * y) : Nat) : Int) * ((isq (x * x + y * y) : Nat) : Int) = (((x * x + y * y) : Nat) : Int) then 1 else 0)] rfl rfl (Nat.le_of_ble_eq_true rfl) (by decide) rfl rfl (by decide) ?_
      refine r_icmp_ne 56 X dX4_ofHypot_49 (by decide) if_b if_b (fun c49 => ?_) (fun c49 => ?_)
      · refine r_iconst X dX4_ofHypot_56 ?_
        refine r_zret X Y dX4_ofHypot_57 (Or.inl rfl) (by decide) (by decide) ?_
        exact absurd rfl c49
      · refine r_iconst X dX4_ofHypot_52 ?_
        refine r_goto 57 X dX4_ofHypot_53 (by decide) ?_
        refine r_zret X Y dX4_ofHypot_57 (Or.inr rfl) (by decide) (by decide) ?_
        exact pv rfl
abbrev rX6_hypotIsTrue : Room := { frames := 6, cells := 1, slots := 6, locals := 90 }
def cdHt (a b : Int) : Int := if (0 ≤ a ∧ a ≤ 65535) ∧ 0 ≤ b ∧ b ≤ 65535 then 0 else 1
theorem c_X6_hypotIsTrue {l : Launch} (hl : l.stackTraces = false) (D : va_G) (z0 : Nat) (h : Hp) (x : Nat) (a b : Int) (ha : I32 a) (hb : I32 b) : CC l yX6_hypotIsTrue cX6_hypotIsTrue 3 (some .boolean) rX6_hypotIsTrue D z0 h [.ref x, iv a, iv b] (fun w0 h' => w0 = some (iv 1) ∧ h = h' ∧ cdHt a b = 0) (Xn [iae] (cdHt a b) h) := by
  refine CC_of RX6 hl (by decide) rfl (Nat.le_of_ble_eq_true rfl) (fun K X Y Z hmn hKl => ?_)
  subst hKl
  show WW K D z0 3 h 0 0 0 [(0, .ref x), (1, iv a), (2, iv b)] []
  refine r_iload_n 1 X dX6_hypotIsTrue_0 rfl ?_
  refine r_if_lt 22 X dX6_hypotIsTrue_1 (by decide) ⟨by omega, by omega⟩ (fun c1 => ?_) (fun c1 => ?_)
  · refine r_throwSW (E := "java/lang/IllegalArgumentException") (text := "one is out of range") X Y Z dX6_hypotIsTrue_22 dX6_hypotIsTrue_25 dX6_hypotIsTrue_26 dX6_hypotIsTrue_29 dX6_hypotIsTrue_32 (by decide) gX6_44 ini_IllegalArgumentException (by decide) hX6_48 (Nat.le_of_ble_eq_true rfl) (by decide) (by decide) (by decide) ?_
    exact Xn_mk 1 (if_neg (by omega)) (by decide) rfl
  · refine r_iload_n 1 X dX6_hypotIsTrue_4 rfl ?_
    refine r_ldcw 65535 X dX6_hypotIsTrue_5 nX6_261 (by decide) ?_
    refine r_icmp_gt 22 X dX6_hypotIsTrue_8 (by decide) ⟨by omega, by omega⟩ ⟨by omega, by omega⟩ (fun c8 => ?_) (fun c8 => ?_)
    · refine r_throwSW (E := "java/lang/IllegalArgumentException") (text := "one is out of range") X Y Z dX6_hypotIsTrue_22 dX6_hypotIsTrue_25 dX6_hypotIsTrue_26 dX6_hypotIsTrue_29 dX6_hypotIsTrue_32 (by decide) gX6_44 ini_IllegalArgumentException (by decide) hX6_48 (Nat.le_of_ble_eq_true rfl) (by decide) (by decide) (by decide) ?_
      exact Xn_mk 1 (if_neg (by omega)) (by decide) rfl
    · refine r_iload_n 2 X dX6_hypotIsTrue_11 rfl ?_
      refine r_if_lt 22 X dX6_hypotIsTrue_12 (by decide) ⟨by omega, by omega⟩ (fun c12 => ?_) (fun c12 => ?_)
      · refine r_throwSW (E := "java/lang/IllegalArgumentException") (text := "one is out of range") X Y Z dX6_hypotIsTrue_22 dX6_hypotIsTrue_25 dX6_hypotIsTrue_26 dX6_hypotIsTrue_29 dX6_hypotIsTrue_32 (by decide) gX6_44 ini_IllegalArgumentException (by decide) hX6_48 (Nat.le_of_ble_eq_true rfl) (by decide) (by decide) (by decide) ?_
        exact Xn_mk 1 (if_neg (by omega)) (by decide) rfl
      · refine r_iload_n 2 X dX6_hypotIsTrue_15 rfl ?_
        refine r_ldcw 65535 X dX6_hypotIsTrue_16 nX6_261 (by decide) ?_
        refine r_icmp_le 33 X dX6_hypotIsTrue_19 (by decide) ⟨by omega, by omega⟩ ⟨by omega, by omega⟩ (fun c19 => ?_) (fun c19 => ?_)
        · refine r_iload_n 1 X dX6_hypotIsTrue_33 rfl ?_
          refine r_iload_n 2 X dX6_hypotIsTrue_34 rfl ?_
          refine WW_e (show [iv b, iv a] = [iv (b.toNat : Int), iv (a.toNat : Int)] by rw [show (b.toNat : Int) = b by omega, show (a.toNat : Int) = a by omega]) ?_
          refine r_callS_v X dX6_hypotIsTrue_35 kX6_264 (c_X4_ofHypot (CX_l X) D z0 h a.toNat b.toNat (by omega) (by omega)) [] rfl rfl (Nat.le_of_ble_eq_true rfl) (by decide) rfl rfl (by decide) ?_
          refine r_zret X Y dX6_hypotIsTrue_38 (Or.inr rfl) (by decide) (by decide) ?_
          exact ⟨rfl, rfl, if_pos (by omega)⟩
        · refine r_throwSW (E := "java/lang/IllegalArgumentException") (text := "one is out of range") X Y Z dX6_hypotIsTrue_22 dX6_hypotIsTrue_25 dX6_hypotIsTrue_26 dX6_hypotIsTrue_29 dX6_hypotIsTrue_32 (by decide) gX6_44 ini_IllegalArgumentException (by decide) hX6_48 (Nat.le_of_ble_eq_true rfl) (by decide) (by decide) (by decide) ?_
          exact Xn_mk 1 (if_neg (by omega)) (by decide) rfl
abbrev rX4_ofSharpness : Room := { frames := 3, cells := 0, slots := 0, locals := 64 }
theorem c_X4_ofSharpness {l : Launch} (hl : l.stackTraces = false) (D : va_G) (z0 : Nat) (h : Hp) (q : Nat) (a b c : Int) (ht : h q = some (triE a b c)) (hv : TV a b c) : CC l yX4_ofSharpness cX4_ofSharpness 3 (some .boolean) rX4_ofSharpness D z0 h [.ref q] (PV (iv 1) h) NX := by
  refine CC_of RX4 hl (by decide) rfl (Nat.le_of_ble_eq_true rfl) (fun K X Y Z hmn hKl => ?_)
  subst hKl
  have hb := TV_b hv
  have hS := Sx_b hv
  have b1 := Nat.mul_le_mul (show a.toNat ≤ 65535 by omega) (show a.toNat ≤ 65535 by omega)
  have b2 := Nat.mul_le_mul (show b.toNat ≤ 65535 by omega) (show b.toNat ≤ 65535 by omega)
  obtain ⟨A9, B9, hAB, hlt9, heq9⟩ := dR_d (n := (a.toNat * a.toNat + b.toNat * b.toNat)) (c := c.toNat) (by omega) (by omega)
  have ea : ((a.toNat * a.toNat : Nat) : Int) = a * a := by rw [Int.natCast_mul, show (a.toNat : Int) = a by omega]
  have eb : ((b.toNat * b.toNat : Nat) : Int) = b * b := by rw [Int.natCast_mul, show (b.toNat : Int) = b by omega]
  have ec : ((c.toNat * c.toNat : Nat) : Int) = c * c := by rw [Int.natCast_mul, show (c.toNat : Int) = c by omega]
  have hsq := sq2 a b c
  have hcd := i2d_of (n := c.toNat) (by omega)
  rw [show ((c.toNat : Nat) : Int) = c by omega] at hcd
  have hlt8 : A9 < B9 ↔ sqb3 a b c 2 < 0 := by
    rw [hlt9]
    omega
  have heq8 : A9 = B9 ↔ sqb3 a b c 2 = 0 := by
    rw [heq9]
    omega
  clear hlt9 heq9
  show WW K D z0 3 h 0 0 0 [(0, .ref q)] []
  refine r_aload_n 0 X dX4_ofSharpness_0 rfl ?_
  refine r_getf X dX4_ofSharpness_1 fX4_31 ht rfl ?_
  refine r_aload_n 0 X dX4_ofSharpness_4 rfl ?_
  refine r_getf X dX4_ofSharpness_5 fX4_37 ht rfl ?_
  refine WW_e (show [iv b, iv a] = [iv (b.toNat : Int), iv (a.toNat : Int)] by rw [show (b.toNat : Int) = b by omega, show (a.toNat : Int) = a by omega]) ?_
  refine r_callS_v X dX4_ofSharpness_8 kX4_23 (c_X1_nearestHypot (CX_l X) D z0 h a.toNat b.toNat (by omega) (by omega)) [] rfl rfl (Nat.le_of_ble_eq_true rfl) (by decide) rfl rfl (by decide) ?_
  refine r_dstore_n (L' := [(1, .double (dR (a.toNat * a.toNat + b.toNat * b.toNat))), (0, .ref q)]) X dX4_ofSharpness_11 (by decide) rfl ?_
  refine r_dload_n 0 X dX4_ofSharpness_12 rfl ?_
  refine r_aload_n 1 X dX4_ofSharpness_13 rfl ?_
  refine r_getf X dX4_ofSharpness_14 fX4_46 ht rfl ?_
  refine r_i2d X dX4_ofSharpness_17 ?_
  refine WW_e (congrArg (fun z => Value.double z :: [.double (dR (a.toNat * a.toNat + b.toNat * b.toNat))]) (show FP.i2d (Int32.ofInt c) = dI c.toNat 0 from hcd)) ?_
  show WW K D z0 3 h 0 0 18 [(1, .double (dR (a.toNat * a.toNat + b.toNat * b.toNat))), (0, .ref q)] [.double (dI c.toNat 0), .double (dR (a.toNat * a.toNat + b.toNat * b.toNat))]
  refine r_dcmp X dX4_ofSharpness_18 A9 B9 hAB (fun v18 hv18 => ?_)
  refine r_if_ge 36 X dX4_ofSharpness_19 (by decide) ⟨by omega, by omega⟩ (fun c18 => ?_) (fun c18 => ?_)
  · refine r_dload_n 0 X dX4_ofSharpness_36 rfl ?_
    refine r_aload_n 1 X dX4_ofSharpness_37 rfl ?_
    refine r_getf X dX4_ofSharpness_38 fX4_46 ht rfl ?_
    refine r_i2d X dX4_ofSharpness_41 ?_
    refine WW_e (congrArg (fun z => Value.double z :: [.double (dR (a.toNat * a.toNat + b.toNat * b.toNat))]) (show FP.i2d (Int32.ofInt c) = dI c.toNat 0 from hcd)) ?_
    show WW K D z0 3 h 0 0 42 [(1, .double (dR (a.toNat * a.toNat + b.toNat * b.toNat))), (0, .ref q)] [.double (dI c.toNat 0), .double (dR (a.toNat * a.toNat + b.toNat * b.toNat))]
    refine r_dcmp X dX4_ofSharpness_42 A9 B9 hAB (fun v42 hv42 => ?_)
    refine r_if_le 62 X dX4_ofSharpness_43 (by decide) ⟨by omega, by omega⟩ (fun c42 => ?_) (fun c42 => ?_)
    · refine r_aload_n 1 X dX4_ofSharpness_62 rfl ?_
      refine r_callV_v X dX4_ofSharpness_63 kX4_56 ht (c_X5_sharpness (CX_l X) D z0 h q a b c ht hv) [] rfl rfl (Nat.le_of_ble_eq_true rfl) (by decide) rfl rfl (by decide) ?_
      refine r_if_ne 73 X dX4_ofSharpness_66 (by decide) ⟨by unfold cmpv; split <;> (try split) <;> omega, by unfold cmpv; split <;> (try split) <;> omega⟩ (fun c66 => ?_) (fun c66 => ?_)
      · refine r_iconst X dX4_ofSharpness_73 ?_
        refine r_zret X Y dX4_ofSharpness_74 (Or.inl rfl) (by decide) (by decide) ?_
        exfalso
        (unfold cmpv at *; (repeat' split at *) <;> omega)
      · refine r_iconst X dX4_ofSharpness_69 ?_
        refine r_goto 74 X dX4_ofSharpness_70 (by decide) ?_
        refine r_zret X Y dX4_ofSharpness_74 (Or.inr rfl) (by decide) (by decide) ?_
        exact pv rfl
    · refine r_aload_n 1 X dX4_ofSharpness_46 rfl ?_
      refine r_callV_v X dX4_ofSharpness_47 kX4_56 ht (c_X5_sharpness (CX_l X) D z0 h q a b c ht hv) [] rfl rfl (Nat.le_of_ble_eq_true rfl) (by decide) rfl rfl (by decide) ?_
      refine r_iconst X dX4_ofSharpness_50 ?_
      refine r_icmp_ne 58 X dX4_ofSharpness_51 (by decide) ⟨by unfold cmpv; split <;> (try split) <;> omega, by unfold cmpv; split <;> (try split) <;> omega⟩ ⟨by omega, by omega⟩ (fun c51 => ?_) (fun c51 => ?_)
      · refine r_iconst X dX4_ofSharpness_58 ?_
        refine r_goto 74 X dX4_ofSharpness_59 (by decide) ?_
        refine r_zret X Y dX4_ofSharpness_74 (Or.inl rfl) (by decide) (by decide) ?_
        exfalso
        (unfold cmpv at *; (repeat' split at *) <;> omega)
      · refine r_iconst X dX4_ofSharpness_54 ?_
        refine r_goto 74 X dX4_ofSharpness_55 (by decide) ?_
        refine r_zret X Y dX4_ofSharpness_74 (Or.inr rfl) (by decide) (by decide) ?_
        exact pv rfl
  · refine r_aload_n 1 X dX4_ofSharpness_22 rfl ?_
    refine r_callV_v X dX4_ofSharpness_23 kX4_56 ht (c_X5_sharpness (CX_l X) D z0 h q a b c ht hv) [] rfl rfl (Nat.le_of_ble_eq_true rfl) (by decide) rfl rfl (by decide) ?_
    refine r_iconst X dX4_ofSharpness_26 ?_
    refine r_icmp_ne 34 X dX4_ofSharpness_27 (by decide) ⟨by unfold cmpv; split <;> (try split) <;> omega, by unfold cmpv; split <;> (try split) <;> omega⟩ ⟨by omega, by omega⟩ (fun c27 => ?_) (fun c27 => ?_)
    · refine r_iconst X dX4_ofSharpness_34 ?_
      refine r_zret X Y dX4_ofSharpness_35 (Or.inl rfl) (by decide) (by decide) ?_
      exfalso
      (unfold cmpv at *; (repeat' split at *) <;> omega)
    · refine r_iconst X dX4_ofSharpness_30 ?_
      refine r_goto 35 X dX4_ofSharpness_31 (by decide) ?_
      refine r_zret X Y dX4_ofSharpness_35 (Or.inr rfl) (by decide) (by decide) ?_
      exact pv rfl
