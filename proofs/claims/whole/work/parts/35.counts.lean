/-! counts -/
def cdCn (w p : Int) : Int := if (w = 99 ∨ w = 108) ∧ 1 ≤ p ∧ p ≤ 1000 then 0 else 1
def vCn (w p : Int) : Int := if w = 99 then (aL p.toNat p.toNat 1 (p.toNat - 1) : Int) else (lgN p.toNat (p.toNat - 1) : Int)
abbrev rX6_counts : Room := { frames := 7, cells := 2, slots := 12, locals := 110 }
theorem c_X6_counts {l : Launch} (hl : l.stackTraces = false) (D : va_G) (z0 : Nat) (h : Hp) (x : Nat) (w p : Int) (hw : 0 ≤ w ∧ w ≤ 65535) (hp0 : I32 p) : CC l yX6_counts cX6_counts 3 (some .int) rX6_counts D z0 h [.ref x, iv w, iv p] (fun w0 h' => w0 = some (iv (vCn w p)) ∧ h = h' ∧ cdCn w p = 0) (Xn [iae] (cdCn w p) h) := by
  refine CC_of RX6 hl (by decide) rfl (Nat.le_of_ble_eq_true rfl) (fun K X Y Z hmn hKl => ?_)
  subst hKl
  show WW K D z0 3 h 0 0 0 [(0, .ref x), (1, iv w), (2, iv p)] []
  refine r_iload_n 1 X dX6_counts_0 rfl ?_
  refine r_bipush X dX6_counts_1 (by decide) ?_
  refine r_icmp_eq 22 X dX6_counts_3 (by decide) ⟨by omega, by omega⟩ ⟨by omega, by omega⟩ (fun c3 => ?_) (fun c3 => ?_)
  · refine r_iload_n 2 X dX6_counts_22 rfl ?_
    refine r_callS X dX6_counts_23 kX6_227 (c_X6_requireLength (CX_l X) D z0 h p ⟨by omega, by omega⟩) [] rfl rfl (Nat.le_of_ble_eq_true rfl) (by decide) (by decide) (fun E9 h9 hx9 => by obtain ⟨rfl, rfl, hn23⟩ := Xn1 hx9; exact WX_out X Y Z (by decide) (by decide) (Xn_mk 1 (if_neg (by omega)) (by decide) rfl)) (fun v9 h9 hv9 => ?_)
    obtain ⟨rfl, rfl, hp23⟩ := hv9
    show WW K D z0 3 h 1 6 26 [(0, .ref x), (1, iv w), (2, iv p)] []
    refine r_iload_n 1 X dX6_counts_26 rfl ?_
    refine r_bipush X dX6_counts_27 (by decide) ?_
    refine r_icmp_ne 39 X dX6_counts_29 (by decide) ⟨by omega, by omega⟩ ⟨by omega, by omega⟩ (fun c29 => ?_) (fun c29 => ?_)
    · refine r_iload_n 2 X dX6_counts_39 rfl ?_
      refine WW_e (congrArg (fun z => iv z :: []) (show p = (p.toNat : Int) by omega)) ?_
      show WW K D z0 3 h 1 6 40 [(0, .ref x), (1, iv w), (2, iv p)] [iv (p.toNat : Int)]
      refine r_callS_v X dX6_counts_40 kX6_235 (c_X0_asLeg (CX_l X) D z0 h p.toNat (by omega) (by omega)) [] rfl rfl (Nat.le_of_ble_eq_true rfl) (by decide) rfl rfl (by decide) ?_
      refine r_iret X Y dX6_counts_43 (by decide) (by decide) ?_
      exact ⟨congrArg (fun z => some (iv z)) (show _ = vCn w p from (if_neg (by omega)).symm), rfl, if_pos (by omega)⟩
    · refine r_iload_n 2 X dX6_counts_32 rfl ?_
      refine WW_e (congrArg (fun z => iv z :: []) (show p = (p.toNat : Int) by omega)) ?_
      show WW K D z0 3 h 1 6 33 [(0, .ref x), (1, iv w), (2, iv p)] [iv (p.toNat : Int)]
      refine r_callS_v X dX6_counts_33 kX6_230 (c_X0_asLongest (CX_l X) D z0 h p.toNat (by omega) (by omega)) [] rfl rfl (Nat.le_of_ble_eq_true rfl) (by decide) rfl rfl (by decide) ?_
      refine r_goto 43 X dX6_counts_36 (by decide) ?_
      refine r_iret X Y dX6_counts_43 (by decide) (by decide) ?_
      exact ⟨congrArg (fun z => some (iv z)) (show _ = vCn w p from (if_pos (by omega)).symm), rfl, if_pos (by omega)⟩
  · refine r_iload_n 1 X dX6_counts_6 rfl ?_
    refine r_bipush X dX6_counts_7 (by decide) ?_
    refine r_icmp_eq 22 X dX6_counts_9 (by decide) ⟨by omega, by omega⟩ ⟨by omega, by omega⟩ (fun c9 => ?_) (fun c9 => ?_)
    · refine r_iload_n 2 X dX6_counts_22 rfl ?_
      refine r_callS X dX6_counts_23 kX6_227 (c_X6_requireLength (CX_l X) D z0 h p ⟨by omega, by omega⟩) [] rfl rfl (Nat.le_of_ble_eq_true rfl) (by decide) (by decide) (fun E9 h9 hx9 => by obtain ⟨rfl, rfl, hn23⟩ := Xn1 hx9; exact WX_out X Y Z (by decide) (by decide) (Xn_mk 1 (if_neg (by omega)) (by decide) rfl)) (fun v9 h9 hv9 => ?_)
      obtain ⟨rfl, rfl, hp23⟩ := hv9
      show WW K D z0 3 h 1 6 26 [(0, .ref x), (1, iv w), (2, iv p)] []
      refine r_iload_n 1 X dX6_counts_26 rfl ?_
      refine r_bipush X dX6_counts_27 (by decide) ?_
      refine r_icmp_ne 39 X dX6_counts_29 (by decide) ⟨by omega, by omega⟩ ⟨by omega, by omega⟩ (fun c29 => ?_) (fun c29 => ?_)
      · refine r_iload_n 2 X dX6_counts_39 rfl ?_
        refine WW_e (congrArg (fun z => iv z :: []) (show p = (p.toNat : Int) by omega)) ?_
        show WW K D z0 3 h 1 6 40 [(0, .ref x), (1, iv w), (2, iv p)] [iv (p.toNat : Int)]
        refine r_callS_v X dX6_counts_40 kX6_235 (c_X0_asLeg (CX_l X) D z0 h p.toNat (by omega) (by omega)) [] rfl rfl (Nat.le_of_ble_eq_true rfl) (by decide) rfl rfl (by decide) ?_
        refine r_iret X Y dX6_counts_43 (by decide) (by decide) ?_
        exact ⟨congrArg (fun z => some (iv z)) (show _ = vCn w p from (if_neg (by omega)).symm), rfl, if_pos (by omega)⟩
      · refine r_iload_n 2 X dX6_counts_32 rfl ?_
        refine WW_e (congrArg (fun z => iv z :: []) (show p = (p.toNat : Int) by omega)) ?_
        show WW K D z0 3 h 1 6 33 [(0, .ref x), (1, iv w), (2, iv p)] [iv (p.toNat : Int)]
        refine r_callS_v X dX6_counts_33 kX6_230 (c_X0_asLongest (CX_l X) D z0 h p.toNat (by omega) (by omega)) [] rfl rfl (Nat.le_of_ble_eq_true rfl) (by decide) rfl rfl (by decide) ?_
        refine r_goto 43 X dX6_counts_36 (by decide) ?_
        refine r_iret X Y dX6_counts_43 (by decide) (by decide) ?_
        exact ⟨congrArg (fun z => some (iv z)) (show _ = vCn w p from (if_pos (by omega)).symm), rfl, if_pos (by omega)⟩
    · refine r_throwS (E := "java/lang/IllegalArgumentException") (text := "there is no such how") X Y Z dX6_counts_12 dX6_counts_15 dX6_counts_16 dX6_counts_18 dX6_counts_21 (by decide) gX6_44 ini_IllegalArgumentException (by decide) hX6_48 (Nat.le_of_ble_eq_true rfl) (by decide) (by decide) (by decide) ?_
      exact Xn_mk 1 (if_neg (by omega)) (by decide) rfl
