/-! countIsTrue -/
abbrev rX4_ofCounts : Room := { frames := 2, cells := 0, slots := 0, locals := 46 }
theorem c_X4_ofCounts {l : Launch} (hl : l.stackTraces = false) (D : va_G) (z0 : Nat) (h : Hp) (n : Nat) (hn1 : 1 ≤ n) (hn : n ≤ 1000) : CC l yX4_ofCounts cX4_ofCounts 3 (some .boolean) rX4_ofCounts D z0 h [iv (n : Int)] (PV (iv 1) h) NX := by
  refine CC_of RX4 hl (by decide) rfl (Nat.le_of_ble_eq_true rfl) (fun K X Y Z hmn hKl => ?_)
  subst hKl
  have hh : 1 ≤ hlf n ∧ hlf n ≤ n := by
    unfold hlf
    split <;> omega
  have hk := cnt_ok hn1 hn
  obtain ⟨A, hA⟩ : ∃ A, A = pov n 1 (n - 1) 2 1 n := ⟨_, rfl⟩
  obtain ⟨B, hB⟩ : ∃ B, B = pov (hlf n) 0 (hlf n - 1) 2 1 (hlf n) := ⟨_, rfl⟩
  obtain ⟨C, hC⟩ : ∃ C, C = aL n n 1 (n - 1) := ⟨_, rfl⟩
  obtain ⟨E, hE⟩ : ∃ E, E = lgN n (n - 1) := ⟨_, rfl⟩
  rw [← hA, ← hB, ← hC, ← hE] at hk
  have hcA := c_X0_productOverPrimes (CX_l X) D z0 h n 1 hn1 hn (by omega)
  have hcB := c_X0_productOverPrimes (CX_l X) D z0 h (hlf n) 0 hh.1 (by omega) (by omega)
  have hcC := c_X0_asLongest (CX_l X) D z0 h n hn1 hn
  have hcE := c_X0_asLeg (CX_l X) D z0 h n hn1 hn
  rw [← hA] at hcA
  rw [← hB] at hcB
  rw [← hC] at hcC
  rw [← hE] at hcE
  show WW K D z0 3 h 0 0 0 [(0, iv (n : Int))] []
  refine r_iload_n 0 X dX4_ofCounts_0 rfl ?_
  refine r_iconst X dX4_ofCounts_1 ?_
  refine r_callS_v X dX4_ofCounts_2 kX4_70 hcA [] rfl rfl (Nat.le_of_ble_eq_true rfl) (by decide) rfl rfl (by decide) ?_
  refine r_istore_n (L' := [(1, iv (A : Int)), (0, iv (n : Int))]) X dX4_ofCounts_5 (by decide) rfl ?_
  refine r_iload_n 1 X dX4_ofCounts_6 rfl ?_
  refine r_iconst X dX4_ofCounts_7 ?_
  refine r_irem X dX4_ofCounts_8 ⟨by omega, by omega⟩ ⟨by omega, by omega⟩ ?_
  refine r_if_ne 18 X dX4_ofCounts_9 (by decide) ⟨by omega, by omega⟩ (fun c9 => ?_) (fun c9 => ?_)
  · refine r_iload_n 1 X dX4_ofCounts_18 rfl ?_
    have hz : (n : Int) = (hlf n : Int) := by
      unfold hlf
      first | (rw [if_pos (by omega)]; omega) | (rw [if_neg (by omega)])
    refine WW_e (congrArg (fun z => iv z :: []) hz) ?_
    show WW K D z0 3 h 0 0 19 [(1, iv (A : Int)), (0, iv (n : Int))] [iv (hlf n : Int)]
    refine r_iconst X dX4_ofCounts_19 ?_
    refine r_callS_v X dX4_ofCounts_20 kX4_70 hcB [] rfl rfl (Nat.le_of_ble_eq_true rfl) (by decide) rfl rfl (by decide) ?_
    refine r_istore_n (L' := [(2, iv (B : Int)), (1, iv (A : Int)), (0, iv (n : Int))]) X dX4_ofCounts_23 (by decide) rfl ?_
    refine r_iload_n 2 X dX4_ofCounts_24 rfl ?_
    refine r_callS_v X dX4_ofCounts_25 kX4_76 hcC [] rfl rfl (Nat.le_of_ble_eq_true rfl) (by decide) rfl rfl (by decide) ?_
    refine r_iload_n 1 X dX4_ofCounts_28 rfl ?_
    refine r_iconst X dX4_ofCounts_29 ?_
    refine r_isub X dX4_ofCounts_30 ?_
    refine r_iconst X dX4_ofCounts_31 ?_
    refine r_idiv X dX4_ofCounts_32 ⟨by omega, by omega⟩ ⟨by omega, by omega⟩ ?_
    refine r_icmp_ne 52 X dX4_ofCounts_33 (by decide) ⟨by omega, by omega⟩ ⟨by omega, by omega⟩ (fun c33 => ?_) (fun c33 => ?_)
    · refine r_iconst X dX4_ofCounts_52 ?_
      refine r_zret X Y dX4_ofCounts_53 (Or.inl rfl) (by decide) (by decide) ?_
      exfalso
      omega
    · refine r_iload_n 2 X dX4_ofCounts_36 rfl ?_
      refine r_callS_v X dX4_ofCounts_37 kX4_80 hcE [] rfl rfl (Nat.le_of_ble_eq_true rfl) (by decide) rfl rfl (by decide) ?_
      refine r_iload_n 0 X dX4_ofCounts_40 rfl ?_
      refine r_iconst X dX4_ofCounts_41 ?_
      refine r_isub X dX4_ofCounts_42 ?_
      refine r_iconst X dX4_ofCounts_43 ?_
      refine r_idiv X dX4_ofCounts_44 ⟨by omega, by omega⟩ ⟨by omega, by omega⟩ ?_
      refine r_icmp_ne 52 X dX4_ofCounts_45 (by decide) ⟨by omega, by omega⟩ ⟨by omega, by omega⟩ (fun c45 => ?_) (fun c45 => ?_)
      · refine r_iconst X dX4_ofCounts_52 ?_
        refine r_zret X Y dX4_ofCounts_53 (Or.inl rfl) (by decide) (by decide) ?_
        exfalso
        omega
      · refine r_iconst X dX4_ofCounts_48 ?_
        refine r_goto 53 X dX4_ofCounts_49 (by decide) ?_
        refine r_zret X Y dX4_ofCounts_53 (Or.inr rfl) (by decide) (by decide) ?_
        exact pv rfl
  · refine r_iload_n 1 X dX4_ofCounts_12 rfl ?_
    refine r_iconst X dX4_ofCounts_13 ?_
    refine r_idiv X dX4_ofCounts_14 ⟨by omega, by omega⟩ ⟨by omega, by omega⟩ ?_
    refine r_goto 19 X dX4_ofCounts_15 (by decide) ?_
    have hz : (n : Int) / 2 = (hlf n : Int) := by
      unfold hlf
      first | (rw [if_pos (by omega)]; omega) | (rw [if_neg (by omega)])
    refine WW_e (congrArg (fun z => iv z :: []) hz) ?_
    show WW K D z0 3 h 0 0 19 [(1, iv (A : Int)), (0, iv (n : Int))] [iv (hlf n : Int)]
    refine r_iconst X dX4_ofCounts_19 ?_
    refine r_callS_v X dX4_ofCounts_20 kX4_70 hcB [] rfl rfl (Nat.le_of_ble_eq_true rfl) (by decide) rfl rfl (by decide) ?_
    refine r_istore_n (L' := [(2, iv (B : Int)), (1, iv (A : Int)), (0, iv (n : Int))]) X dX4_ofCounts_23 (by decide) rfl ?_
    refine r_iload_n 2 X dX4_ofCounts_24 rfl ?_
    refine r_callS_v X dX4_ofCounts_25 kX4_76 hcC [] rfl rfl (Nat.le_of_ble_eq_true rfl) (by decide) rfl rfl (by decide) ?_
    refine r_iload_n 1 X dX4_ofCounts_28 rfl ?_
    refine r_iconst X dX4_ofCounts_29 ?_
    refine r_isub X dX4_ofCounts_30 ?_
    refine r_iconst X dX4_ofCounts_31 ?_
    refine r_idiv X dX4_ofCounts_32 ⟨by omega, by omega⟩ ⟨by omega, by omega⟩ ?_
    refine r_icmp_ne 52 X dX4_ofCounts_33 (by decide) ⟨by omega, by omega⟩ ⟨by omega, by omega⟩ (fun c33 => ?_) (fun c33 => ?_)
    · refine r_iconst X dX4_ofCounts_52 ?_
      refine r_zret X Y dX4_ofCounts_53 (Or.inl rfl) (by decide) (by decide) ?_
      exfalso
      omega
    · refine r_iload_n 2 X dX4_ofCounts_36 rfl ?_
      refine r_callS_v X dX4_ofCounts_37 kX4_80 hcE [] rfl rfl (Nat.le_of_ble_eq_true rfl) (by decide) rfl rfl (by decide) ?_
      refine r_iload_n 0 X dX4_ofCounts_40 rfl ?_
      refine r_iconst X dX4_ofCounts_41 ?_
      refine r_isub X dX4_ofCounts_42 ?_
      refine r_iconst X dX4_ofCounts_43 ?_
      refine r_idiv X dX4_ofCounts_44 ⟨by omega, by omega⟩ ⟨by omega, by omega⟩ ?_
      refine r_icmp_ne 52 X dX4_ofCounts_45 (by decide) ⟨by omega, by omega⟩ ⟨by omega, by omega⟩ (fun c45 => ?_) (fun c45 => ?_)
      · refine r_iconst X dX4_ofCounts_52 ?_
        refine r_zret X Y dX4_ofCounts_53 (Or.inl rfl) (by decide) (by decide) ?_
        exfalso
        omega
      · refine r_iconst X dX4_ofCounts_48 ?_
        refine r_goto 53 X dX4_ofCounts_49 (by decide) ?_
        refine r_zret X Y dX4_ofCounts_53 (Or.inr rfl) (by decide) (by decide) ?_
        exact pv rfl
abbrev rX6_countIsTrue : Room := { frames := 7, cells := 1, slots := 6, locals := 110 }
def cdCt (p : Int) : Int := if 1 ≤ p ∧ p ≤ 1000 then 0 else 1
theorem c_X6_countIsTrue {l : Launch} (hl : l.stackTraces = false) (D : va_G) (z0 : Nat) (h : Hp) (x : Nat) (p : Int) (hp0 : I32 p) : CC l yX6_countIsTrue cX6_countIsTrue 2 (some .boolean) rX6_countIsTrue D z0 h [.ref x, iv p] (fun w0 h' => w0 = some (iv 1) ∧ h = h' ∧ cdCt p = 0) (Xn [iae] (cdCt p) h) := by
  refine CC_of RX6 hl (by decide) rfl (Nat.le_of_ble_eq_true rfl) (fun K X Y Z hmn hKl => ?_)
  subst hKl
  show WW K D z0 2 h 0 0 0 [(0, .ref x), (1, iv p)] []
  refine r_iload_n 1 X dX6_countIsTrue_0 rfl ?_
  refine r_callS X dX6_countIsTrue_1 kX6_227 (c_X6_requireLength (CX_l X) D z0 h p ⟨by omega, by omega⟩) [] rfl rfl (Nat.le_of_ble_eq_true rfl) (by decide) (by decide) (fun E9 h9 hx9 => by obtain ⟨rfl, rfl, hn1⟩ := Xn1 hx9; exact WX_out X Y Z (by decide) (by decide) (Xn_mk 1 (if_neg (by omega)) (by decide) rfl)) (fun v9 h9 hv9 => ?_)
  obtain ⟨rfl, rfl, hp1⟩ := hv9
  show WW K D z0 2 h 1 6 4 [(0, .ref x), (1, iv p)] []
  refine r_iload_n 1 X dX6_countIsTrue_4 rfl ?_
  refine WW_e (congrArg (fun z => iv z :: []) (show p = (p.toNat : Int) by omega)) ?_
  show WW K D z0 2 h 1 6 5 [(0, .ref x), (1, iv p)] [iv (p.toNat : Int)]
  refine r_callS_v X dX6_countIsTrue_5 kX6_276 (c_X4_ofCounts (CX_l X) D z0 h p.toNat (by omega) (by omega)) [] rfl rfl (Nat.le_of_ble_eq_true rfl) (by decide) rfl rfl (by decide) ?_
  refine r_zret X Y dX6_countIsTrue_8 (Or.inr rfl) (by decide) (by decide) ?_
  exact ⟨rfl, rfl, if_pos (by omega)⟩
