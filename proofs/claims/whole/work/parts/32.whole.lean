/-! isWhole -/
abbrev rX1_isWhole : Room := { frames := 0, cells := 0, slots := 0, locals := 0 }
theorem c_X1_isWhole {l : Launch} (hl : l.stackTraces = false) (D : va_G) (z0 : Nat) (h : Hp) (n k : Nat) (hn : n ≤ 9007199254740992) (hk : k ≤ 900) : CC l yX1_isWhole cX1_isWhole 2 (some .boolean) rX1_isWhole D z0 h [.double (dI n (-(k : Int)))] (PV (iv (if n % 2 ^ k = 0 then 1 else 0)) h) NX := by
  refine CC_of RX1 hl (by decide) rfl (Nat.le_of_ble_eq_true rfl) (fun K X Y Z hmn hKl => ?_)
  subst hKl
  have hle : n / 2 ^ k ≤ n := Nat.div_le_self _ _
  have hdm := Nat.div_add_mod n (2 ^ k)
  rw [Nat.mul_comm] at hdm
  show WW K D z0 2 h 0 0 0 [(0, .double (dI n (-(k : Int))))] []
  refine r_dload_n 0 X dX1_isWhole_0 rfl ?_
  refine r_dload_n 0 X dX1_isWhole_1 rfl ?_
  refine r_d2l ((n / 2 ^ k : Nat) : Int) X dX1_isWhole_2 (d2l_of hn hk) ?_
  refine r_l2d X dX1_isWhole_3 ?_
  refine WW_e (congrArg (fun z => Value.double z :: [.double (dI n (-(k : Int)))]) (show FP.l2d (Int64.ofInt ((n / 2 ^ k : Nat) : Int)) = dI (n / 2 ^ k) (-((0 : Nat) : Int)) from l2d_of (by omega))) ?_
  show WW K D z0 2 h 0 0 4 [(0, .double (dI n (-(k : Int))))] [.double (dI (n / 2 ^ k) (-((0 : Nat) : Int))), .double (dI n (-(k : Int)))]
  refine r_dcmp X dX1_isWhole_4 ((n * 2 ^ 0 : Nat) : Int) ((n / 2 ^ k * 2 ^ k : Nat) : Int) (dcmp_of hn (by omega) hk (by omega)) (fun v4 hv4 => ?_)
  refine r_if_ne 12 X dX1_isWhole_5 (by decide) ⟨by omega, by omega⟩ (fun c4 => ?_) (fun c4 => ?_)
  · refine r_iconst X dX1_isWhole_12 ?_
    refine r_zret X Y dX1_isWhole_13 (Or.inl rfl) (by decide) (by decide) ?_
    exact pv_f (by rw [Nat.pow_zero, Nat.mul_one] at hv4; omega)
  · refine r_iconst X dX1_isWhole_8 ?_
    refine r_goto 13 X dX1_isWhole_9 (by decide) ?_
    refine r_zret X Y dX1_isWhole_13 (Or.inr rfl) (by decide) (by decide) ?_
    exact pv_t (by rw [Nat.pow_zero, Nat.mul_one] at hv4; omega)
