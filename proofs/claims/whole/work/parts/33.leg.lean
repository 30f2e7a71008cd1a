/-! Counting: as a leg -/
def lgN (n : Nat) : Nat → Nat
  | 0 => 0
  | i + 1 => lgN n i + (if n * n % (i + 1) = 0 ∧ (n * n / (i + 1) - (i + 1)) % 2 = 0 then 1 else 0)
theorem lgN_s (n i : Nat) : lgN n (i + 1) = lgN n i + (if n * n % (i + 1) = 0 ∧ (n * n / (i + 1) - (i + 1)) % 2 = 0 then 1 else 0) := rfl
theorem lgN_b (n : Nat) : ∀ i : Nat, lgN n i ≤ i
  | 0 => Nat.le_refl _
  | i + 1 => by
    have := lgN_b n i
    rw [lgN_s]
    split <;> omega
theorem wq_nat (a d : Nat) (h : 0 < d) : wq (a : Int) (d : Int) = ((if a % d = 0 then a / d else 0 : Nat) : Int) := by
  unfold wq
  by_cases z : a % d = 0
  · rw [if_pos z, if_pos ⟨by omega, by exact_mod_cast z⟩]
    rfl
  · rw [if_neg z, if_neg (fun y => z (by exact_mod_cast y.2))]
    rfl
abbrev rX0_asLeg : Room := { frames := 1, cells := 0, slots := 0, locals := 23 }
theorem c_X0_asLeg {l : Launch} (hl : l.stackTraces = false) (D : va_G) (z0 : Nat) (h : Hp) (n : Nat) (hn1 : 1 ≤ n) (hn : n ≤ 1000) : CC l yX0_asLeg cX0_asLeg 4 (some .int) rX0_asLeg D z0 h [iv (n : Int)] (PV (iv (lgN n (n - 1) : Int)) h) NX := by
  refine CC_of RX0 hl (by decide) rfl (Nat.le_of_ble_eq_true rfl) (fun K X Y Z hmn hKl => ?_)
  subst hKl
  show WW K D z0 4 h 0 0 0 [(0, iv (n : Int))] []
  have loop : ∀ (q i : Nat), i + q + 1 = n → WW K D z0 4 h 0 0 4 [(2, iv ((i + 1 : Nat) : Int)), (1, iv (lgN n i : Int)), (0, iv (n : Int))] [] := by
    intro q
    induction q with
    | zero =>
      intro i hi
      have hlb := lgN_b n i
      refine r_iload_n 0 X dX0_asLeg_4 rfl ?_
      refine r_iload_n 2 X dX0_asLeg_5 rfl ?_
      refine r_icmp_ge 41 X dX0_asLeg_6 (by decide) ⟨by omega, by omega⟩ ⟨by omega, by omega⟩ (fun c6 => ?_) (fun c6 => ?_)
      · refine r_iload_n 1 X dX0_asLeg_41 rfl ?_
        refine r_iret X Y dX0_asLeg_42 (by decide) (by decide) ?_
        exact pv_i (by rw [show i = n - 1 by omega])
      · exfalso
        omega
    | succ q ih =>
      intro i hi
      have hnn := Nat.mul_le_mul hn hn
      have hlb := lgN_b n i
      have hdv : n ≤ n * n / (i + 1) := (Nat.le_div_iff_mul_le (by omega)).mpr (Nat.mul_le_mul_left n (by omega))
      have hdl : n * n / (i + 1) ≤ n * n := Nat.div_le_self _ _
      obtain ⟨Q, hQ⟩ : ∃ Q, Q = (if n * n % (i + 1) = 0 then n * n / (i + 1) else 0) := ⟨_, rfl⟩
      have hQ2 : Q = 0 ∨ (n ≤ Q ∧ Q ≤ n * n) := by rw [hQ]; split <;> omega
      refine r_iload_n 0 X dX0_asLeg_4 rfl ?_
      refine r_iload_n 2 X dX0_asLeg_5 rfl ?_
      refine r_icmp_ge 41 X dX0_asLeg_6 (by decide) ⟨by omega, by omega⟩ ⟨by omega, by omega⟩ (fun c6 => ?_) (fun c6 => ?_)
      · exfalso
        omega
      · refine r_iload_n 2 X dX0_asLeg_9 rfl ?_
        refine r_iload_n 2 X dX0_asLeg_10 rfl ?_
        refine r_imul X dX0_asLeg_11 ?_
        refine r_i2l X dX0_asLeg_12 ⟨by omega, by omega⟩ ?_
        refine r_iload_n 0 X dX0_asLeg_13 rfl ?_
        refine r_i2l X dX0_asLeg_14 ⟨by omega, by omega⟩ ?_
        refine r_callS_v X dX0_asLeg_15 kX0_7 (c_X1_wholeQuotient (CX_l X) D z0 h ((n : Int) * (n : Int)) ((i + 1 : Nat) : Int) ⟨by omega, by omega⟩ ⟨by omega, by omega⟩) [] rfl rfl (Nat.le_of_ble_eq_true rfl) (by decide) rfl rfl (by decide) ?_
        refine WW_e (congrArg (fun z => jv z :: []) (show wq ((n : Int) * (n : Int)) ((i + 1 : Nat) : Int) = (Q : Int) by rw [show (n : Int) * (n : Int) = ((n * n : Nat) : Int) from rfl, wq_nat _ _ (by omega), hQ])) ?_
        show WW K D z0 4 h 0 0 18 [(2, iv ((i + 1 : Nat) : Int)), (1, iv (lgN n i : Int)), (0, iv (n : Int))] [jv (Q : Int)]
        refine r_l2i X dX0_asLeg_18 ?_
        refine r_istore_n (L' := [(3, iv (Q : Int)), (2, iv ((i + 1 : Nat) : Int)), (1, iv (lgN n i : Int)), (0, iv (n : Int))]) X dX0_asLeg_19 (by decide) rfl ?_
        refine r_iload_n 0 X dX0_asLeg_20 rfl ?_
        refine r_if_le 35 X dX0_asLeg_21 (by decide) ⟨by omega, by omega⟩ (fun c21 => ?_) (fun c21 => ?_)
        · refine r_iinc 1 (L' := [(2, iv (((i + 1 : Nat) : Int) + 1)), (3, iv (Q : Int)), (1, iv (lgN n i : Int)), (0, iv (n : Int))]) X dX0_asLeg_35 rfl (by decide) rfl ?_
          refine r_goto 4 X dX0_asLeg_38 (by decide) ?_
          refine WW_sub (L' := [(2, iv (((i + 1 : Nat) : Int) + 1)), (1, iv (lgN n i : Int)), (0, iv (n : Int))]) [0, 2, 3] rfl ?_
          have e1 : (lgN n i : Int) = (lgN n (i + 1) : Int) := by
            rw [lgN_s]
            split <;> (rename_i y; by_cases z : n * n % (i + 1) = 0 <;> (try rw [if_pos z] at hQ) <;> (try rw [if_neg z] at hQ) <;> omega)
          rw [e1, show (((i + 1 : Nat) : Int) + 1) = ((i + 1 + 1 : Nat) : Int) from rfl]
          exact ih (i + 1) (by omega)
        · refine r_iload_n 0 X dX0_asLeg_24 rfl ?_
          refine r_iload_n 1 X dX0_asLeg_25 rfl ?_
          refine r_isub X dX0_asLeg_26 ?_
          refine r_iconst X dX0_asLeg_27 ?_
          refine r_irem X dX0_asLeg_28 ⟨by omega, by omega⟩ ⟨by omega, by omega⟩ ?_
          refine r_if_ne 35 X dX0_asLeg_29 (by decide) ⟨by omega, by omega⟩ (fun c29 => ?_) (fun c29 => ?_)
          · refine r_iinc 1 (L' := [(2, iv (((i + 1 : Nat) : Int) + 1)), (3, iv (Q : Int)), (1, iv (lgN n i : Int)), (0, iv (n : Int))]) X dX0_asLeg_35 rfl (by decide) rfl ?_
            refine r_goto 4 X dX0_asLeg_38 (by decide) ?_
            refine WW_sub (L' := [(2, iv (((i + 1 : Nat) : Int) + 1)), (1, iv (lgN n i : Int)), (0, iv (n : Int))]) [0, 2, 3] rfl ?_
            have e1 : (lgN n i : Int) = (lgN n (i + 1) : Int) := by
              rw [lgN_s]
              split <;> (rename_i y; by_cases z : n * n % (i + 1) = 0 <;> (try rw [if_pos z] at hQ) <;> (try rw [if_neg z] at hQ) <;> omega)
            rw [e1, show (((i + 1 : Nat) : Int) + 1) = ((i + 1 + 1 : Nat) : Int) from rfl]
            exact ih (i + 1) (by omega)
          · refine r_iinc 2 (L' := [(1, iv ((lgN n i : Int) + 1)), (3, iv (Q : Int)), (2, iv ((i + 1 : Nat) : Int)), (0, iv (n : Int))]) X dX0_asLeg_32 rfl (by decide) rfl ?_
            refine r_iinc 2 (L' := [(2, iv (((i + 1 : Nat) : Int) + 1)), (1, iv ((lgN n i : Int) + 1)), (3, iv (Q : Int)), (0, iv (n : Int))]) X dX0_asLeg_35 rfl (by decide) rfl ?_
            refine r_goto 4 X dX0_asLeg_38 (by decide) ?_
            refine WW_sub (L' := [(2, iv (((i + 1 : Nat) : Int) + 1)), (1, iv ((lgN n i : Int) + 1)), (0, iv (n : Int))]) [0, 1, 3] rfl ?_
            have e1 : (lgN n i : Int) + 1 = (lgN n (i + 1) : Int) := by
              rw [lgN_s]
              split <;> (rename_i y; by_cases z : n * n % (i + 1) = 0 <;> (try rw [if_pos z] at hQ) <;> (try rw [if_neg z] at hQ) <;> omega)
            rw [e1, show (((i + 1 : Nat) : Int) + 1) = ((i + 1 + 1 : Nat) : Int) from rfl]
            exact ih (i + 1) (by omega)
  refine r_iconst X dX0_asLeg_0 ?_
  refine r_istore_n (L' := [(1, iv 0), (0, iv (n : Int))]) X dX0_asLeg_1 (by decide) rfl ?_
  refine r_iconst X dX0_asLeg_2 ?_
  refine r_istore_n (L' := [(2, iv 1), (1, iv 0), (0, iv (n : Int))]) X dX0_asLeg_3 (by decide) rfl ?_
  exact loop (n - 1) 0 (by omega)
