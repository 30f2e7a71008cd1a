/-! Counting: as the longest -/
def aL (n : Nat) : Nat → Nat → Nat → Nat
  | 0, _, _ => 0
  | m + 1, x, y => if x < y then (if x * x + y * y = n * n then 1 else 0) + (if x * x + y * y ≤ n * n then aL n m (x + 1) y else aL n m x (y - 1)) else 0
theorem aL_s (n m x y : Nat) : aL n (m + 1) x y = if x < y then (if x * x + y * y = n * n then 1 else 0) + (if x * x + y * y ≤ n * n then aL n m (x + 1) y else aL n m x (y - 1)) else 0 := rfl
abbrev rX0_asLongest : Room := { frames := 0, cells := 0, slots := 0, locals := 0 }
theorem c_X0_asLongest {l : Launch} (hl : l.stackTraces = false) (D : va_G) (z0 : Nat) (h : Hp) (n : Nat) (hn1 : 1 ≤ n) (hn : n ≤ 1000) : CC l yX0_asLongest cX0_asLongest 6 (some .int) rX0_asLongest D z0 h [iv (n : Int)] (PV (iv (aL n n 1 (n - 1) : Int)) h) NX := by
  refine CC_of RX0 hl (by decide) rfl (Nat.le_of_ble_eq_true rfl) (fun K X Y Z hmn hKl => ?_)
  subst hKl
  show WW K D z0 6 h 0 0 0 [(0, iv (n : Int))] []
  obtain ⟨R, hR⟩ : ∃ R, R = aL n n 1 (n - 1) := ⟨_, rfl⟩
  have loop : ∀ (m t x y c : Nat), t + m = n → c ≤ t → x ≤ 1001 → y ≤ 1000 → c + aL n m x y = R → WW K D z0 6 h 0 0 11 [(4, iv (t : Int)), (3, iv (y : Int)), (2, iv (x : Int)), (1, iv (c : Int)), (0, iv (n : Int))] [] := by
    intro m
    induction m with
    | zero =>
      intro t x y c ht hc hx hy he
      refine r_iload 0 X dX0_asLongest_11 rfl ?_
      refine r_iload_n 4 X dX0_asLongest_13 rfl ?_
      refine r_icmp_ge 68 X dX0_asLongest_14 (by decide) ⟨by omega, by omega⟩ ⟨by omega, by omega⟩ (fun c14 => ?_) (fun c14 => ?_)
      · refine r_iload_n 3 X dX0_asLongest_68 rfl ?_
        refine r_iret X Y dX0_asLongest_69 (by decide) (by decide) ?_
        exact pv_i (by have he2 : c + 0 = R := he; omega)
      · exfalso
        omega
    | succ m ih =>
      intro t x y c ht hc hx hy he
      have hxx := Nat.mul_le_mul hx hx
      have hyy := Nat.mul_le_mul hy hy
      have hnn := Nat.mul_le_mul hn hn
      refine r_iload 0 X dX0_asLongest_11 rfl ?_
      refine r_iload_n 4 X dX0_asLongest_13 rfl ?_
      refine r_icmp_ge 68 X dX0_asLongest_14 (by decide) ⟨by omega, by omega⟩ ⟨by omega, by omega⟩ (fun c14 => ?_) (fun c14 => ?_)
      · exfalso
        omega
      · refine r_iload_n 2 X dX0_asLongest_17 rfl ?_
        refine r_iload_n 1 X dX0_asLongest_18 rfl ?_
        refine r_icmp_ge 68 X dX0_asLongest_19 (by decide) ⟨by omega, by omega⟩ ⟨by omega, by omega⟩ (fun c19 => ?_) (fun c19 => ?_)
        · refine r_iload_n 3 X dX0_asLongest_68 rfl ?_
          refine r_iret X Y dX0_asLongest_69 (by decide) (by decide) ?_
          rw [aL_s, if_neg (show ¬ x < y by omega)] at he
          exact pv_i (by omega)
        · refine r_iload_n 2 X dX0_asLongest_22 rfl ?_
          refine r_iload_n 2 X dX0_asLongest_23 rfl ?_
          refine r_imul X dX0_asLongest_24 ?_
          refine r_iload_n 1 X dX0_asLongest_25 rfl ?_
          refine r_iload_n 1 X dX0_asLongest_26 rfl ?_
          refine r_imul X dX0_asLongest_27 ?_
          refine r_iadd X dX0_asLongest_28 ?_
          refine r_iload_n 4 X dX0_asLongest_29 rfl ?_
          refine r_iload_n 4 X dX0_asLongest_30 rfl ?_
          refine r_imul X dX0_asLongest_31 ?_
          refine r_isub X dX0_asLongest_32 ?_
          refine r_istore (L' := [(5, iv ((((x : Int) * (x : Int)) + ((y : Int) * (y : Int))) - ((n : Int) * (n : Int)))), (4, iv (t : Int)), (3, iv (y : Int)), (2, iv (x : Int)), (1, iv (c : Int)), (0, iv (n : Int))]) X dX0_asLongest_33 (by decide) rfl ?_
          refine r_iload_n 4 X dX0_asLongest_35 rfl ?_
          refine r_iload 0 X dX0_asLongest_36 rfl ?_
          refine r_if_ne 45 X dX0_asLongest_38 (by decide) ⟨by omega, by omega⟩ (fun c38 => ?_) (fun c38 => ?_)
          · refine r_iconst X dX0_asLongest_45 ?_
            refine r_iadd X dX0_asLongest_46 ?_
            refine r_istore_n (L' := [(1, iv ((c : Int) + 0)), (5, iv ((((x : Int) * (x : Int)) + ((y : Int) * (y : Int))) - ((n : Int) * (n : Int)))), (4, iv (t : Int)), (3, iv (y : Int)), (2, iv (x : Int)), (0, iv (n : Int))]) X dX0_asLongest_47 (by decide) rfl ?_
            refine r_iload 1 X dX0_asLongest_48 rfl ?_
            refine r_if_gt 59 X dX0_asLongest_50 (by decide) ⟨by omega, by omega⟩ (fun c50 => ?_) (fun c50 => ?_)
            · refine r_iinc 3 (L' := [(3, iv ((y : Int) + (-1))), (1, iv ((c : Int) + 0)), (5, iv ((((x : Int) * (x : Int)) + ((y : Int) * (y : Int))) - ((n : Int) * (n : Int)))), (4, iv (t : Int)), (2, iv (x : Int)), (0, iv (n : Int))]) X dX0_asLongest_59 rfl (by decide) rfl ?_
              refine r_iinc 3 (L' := [(4, iv ((t : Int) + 1)), (3, iv ((y : Int) + (-1))), (1, iv ((c : Int) + 0)), (5, iv ((((x : Int) * (x : Int)) + ((y : Int) * (y : Int))) - ((n : Int) * (n : Int)))), (2, iv (x : Int)), (0, iv (n : Int))]) X dX0_asLongest_62 rfl (by decide) rfl ?_
              refine r_goto 11 X dX0_asLongest_65 (by decide) ?_
              refine WW_sub (L' := [(4, iv ((t : Int) + 1)), (3, iv ((y : Int) + (-1))), (2, iv (x : Int)), (1, iv ((c : Int) + 0)), (0, iv (n : Int))]) [0, 1, 4, 2, 5] rfl ?_
              rw [show (t : Int) + 1 = ((t + 1 : Nat) : Int) from rfl, show (y : Int) + (-1) = ((y - 1 : Nat) : Int) by omega, show (x : Int) = ((x : Nat) : Int) by omega, show (c : Int) + 0 = ((c : Nat) : Int) by omega]
              rw [aL_s, if_pos (show x < y by omega), if_neg (by omega), if_neg (by omega)] at he
              exact ih _ _ _ _ (by omega) (by omega) (by omega) (by omega) (by omega)
            · refine r_iinc 4 (L' := [(2, iv ((x : Int) + 1)), (1, iv ((c : Int) + 0)), (5, iv ((((x : Int) * (x : Int)) + ((y : Int) * (y : Int))) - ((n : Int) * (n : Int)))), (4, iv (t : Int)), (3, iv (y : Int)), (0, iv (n : Int))]) X dX0_asLongest_53 rfl (by decide) rfl ?_
              refine r_goto 62 X dX0_asLongest_56 (by decide) ?_
              refine r_iinc 3 (L' := [(4, iv ((t : Int) + 1)), (2, iv ((x : Int) + 1)), (1, iv ((c : Int) + 0)), (5, iv ((((x : Int) * (x : Int)) + ((y : Int) * (y : Int))) - ((n : Int) * (n : Int)))), (3, iv (y : Int)), (0, iv (n : Int))]) X dX0_asLongest_62 rfl (by decide) rfl ?_
              refine r_goto 11 X dX0_asLongest_65 (by decide) ?_
              refine WW_sub (L' := [(4, iv ((t : Int) + 1)), (3, iv (y : Int)), (2, iv ((x : Int) + 1)), (1, iv ((c : Int) + 0)), (0, iv (n : Int))]) [0, 4, 1, 2, 5] rfl ?_
              rw [show (t : Int) + 1 = ((t + 1 : Nat) : Int) from rfl, show (y : Int) = ((y : Nat) : Int) by omega, show (x : Int) + 1 = ((x + 1 : Nat) : Int) by omega, show (c : Int) + 0 = ((c : Nat) : Int) by omega]
              rw [aL_s, if_pos (show x < y by omega), if_neg (by omega), if_pos (by omega)] at he
              exact ih _ _ _ _ (by omega) (by omega) (by omega) (by omega) (by omega)
          · refine r_iconst X dX0_asLongest_41 ?_
            refine r_goto 46 X dX0_asLongest_42 (by decide) ?_
            refine r_iadd X dX0_asLongest_46 ?_
            refine r_istore_n (L' := [(1, iv ((c : Int) + 1)), (5, iv ((((x : Int) * (x : Int)) + ((y : Int) * (y : Int))) - ((n : Int) * (n : Int)))), (4, iv (t : Int)), (3, iv (y : Int)), (2, iv (x : Int)), (0, iv (n : Int))]) X dX0_asLongest_47 (by decide) rfl ?_
            refine r_iload 1 X dX0_asLongest_48 rfl ?_
            refine r_if_gt 59 X dX0_asLongest_50 (by decide) ⟨by omega, by omega⟩ (fun c50 => ?_) (fun c50 => ?_)
            · refine r_iinc 3 (L' := [(3, iv ((y : Int) + (-1))), (1, iv ((c : Int) + 1)), (5, iv ((((x : Int) * (x : Int)) + ((y : Int) * (y : Int))) - ((n : Int) * (n : Int)))), (4, iv (t : Int)), (2, iv (x : Int)), (0, iv (n : Int))]) X dX0_asLongest_59 rfl (by decide) rfl ?_
              refine r_iinc 3 (L' := [(4, iv ((t : Int) + 1)), (3, iv ((y : Int) + (-1))), (1, iv ((c : Int) + 1)), (5, iv ((((x : Int) * (x : Int)) + ((y : Int) * (y : Int))) - ((n : Int) * (n : Int)))), (2, iv (x : Int)), (0, iv (n : Int))]) X dX0_asLongest_62 rfl (by decide) rfl ?_
              refine r_goto 11 X dX0_asLongest_65 (by decide) ?_
              refine WW_sub (L' := [(4, iv ((t : Int) + 1)), (3, iv ((y : Int) + (-1))), (2, iv (x : Int)), (1, iv ((c : Int) + 1)), (0, iv (n : Int))]) [0, 1, 4, 2, 5] rfl ?_
              rw [show (t : Int) + 1 = ((t + 1 : Nat) : Int) from rfl, show (y : Int) + (-1) = ((y - 1 : Nat) : Int) by omega, show (x : Int) = ((x : Nat) : Int) by omega, show (c : Int) + 1 = ((c + 1 : Nat) : Int) by omega]
              rw [aL_s, if_pos (show x < y by omega), if_pos (by omega), if_neg (by omega)] at he
              exact ih _ _ _ _ (by omega) (by omega) (by omega) (by omega) (by omega)
            · refine r_iinc 4 (L' := [(2, iv ((x : Int) + 1)), (1, iv ((c : Int) + 1)), (5, iv ((((x : Int) * (x : Int)) + ((y : Int) * (y : Int))) - ((n : Int) * (n : Int)))), (4, iv (t : Int)), (3, iv (y : Int)), (0, iv (n : Int))]) X dX0_asLongest_53 rfl (by decide) rfl ?_
              refine r_goto 62 X dX0_asLongest_56 (by decide) ?_
              refine r_iinc 3 (L' := [(4, iv ((t : Int) + 1)), (2, iv ((x : Int) + 1)), (1, iv ((c : Int) + 1)), (5, iv ((((x : Int) * (x : Int)) + ((y : Int) * (y : Int))) - ((n : Int) * (n : Int)))), (3, iv (y : Int)), (0, iv (n : Int))]) X dX0_asLongest_62 rfl (by decide) rfl ?_
              refine r_goto 11 X dX0_asLongest_65 (by decide) ?_
              refine WW_sub (L' := [(4, iv ((t : Int) + 1)), (3, iv (y : Int)), (2, iv ((x : Int) + 1)), (1, iv ((c : Int) + 1)), (0, iv (n : Int))]) [0, 4, 1, 2, 5] rfl ?_
              rw [show (t : Int) + 1 = ((t + 1 : Nat) : Int) from rfl, show (y : Int) = ((y : Nat) : Int) by omega, show (x : Int) + 1 = ((x + 1 : Nat) : Int) by omega, show (c : Int) + 1 = ((c + 1 : Nat) : Int) by omega]
              rw [aL_s, if_pos (show x < y by omega), if_pos (by omega), if_pos (by omega)] at he
              exact ih _ _ _ _ (by omega) (by omega) (by omega) (by omega) (by omega)
  refine r_iconst X dX0_asLongest_0 ?_
  refine r_istore_n (L' := [(1, iv 0), (0, iv (n : Int))]) X dX0_asLongest_1 (by decide) rfl ?_
  refine r_iconst X dX0_asLongest_2 ?_
  refine r_istore_n (L' := [(2, iv 1), (1, iv 0), (0, iv (n : Int))]) X dX0_asLongest_3 (by decide) rfl ?_
  refine r_iload_n 2 X dX0_asLongest_4 rfl ?_
  refine r_iconst X dX0_asLongest_5 ?_
  refine r_isub X dX0_asLongest_6 ?_
  refine r_istore_n (L' := [(3, iv ((n : Int) - 1)), (2, iv 1), (1, iv 0), (0, iv (n : Int))]) X dX0_asLongest_7 (by decide) rfl ?_
  refine r_iconst X dX0_asLongest_8 ?_
  refine r_istore (L' := [(4, iv 0), (3, iv ((n : Int) - 1)), (2, iv 1), (1, iv 0), (0, iv (n : Int))]) X dX0_asLongest_9 (by decide) rfl ?_
  rw [show (n : Int) - 1 = ((n - 1 : Nat) : Int) by omega]
  exact loop n 0 1 (n - 1) 0 (by omega) (by omega) (by omega) (by omega) (by omega)
