/-! roots, digits, common divisors -/
theorem sqb {a b : Int} (h : 0 ≤ a) (h2 : a ≤ b) : 0 ≤ a * a ∧ a * a ≤ b * b := ⟨Int.mul_nonneg h h, Int.mul_le_mul h2 h2 h (Int.le_trans h h2)⟩
/-- the greatest whole number whose square is not above n -/
def isq : Nat → Nat
  | 0 => 0
  | n + 1 => if (isq n + 1) * (isq n + 1) ≤ n + 1 then isq n + 1 else isq n
theorem isq_spec : ∀ n : Nat, isq n * isq n ≤ n ∧ n < (isq n + 1) * (isq n + 1)
  | 0 => by decide
  | n + 1 => by
    obtain ⟨h1, h2⟩ := isq_spec n
    by_cases q : (isq n + 1) * (isq n + 1) ≤ n + 1
    · rw [isq, if_pos q]
      refine ⟨q, ?_⟩
      have : (isq n + 1) * (isq n + 1) < (isq n + 1 + 1) * (isq n + 1 + 1) := Nat.mul_self_lt_mul_self (Nat.lt_succ_self _)
      omega
    · rw [isq, if_neg q]
      exact ⟨by omega, by omega⟩
theorem isq_unique {n r : Nat} (h1 : r * r ≤ n) (h2 : n < (r + 1) * (r + 1)) : isq n = r := by
  obtain ⟨g1, g2⟩ := isq_spec n
  rcases Nat.lt_trichotomy (isq n) r with q | q | q
  · have : (isq n + 1) * (isq n + 1) ≤ r * r := Nat.mul_self_le_mul_self q
    omega
  · exact q
  · have : (r + 1) * (r + 1) ≤ isq n * isq n := Nat.mul_self_le_mul_self q
    omega
theorem isq_int {n r : Int} (h0 : 0 ≤ r) (h1 : r * r ≤ n) (h2 : n < (r + 1) * (r + 1)) : r = ((isq n.toNat : Nat) : Int) := by
  obtain ⟨k, rfl⟩ := Int.eq_ofNat_of_zero_le h0
  have hn : 0 ≤ n := Int.le_trans (Int.mul_nonneg h0 h0) h1
  obtain ⟨m, rfl⟩ := Int.eq_ofNat_of_zero_le hn
  have e : isq m = k := isq_unique (by exact_mod_cast h1) (by exact_mod_cast h2)
  show _ = ((isq (Int.toNat (m : Int)) : Nat) : Int)
  rw [Int.toNat_natCast, e]
theorem isq_spec_int {n : Int} (hn : 0 ≤ n) : ((isq n.toNat : Nat) : Int) * (isq n.toNat : Nat) ≤ n ∧ n < (((isq n.toNat : Nat) : Int) + 1) * ((isq n.toNat : Nat) + 1) := by
  obtain ⟨m, rfl⟩ := Int.eq_ofNat_of_zero_le hn
  rw [show (Int.toNat (m : Int)) = m from Int.toNat_natCast m]
  obtain ⟨g1, g2⟩ := isq_spec m
  exact ⟨by exact_mod_cast g1, by exact_mod_cast g2⟩
/-- how many binary digits -/
def bl (n : Nat) : Nat := if n = 0 then 0 else Nat.log2 n + 1
theorem bl_0 : bl 0 = 0 := rfl
theorem bl_half {n : Nat} (h : 0 < n) : bl n = bl (n / 2) + 1 := by
  unfold bl
  rw [if_neg (by omega)]
  by_cases q : n / 2 = 0
  · rw [if_pos q]
    have : n = 1 := by omega
    subst this
    decide
  · rw [if_neg q]
    congr 1
    rw [Nat.log2_def, if_pos (by omega)]
theorem bl_lt : ∀ (k n : Nat), n < 2 ^ k → bl n ≤ k
  | 0, n, h => by
    have : n = 0 := by simpa using h
    subst this
    exact Nat.le_refl 0
  | k + 1, n, h => by
    by_cases q : n = 0
    · subst q
      exact Nat.zero_le _
    · rw [bl_half (by omega)]
      have := bl_lt k (n / 2) (by rw [Nat.pow_succ] at h; omega)
      omega
/-- Euclid's way comes to its end within m turns -/
def eu : Nat → Nat → Nat → Prop
  | 0, _, y => y = 0
  | m + 1, x, y => y = 0 ∨ eu m y (x % y)
theorem eu_mono : ∀ (m x y : Nat), eu m x y → eu (m + 1) x y
  | 0, x, y, h => Or.inl h
  | m + 1, x, y, h => by
    rcases h with h | h
    · exact Or.inl h
    · exact Or.inr (eu_mono m _ _ h)
theorem eu_log : ∀ (k x y : Nat), y < 2 ^ k → eu (2 * k) x y
  | 0, x, y, h => by
    have : y = 0 := by simpa using h
    exact this
  | k + 1, x, y, h => by
    show eu (2 * k + 1 + 1) x y
    by_cases q : y = 0
    · exact Or.inl q
    · refine Or.inr ?_
      by_cases q2 : x % y = 0
      · exact Or.inl q2
      · refine Or.inr (eu_log k _ _ ?_)
        have h1 : x % y < y := Nat.mod_lt _ (by omega)
        have h2 : y % (x % y) < x % y := Nat.mod_lt _ (by omega)
        rw [Nat.pow_succ] at h
        by_cases q3 : x % y ≤ 2 ^ k
        · omega
        · have h3 : y % (x % y) = y - x % y := by
            rw [Nat.mod_eq_sub_mod (by omega), Nat.mod_eq_of_lt (by omega)]
          omega
theorem gcd_turn (x y : Nat) : Nat.gcd x y = Nat.gcd y (x % y) := by
  rw [Nat.gcd_comm x y, Nat.gcd_rec y x, Nat.gcd_comm]
abbrev rX1_wholeRoot : Room := { frames := 0, cells := 0, slots := 0, locals := 0 }
theorem c_X1_wholeRoot {l : Launch} (hl : l.stackTraces = false) (D : va_G) (z0 : Nat) (h : Hp) (n : Int) (hn : 0 ≤ n ∧ n < 68719476736) : CC l yX1_wholeRoot cX1_wholeRoot 8 (some .long) rX1_wholeRoot D z0 h [jv n] (PV (jv ((isq n.toNat : Nat) : Int)) h) NX := by
  refine CC_of RX1 hl (by decide) rfl (Nat.le_of_ble_eq_true rfl) (fun K X Y Z hmn hKl => ?_)
  subst hKl
  show WW K D z0 8 h 0 0 0 [(0, jv n)] []
  have fin : ∀ r : Int, 0 ≤ r → r * r ≤ n → n < (r + 1) * (r + 1) → WW K D z0 8 h 0 0 7 [(0, jv n), (2, jv r), (4, jv 0)] [] := by
    intro r h0 h1 h2
    refine r_lload 2 X dX1_wholeRoot_7 rfl ?_
    refine r_lconst 0 X dX1_wholeRoot_9 (by decide) ?_
    refine r_lcmp_le 42 X dX1_wholeRoot_10 dX1_wholeRoot_11 (by decide) ⟨by omega, by omega⟩ ⟨by omega, by omega⟩ (fun c10 => ?_) (fun c10 => ?_)
    · refine r_lload_n 1 X dX1_wholeRoot_42 rfl ?_
      refine r_lret X Y dX1_wholeRoot_43 (by decide) (by decide) ?_
      exact pv_j (isq_int h0 h1 h2)
    · exact absurd (by decide) c10
  have loop : ∀ (j : Nat) (g r : Int), g = ((2 ^ j : Nat) : Int) → 0 ≤ r → r + 2 * g ≤ 262144 → r * r ≤ n → n < (r + 2 * g) * (r + 2 * g) → WW K D z0 8 h 0 0 7 [(0, jv n), (2, jv r), (4, jv g)] [] := by
    intro j
    induction j with
    | zero =>
      intro g r hg h0 h1 h2 h3
      have hg : g = 1 := hg
      refine r_lload 2 X dX1_wholeRoot_7 rfl ?_
      refine r_lconst 0 X dX1_wholeRoot_9 (by decide) ?_
      refine r_lcmp_le 42 X dX1_wholeRoot_10 dX1_wholeRoot_11 (by decide) ⟨by omega, by omega⟩ ⟨by omega, by omega⟩ (fun c10 => ?_) (fun c10 => ?_)
      · exact absurd c10 (by omega)
      · refine r_lload_n 1 X dX1_wholeRoot_14 rfl ?_
        refine r_lload 2 X dX1_wholeRoot_15 rfl ?_
        refine r_ladd X dX1_wholeRoot_17 ?_
        refine r_lstore (L' := [(6, jv (r + g)), (0, jv n), (2, jv r), (4, jv g)]) X dX1_wholeRoot_18 (by decide) rfl ?_
        refine r_lload 0 X dX1_wholeRoot_20 rfl ?_
        have m1 := sqb (a := r + g) (b := 262144) (by omega) (by omega)
        refine r_lload 0 X dX1_wholeRoot_22 rfl ?_
        refine r_lmul X dX1_wholeRoot_24 ?_
        refine r_lload_n 1 X dX1_wholeRoot_25 rfl ?_
        refine r_lcmp_gt 33 X dX1_wholeRoot_26 dX1_wholeRoot_27 (by decide) ⟨by omega, by omega⟩ ⟨by omega, by omega⟩ (fun c26 => ?_) (fun c26 => ?_)
        · refine r_lload 3 X dX1_wholeRoot_33 rfl ?_
          refine r_iconst X dX1_wholeRoot_35 ?_
          refine r_lshr X dX1_wholeRoot_36 1 2 (by decide) (by decide) (by decide) ⟨by omega, by omega⟩ ?_
          refine r_lstore (L' := [(4, jv (g / 2)), (6, jv (r + g)), (0, jv n), (2, jv r)]) X dX1_wholeRoot_37 (by decide) rfl ?_
          refine r_goto 7 X dX1_wholeRoot_39 (by decide) ?_
          refine WW_sub (L' := [(0, jv n), (2, jv r), (4, jv (g / 2))]) [2, 3, 0] rfl ?_
          have e : g / 2 = 0 := by omega
          rw [e]
          exact fin r h0 h2 (by rw [show r + 1 = r + g by omega]; omega)
        · refine r_lload 0 X dX1_wholeRoot_30 rfl ?_
          refine r_lstore_n (L' := [(2, jv (r + g)), (6, jv (r + g)), (0, jv n), (4, jv g)]) X dX1_wholeRoot_32 (by decide) rfl ?_
          refine r_lload 3 X dX1_wholeRoot_33 rfl ?_
          refine r_iconst X dX1_wholeRoot_35 ?_
          refine r_lshr X dX1_wholeRoot_36 1 2 (by decide) (by decide) (by decide) ⟨by omega, by omega⟩ ?_
          refine r_lstore (L' := [(4, jv (g / 2)), (2, jv (r + g)), (6, jv (r + g)), (0, jv n)]) X dX1_wholeRoot_37 (by decide) rfl ?_
          refine r_goto 7 X dX1_wholeRoot_39 (by decide) ?_
          refine WW_sub (L' := [(0, jv n), (2, jv (r + g)), (4, jv (g / 2))]) [3, 1, 0] rfl ?_
          have e : g / 2 = 0 := by omega
          rw [e]
          exact fin (r + g) (by omega) (by omega) (by rw [show r + g + 1 = r + 2 * g by omega]; exact h3)
    | succ j ih =>
      intro g r hg h0 h1 h2 h3
      have hp : 0 < 2 ^ j := Nat.two_pow_pos j
      have hg0 : 0 < g := by rw [hg, Nat.pow_succ]; omega
      refine r_lload 2 X dX1_wholeRoot_7 rfl ?_
      refine r_lconst 0 X dX1_wholeRoot_9 (by decide) ?_
      refine r_lcmp_le 42 X dX1_wholeRoot_10 dX1_wholeRoot_11 (by decide) ⟨by omega, by omega⟩ ⟨by omega, by omega⟩ (fun c10 => ?_) (fun c10 => ?_)
      · exact absurd c10 (by omega)
      · refine r_lload_n 1 X dX1_wholeRoot_14 rfl ?_
        refine r_lload 2 X dX1_wholeRoot_15 rfl ?_
        refine r_ladd X dX1_wholeRoot_17 ?_
        refine r_lstore (L' := [(6, jv (r + g)), (0, jv n), (2, jv r), (4, jv g)]) X dX1_wholeRoot_18 (by decide) rfl ?_
        refine r_lload 0 X dX1_wholeRoot_20 rfl ?_
        have m1 := sqb (a := r + g) (b := 262144) (by omega) (by omega)
        refine r_lload 0 X dX1_wholeRoot_22 rfl ?_
        refine r_lmul X dX1_wholeRoot_24 ?_
        refine r_lload_n 1 X dX1_wholeRoot_25 rfl ?_
        refine r_lcmp_gt 33 X dX1_wholeRoot_26 dX1_wholeRoot_27 (by decide) ⟨by omega, by omega⟩ ⟨by omega, by omega⟩ (fun c26 => ?_) (fun c26 => ?_)
        · refine r_lload 3 X dX1_wholeRoot_33 rfl ?_
          refine r_iconst X dX1_wholeRoot_35 ?_
          refine r_lshr X dX1_wholeRoot_36 1 2 (by decide) (by decide) (by decide) ⟨by omega, by omega⟩ ?_
          refine r_lstore (L' := [(4, jv (g / 2)), (6, jv (r + g)), (0, jv n), (2, jv r)]) X dX1_wholeRoot_37 (by decide) rfl ?_
          refine r_goto 7 X dX1_wholeRoot_39 (by decide) ?_
          refine WW_sub (L' := [(0, jv n), (2, jv r), (4, jv (g / 2))]) [2, 3, 0] rfl ?_
          exact ih (g / 2) r (by rw [hg, Nat.pow_succ]; omega) h0 (by omega) h2 (by rw [show r + 2 * (g / 2) = r + g by rw [Nat.pow_succ] at hg; omega]; omega)
        · refine r_lload 0 X dX1_wholeRoot_30 rfl ?_
          refine r_lstore_n (L' := [(2, jv (r + g)), (6, jv (r + g)), (0, jv n), (4, jv g)]) X dX1_wholeRoot_32 (by decide) rfl ?_
          refine r_lload 3 X dX1_wholeRoot_33 rfl ?_
          refine r_iconst X dX1_wholeRoot_35 ?_
          refine r_lshr X dX1_wholeRoot_36 1 2 (by decide) (by decide) (by decide) ⟨by omega, by omega⟩ ?_
          refine r_lstore (L' := [(4, jv (g / 2)), (2, jv (r + g)), (6, jv (r + g)), (0, jv n)]) X dX1_wholeRoot_37 (by decide) rfl ?_
          refine r_goto 7 X dX1_wholeRoot_39 (by decide) ?_
          refine WW_sub (L' := [(0, jv n), (2, jv (r + g)), (4, jv (g / 2))]) [3, 1, 0] rfl ?_
          exact ih (g / 2) (r + g) (by rw [hg, Nat.pow_succ]; omega) (by omega) (by rw [Nat.pow_succ] at hg; omega) (by omega) (by rw [show r + g + 2 * (g / 2) = r + 2 * g by rw [Nat.pow_succ] at hg; omega]; exact h3)
  refine r_lconst 0 X dX1_wholeRoot_0 (by decide) ?_
  refine r_lstore_n (L' := [(2, jv 0), (0, jv n)]) X dX1_wholeRoot_1 (by decide) rfl ?_
  refine r_ldc2 131072 X dX1_wholeRoot_2 nX1_11 (by decide) ?_
  refine r_lstore (L' := [(4, jv 131072), (2, jv 0), (0, jv n)]) X dX1_wholeRoot_5 (by decide) rfl ?_
  refine WW_sub (L' := [(0, jv n), (2, jv 0), (4, jv 131072)]) [2, 1, 0] rfl ?_
  exact loop 17 131072 0 (by decide) (by decide) (by decide) (by omega) (by omega)
abbrev rX1_isSquare : Room := { frames := 1, cells := 0, slots := 0, locals := 27 }
theorem c_X1_isSquare {l : Launch} (hl : l.stackTraces = false) (D : va_G) (z0 : Nat) (h : Hp) (n : Int) (hn : 0 ≤ n ∧ n < 68719476736) : CC l yX1_isSquare cX1_isSquare 4 (some .boolean) rX1_isSquare D z0 h [jv n] (PV (iv (if ((isq n.toNat : Nat) : Int) * ((isq n.toNat : Nat) : Int) = n then 1 else 0)) h) NX := by
  refine CC_of RX1 hl (by decide) rfl (Nat.le_of_ble_eq_true rfl) (fun K X Y Z hmn hKl => ?_)
  subst hKl
  show WW K D z0 4 h 0 0 0 [(0, jv n)] []
  refine r_lload_n 0 X dX1_isSquare_0 rfl ?_
  refine r_callS_v X dX1_isSquare_1 kX1_13 (c_X1_wholeRoot (CX_l X) D z0 h n ⟨by omega, by omega⟩) [] rfl rfl (Nat.le_of_ble_eq_true rfl) (by decide) rfl rfl (by decide) ?_
  refine r_lstore_n (L' := [(2, jv ((isq n.toNat : Nat) : Int)), (0, jv n)]) X dX1_isSquare_4 (by decide) rfl ?_
  have q1 := isq_spec_int hn.1
  have q2 : 0 ≤ ((isq n.toNat : Nat) : Int) * ((isq n.toNat : Nat) : Int) := Int.mul_nonneg (Int.natCast_nonneg _) (Int.natCast_nonneg _)
  refine r_lload_n 0 X dX1_isSquare_5 rfl ?_
  refine r_lload_n 0 X dX1_isSquare_6 rfl ?_
  refine r_lmul X dX1_isSquare_7 ?_
  refine r_lload_n 1 X dX1_isSquare_8 rfl ?_
  refine r_lcmp_ne 17 X dX1_isSquare_9 dX1_isSquare_10 (by decide) ⟨by omega, by omega⟩ ⟨by omega, by omega⟩ (fun c9 => ?_) (fun c9 => ?_)
  · refine r_iconst X dX1_isSquare_17 ?_
    refine r_zret X Y dX1_isSquare_18 (Or.inl rfl) (by decide) (by decide) ?_
    exact pv_f c9
  · refine r_iconst X dX1_isSquare_13 ?_
    refine r_goto 18 X dX1_isSquare_14 (by decide) ?_
    refine r_zret X Y dX1_isSquare_18 (Or.inr rfl) (by decide) (by decide) ?_
    exact pv_t c9
abbrev rX1_digits : Room := { frames := 0, cells := 0, slots := 0, locals := 0 }
theorem c_X1_digits {l : Launch} (hl : l.stackTraces = false) (D : va_G) (z0 : Nat) (h : Hp) (n : Int) (hn : 0 ≤ n ∧ n < 9223372036854775808) : CC l yX1_digits cX1_digits 5 (some .int) rX1_digits D z0 h [jv n] (PV (iv ((bl n.toNat : Nat) : Int)) h) NX := by
  refine CC_of RX1 hl (by decide) rfl (Nat.le_of_ble_eq_true rfl) (fun K X Y Z hmn hKl => ?_)
  subst hKl
  show WW K D z0 5 h 0 0 0 [(0, jv n)] []
  have loop : ∀ (j : Nat) (c x : Int), (0 ≤ x ∧ x < 9223372036854775808 ∧ 0 ≤ c ∧ c + (j : Int) = bl n.toNat) → bl x.toNat = j → c + (j : Int) ≤ 63 → WW K D z0 5 h 0 0 4 [(0, jv n), (2, iv c), (3, jv x)] [] := by
    intro j
    induction j with
    | zero =>
      intro c x hx hj hb
      have hx0 : x = 0 := by
        by_cases q : x = 0
        · exact q
        · have := bl_half (n := x.toNat) (by omega)
          omega
      refine r_lload_n 2 X dX1_digits_4 rfl ?_
      refine r_lconst 0 X dX1_digits_5 (by decide) ?_
      refine r_lcmp_le 26 X dX1_digits_6 dX1_digits_7 (by decide) ⟨by omega, by omega⟩ ⟨by omega, by omega⟩ (fun c6 => ?_) (fun c6 => ?_)
      · refine r_iload_n 1 X dX1_digits_26 rfl ?_
        refine r_iret X Y dX1_digits_27 (by decide) (by decide) ?_
        exact pv_i (by omega)
      · exact absurd (by omega) c6
    | succ j ih =>
      intro c x hx hj hb
      have hx0 : 0 < x := by
        by_cases q : x = 0
        · rw [q] at hj; cases hj
        · omega
      have hh := bl_half (n := x.toNat) (by omega)
      refine r_lload_n 2 X dX1_digits_4 rfl ?_
      refine r_lconst 0 X dX1_digits_5 (by decide) ?_
      refine r_lcmp_le 26 X dX1_digits_6 dX1_digits_7 (by decide) ⟨by omega, by omega⟩ ⟨by omega, by omega⟩ (fun c6 => ?_) (fun c6 => ?_)
      · exact absurd c6 (by omega)
      · refine r_iload_n 1 X dX1_digits_10 rfl ?_
        refine r_bipush X dX1_digits_11 (by decide) ?_
        refine r_icmp_ge 26 X dX1_digits_13 (by decide) ⟨by omega, by omega⟩ ⟨by omega, by omega⟩ (fun c13 => ?_) (fun c13 => ?_)
        · exact absurd c13 (by omega)
        · refine r_iinc 1 (L' := [(2, iv (c + 1)), (0, jv n), (3, jv x)]) X dX1_digits_16 rfl (by decide) rfl ?_
          refine r_lload_n 2 X dX1_digits_19 rfl ?_
          refine r_iconst X dX1_digits_20 ?_
          refine r_lshr X dX1_digits_21 1 2 (by decide) (by decide) (by decide) ⟨by omega, by omega⟩ ?_
          refine r_lstore_n (L' := [(3, jv (x / 2)), (2, iv (c + 1)), (0, jv n)]) X dX1_digits_22 (by decide) rfl ?_
          refine r_goto 4 X dX1_digits_23 (by decide) ?_
          refine WW_sub (L' := [(0, jv n), (2, iv (c + 1)), (3, jv (x / 2))]) [2, 1, 0] rfl ?_
          exact ih (c + 1) (x / 2) (by omega) (by rw [show (x / 2).toNat = x.toNat / 2 by omega]; omega) (by omega)
  have hb := bl_lt 63 n.toNat (by omega)
  refine r_iconst X dX1_digits_0 ?_
  refine r_istore_n (L' := [(2, iv 0), (0, jv n)]) X dX1_digits_1 (by decide) rfl ?_
  refine r_lload_n 1 X dX1_digits_2 rfl ?_
  refine r_lstore_n (L' := [(3, jv n), (2, iv 0), (0, jv n)]) X dX1_digits_3 (by decide) rfl ?_
  refine WW_sub (L' := [(0, jv n), (2, iv 0), (3, jv n)]) [2, 1, 0] rfl ?_
  exact loop (bl n.toNat) 0 n (by omega) rfl (by omega)
abbrev rX1_commonDivisor : Room := { frames := 0, cells := 0, slots := 0, locals := 0 }
theorem c_X1_commonDivisor {l : Launch} (hl : l.stackTraces = false) (D : va_G) (z0 : Nat) (h : Hp) (a b : Int) (ha : 0 ≤ a ∧ a < 9223372036854775808) (hb : 0 ≤ b ∧ b < 281474976710656) : CC l yX1_commonDivisor cX1_commonDivisor 11 (some .long) rX1_commonDivisor D z0 h [jv a, jv b] (PV (jv ((Int.gcd a b : Nat) : Int)) h) NX := by
  refine CC_of RX1 hl (by decide) rfl (Nat.le_of_ble_eq_true rfl) (fun K X Y Z hmn hKl => ?_)
  subst hKl
  show WW K D z0 11 h 0 0 0 [(0, jv a), (2, jv b)] []
  obtain ⟨a0, ha0⟩ := Int.eq_ofNat_of_zero_le ha.1
  obtain ⟨b0, hb0⟩ := Int.eq_ofNat_of_zero_le hb.1
  have loop : ∀ (m : Nat) (t : Int) (x y : Nat), Nat.gcd x y = Int.gcd a b → eu m x y → (0 ≤ t ∧ t + (m : Int) ≤ 99) → (x < 9223372036854775808 ∧ y < 9223372036854775808) → WW K D z0 11 h 0 0 9 [(0, jv a), (2, jv b), (4, jv (x : Int)), (6, jv (y : Int)), (8, iv t)] [] := by
    intro m
    induction m with
    | zero =>
      intro t x y hG he ht hy
      have e0 : y = 0 := he
      refine r_iload 4 X dX1_commonDivisor_9 rfl ?_
      refine r_bipush X dX1_commonDivisor_11 (by decide) ?_
      refine r_icmp_ge 44 X dX1_commonDivisor_13 (by decide) ⟨by omega, by omega⟩ ⟨by omega, by omega⟩ (fun c13 => ?_) (fun c13 => ?_)
      · exact absurd c13 (by omega)
      · refine r_lload 3 X dX1_commonDivisor_16 rfl ?_
        refine r_lconst 0 X dX1_commonDivisor_18 (by decide) ?_
        refine r_lcmp_eq 44 X dX1_commonDivisor_19 dX1_commonDivisor_20 (by decide) ⟨by omega, by omega⟩ ⟨by omega, by omega⟩ (fun c19 => ?_) (fun c19 => ?_)
        · refine r_lload 2 X dX1_commonDivisor_44 rfl ?_
          refine r_lret X Y dX1_commonDivisor_46 (by decide) (by decide) ?_
          exact pv_j (by have e0 : y = 0 := by omega
                         subst e0
                         rw [Nat.gcd_zero_right] at hG
                         rw [← hG])
        · exact absurd (by omega) c19
    | succ m ih =>
      intro t x y hG he ht hy
      refine r_iload 4 X dX1_commonDivisor_9 rfl ?_
      refine r_bipush X dX1_commonDivisor_11 (by decide) ?_
      refine r_icmp_ge 44 X dX1_commonDivisor_13 (by decide) ⟨by omega, by omega⟩ ⟨by omega, by omega⟩ (fun c13 => ?_) (fun c13 => ?_)
      · exact absurd c13 (by omega)
      · refine r_lload 3 X dX1_commonDivisor_16 rfl ?_
        refine r_lconst 0 X dX1_commonDivisor_18 (by decide) ?_
        refine r_lcmp_eq 44 X dX1_commonDivisor_19 dX1_commonDivisor_20 (by decide) ⟨by omega, by omega⟩ ⟨by omega, by omega⟩ (fun c19 => ?_) (fun c19 => ?_)
        · refine r_lload 2 X dX1_commonDivisor_44 rfl ?_
          refine r_lret X Y dX1_commonDivisor_46 (by decide) (by decide) ?_
          exact pv_j (by have e0 : y = 0 := by omega
                         subst e0
                         rw [Nat.gcd_zero_right] at hG
                         rw [← hG])
        · refine r_lload 2 X dX1_commonDivisor_23 rfl ?_
          refine r_lload 3 X dX1_commonDivisor_25 rfl ?_
          refine r_lrem X dX1_commonDivisor_27 ⟨by omega, by omega⟩ ⟨by omega, by omega⟩ ?_
          refine r_lstore (L' := [(9, jv ((x : Int) % (y : Int))), (0, jv a), (2, jv b), (4, jv (x : Int)), (6, jv (y : Int)), (8, iv t)]) X dX1_commonDivisor_28 (by decide) rfl ?_
          refine r_lload 4 X dX1_commonDivisor_30 rfl ?_
          refine r_lstore (L' := [(4, jv (y : Int)), (9, jv ((x : Int) % (y : Int))), (0, jv a), (2, jv b), (6, jv (y : Int)), (8, iv t)]) X dX1_commonDivisor_32 (by decide) rfl ?_
          refine r_lload 1 X dX1_commonDivisor_34 rfl ?_
          refine r_lstore (L' := [(6, jv ((x : Int) % (y : Int))), (4, jv (y : Int)), (9, jv ((x : Int) % (y : Int))), (0, jv a), (2, jv b), (8, iv t)]) X dX1_commonDivisor_36 (by decide) rfl ?_
          refine r_iinc 5 (L' := [(8, iv (t + 1)), (6, jv ((x : Int) % (y : Int))), (4, jv (y : Int)), (9, jv ((x : Int) % (y : Int))), (0, jv a), (2, jv b)]) X dX1_commonDivisor_38 rfl (by decide) rfl ?_
          refine r_goto 9 X dX1_commonDivisor_41 (by decide) ?_
          refine WW_sub (L' := [(0, jv a), (2, jv b), (4, jv (y : Int)), (6, jv ((x : Int) % (y : Int))), (8, iv (t + 1))]) [4, 5, 2, 1, 0] rfl ?_
          rw [show ((x : Int) % (y : Int)) = ((x % y : Nat) : Int) from (Int.natCast_emod x y).symm]
          exact ih (t + 1) y (x % y) (by rw [← hG, gcd_turn x y]) (by rcases he with he | he; exact absurd he (by omega); exact he) (by omega) ⟨hy.2, by have := Nat.mod_lt x (y := y) (by omega); omega⟩
  refine r_lload_n 0 X dX1_commonDivisor_0 rfl ?_
  refine r_lstore (L' := [(4, jv a), (0, jv a), (2, jv b)]) X dX1_commonDivisor_1 (by decide) rfl ?_
  refine r_lload_n 2 X dX1_commonDivisor_3 rfl ?_
  refine r_lstore (L' := [(6, jv b), (4, jv a), (0, jv a), (2, jv b)]) X dX1_commonDivisor_4 (by decide) rfl ?_
  refine r_iconst X dX1_commonDivisor_6 ?_
  refine r_istore (L' := [(8, iv 0), (6, jv b), (4, jv a), (0, jv a), (2, jv b)]) X dX1_commonDivisor_7 (by decide) rfl ?_
  refine WW_sub (L' := [(0, jv a), (2, jv b), (4, jv a), (6, jv b), (8, iv 0)]) [3, 4, 2, 1, 0] rfl ?_
  have hlog := eu_log 48 a0 b0 (by omega)
  have hG : Nat.gcd a0 b0 = Int.gcd a b := by rw [ha0, hb0]; rfl
  have key := loop 96 0 a0 b0 hG hlog (by omega) (by omega)
  rw [← ha0, ← hb0] at key
  exact key
abbrev rX7_divisor : Room := { frames := 0, cells := 0, slots := 0, locals := 0 }
theorem c_X7_divisor {l : Launch} (hl : l.stackTraces = false) (D : va_G) (z0 : Nat) (h : Hp) (a b : Int) (ha : 0 ≤ a ∧ a < 2147483648) (hb : 0 ≤ b ∧ b < 2147483648) : CC l yX7_divisor cX7_divisor 5 (some .int) rX7_divisor D z0 h [iv a, iv b] (PV (iv ((Int.gcd a b : Nat) : Int)) h) NX := by
  refine CC_of RX7 hl (by decide) rfl (Nat.le_of_ble_eq_true rfl) (fun K X Y Z hmn hKl => ?_)
  subst hKl
  show WW K D z0 5 h 0 0 0 [(0, iv a), (1, iv b)] []
  obtain ⟨a0, ha0⟩ := Int.eq_ofNat_of_zero_le ha.1
  obtain ⟨b0, hb0⟩ := Int.eq_ofNat_of_zero_le hb.1
  have loop : ∀ (m : Nat) (x y : Nat), Nat.gcd x y = Int.gcd a b → eu m x y → (x < 2147483648 ∧ y < 2147483648) → WW K D z0 5 h 0 0 4 [(0, iv a), (1, iv b), (2, iv (x : Int)), (3, iv (y : Int))] [] := by
    intro m
    induction m with
    | zero =>
      intro x y hG he hy
      have e0 : y = 0 := he
      refine r_iload_n 3 X dX7_divisor_4 rfl ?_
      refine r_if_le 21 X dX7_divisor_5 (by decide) ⟨by omega, by omega⟩ (fun c5 => ?_) (fun c5 => ?_)
      · refine r_iload_n 2 X dX7_divisor_21 rfl ?_
        refine r_iret X Y dX7_divisor_22 (by decide) (by decide) ?_
        exact pv_i (by have e0 : y = 0 := by omega
                       subst e0
                       rw [Nat.gcd_zero_right] at hG
                       rw [← hG])
      · exact absurd (by omega) c5
    | succ m ih =>
      intro x y hG he hy
      refine r_iload_n 3 X dX7_divisor_4 rfl ?_
      refine r_if_le 21 X dX7_divisor_5 (by decide) ⟨by omega, by omega⟩ (fun c5 => ?_) (fun c5 => ?_)
      · refine r_iload_n 2 X dX7_divisor_21 rfl ?_
        refine r_iret X Y dX7_divisor_22 (by decide) (by decide) ?_
        exact pv_i (by have e0 : y = 0 := by omega
                       subst e0
                       rw [Nat.gcd_zero_right] at hG
                       rw [← hG])
      · refine r_iload_n 2 X dX7_divisor_8 rfl ?_
        refine r_iload_n 3 X dX7_divisor_9 rfl ?_
        refine r_irem X dX7_divisor_10 ⟨by omega, by omega⟩ ⟨by omega, by omega⟩ ?_
        refine r_istore (L' := [(4, iv ((x : Int) % (y : Int))), (0, iv a), (1, iv b), (2, iv (x : Int)), (3, iv (y : Int))]) X dX7_divisor_11 (by decide) rfl ?_
        refine r_iload_n 4 X dX7_divisor_13 rfl ?_
        refine r_istore_n (L' := [(2, iv (y : Int)), (4, iv ((x : Int) % (y : Int))), (0, iv a), (1, iv b), (3, iv (y : Int))]) X dX7_divisor_14 (by decide) rfl ?_
        refine r_iload 1 X dX7_divisor_15 rfl ?_
        refine r_istore_n (L' := [(3, iv ((x : Int) % (y : Int))), (2, iv (y : Int)), (4, iv ((x : Int) % (y : Int))), (0, iv a), (1, iv b)]) X dX7_divisor_17 (by decide) rfl ?_
        refine r_goto 4 X dX7_divisor_18 (by decide) ?_
        refine WW_sub (L' := [(0, iv a), (1, iv b), (2, iv (y : Int)), (3, iv ((x : Int) % (y : Int)))]) [3, 4, 1, 0] rfl ?_
        rw [show ((x : Int) % (y : Int)) = ((x % y : Nat) : Int) from (Int.natCast_emod x y).symm]
        exact ih y (x % y) (by rw [← hG, gcd_turn x y]) (by rcases he with he | he; exact absurd he (by omega); exact he) ⟨hy.2, by have := Nat.mod_lt x (y := y) (by omega); omega⟩
  refine r_iload_n 0 X dX7_divisor_0 rfl ?_
  refine r_istore_n (L' := [(2, iv a), (0, iv a), (1, iv b)]) X dX7_divisor_1 (by decide) rfl ?_
  refine r_iload_n 2 X dX7_divisor_2 rfl ?_
  refine r_istore_n (L' := [(3, iv b), (2, iv a), (0, iv a), (1, iv b)]) X dX7_divisor_3 (by decide) rfl ?_
  refine WW_sub (L' := [(0, iv a), (1, iv b), (2, iv a), (3, iv b)]) [2, 3, 1, 0] rfl ?_
  have hlog := eu_log 31 a0 b0 (by omega)
  have hG : Nat.gcd a0 b0 = Int.gcd a b := by rw [ha0, hb0]; rfl
  have key := loop 62 a0 b0 hG hlog (by omega)
  rw [← ha0, ← hb0] at key
  exact key
