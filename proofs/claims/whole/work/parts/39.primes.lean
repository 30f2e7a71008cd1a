/-! Counting: the product over the primes -/
def dvT (p : Nat) : Nat → Nat → Nat → Nat × Nat
  | 0, t, r => (t, r)
  | m + 1, t, r => if r % p = 0 then dvT p m (t + 1) (r / p) else (t, r)
theorem dvT_s (p m t r : Nat) : dvT p (m + 1) t r = if r % p = 0 then dvT p m (t + 1) (r / p) else (t, r) := rfl
def pov (n o : Nat) : Nat → Nat → Nat → Nat → Nat
  | 0, _, d, _ => d
  | m + 1, p, d, r => if p ≤ n ∧ 1 < r then pov n o m (p + 1) (if o = 0 ∨ p % 4 = 1 then d * (2 * (dvT p 32 0 r).1 + 1) else d) (dvT p 32 0 r).2 else d
theorem pov_s (n o m p d r : Nat) : pov n o (m + 1) p d r = if p ≤ n ∧ 1 < r then pov n o m (p + 1) (if o = 0 ∨ p % 4 = 1 then d * (2 * (dvT p 32 0 r).1 + 1) else d) (dvT p 32 0 r).2 else d := rfl
theorem div_b {r p : Nat} (hp : 2 ≤ p) (hr : 1 ≤ r) (h : r % p = 0) : 1 ≤ r / p ∧ r / p ≤ r := by
  refine ⟨?_, Nat.div_le_self _ _⟩
  apply Nat.pos_of_ne_zero
  intro z
  have := Nat.div_add_mod r p
  rw [z, h, Nat.mul_zero] at this
  omega
abbrev rX0_productOverPrimes : Room := { frames := 0, cells := 0, slots := 0, locals := 0 }
theorem c_X0_productOverPrimes {l : Launch} (hl : l.stackTraces = false) (D : va_G) (z0 : Nat) (h : Hp) (n w : Nat) (hn1 : 1 ≤ n) (hn : n ≤ 1000) (hw : w ≤ 1) : CC l yX0_productOverPrimes cX0_productOverPrimes 6 (some .int) rX0_productOverPrimes D z0 h [iv (n : Int), iv (w : Int)] (PV (iv (pov n w (n - 1) 2 1 n : Int)) h) NX := by
  refine CC_of RX0 hl (by decide) rfl (Nat.le_of_ble_eq_true rfl) (fun K X Y Z hmn hKl => ?_)
  subst hKl
  show WW K D z0 6 h 0 0 0 [(0, iv (n : Int)), (1, iv (w : Int))] []
  obtain ⟨R, hR0⟩ : ∃ R, pov n w (n - 1) 2 1 n = R := ⟨_, rfl⟩
  have loop : ∀ (q p d r : Nat), p + q = n + 1 → 2 ≤ p → 1 ≤ r → r ≤ n → pov n w q p d r = R → WW K D z0 6 h 0 0 7 [(4, iv (p : Int)), (3, iv (r : Int)), (2, iv (d : Int)), (1, iv (w : Int)), (0, iv (n : Int))] [] := by
    intro q
    induction q with
    | zero =>
      intro p d r hpq hp hr hrn hR
      refine r_iload 0 X dX0_productOverPrimes_7 rfl ?_
      refine r_iload_n 4 X dX0_productOverPrimes_9 rfl ?_
      refine r_icmp_gt 73 X dX0_productOverPrimes_10 (by decide) ⟨by omega, by omega⟩ ⟨by omega, by omega⟩ (fun c10 => ?_) (fun c10 => ?_)
      · refine r_iload_n 2 X dX0_productOverPrimes_73 rfl ?_
        refine r_iret X Y dX0_productOverPrimes_74 (by decide) (by decide) ?_
        exact pv_i (by rw [hR0, show d = R from hR])
      · exfalso
        omega
    | succ q ih =>
      intro p d r hpq hp hr hrn hR
      obtain ⟨e, hE⟩ : ∃ e, dvT p 32 0 r = e := ⟨_, rfl⟩
      rw [pov_s] at hR
      have inner : ∀ (m t r1 : Nat), t + m = 32 → 1 ≤ r1 → r1 ≤ n → dvT p m t r1 = e → (p ≤ n ∧ 1 < r) → WW K D z0 6 h 0 0 21 [(5, iv (t : Int)), (4, iv (p : Int)), (3, iv (r1 : Int)), (2, iv (d : Int)), (1, iv (w : Int)), (0, iv (n : Int))] [] := by
        intro m
        induction m with
        | zero =>
          intro t r1 ht hr1 hrn1 he hg
          rw [if_pos hg] at hR
          refine r_iload 0 X dX0_productOverPrimes_21 rfl ?_
          refine r_bipush X dX0_productOverPrimes_23 (by decide) ?_
          refine r_icmp_ge 46 X dX0_productOverPrimes_25 (by decide) ⟨by omega, by omega⟩ ⟨by omega, by omega⟩ (fun c25 => ?_) (fun c25 => ?_)
          · refine r_iload_n 4 X dX0_productOverPrimes_46 rfl ?_
            refine r_if_eq 58 X dX0_productOverPrimes_47 (by decide) ⟨by omega, by omega⟩ (fun c47 => ?_) (fun c47 => ?_)
            · refine r_iload_n 3 X dX0_productOverPrimes_58 rfl ?_
              refine r_iconst X dX0_productOverPrimes_59 ?_
              refine r_iload 0 X dX0_productOverPrimes_60 rfl ?_
              refine r_imul X dX0_productOverPrimes_62 ?_
              refine r_iconst X dX0_productOverPrimes_63 ?_
              refine r_iadd X dX0_productOverPrimes_64 ?_
              refine r_imul X dX0_productOverPrimes_65 ?_
              refine r_istore_n (L' := [(2, iv ((d : Int) * ((2 * (t : Int)) + 1))), (5, iv (t : Int)), (4, iv (p : Int)), (3, iv (r1 : Int)), (1, iv (w : Int)), (0, iv (n : Int))]) X dX0_productOverPrimes_66 (by decide) rfl ?_
              refine r_iinc 2 (L' := [(4, iv ((p : Int) + 1)), (2, iv ((d : Int) * ((2 * (t : Int)) + 1))), (5, iv (t : Int)), (3, iv (r1 : Int)), (1, iv (w : Int)), (0, iv (n : Int))]) X dX0_productOverPrimes_67 rfl (by decide) rfl ?_
              refine r_goto 7 X dX0_productOverPrimes_70 (by decide) ?_
              refine WW_sub (L' := [(4, iv ((p : Int) + 1)), (3, iv (r1 : Int)), (2, iv ((d : Int) * ((2 * (t : Int)) + 1))), (1, iv (w : Int)), (0, iv (n : Int))]) [0, 3, 1, 4, 5] rfl ?_
              have he2 : (t, r1) = e := he
              rw [hE, ← he2, if_pos (by omega)] at hR
              exact ih (p + 1) (d * (2 * t + 1)) r1 (by omega) (by omega) hr1 hrn1 hR
            · refine r_iload 1 X dX0_productOverPrimes_50 rfl ?_
              refine r_iconst X dX0_productOverPrimes_52 ?_
              refine r_irem X dX0_productOverPrimes_53 ⟨by omega, by omega⟩ ⟨by omega, by omega⟩ ?_
              refine r_iconst X dX0_productOverPrimes_54 ?_
              refine r_icmp_ne 67 X dX0_productOverPrimes_55 (by decide) ⟨by omega, by omega⟩ ⟨by omega, by omega⟩ (fun c55 => ?_) (fun c55 => ?_)
              · refine r_iinc 1 (L' := [(4, iv ((p : Int) + 1)), (5, iv (t : Int)), (3, iv (r1 : Int)), (2, iv (d : Int)), (1, iv (w : Int)), (0, iv (n : Int))]) X dX0_productOverPrimes_67 rfl (by decide) rfl ?_
                refine r_goto 7 X dX0_productOverPrimes_70 (by decide) ?_
                refine WW_sub (L' := [(4, iv ((p : Int) + 1)), (3, iv (r1 : Int)), (2, iv (d : Int)), (1, iv (w : Int)), (0, iv (n : Int))]) [0, 2, 3, 4, 5] rfl ?_
                have he2 : (t, r1) = e := he
                rw [hE, ← he2, if_neg (by omega)] at hR
                exact ih (p + 1) (d) r1 (by omega) (by omega) hr1 hrn1 hR
              · refine r_iload_n 3 X dX0_productOverPrimes_58 rfl ?_
                refine r_iconst X dX0_productOverPrimes_59 ?_
                refine r_iload 0 X dX0_productOverPrimes_60 rfl ?_
                refine r_imul X dX0_productOverPrimes_62 ?_
                refine r_iconst X dX0_productOverPrimes_63 ?_
                refine r_iadd X dX0_productOverPrimes_64 ?_
                refine r_imul X dX0_productOverPrimes_65 ?_
                refine r_istore_n (L' := [(2, iv ((d : Int) * ((2 * (t : Int)) + 1))), (5, iv (t : Int)), (4, iv (p : Int)), (3, iv (r1 : Int)), (1, iv (w : Int)), (0, iv (n : Int))]) X dX0_productOverPrimes_66 (by decide) rfl ?_
                refine r_iinc 2 (L' := [(4, iv ((p : Int) + 1)), (2, iv ((d : Int) * ((2 * (t : Int)) + 1))), (5, iv (t : Int)), (3, iv (r1 : Int)), (1, iv (w : Int)), (0, iv (n : Int))]) X dX0_productOverPrimes_67 rfl (by decide) rfl ?_
                refine r_goto 7 X dX0_productOverPrimes_70 (by decide) ?_
                refine WW_sub (L' := [(4, iv ((p : Int) + 1)), (3, iv (r1 : Int)), (2, iv ((d : Int) * ((2 * (t : Int)) + 1))), (1, iv (w : Int)), (0, iv (n : Int))]) [0, 3, 1, 4, 5] rfl ?_
                have he2 : (t, r1) = e := he
                rw [hE, ← he2, if_pos (by omega)] at hR
                exact ih (p + 1) (d * (2 * t + 1)) r1 (by omega) (by omega) hr1 hrn1 hR
          · exfalso
            omega
        | succ m ihI =>
          intro t r1 ht hr1 hrn1 he hg
          rw [if_pos hg] at hR
          have hm1 := Int.emod_nonneg (r1 : Int) (show (p : Int) ≠ 0 by omega)
          have hm2 := Int.emod_lt_of_pos (r1 : Int) (show (0 : Int) < p by omega)
          refine r_iload 0 X dX0_productOverPrimes_21 rfl ?_
          refine r_bipush X dX0_productOverPrimes_23 (by decide) ?_
          refine r_icmp_ge 46 X dX0_productOverPrimes_25 (by decide) ⟨by omega, by omega⟩ ⟨by omega, by omega⟩ (fun c25 => ?_) (fun c25 => ?_)
          · exfalso
            omega
          · refine r_iload_n 2 X dX0_productOverPrimes_28 rfl ?_
            refine r_iload 1 X dX0_productOverPrimes_29 rfl ?_
            refine r_irem X dX0_productOverPrimes_31 ⟨by omega, by omega⟩ ⟨by omega, by omega⟩ ?_
            refine r_if_ne 46 X dX0_productOverPrimes_32 (by decide) ⟨by omega, by omega⟩ (fun c32 => ?_) (fun c32 => ?_)
            · refine r_iload_n 4 X dX0_productOverPrimes_46 rfl ?_
              refine r_if_eq 58 X dX0_productOverPrimes_47 (by decide) ⟨by omega, by omega⟩ (fun c47 => ?_) (fun c47 => ?_)
              · refine r_iload_n 3 X dX0_productOverPrimes_58 rfl ?_
                refine r_iconst X dX0_productOverPrimes_59 ?_
                refine r_iload 0 X dX0_productOverPrimes_60 rfl ?_
                refine r_imul X dX0_productOverPrimes_62 ?_
                refine r_iconst X dX0_productOverPrimes_63 ?_
                refine r_iadd X dX0_productOverPrimes_64 ?_
                refine r_imul X dX0_productOverPrimes_65 ?_
                refine r_istore_n (L' := [(2, iv ((d : Int) * ((2 * (t : Int)) + 1))), (5, iv (t : Int)), (4, iv (p : Int)), (3, iv (r1 : Int)), (1, iv (w : Int)), (0, iv (n : Int))]) X dX0_productOverPrimes_66 (by decide) rfl ?_
                refine r_iinc 2 (L' := [(4, iv ((p : Int) + 1)), (2, iv ((d : Int) * ((2 * (t : Int)) + 1))), (5, iv (t : Int)), (3, iv (r1 : Int)), (1, iv (w : Int)), (0, iv (n : Int))]) X dX0_productOverPrimes_67 rfl (by decide) rfl ?_
                refine r_goto 7 X dX0_productOverPrimes_70 (by decide) ?_
                refine WW_sub (L' := [(4, iv ((p : Int) + 1)), (3, iv (r1 : Int)), (2, iv ((d : Int) * ((2 * (t : Int)) + 1))), (1, iv (w : Int)), (0, iv (n : Int))]) [0, 3, 1, 4, 5] rfl ?_
                have hmz : ¬ r1 % p = 0 := fun z => c32 (by exact_mod_cast z)
                rw [dvT_s, if_neg hmz] at he
                have he2 : (t, r1) = e := he
                rw [hE, ← he2, if_pos (by omega)] at hR
                exact ih (p + 1) (d * (2 * t + 1)) r1 (by omega) (by omega) hr1 hrn1 hR
              · refine r_iload 1 X dX0_productOverPrimes_50 rfl ?_
                refine r_iconst X dX0_productOverPrimes_52 ?_
                refine r_irem X dX0_productOverPrimes_53 ⟨by omega, by omega⟩ ⟨by omega, by omega⟩ ?_
                refine r_iconst X dX0_productOverPrimes_54 ?_
                refine r_icmp_ne 67 X dX0_productOverPrimes_55 (by decide) ⟨by omega, by omega⟩ ⟨by omega, by omega⟩ (fun c55 => ?_) (fun c55 => ?_)
                · refine r_iinc 1 (L' := [(4, iv ((p : Int) + 1)), (5, iv (t : Int)), (3, iv (r1 : Int)), (2, iv (d : Int)), (1, iv (w : Int)), (0, iv (n : Int))]) X dX0_productOverPrimes_67 rfl (by decide) rfl ?_
                  refine r_goto 7 X dX0_productOverPrimes_70 (by decide) ?_
                  refine WW_sub (L' := [(4, iv ((p : Int) + 1)), (3, iv (r1 : Int)), (2, iv (d : Int)), (1, iv (w : Int)), (0, iv (n : Int))]) [0, 2, 3, 4, 5] rfl ?_
                  have hmz : ¬ r1 % p = 0 := fun z => c32 (by exact_mod_cast z)
                  rw [dvT_s, if_neg hmz] at he
                  have he2 : (t, r1) = e := he
                  rw [hE, ← he2, if_neg (by omega)] at hR
                  exact ih (p + 1) (d) r1 (by omega) (by omega) hr1 hrn1 hR
                · refine r_iload_n 3 X dX0_productOverPrimes_58 rfl ?_
                  refine r_iconst X dX0_productOverPrimes_59 ?_
                  refine r_iload 0 X dX0_productOverPrimes_60 rfl ?_
                  refine r_imul X dX0_productOverPrimes_62 ?_
                  refine r_iconst X dX0_productOverPrimes_63 ?_
                  refine r_iadd X dX0_productOverPrimes_64 ?_
                  refine r_imul X dX0_productOverPrimes_65 ?_
                  refine r_istore_n (L' := [(2, iv ((d : Int) * ((2 * (t : Int)) + 1))), (5, iv (t : Int)), (4, iv (p : Int)), (3, iv (r1 : Int)), (1, iv (w : Int)), (0, iv (n : Int))]) X dX0_productOverPrimes_66 (by decide) rfl ?_
                  refine r_iinc 2 (L' := [(4, iv ((p : Int) + 1)), (2, iv ((d : Int) * ((2 * (t : Int)) + 1))), (5, iv (t : Int)), (3, iv (r1 : Int)), (1, iv (w : Int)), (0, iv (n : Int))]) X dX0_productOverPrimes_67 rfl (by decide) rfl ?_
                  refine r_goto 7 X dX0_productOverPrimes_70 (by decide) ?_
                  refine WW_sub (L' := [(4, iv ((p : Int) + 1)), (3, iv (r1 : Int)), (2, iv ((d : Int) * ((2 * (t : Int)) + 1))), (1, iv (w : Int)), (0, iv (n : Int))]) [0, 3, 1, 4, 5] rfl ?_
                  have hmz : ¬ r1 % p = 0 := fun z => c32 (by exact_mod_cast z)
                  rw [dvT_s, if_neg hmz] at he
                  have he2 : (t, r1) = e := he
                  rw [hE, ← he2, if_pos (by omega)] at hR
                  exact ih (p + 1) (d * (2 * t + 1)) r1 (by omega) (by omega) hr1 hrn1 hR
            · refine r_iload_n 2 X dX0_productOverPrimes_35 rfl ?_
              refine r_iload 1 X dX0_productOverPrimes_36 rfl ?_
              refine r_idiv X dX0_productOverPrimes_38 ⟨by omega, by omega⟩ ⟨by omega, by omega⟩ ?_
              refine r_istore_n (L' := [(3, iv ((r1 : Int) / (p : Int))), (5, iv (t : Int)), (4, iv (p : Int)), (2, iv (d : Int)), (1, iv (w : Int)), (0, iv (n : Int))]) X dX0_productOverPrimes_39 (by decide) rfl ?_
              refine r_iinc 1 (L' := [(5, iv ((t : Int) + 1)), (3, iv ((r1 : Int) / (p : Int))), (4, iv (p : Int)), (2, iv (d : Int)), (1, iv (w : Int)), (0, iv (n : Int))]) X dX0_productOverPrimes_40 rfl (by decide) rfl ?_
              refine r_goto 21 X dX0_productOverPrimes_43 (by decide) ?_
              refine WW_sub (L' := [(5, iv ((t : Int) + 1)), (4, iv (p : Int)), (3, iv ((r1 : Int) / (p : Int))), (2, iv (d : Int)), (1, iv (w : Int)), (0, iv (n : Int))]) [0, 2, 1, 3, 4, 5] rfl ?_
              have hmz : r1 % p = 0 := by exact_mod_cast c32
              have hdb := div_b hp hr1 hmz
              rw [dvT_s, if_pos hmz] at he
              exact ihI (t + 1) (r1 / p) (by omega) hdb.1 (by omega) he hg
      refine r_iload 0 X dX0_productOverPrimes_7 rfl ?_
      refine r_iload_n 4 X dX0_productOverPrimes_9 rfl ?_
      refine r_icmp_gt 73 X dX0_productOverPrimes_10 (by decide) ⟨by omega, by omega⟩ ⟨by omega, by omega⟩ (fun c10 => ?_) (fun c10 => ?_)
      · exfalso
        omega
      · refine r_iload_n 1 X dX0_productOverPrimes_13 rfl ?_
        refine r_iconst X dX0_productOverPrimes_14 ?_
        refine r_icmp_le 73 X dX0_productOverPrimes_15 (by decide) ⟨by omega, by omega⟩ ⟨by omega, by omega⟩ (fun c15 => ?_) (fun c15 => ?_)
        · refine r_iload_n 2 X dX0_productOverPrimes_73 rfl ?_
          refine r_iret X Y dX0_productOverPrimes_74 (by decide) (by decide) ?_
          rw [if_neg (by omega)] at hR
          exact pv_i (by rw [hR0, hR])
        · refine r_iconst X dX0_productOverPrimes_18 ?_
          refine r_istore (L' := [(5, iv 0), (4, iv (p : Int)), (3, iv (r : Int)), (2, iv (d : Int)), (1, iv (w : Int)), (0, iv (n : Int))]) X dX0_productOverPrimes_19 (by decide) rfl ?_
          exact inner 32 0 r rfl hr hrn hE ⟨by omega, by omega⟩
  refine r_iconst X dX0_productOverPrimes_0 ?_
  refine r_istore_n (L' := [(2, iv 1), (0, iv (n : Int)), (1, iv (w : Int))]) X dX0_productOverPrimes_1 (by decide) rfl ?_
  refine r_iload_n 1 X dX0_productOverPrimes_2 rfl ?_
  refine r_istore_n (L' := [(3, iv (n : Int)), (2, iv 1), (0, iv (n : Int)), (1, iv (w : Int))]) X dX0_productOverPrimes_3 (by decide) rfl ?_
  refine r_iconst X dX0_productOverPrimes_4 ?_
  refine r_istore (L' := [(4, iv 2), (3, iv (n : Int)), (2, iv 1), (0, iv (n : Int)), (1, iv (w : Int))]) X dX0_productOverPrimes_5 (by decide) rfl ?_
  refine WW_sub (L' := [(4, iv 2), (3, iv (n : Int)), (2, iv 1), (1, iv (w : Int)), (0, iv (n : Int))]) [0, 1, 2, 4, 3] rfl ?_
  exact loop (n - 1) 2 1 n (by omega) (by omega) hn1 (Nat.le_refl _) hR0
