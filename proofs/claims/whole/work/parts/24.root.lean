/-! the double that is nearest to a root -/
def rs (N : Nat) : Int := ((N - isq N * isq N : Nat) : Int)
theorem rs_b (N : Nat) : 0 ≤ rs N ∧ rs N ≤ 2 * (isq N : Int) := by
  obtain ⟨h1, h2⟩ := isq_spec N
  simp only [Nat.mul_add, Nat.add_mul, Nat.mul_one, Nat.one_mul] at h2
  unfold rs
  omega
theorem isq_step (N d : Nat) (hd : d ≤ 3) : (4 * rs N + (d : Int) ≤ 2 * (2 * (isq N : Int)) → isq (4 * N + d) = 2 * isq N ∧ rs (4 * N + d) = 4 * rs N + (d : Int)) ∧ (¬ 4 * rs N + (d : Int) ≤ 2 * (2 * (isq N : Int)) → isq (4 * N + d) = 2 * isq N + 1 ∧ rs (4 * N + d) = 4 * rs N + (d : Int) - (2 * (2 * (isq N : Int)) + 1)) := by
  obtain ⟨h1, h2⟩ := isq_spec N
  simp only [Nat.mul_add, Nat.add_mul, Nat.mul_one, Nat.one_mul] at h2
  have e0 : 2 * isq N * (2 * isq N) = 4 * (isq N * isq N) := by rw [Nat.mul_mul_mul_comm]
  have e1 : (2 * isq N + 1) * (2 * isq N + 1) = 4 * (isq N * isq N) + 4 * isq N + 1 := by
    simp only [Nat.mul_add, Nat.add_mul, Nat.mul_one, Nat.one_mul, e0]
    omega
  have e2 : (2 * isq N + 1 + 1) * (2 * isq N + 1 + 1) = 4 * (isq N * isq N) + 8 * isq N + 4 := by
    simp only [Nat.mul_add, Nat.add_mul, Nat.mul_one, Nat.one_mul, e0]
    omega
  have hr : rs N = ((N - isq N * isq N : Nat) : Int) := rfl
  constructor
  · intro z
    have e : isq (4 * N + d) = 2 * isq N := isq_unique (by rw [e0]; omega) (by rw [e1]; omega)
    refine ⟨e, ?_⟩
    unfold rs
    rw [e, e0]
    omega
  · intro z
    have e : isq (4 * N + d) = 2 * isq N + 1 := isq_unique (by rw [e1]; omega) (by rw [e2]; omega)
    refine ⟨e, ?_⟩
    unfold rs
    rw [e, e1]
    omega
theorem le_isq {a N : Nat} (h : a * a ≤ N) : a ≤ isq N := by
  apply Nat.not_lt.mp
  intro z
  have := Nat.mul_self_le_mul_self (show isq N + 1 ≤ a from z)
  have := (isq_spec N).2
  omega
theorem isq_lt {a N : Nat} (h : N < a * a) : isq N < a := by
  apply Nat.not_le.mp
  intro z
  have := Nat.mul_self_le_mul_self z
  have := (isq_spec N).1
  omega
theorem pow4 (p : Nat) : 2 ^ (2 * p) = 4 ^ p := by rw [Nat.pow_mul]
theorem four_j (n j : Nat) : 4 * (n * 4 ^ j) + 0 = n * 4 ^ (j + 1) := by rw [Nat.add_zero, Nat.pow_succ, Nat.mul_comm (4 ^ j) 4, Nat.mul_left_comm]
theorem pow22 (j : Nat) : 2 ^ j * 2 ^ j = 4 ^ j := by rw [← Nat.pow_add, ← pow4, show j + j = 2 * j by omega]
/-- the root of n, from so many digits behind the point on -/
def dRf (n : Nat) : Nat → Nat → UInt64
  | 0, _ => FP.dconst0
  | m + 1, j => if 9007199254740992 ≤ isq (n * 4 ^ j) then dI ((isq (n * 4 ^ j) + 1) / 2) (-((j - 1 : Nat) : Int)) else dRf n m (j + 1)
def dR (n : Nat) : UInt64 := dRf n 63 0
theorem dRf_s (n m j : Nat) : dRf n (m + 1) j = if 9007199254740992 ≤ isq (n * 4 ^ j) then dI ((isq (n * 4 ^ j) + 1) / 2) (-((j - 1 : Nat) : Int)) else dRf n m (j + 1) := rfl
theorem big_j {n j : Nat} (h : 1 ≤ n) : 2 ^ j ≤ isq (n * 4 ^ j) := le_isq (by rw [pow22]; exact Nat.le_mul_of_pos_left _ h)
theorem j_le {n j : Nat} (h : 1 ≤ n) (h2 : isq (n * 4 ^ j) < 18014398509481984) : j ≤ 53 := by
  have := big_j (j := j) h
  apply Nat.not_lt.mp
  intro z
  have h3 : 2 ^ 54 ≤ 2 ^ j := Nat.pow_le_pow_right (by decide) z
  rw [show (2 ^ 54 : Nat) = 18014398509481984 from by decide +kernel] at h3
  omega
abbrev rX1_nearestRoot : Room := { frames := 0, cells := 0, slots := 0, locals := 0 }
theorem WW_L {K : KT} {D : va_G} {z0 nL : Nat} {h : Hp} {kc ks pc : Nat} {L L' : List (Nat × Value)} {st : List Value} (e : L = L') (k : WW K D z0 nL h kc ks pc L' st) : WW K D z0 nL h kc ks pc L st := e ▸ k
theorem div4 (n p : Nat) : n / 4 ^ p = 4 * (n / 4 ^ (p + 1)) + n / 4 ^ p % 4 := by
  rw [Nat.pow_succ, ← Nat.div_div_eq_div_mul]
  omega
theorem c_X1_nearestRoot {l : Launch} (hl : l.stackTraces = false) (D : va_G) (z0 : Nat) (h : Hp) (n : Nat) (hn : n < 17179869184) : CC l yX1_nearestRoot cX1_nearestRoot 8 (some .double) rX1_nearestRoot D z0 h [jv (n : Int)] (PV (.double (dR n)) h) NX := by
  refine CC_of RX1 hl (by decide) rfl (Nat.le_of_ble_eq_true rfl) (fun K X Y Z hmn hKl => ?_)
  subst hKl
  show WW K D z0 8 h 0 0 0 [(0, jv (n : Int))] []
  have loopB : ∀ (m j : Nat), j + m = 63 → isq (n * 4 ^ j) < 18014398509481984 → dRf n m j = dR n → WW K D z0 8 h 0 0 12 [(7, iv (-1 - (j : Int))), (6, iv (j : Int)), (4, jv (rs (n * 4 ^ j))), (2, jv ((isq (n * 4 ^ j) : Nat) : Int)), (0, jv (n : Int))] [] := by
    intro m
    induction m with
    | zero =>
      intro j hj hb he
      have hj6 : j = 63 := hj
      subst hj6
      have hn0 : n = 0 := by
        apply Decidable.byContradiction
        intro z
        have := j_le (show 1 ≤ n by omega) hb
        omega
      have hi0 : isq (n * 4 ^ 63) = 0 := by rw [hn0, Nat.zero_mul]; rfl
      refine r_iload 0 X dX1_nearestRoot_12 rfl ?_
      refine r_bipush X dX1_nearestRoot_14 (by decide) ?_
      refine r_icmp_le 110 X dX1_nearestRoot_16 (by decide) ⟨by omega, by omega⟩ ⟨by omega, by omega⟩ (fun c16 => ?_) (fun c16 => ?_)
      · refine r_lload_n 3 X dX1_nearestRoot_110 rfl ?_
        refine r_lconst 0 X dX1_nearestRoot_111 (by decide) ?_
        refine r_lcmp_ne 118 X dX1_nearestRoot_112 dX1_nearestRoot_113 (by decide) ⟨by omega, by omega⟩ ⟨by omega, by omega⟩ (fun c112 => ?_) (fun c112 => ?_)
        · exfalso
          omega
        · refine r_dconst0 X dX1_nearestRoot_116 ?_
          refine r_dret X Y dX1_nearestRoot_117 (by decide) (by decide) ?_
          exact pv (congrArg Value.double (by rw [← he]; rfl))
      · exfalso
        omega
    | succ m ih =>
      intro j hj hb he
      have hrb := rs_b (n * 4 ^ j)
      have hst := isq_step (n * 4 ^ j) 0 (by decide)
      rw [show 4 * (n * 4 ^ j) + 0 = n * 4 ^ (j + 1) from four_j n j] at hst
      refine r_iload 0 X dX1_nearestRoot_12 rfl ?_
      refine r_bipush X dX1_nearestRoot_14 (by decide) ?_
      refine r_icmp_le 110 X dX1_nearestRoot_16 (by decide) ⟨by omega, by omega⟩ ⟨by omega, by omega⟩ (fun c16 => ?_) (fun c16 => ?_)
      · exfalso
        omega
      · refine r_lload_n 3 X dX1_nearestRoot_19 rfl ?_
        refine r_bipush X dX1_nearestRoot_20 (by decide) ?_
        refine r_lshr X dX1_nearestRoot_22 53 9007199254740992 (by decide) (by decide) (by decide) ⟨by omega, by omega⟩ ?_
        refine r_lconst 0 X dX1_nearestRoot_23 (by decide) ?_
        refine r_lcmp_ne 110 X dX1_nearestRoot_24 dX1_nearestRoot_25 (by decide) ⟨by omega, by omega⟩ ⟨by omega, by omega⟩ (fun c24 => ?_) (fun c24 => ?_)
        · have hq : 9007199254740992 ≤ isq (n * 4 ^ j) := by omega
          have hn1 : 1 ≤ n := by
            apply Nat.pos_of_ne_zero
            intro z
            rw [z, Nat.zero_mul] at hq
            rw [show isq 0 = 0 from rfl] at hq
            omega
          have hj53 := j_le hn1 hb
          have hj1 : 1 ≤ j := by
            apply Nat.pos_of_ne_zero
            intro z
            rw [z, Nat.pow_zero, Nat.mul_one] at hq
            have := isq_lt (a := 131072) (N := n) (by omega)
            omega
          have hX : (isq (n * 4 ^ j) + 1) / 2 ≤ 9007199254740992 := by omega
          have hX1 : nOk ((isq (n * 4 ^ j) + 1) / 2) := ⟨by omega, hX⟩
          have hXf := nOk_f hX1
          have hX2 : qOk (-((j - 1 : Nat) : Int) + nq ((isq (n * 4 ^ j) + 1) / 2)) := ⟨by omega, by omega⟩
          have hY : 2 ^ (j - 1) ≤ 9007199254740992 := by
            have := Nat.pow_le_pow_right (show 0 < 2 by decide) (show j - 1 ≤ 53 by omega)
            rw [show (2 ^ 53 : Nat) = 9007199254740992 from by decide +kernel] at this
            exact this
          have hD := ddiv_of (n := (isq (n * 4 ^ j) + 1) / 2) (k := j - 1) (e := 0) (Or.inr ⟨hX1, ⟨by omega, by omega⟩, ⟨by omega, by omega⟩⟩) (by omega)
          have hRt := dRf_s n m j
          rw [if_pos hq] at hRt
          refine r_lload_n 3 X dX1_nearestRoot_110 rfl ?_
          refine r_lconst 0 X dX1_nearestRoot_111 (by decide) ?_
          refine r_lcmp_ne 118 X dX1_nearestRoot_112 dX1_nearestRoot_113 (by decide) ⟨by omega, by omega⟩ ⟨by omega, by omega⟩ (fun c112 => ?_) (fun c112 => ?_)
          · refine r_lload_n 3 X dX1_nearestRoot_118 rfl ?_
            refine r_lconst 1 X dX1_nearestRoot_119 (by decide) ?_
            refine r_ladd X dX1_nearestRoot_120 ?_
            refine r_iconst X dX1_nearestRoot_121 ?_
            refine r_lshr X dX1_nearestRoot_122 1 2 (by decide) (by decide) (by decide) ⟨by omega, by omega⟩ ?_
            refine r_l2d X dX1_nearestRoot_123 ?_
            refine r_lconst 1 X dX1_nearestRoot_124 (by decide) ?_
            refine r_iload 1 X dX1_nearestRoot_125 rfl ?_
            refine r_iconst X dX1_nearestRoot_127 ?_
            refine r_isub X dX1_nearestRoot_128 ?_
            refine r_lshl X dX1_nearestRoot_129 (j - 1) ((2 ^ (j - 1) : Nat) : Int) (by omega) rfl (by omega) ?_
            refine r_l2d X dX1_nearestRoot_130 ?_
            refine r_ddiv (dI ((isq (n * 4 ^ j) + 1) / 2) (-((j - 1 : Nat) : Int))) X dX1_nearestRoot_131 (by rw [show ((((isq (n * 4 ^ j) : Nat) : Int) + 1) / 2) = (((isq (n * 4 ^ j) + 1) / 2 : Nat) : Int) by omega, l2d_of hX, show (1 * ((2 ^ (j - 1) : Nat) : Int)) = ((2 ^ (j - 1) : Nat) : Int) by omega, l2d_of hY, hD]; exact congrArg _ (by omega)) (dI_nn (Or.inr ⟨hX1, hX2⟩)) ?_
            refine r_dret X Y dX1_nearestRoot_132 (by decide) (by decide) ?_
            exact pv (congrArg Value.double (by rw [← he, hRt]))
          · exfalso
            omega
        · refine r_ldc2 4 X dX1_nearestRoot_28 nX1_17 (by decide) ?_
          refine r_lload 2 X dX1_nearestRoot_31 rfl ?_
          refine r_lmul X dX1_nearestRoot_33 ?_
          refine r_iload 0 X dX1_nearestRoot_34 rfl ?_
          refine r_if_ge 43 X dX1_nearestRoot_36 (by decide) ⟨by omega, by omega⟩ (fun c36 => ?_) (fun c36 => ?_)
          · exfalso
            omega
          · refine r_lconst 0 X dX1_nearestRoot_39 (by decide) ?_
            refine r_goto 53 X dX1_nearestRoot_40 (by decide) ?_
            refine r_ladd X dX1_nearestRoot_53 ?_
            refine r_lstore (L' := [(4, jv ((4 * (rs (n * 4 ^ j))) + 0)), (7, iv (-1 - (j : Int))), (6, iv (j : Int)), (2, jv ((isq (n * 4 ^ j) : Nat) : Int)), (0, jv (n : Int))]) X dX1_nearestRoot_54 (by decide) rfl ?_
            refine r_ldc2 2 X dX1_nearestRoot_56 nX1_21 (by decide) ?_
            refine r_lload_n 3 X dX1_nearestRoot_59 rfl ?_
            refine r_lmul X dX1_nearestRoot_60 ?_
            refine r_lstore_n (L' := [(2, jv (2 * ((isq (n * 4 ^ j) : Nat) : Int))), (4, jv ((4 * (rs (n * 4 ^ j))) + 0)), (7, iv (-1 - (j : Int))), (6, iv (j : Int)), (0, jv (n : Int))]) X dX1_nearestRoot_61 (by decide) rfl ?_
            refine r_lload 1 X dX1_nearestRoot_62 rfl ?_
            refine r_ldc2 2 X dX1_nearestRoot_64 nX1_21 (by decide) ?_
            refine r_lload_n 0 X dX1_nearestRoot_67 rfl ?_
            refine r_lmul X dX1_nearestRoot_68 ?_
            refine r_lcmp_le 89 X dX1_nearestRoot_69 dX1_nearestRoot_70 (by decide) ⟨by omega, by omega⟩ ⟨by omega, by omega⟩ (fun c69 => ?_) (fun c69 => ?_)
            · refine r_iload 3 X dX1_nearestRoot_89 rfl ?_
              refine r_iload 2 X dX1_nearestRoot_91 rfl ?_
              refine r_if_ge 100 X dX1_nearestRoot_93 (by decide) ⟨by omega, by omega⟩ (fun c93 => ?_) (fun c93 => ?_)
              · exfalso
                omega
              · refine r_iconst X dX1_nearestRoot_96 ?_
                refine r_goto 101 X dX1_nearestRoot_97 (by decide) ?_
                refine r_iadd X dX1_nearestRoot_101 ?_
                refine r_istore (L' := [(6, iv ((j : Int) + 1)), (2, jv (2 * ((isq (n * 4 ^ j) : Nat) : Int))), (4, jv ((4 * (rs (n * 4 ^ j))) + 0)), (7, iv (-1 - (j : Int))), (0, jv (n : Int))]) X dX1_nearestRoot_102 (by decide) rfl ?_
                refine r_iinc 3 (L' := [(7, iv (-1 - (j : Int) + (-1))), (6, iv ((j : Int) + 1)), (2, jv (2 * ((isq (n * 4 ^ j) : Nat) : Int))), (4, jv ((4 * (rs (n * 4 ^ j))) + 0)), (0, jv (n : Int))]) X dX1_nearestRoot_104 rfl (by decide) rfl ?_
                refine r_goto 12 X dX1_nearestRoot_107 (by decide) ?_
                refine WW_sub (L' := [(7, iv (-1 - (j : Int) + (-1))), (6, iv ((j : Int) + 1)), (4, jv ((4 * (rs (n * 4 ^ j))) + 0)), (2, jv (2 * ((isq (n * 4 ^ j) : Nat) : Int))), (0, jv (n : Int))]) [0, 1, 3, 2, 4] rfl ?_
                refine WW_L (L' := [(7, iv (-1 - ((j + 1 : Nat) : Int))), (6, iv ((j + 1 : Nat) : Int)), (4, jv (rs (n * 4 ^ (j + 1)))), (2, jv ((isq (n * 4 ^ (j + 1)) : Nat) : Int)), (0, jv (n : Int))]) ?_ ?_
                · rw [show (4 * (rs (n * 4 ^ j))) + 0 = rs (n * 4 ^ (j + 1)) by omega, show 2 * ((isq (n * 4 ^ j) : Nat) : Int) = ((isq (n * 4 ^ (j + 1)) : Nat) : Int) by omega, show -1 - (j : Int) + (-1) = -1 - ((j + 1 : Nat) : Int) by omega, show (j : Int) + 1 = ((j + 1 : Nat) : Int) by omega]
                · exact ih (j + 1) (by omega) (by omega) (by rw [← he, dRf_s, if_neg (by omega)])
            · refine r_lload 1 X dX1_nearestRoot_73 rfl ?_
              refine r_ldc2 2 X dX1_nearestRoot_75 nX1_21 (by decide) ?_
              refine r_lload_n 0 X dX1_nearestRoot_78 rfl ?_
              refine r_lmul X dX1_nearestRoot_79 ?_
              refine r_lconst 1 X dX1_nearestRoot_80 (by decide) ?_
              refine r_ladd X dX1_nearestRoot_81 ?_
              refine r_lsub X dX1_nearestRoot_82 ?_
              refine r_lstore (L' := [(4, jv (((4 * (rs (n * 4 ^ j))) + 0) - ((2 * (2 * ((isq (n * 4 ^ j) : Nat) : Int))) + 1))), (2, jv (2 * ((isq (n * 4 ^ j) : Nat) : Int))), (7, iv (-1 - (j : Int))), (6, iv (j : Int)), (0, jv (n : Int))]) X dX1_nearestRoot_83 (by decide) rfl ?_
              refine r_lload_n 1 X dX1_nearestRoot_85 rfl ?_
              refine r_lconst 1 X dX1_nearestRoot_86 (by decide) ?_
              refine r_ladd X dX1_nearestRoot_87 ?_
              refine r_lstore_n (L' := [(2, jv ((2 * ((isq (n * 4 ^ j) : Nat) : Int)) + 1)), (4, jv (((4 * (rs (n * 4 ^ j))) + 0) - ((2 * (2 * ((isq (n * 4 ^ j) : Nat) : Int))) + 1))), (7, iv (-1 - (j : Int))), (6, iv (j : Int)), (0, jv (n : Int))]) X dX1_nearestRoot_88 (by decide) rfl ?_
              refine r_iload 3 X dX1_nearestRoot_89 rfl ?_
              refine r_iload 2 X dX1_nearestRoot_91 rfl ?_
              refine r_if_ge 100 X dX1_nearestRoot_93 (by decide) ⟨by omega, by omega⟩ (fun c93 => ?_) (fun c93 => ?_)
              · exfalso
                omega
              · refine r_iconst X dX1_nearestRoot_96 ?_
                refine r_goto 101 X dX1_nearestRoot_97 (by decide) ?_
                refine r_iadd X dX1_nearestRoot_101 ?_
                refine r_istore (L' := [(6, iv ((j : Int) + 1)), (2, jv ((2 * ((isq (n * 4 ^ j) : Nat) : Int)) + 1)), (4, jv (((4 * (rs (n * 4 ^ j))) + 0) - ((2 * (2 * ((isq (n * 4 ^ j) : Nat) : Int))) + 1))), (7, iv (-1 - (j : Int))), (0, jv (n : Int))]) X dX1_nearestRoot_102 (by decide) rfl ?_
                refine r_iinc 3 (L' := [(7, iv (-1 - (j : Int) + (-1))), (6, iv ((j : Int) + 1)), (2, jv ((2 * ((isq (n * 4 ^ j) : Nat) : Int)) + 1)), (4, jv (((4 * (rs (n * 4 ^ j))) + 0) - ((2 * (2 * ((isq (n * 4 ^ j) : Nat) : Int))) + 1))), (0, jv (n : Int))]) X dX1_nearestRoot_104 rfl (by decide) rfl ?_
                refine r_goto 12 X dX1_nearestRoot_107 (by decide) ?_
                refine WW_sub (L' := [(7, iv (-1 - (j : Int) + (-1))), (6, iv ((j : Int) + 1)), (4, jv (((4 * (rs (n * 4 ^ j))) + 0) - ((2 * (2 * ((isq (n * 4 ^ j) : Nat) : Int))) + 1))), (2, jv ((2 * ((isq (n * 4 ^ j) : Nat) : Int)) + 1)), (0, jv (n : Int))]) [0, 1, 3, 2, 4] rfl ?_
                refine WW_L (L' := [(7, iv (-1 - ((j + 1 : Nat) : Int))), (6, iv ((j + 1 : Nat) : Int)), (4, jv (rs (n * 4 ^ (j + 1)))), (2, jv ((isq (n * 4 ^ (j + 1)) : Nat) : Int)), (0, jv (n : Int))]) ?_ ?_
                · rw [show ((4 * (rs (n * 4 ^ j))) + 0) - ((2 * (2 * ((isq (n * 4 ^ j) : Nat) : Int))) + 1) = rs (n * 4 ^ (j + 1)) by omega, show (2 * ((isq (n * 4 ^ j) : Nat) : Int)) + 1 = ((isq (n * 4 ^ (j + 1)) : Nat) : Int) by omega, show -1 - (j : Int) + (-1) = -1 - ((j + 1 : Nat) : Int) by omega, show (j : Int) + 1 = ((j + 1 : Nat) : Int) by omega]
                · exact ih (j + 1) (by omega) (by omega) (by rw [← he, dRf_s, if_neg (by omega)])
  have loopA : ∀ p : Nat, p ≤ 17 → WW K D z0 8 h 0 0 12 [(7, iv (((p : Nat) : Int) - 1)), (6, iv 0), (4, jv (rs (n / 4 ^ p))), (2, jv ((isq (n / 4 ^ p) : Nat) : Int)), (0, jv (n : Int))] [] := by
    intro p
    induction p with
    | zero =>
      intro hp
      refine WW_L (L' := [(7, iv (-1 - ((0 : Nat) : Int))), (6, iv ((0 : Nat) : Int)), (4, jv (rs (n * 4 ^ 0))), (2, jv ((isq (n * 4 ^ 0) : Nat) : Int)), (0, jv (n : Int))]) ?_ (loopB 63 0 rfl ?_ rfl)
      · rw [Nat.pow_zero, Nat.div_one, Nat.mul_one]; rfl
      · have := isq_lt (a := 131072) (N := n) (by omega)
        rw [Nat.pow_zero, Nat.mul_one]
        omega
    | succ p ih =>
      intro hp
      have hrb := rs_b (n / 4 ^ (p + 1))
      have hst := isq_step (n / 4 ^ (p + 1)) (n / 4 ^ p % 4) (by omega)
      rw [← div4 n p] at hst
      have hsm : isq (n / 4 ^ (p + 1)) < 131072 := isq_lt (by have := Nat.div_le_self n (4 ^ (p + 1)); omega)
      have hpp : ((4 ^ p : Nat) : Int) = ((4 ^ p : Nat) : Int) := rfl
      refine r_iload 0 X dX1_nearestRoot_12 rfl ?_
      refine r_bipush X dX1_nearestRoot_14 (by decide) ?_
      refine r_icmp_le 110 X dX1_nearestRoot_16 (by decide) ⟨by omega, by omega⟩ ⟨by omega, by omega⟩ (fun c16 => ?_) (fun c16 => ?_)
      · exfalso
        omega
      · refine r_lload_n 3 X dX1_nearestRoot_19 rfl ?_
        refine r_bipush X dX1_nearestRoot_20 (by decide) ?_
        refine r_lshr X dX1_nearestRoot_22 53 9007199254740992 (by decide) (by decide) (by decide) ⟨by omega, by omega⟩ ?_
        refine r_lconst 0 X dX1_nearestRoot_23 (by decide) ?_
        refine r_lcmp_ne 110 X dX1_nearestRoot_24 dX1_nearestRoot_25 (by decide) ⟨by omega, by omega⟩ ⟨by omega, by omega⟩ (fun c24 => ?_) (fun c24 => ?_)
        · exfalso
          omega
        · refine r_ldc2 4 X dX1_nearestRoot_28 nX1_17 (by decide) ?_
          refine r_lload 2 X dX1_nearestRoot_31 rfl ?_
          refine r_lmul X dX1_nearestRoot_33 ?_
          refine r_iload 0 X dX1_nearestRoot_34 rfl ?_
          refine r_if_ge 43 X dX1_nearestRoot_36 (by decide) ⟨by omega, by omega⟩ (fun c36 => ?_) (fun c36 => ?_)
          · refine r_lload_n 4 X dX1_nearestRoot_43 rfl ?_
            refine r_iconst X dX1_nearestRoot_44 ?_
            refine r_iload 0 X dX1_nearestRoot_45 rfl ?_
            refine r_imul X dX1_nearestRoot_47 ?_
            refine r_lshr X dX1_nearestRoot_48 (2 * p) ((4 ^ p : Nat) : Int) (by omega) (by rw [pow4]) (by omega) ⟨by omega, by omega⟩ ?_
            refine r_ldc2 3 X dX1_nearestRoot_49 nX1_19 (by decide) ?_
            refine r_land X dX1_nearestRoot_52 2 4 (by decide) (by decide) (by decide) ?_
            refine WW_e (congrArg (fun z => jv z :: [jv (4 * (rs (n / 4 ^ (p + 1))))]) (show ((n : Int) / ((4 ^ p : Nat) : Int)) % 4 = ((n / 4 ^ p % 4 : Nat) : Int) from rfl)) ?_
            show WW K D z0 8 h 0 0 53 [(7, iv (((p + 1 : Nat) : Int) - 1)), (6, iv 0), (4, jv (rs (n / 4 ^ (p + 1)))), (2, jv ((isq (n / 4 ^ (p + 1)) : Nat) : Int)), (0, jv (n : Int))] [jv ((n / 4 ^ p % 4 : Nat) : Int), jv (4 * (rs (n / 4 ^ (p + 1))))]
            refine r_ladd X dX1_nearestRoot_53 ?_
            refine r_lstore (L' := [(4, jv ((4 * (rs (n / 4 ^ (p + 1)))) + ((n / 4 ^ p % 4 : Nat) : Int))), (7, iv (((p + 1 : Nat) : Int) - 1)), (6, iv 0), (2, jv ((isq (n / 4 ^ (p + 1)) : Nat) : Int)), (0, jv (n : Int))]) X dX1_nearestRoot_54 (by decide) rfl ?_
            refine r_ldc2 2 X dX1_nearestRoot_56 nX1_21 (by decide) ?_
            refine r_lload_n 3 X dX1_nearestRoot_59 rfl ?_
            refine r_lmul X dX1_nearestRoot_60 ?_
            refine r_lstore_n (L' := [(2, jv (2 * ((isq (n / 4 ^ (p + 1)) : Nat) : Int))), (4, jv ((4 * (rs (n / 4 ^ (p + 1)))) + ((n / 4 ^ p % 4 : Nat) : Int))), (7, iv (((p + 1 : Nat) : Int) - 1)), (6, iv 0), (0, jv (n : Int))]) X dX1_nearestRoot_61 (by decide) rfl ?_
            refine r_lload 1 X dX1_nearestRoot_62 rfl ?_
            refine r_ldc2 2 X dX1_nearestRoot_64 nX1_21 (by decide) ?_
            refine r_lload_n 0 X dX1_nearestRoot_67 rfl ?_
            refine r_lmul X dX1_nearestRoot_68 ?_
            refine r_lcmp_le 89 X dX1_nearestRoot_69 dX1_nearestRoot_70 (by decide) ⟨by omega, by omega⟩ ⟨by omega, by omega⟩ (fun c69 => ?_) (fun c69 => ?_)
            · refine r_iload 3 X dX1_nearestRoot_89 rfl ?_
              refine r_iload 2 X dX1_nearestRoot_91 rfl ?_
              refine r_if_ge 100 X dX1_nearestRoot_93 (by decide) ⟨by omega, by omega⟩ (fun c93 => ?_) (fun c93 => ?_)
              · refine r_iconst X dX1_nearestRoot_100 ?_
                refine r_iadd X dX1_nearestRoot_101 ?_
                refine r_istore (L' := [(6, iv (0 + 0)), (2, jv (2 * ((isq (n / 4 ^ (p + 1)) : Nat) : Int))), (4, jv ((4 * (rs (n / 4 ^ (p + 1)))) + ((n / 4 ^ p % 4 : Nat) : Int))), (7, iv (((p + 1 : Nat) : Int) - 1)), (0, jv (n : Int))]) X dX1_nearestRoot_102 (by decide) rfl ?_
                refine r_iinc 3 (L' := [(7, iv (((p + 1 : Nat) : Int) - 1 + (-1))), (6, iv (0 + 0)), (2, jv (2 * ((isq (n / 4 ^ (p + 1)) : Nat) : Int))), (4, jv ((4 * (rs (n / 4 ^ (p + 1)))) + ((n / 4 ^ p % 4 : Nat) : Int))), (0, jv (n : Int))]) X dX1_nearestRoot_104 rfl (by decide) rfl ?_
                refine r_goto 12 X dX1_nearestRoot_107 (by decide) ?_
                refine WW_sub (L' := [(7, iv (((p + 1 : Nat) : Int) - 1 + (-1))), (6, iv (0 + 0)), (4, jv ((4 * (rs (n / 4 ^ (p + 1)))) + ((n / 4 ^ p % 4 : Nat) : Int))), (2, jv (2 * ((isq (n / 4 ^ (p + 1)) : Nat) : Int))), (0, jv (n : Int))]) [0, 1, 3, 2, 4] rfl ?_
                refine WW_L (L' := [(7, iv (((p : Nat) : Int) - 1)), (6, iv 0), (4, jv (rs (n / 4 ^ p))), (2, jv ((isq (n / 4 ^ p) : Nat) : Int)), (0, jv (n : Int))]) ?_ ?_
                · rw [show (4 * (rs (n / 4 ^ (p + 1)))) + ((n / 4 ^ p % 4 : Nat) : Int) = rs (n / 4 ^ p) by omega, show 2 * ((isq (n / 4 ^ (p + 1)) : Nat) : Int) = ((isq (n / 4 ^ p) : Nat) : Int) by omega, show ((p + 1 : Nat) : Int) - 1 + (-1) = ((p : Nat) : Int) - 1 by omega]
                  rfl
                · exact ih (by omega)
              · exfalso
                omega
            · refine r_lload 1 X dX1_nearestRoot_73 rfl ?_
              refine r_ldc2 2 X dX1_nearestRoot_75 nX1_21 (by decide) ?_
              refine r_lload_n 0 X dX1_nearestRoot_78 rfl ?_
              refine r_lmul X dX1_nearestRoot_79 ?_
              refine r_lconst 1 X dX1_nearestRoot_80 (by decide) ?_
              refine r_ladd X dX1_nearestRoot_81 ?_
              refine r_lsub X dX1_nearestRoot_82 ?_
              refine r_lstore (L' := [(4, jv (((4 * (rs (n / 4 ^ (p + 1)))) + ((n / 4 ^ p % 4 : Nat) : Int)) - ((2 * (2 * ((isq (n / 4 ^ (p + 1)) : Nat) : Int))) + 1))), (2, jv (2 * ((isq (n / 4 ^ (p + 1)) : Nat) : Int))), (7, iv (((p + 1 : Nat) : Int) - 1)), (6, iv 0), (0, jv (n : Int))]) X dX1_nearestRoot_83 (by decide) rfl ?_
              refine r_lload_n 1 X dX1_nearestRoot_85 rfl ?_
              refine r_lconst 1 X dX1_nearestRoot_86 (by decide) ?_
              refine r_ladd X dX1_nearestRoot_87 ?_
              refine r_lstore_n (L' := [(2, jv ((2 * ((isq (n / 4 ^ (p + 1)) : Nat) : Int)) + 1)), (4, jv (((4 * (rs (n / 4 ^ (p + 1)))) + ((n / 4 ^ p % 4 : Nat) : Int)) - ((2 * (2 * ((isq (n / 4 ^ (p + 1)) : Nat) : Int))) + 1))), (7, iv (((p + 1 : Nat) : Int) - 1)), (6, iv 0), (0, jv (n : Int))]) X dX1_nearestRoot_88 (by decide) rfl ?_
              refine r_iload 3 X dX1_nearestRoot_89 rfl ?_
              refine r_iload 2 X dX1_nearestRoot_91 rfl ?_
              refine r_if_ge 100 X dX1_nearestRoot_93 (by decide) ⟨by omega, by omega⟩ (fun c93 => ?_) (fun c93 => ?_)
              · refine r_iconst X dX1_nearestRoot_100 ?_
                refine r_iadd X dX1_nearestRoot_101 ?_
                refine r_istore (L' := [(6, iv (0 + 0)), (2, jv ((2 * ((isq (n / 4 ^ (p + 1)) : Nat) : Int)) + 1)), (4, jv (((4 * (rs (n / 4 ^ (p + 1)))) + ((n / 4 ^ p % 4 : Nat) : Int)) - ((2 * (2 * ((isq (n / 4 ^ (p + 1)) : Nat) : Int))) + 1))), (7, iv (((p + 1 : Nat) : Int) - 1)), (0, jv (n : Int))]) X dX1_nearestRoot_102 (by decide) rfl ?_
                refine r_iinc 3 (L' := [(7, iv (((p + 1 : Nat) : Int) - 1 + (-1))), (6, iv (0 + 0)), (2, jv ((2 * ((isq (n / 4 ^ (p + 1)) : Nat) : Int)) + 1)), (4, jv (((4 * (rs (n / 4 ^ (p + 1)))) + ((n / 4 ^ p % 4 : Nat) : Int)) - ((2 * (2 * ((isq (n / 4 ^ (p + 1)) : Nat) : Int))) + 1))), (0, jv (n : Int))]) X dX1_nearestRoot_104 rfl (by decide) rfl ?_
                refine r_goto 12 X dX1_nearestRoot_107 (by decide) ?_
                refine WW_sub (L' := [(7, iv (((p + 1 : Nat) : Int) - 1 + (-1))), (6, iv (0 + 0)), (4, jv (((4 * (rs (n / 4 ^ (p + 1)))) + ((n / 4 ^ p % 4 : Nat) : Int)) - ((2 * (2 * ((isq (n / 4 ^ (p + 1)) : Nat) : Int))) + 1))), (2, jv ((2 * ((isq (n / 4 ^ (p + 1)) : Nat) : Int)) + 1)), (0, jv (n : Int))]) [0, 1, 3, 2, 4] rfl ?_
                refine WW_L (L' := [(7, iv (((p : Nat) : Int) - 1)), (6, iv 0), (4, jv (rs (n / 4 ^ p))), (2, jv ((isq (n / 4 ^ p) : Nat) : Int)), (0, jv (n : Int))]) ?_ ?_
                · rw [show ((4 * (rs (n / 4 ^ (p + 1)))) + ((n / 4 ^ p % 4 : Nat) : Int)) - ((2 * (2 * ((isq (n / 4 ^ (p + 1)) : Nat) : Int))) + 1) = rs (n / 4 ^ p) by omega, show (2 * ((isq (n / 4 ^ (p + 1)) : Nat) : Int)) + 1 = ((isq (n / 4 ^ p) : Nat) : Int) by omega, show ((p + 1 : Nat) : Int) - 1 + (-1) = ((p : Nat) : Int) - 1 by omega]
                  rfl
                · exact ih (by omega)
              · exfalso
                omega
          · exfalso
            omega
  refine r_lconst 0 X dX1_nearestRoot_0 (by decide) ?_
  refine r_lstore_n (L' := [(2, jv 0), (0, jv (n : Int))]) X dX1_nearestRoot_1 (by decide) rfl ?_
  refine r_lconst 0 X dX1_nearestRoot_2 (by decide) ?_
  refine r_lstore (L' := [(4, jv 0), (2, jv 0), (0, jv (n : Int))]) X dX1_nearestRoot_3 (by decide) rfl ?_
  refine r_iconst X dX1_nearestRoot_5 ?_
  refine r_istore (L' := [(6, iv 0), (4, jv 0), (2, jv 0), (0, jv (n : Int))]) X dX1_nearestRoot_6 (by decide) rfl ?_
  refine r_bipush X dX1_nearestRoot_8 (by decide) ?_
  refine r_istore (L' := [(7, iv 16), (6, iv 0), (4, jv 0), (2, jv 0), (0, jv (n : Int))]) X dX1_nearestRoot_10 (by decide) rfl ?_
  refine WW_L (L' := [(7, iv (((17 : Nat) : Int) - 1)), (6, iv 0), (4, jv (rs (n / 4 ^ 17))), (2, jv ((isq (n / 4 ^ 17) : Nat) : Int)), (0, jv (n : Int))]) ?_ (loopA 17 (Nat.le_refl _))
  · rw [show n / 4 ^ 17 = 0 from Nat.div_eq_of_lt (by rw [show (4 ^ 17 : Nat) = 17179869184 from by decide +kernel]; exact hn)]; rfl
