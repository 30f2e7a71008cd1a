/-! doubles of whole numbers: quotients, order, sums, products -/
theorem db_nn {c : Nat} {q : Int} (hc : cOk c) (hq : qOk q) : vf_n64 (db c q) := by
  unfold vf_n64
  rw [UInt64.le_iff_toNat_le, UInt64.toNat_and, db_nat hc hq]
  rw [show (0x7fffffffffffffff : UInt64).toNat = 2 ^ 63 - 1 from by decide +kernel, show (0x7ff0000000000000 : UInt64).toNat = 9218868437227405312 from by decide +kernel, Nat.and_two_pow_sub_one_eq_mod]
  have e : (2 ^ 63 : Nat) = 9223372036854775808 := by decide +kernel
  rw [e]
  omega
theorem dI_nn {n : Nat} {e : Int} (h : n = 0 ∨ (nOk n ∧ qOk (e + nq n))) : vf_n64 (dI n e) := by
  unfold dI
  split
  · unfold vf_n64
    decide +kernel
  · rcases h with z | ⟨h1, h2⟩
    · exact absurd z ‹_›
    · exact db_nn (nOk_f h1).1 h2
theorem dI_two {k : Nat} (hk : k ≤ 52) : nOk (2 ^ k) ∧ nc (2 ^ k) = 4503599627370496 ∧ nq (2 ^ k) = (k : Int) - 52 := by
  have hp := Nat.two_pow_pos k
  have hle : 2 ^ k ≤ 2 ^ 52 := Nat.pow_le_pow_right (by decide) hk
  rw [show (2 ^ 52 : Nat) = 4503599627370496 from by decide +kernel] at hle
  have hl : (2 ^ k).log2 = k := lg2 (Nat.le_refl _) (Nat.pow_lt_pow_right (by decide) (Nat.lt_succ_self k))
  obtain ⟨h1, h2, h3, h4⟩ := n_f (n := 2 ^ k) ⟨hp, by omega⟩
  refine ⟨⟨hp, by omega⟩, ?_, by rw [h3, hl]; omega⟩
  rw [h2, hl, ← Nat.pow_add, show k + (52 - k) = 52 by omega]
theorem ddiv_of {n k : Nat} {e : Int} (h : n = 0 ∨ (nOk n ∧ qOk (e + nq n) ∧ qOk (e - k + nq n))) (hk : k ≤ 52) : FP.ddiv (dI n e) (dI (2 ^ k) 0) = dI n (e - k) := by
  obtain ⟨k1, k2, k3⟩ := dI_two hk
  show UInt64.ofNat (FP.Core.encode FP.Core.b64 (FP.Core.quotient FP.Core.b64 (FP.Core.decode FP.Core.b64 (dI n e).toNat) (FP.Core.decode FP.Core.b64 (dI (2 ^ k) 0).toNat))) = _
  rw [dI_dec (n := 2 ^ k) (e := 0) k1 (by rw [k3]; exact ⟨by omega, by omega⟩), k2]
  by_cases z : n = 0
  · rw [z, dI_0]
    unfold FP.Core.quotient
    simp only
    rw [if_neg (by decide)]
    unfold FP.Core.roundRatio dI
    rw [if_pos rfl, if_pos rfl]
    decide +kernel
  · obtain ⟨h1, h2, h3⟩ := h.resolve_left z
    have hf := nOk_f h1
    rw [dI_dec h1 h2]
    unfold FP.Core.quotient
    simp only
    rw [if_neg (by decide)]
    have := rr3 (c := nc n) (e := e + nq n - (0 + nq (2 ^ k))) hf.1 (by rw [k3]; exact ⟨by omega, by omega⟩)
    rw [show (false != false) = false from rfl, this, k3, show e + nq n - (0 + ((k : Int) - 52)) - 52 = (e - k) + nq n by omega]
    exact dI_of h1
theorem d2l_of {n k : Nat} (h : n ≤ 9007199254740992) (hk : k ≤ 900) : FP.d2l (dI n (-(k : Int))) = Int64.ofInt ((n / 2 ^ k : Nat) : Int) := by
  show FP.Core.toL (FP.Core.decode FP.Core.b64 (dI n (-(k : Int))).toNat) = _
  by_cases z : n = 0
  · rw [z, dI_0, Nat.zero_div]
    decide +kernel
  · have hn : nOk n := ⟨by omega, h⟩
    obtain ⟨f1, f2, f3, f4⟩ := nOk_f hn
    rw [dI_dec hn ⟨by omega, by omega⟩]
    unfold FP.Core.toL FP.Core.toInt FP.Core.truncate FP.Core.signed
    simp only [Bool.false_eq_true, if_false]
    have hv : nc n * 2 ^ (-(k : Int) + nq n).toNat / 2 ^ (-(-(k : Int) + nq n)).toNat = n / 2 ^ k := by
      by_cases w : 0 ≤ -(k : Int) + nq n
      · rw [show (-(-(k : Int) + nq n)).toNat = 0 by omega, Nat.pow_zero, Nat.div_one]
        have e1 : nc n * 2 ^ (-(k : Int) + nq n).toNat * 2 ^ k * 2 ^ 52 = n * 2 ^ 52 := by
          rw [show (2 ^ 52 : Nat) = 4503599627370496 from by decide +kernel, ← f4, ← show (2 ^ 52 : Nat) = 4503599627370496 from by decide +kernel, Nat.mul_assoc, Nat.mul_assoc, ← Nat.pow_add, ← Nat.pow_add, show (-(k : Int) + nq n).toNat + (k + 52) = (nq n + 52).toNat by omega]
        have e2 := Nat.eq_of_mul_eq_mul_right (Nat.two_pow_pos 52) e1
        exact (Nat.div_eq_of_eq_mul_left (Nat.two_pow_pos k) e2.symm).symm
      · rw [show (-(k : Int) + nq n).toNat = 0 by omega, Nat.pow_zero, Nat.mul_one]
        have e1 : nc n / 2 ^ (-(-(k : Int) + nq n)).toNat = nc n * 2 ^ (nq n + 52).toNat / (2 ^ (-(-(k : Int) + nq n)).toNat * 2 ^ (nq n + 52).toNat) := (Nat.mul_div_mul_right _ _ (Nat.two_pow_pos _)).symm
        rw [e1, f4, ← Nat.pow_add, show (-(-(k : Int) + nq n)).toNat + (nq n + 52).toNat = k + 52 by omega, Nat.pow_add, show (2 ^ 52 : Nat) = 4503599627370496 from by decide +kernel, Nat.mul_div_mul_right _ _ (by decide)]
    rw [hv]
    have hb : n / 2 ^ k ≤ n := Nat.div_le_self _ _
    generalize n / 2 ^ k = x9 at hb ⊢
    congr 1
    rw [show ((2 : Int) ^ 63) = 9223372036854775808 from by decide +kernel, Int.min_eq_right (by omega), Int.max_eq_right (by omega)]
theorem cmp_lt {a b : Int} : (compare a b = .lt ↔ a < b) ∧ (compare a b = .eq ↔ a = b) := by
  constructor
  · exact Int.compare_eq_lt
  · exact Int.compare_eq_eq
theorem cmp_sc {a b a' b' P Q : Nat} (hP : 0 < P) (hQ : 0 < Q) (h1 : a * P = a' * Q) (h2 : b * P = b' * Q) : compare (a : Int) (b : Int) = compare (a' : Int) (b' : Int) := by
  have l1 : a < b ↔ a' < b' := by
    constructor
    · intro z
      have := Nat.mul_lt_mul_of_pos_right z hP
      rw [h1, h2] at this
      exact Nat.lt_of_mul_lt_mul_right this
    · intro z
      have := Nat.mul_lt_mul_of_pos_right z hQ
      rw [← h1, ← h2] at this
      exact Nat.lt_of_mul_lt_mul_right this
  have l2 : a = b ↔ a' = b' := by
    constructor
    · intro z
      rw [z, h2] at h1
      exact Nat.eq_of_mul_eq_mul_right hQ h1.symm
    · intro z
      rw [z, ← h2] at h1
      exact Nat.eq_of_mul_eq_mul_right hP h1
  have k1 := @cmp_lt (a : Int) (b : Int)
  have k2 := @cmp_lt (a' : Int) (b' : Int)
  rcases e1 : compare (a : Int) (b : Int) with _ | _ | _ <;> rcases e2 : compare (a' : Int) (b' : Int) with _ | _ | _ <;> simp only [e1, e2] at k1 k2 ⊢ <;> exfalso <;> simp at k1 k2 <;> omega
theorem dcmp_of {m n k l : Nat} (hm : m ≤ 9007199254740992) (hn : n ≤ 9007199254740992) (hk : k ≤ 900) (hl : l ≤ 900) : FP.dcmp (dI m (-(k : Int))) (dI n (-(l : Int))) = some (compare ((m * 2 ^ l : Nat) : Int) ((n * 2 ^ k : Nat) : Int)) := by
  show FP.Core.order (FP.Core.decode FP.Core.b64 (dI m (-(k : Int))).toNat) (FP.Core.decode FP.Core.b64 (dI n (-(l : Int))).toNat) = _
  have key : ∀ (x j : Nat), x ≤ 9007199254740992 → j ≤ 900 → ∃ (c : Nat) (q : Int), FP.Core.decode FP.Core.b64 (dI x (-(j : Int))).toNat = .fin false c q ∧ -1074 ≤ q ∧ q ≤ 1 ∧ c * 2 ^ (q + 1074).toNat * 2 ^ j = x * 2 ^ 1074 := by
    intro x j hx hj
    by_cases z : x = 0
    · exact ⟨0, -1074, by rw [z]; exact dI_0 _, by omega, by omega, by rw [z, Nat.zero_mul, Nat.zero_mul, Nat.zero_mul]⟩
    · have hx' : nOk x := ⟨by omega, hx⟩
      obtain ⟨f1, f2, f3, f4⟩ := nOk_f hx'
      refine ⟨nc x, -(j : Int) + nq x, dI_dec hx' ⟨by omega, by omega⟩, by omega, by omega, ?_⟩
      rw [Nat.mul_assoc, ← Nat.pow_add, show (-(j : Int) + nq x + 1074).toNat + j = (nq x + 52).toNat + 1022 by omega, Nat.pow_add, ← Nat.mul_assoc, f4, show (4503599627370496 : Nat) = 2 ^ 52 from by decide +kernel, Nat.mul_assoc, ← Nat.pow_add]
  obtain ⟨c, q, e1, q1, q2, q3⟩ := key m k hm hk
  obtain ⟨d, r, e2, r1, r2, r3⟩ := key n l hn hl
  rw [e1, e2]
  unfold FP.Core.order FP.Core.signed FP.Core.inUnits
  simp only [Bool.false_eq_true, if_false]
  have hmin : min q r = q ∨ min q r = r := by omega
  have hmq : min q r ≤ q := by omega
  have hmr : min q r ≤ r := by omega
  generalize min q r = w at hmin hmq hmr
  have hw : -1074 ≤ w := by omega
  refine congrArg some (cmp_sc (P := 2 ^ (w + 1074).toNat * (2 ^ k * 2 ^ l)) (Q := 2 ^ 1074) (Nat.mul_pos (Nat.two_pow_pos _) (Nat.mul_pos (Nat.two_pow_pos _) (Nat.two_pow_pos _))) (Nat.two_pow_pos _) ?_ ?_)
  · calc c * 2 ^ (q - w).toNat * (2 ^ (w + 1074).toNat * (2 ^ k * 2 ^ l)) = c * (2 ^ (q - w).toNat * 2 ^ (w + 1074).toNat) * 2 ^ k * 2 ^ l := by ac_rfl
      _ = c * 2 ^ (q + 1074).toNat * 2 ^ k * 2 ^ l := by rw [← Nat.pow_add, show (q - w).toNat + (w + 1074).toNat = (q + 1074).toNat by omega]
      _ = m * 2 ^ l * 2 ^ 1074 := by rw [q3, Nat.mul_right_comm]
  · calc d * 2 ^ (r - w).toNat * (2 ^ (w + 1074).toNat * (2 ^ k * 2 ^ l)) = d * (2 ^ (r - w).toNat * 2 ^ (w + 1074).toNat) * 2 ^ l * 2 ^ k := by ac_rfl
      _ = d * 2 ^ (r + 1074).toNat * 2 ^ l * 2 ^ k := by rw [← Nat.pow_add, show (r - w).toNat + (w + 1074).toNat = (r + 1074).toNat by omega]
      _ = n * 2 ^ k * 2 ^ 1074 := by rw [r3, Nat.mul_right_comm]
/-- a number below 2 to the 53rd, by its digits -/
theorem dI_z {n : Nat} (h : n < 9007199254740992) : ∃ (c i : Nat), FP.Core.decode FP.Core.b64 (dI n 0).toNat = .fin false c (-(i : Int)) ∧ i ≤ 1074 ∧ c = n * 2 ^ i := by
  by_cases z : n = 0
  · exact ⟨0, 1074, by rw [z]; exact dI_0 _, Nat.le_refl _, by rw [z, Nat.zero_mul]⟩
  · obtain ⟨h1, h2, h3, h4⟩ := n_f (n := n) ⟨by omega, h⟩
    refine ⟨nc n, 52 - n.log2, ?_, by omega, h2⟩
    rw [dI_dec ⟨by omega, by omega⟩ (by rw [h3]; exact ⟨by omega, by omega⟩), h3, Int.zero_add]
theorem out_of {m t : Nat} {e : Int} (hm : m ≤ 9007199254740992) (he : e + t = 0) : UInt64.ofNat (FP.Core.encode FP.Core.b64 (FP.Core.roundRatio FP.Core.b64 false (m * 2 ^ t) 1 e)) = dI m 0 := by
  by_cases z : m = 0
  · rw [z, Nat.zero_mul, z_of']
    decide +kernel
  · have hn : nOk m := ⟨by omega, hm⟩
    have hf := nOk_f hn
    rw [rrG hn ⟨by omega, by omega⟩, he]
    exact dI_of hn
theorem dmul_of {a b : Nat} (ha : a < 9007199254740992) (hb : b < 9007199254740992) (hab : a * b ≤ 9007199254740992) : FP.dmul (dI a 0) (dI b 0) = dI (a * b) 0 := by
  obtain ⟨c, i, e1, -, e2⟩ := dI_z ha
  obtain ⟨d, j, e3, -, e4⟩ := dI_z hb
  show UInt64.ofNat (FP.Core.encode FP.Core.b64 (FP.Core.round FP.Core.b64 (FP.Core.exactProduct (FP.Core.decode FP.Core.b64 (dI a 0).toNat) (FP.Core.decode FP.Core.b64 (dI b 0).toNat)))) = _
  rw [e1, e3]
  unfold FP.Core.exactProduct FP.Core.round
  simp only
  rw [show (false != false) = false from rfl, show c * d = (a * b) * 2 ^ (i + j) by rw [e2, e4, Nat.pow_add]; ac_rfl]
  exact out_of hab (by omega)
theorem dadd_of {a b : Nat} (ha : a < 9007199254740992) (hb : b < 9007199254740992) (hab : a + b ≤ 9007199254740992) : FP.dadd (dI a 0) (dI b 0) = dI (a + b) 0 := by
  obtain ⟨c, i, e1, -, e2⟩ := dI_z ha
  obtain ⟨d, j, e3, -, e4⟩ := dI_z hb
  show UInt64.ofNat (FP.Core.encode FP.Core.b64 (FP.Core.round FP.Core.b64 (FP.Core.exactSum (FP.Core.decode FP.Core.b64 (dI a 0).toNat) (FP.Core.decode FP.Core.b64 (dI b 0).toNat)))) = _
  rw [e1, e3]
  have hu : FP.Core.sumUnits false c (-(i : Int)) false d (-(j : Int)) (min (-(i : Int)) (-(j : Int))) = (((a + b) * 2 ^ (max i j) : Nat) : Int) := by
    unfold FP.Core.sumUnits FP.Core.signed FP.Core.inUnits
    simp only [Bool.false_eq_true, if_false]
    rw [e2, e4, show (-(i : Int) - min (-(i : Int)) (-(j : Int))).toNat = max i j - i by omega, show (-(j : Int) - min (-(i : Int)) (-(j : Int))).toNat = max i j - j by omega, Nat.mul_assoc, Nat.mul_assoc, ← Nat.pow_add, ← Nat.pow_add, show i + (max i j - i) = max i j by omega, show j + (max i j - j) = max i j by omega, Nat.add_mul, Int.natCast_add]
  unfold FP.Core.exactSum FP.Core.round
  simp only
  rw [hu, Int.natAbs_natCast]
  have hs : FP.Core.sumSign false false (((a + b) * 2 ^ (max i j) : Nat) : Int) = false := by
    unfold FP.Core.sumSign
    split
    · rfl
    · exact decide_eq_false (by omega)
  rw [hs]
  exact out_of hab (by omega)
theorem dsub_of {a b : Nat} (ha : a < 9007199254740992) (hb : b ≤ a) : FP.dsub (dI a 0) (dI b 0) = dI (a - b) 0 := by
  obtain ⟨c, i, e1, -, e2⟩ := dI_z ha
  obtain ⟨d, j, e3, -, e4⟩ := dI_z (show b < 9007199254740992 by omega)
  show UInt64.ofNat (FP.Core.encode FP.Core.b64 (FP.Core.round FP.Core.b64 (FP.Core.exactSum (FP.Core.decode FP.Core.b64 (dI a 0).toNat) (FP.Core.negate (FP.Core.decode FP.Core.b64 (dI b 0).toNat))))) = _
  rw [e1, e3]
  have hu : FP.Core.sumUnits false c (-(i : Int)) true d (-(j : Int)) (min (-(i : Int)) (-(j : Int))) = (((a - b) * 2 ^ (max i j) : Nat) : Int) := by
    unfold FP.Core.sumUnits FP.Core.signed FP.Core.inUnits
    simp only [Bool.false_eq_true, if_false, if_true]
    have hle : b * 2 ^ max i j ≤ a * 2 ^ max i j := Nat.mul_le_mul_right _ hb
    rw [e2, e4, show (-(i : Int) - min (-(i : Int)) (-(j : Int))).toNat = max i j - i by omega, show (-(j : Int) - min (-(i : Int)) (-(j : Int))).toNat = max i j - j by omega, Nat.mul_assoc, Nat.mul_assoc, ← Nat.pow_add, ← Nat.pow_add, show i + (max i j - i) = max i j by omega, show j + (max i j - j) = max i j by omega, Nat.sub_mul, Int.ofNat_sub hle]
    omega
  unfold FP.Core.negate FP.Core.exactSum FP.Core.round
  simp only [Bool.not_false]
  rw [hu, Int.natAbs_natCast]
  have hs : FP.Core.sumSign false true (((a - b) * 2 ^ (max i j) : Nat) : Int) = false := by
    unfold FP.Core.sumSign
    split
    · rfl
    · exact decide_eq_false (by omega)
  rw [hs]
  exact out_of (by omega) (by omega)
