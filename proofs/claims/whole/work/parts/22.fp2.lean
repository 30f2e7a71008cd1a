/-! doubles of whole numbers: what the instructions tell -/
def nc (n : Nat) : Nat := if n = 9007199254740992 then 4503599627370496 else n * 2 ^ (52 - n.log2)
def nq (n : Nat) : Int := if n = 9007199254740992 then 1 else -((52 - n.log2 : Nat) : Int)
/-- n times 2 to the e -/
def dI (n : Nat) (e : Int) : UInt64 := if n = 0 then 0 else db (nc n) (e + nq n)
abbrev nOk (n : Nat) : Prop := 1 ≤ n ∧ n ≤ 9007199254740992
theorem log2_b {n : Nat} (h : n ≠ 0) : 2 ^ n.log2 ≤ n ∧ n < 2 ^ (n.log2 + 1) := (Nat.log2_eq_iff h).mp rfl
theorem n_f {n : Nat} (h : 1 ≤ n ∧ n < 9007199254740992) : n.log2 ≤ 52 ∧ nc n = n * 2 ^ (52 - n.log2) ∧ nq n = -((52 - n.log2 : Nat) : Int) ∧ cOk (nc n) := by
  have hl := log2_b (show n ≠ 0 by omega)
  have hlt : n.log2 < 53 := by
    apply Nat.not_le.mp
    intro z
    have := Nat.pow_le_pow_right (show 0 < 2 by decide) z
    rw [show (2 ^ 53 : Nat) = 9007199254740992 from by decide +kernel] at this
    omega
  have e1 : nc n = n * 2 ^ (52 - n.log2) := if_neg (by omega)
  refine ⟨by omega, e1, if_neg (by omega), ?_⟩
  have e52 : 2 ^ n.log2 * 2 ^ (52 - n.log2) = 4503599627370496 := by rw [← Nat.pow_add, show n.log2 + (52 - n.log2) = 52 by omega]
  have e53 : 2 ^ (n.log2 + 1) * 2 ^ (52 - n.log2) = 9007199254740992 := by rw [← Nat.pow_add, show n.log2 + 1 + (52 - n.log2) = 53 by omega]
  have hp := Nat.two_pow_pos (52 - n.log2)
  rw [e1]
  exact ⟨by rw [← e52]; exact Nat.mul_le_mul_right _ hl.1, by rw [← e53]; exact Nat.mul_lt_mul_of_pos_right hl.2 hp⟩
theorem nOk_f {n : Nat} (h : nOk n) : cOk (nc n) ∧ -52 ≤ nq n ∧ nq n ≤ 1 ∧ nc n * 2 ^ (nq n + 52).toNat = n * 4503599627370496 := by
  by_cases z : n = 9007199254740992
  · rw [z]
    decide +kernel
  · obtain ⟨h1, h2, h3, h4⟩ := n_f (n := n) ⟨h.1, by have := h.2; omega⟩
    refine ⟨h4, by omega, by omega, ?_⟩
    rw [h2, h3, show (-((52 - n.log2 : Nat) : Int) + 52).toNat = n.log2 by omega, Nat.mul_assoc, ← Nat.pow_add, show 52 - n.log2 + n.log2 = 52 by omega]
theorem rrG {m t : Nat} {e : Int} (hm : nOk m) (hq : qOk (e + t + nq m)) : FP.Core.roundRatio FP.Core.b64 false (m * 2 ^ t) 1 e = .fin false (nc m) (e + t + nq m) := by
  by_cases z : m = 9007199254740992
  · subst z
    have h1 : (9007199254740992 : Nat) * 2 ^ t = 4503599627370496 * 2 ^ (t + 1) := by rw [Nat.pow_succ]; omega
    have hq' : qOk (e + t + 1) := hq
    have h2 := rr1 (c := 4503599627370496) (j := t + 1) (e := e) (by decide) ⟨by omega, by omega⟩
    rw [h1, h2]
    show _ = FP.Core.Datum.fin false 4503599627370496 (e + t + 1)
    exact congrArg _ (by omega)
  · obtain ⟨h1, h2, h3, h4⟩ := n_f (n := m) ⟨hm.1, by have := hm.2; omega⟩
    rw [h3] at hq ⊢
    by_cases w : 52 - m.log2 ≤ t
    · have e1 : m * 2 ^ t = nc m * 2 ^ (t - (52 - m.log2)) := by rw [h2, Nat.mul_assoc, ← Nat.pow_add, show 52 - m.log2 + (t - (52 - m.log2)) = t by omega]
      have h5 := rr1 (c := nc m) (j := t - (52 - m.log2)) (e := e) h4 ⟨by omega, by omega⟩
      rw [e1, h5]
      exact congrArg _ (by omega)
    · have e1 : m * 2 ^ t * 2 ^ (52 - m.log2 - t) = nc m := by rw [h2, Nat.mul_assoc, ← Nat.pow_add, show t + (52 - m.log2 - t) = 52 - m.log2 by omega]
      have h5 := rr2 (n := m * 2 ^ t) (i := 52 - m.log2 - t) (e := e) (by rw [e1]; exact h4) (by omega) ⟨by omega, by omega⟩
      rw [h5, e1]
      exact congrArg _ (by omega)
theorem dI_dec {n : Nat} {e : Int} (h : nOk n) (he : qOk (e + nq n)) : FP.Core.decode FP.Core.b64 (dI n e).toNat = .fin false (nc n) (e + nq n) := by
  unfold dI
  rw [if_neg (by have := h.1; omega)]
  exact db_dec (nOk_f h).1 he
theorem dI_0 (e : Int) : FP.Core.decode FP.Core.b64 (dI 0 e).toNat = .fin false 0 (-1074) := by
  unfold dI
  rw [if_pos rfl]
  decide +kernel
theorem dI_of {n : Nat} {e : Int} (h : nOk n) : UInt64.ofNat (FP.Core.encode FP.Core.b64 (.fin false (nc n) (e + nq n))) = dI n e := by
  unfold dI
  rw [if_neg (by have := h.1; omega)]
  rfl
theorem z_of : UInt64.ofNat (FP.Core.encode FP.Core.b64 (FP.Core.roundRatio FP.Core.b64 false 0 1 0)) = 0 := by decide +kernel
theorem z_of' (e : Int) : FP.Core.roundRatio FP.Core.b64 false 0 1 e = .fin false 0 (-1074) := by
  unfold FP.Core.roundRatio
  rw [if_pos rfl]
  rfl
theorem l2d_of {n : Nat} (h : n ≤ 9007199254740992) : FP.l2d (Int64.ofInt (n : Int)) = dI n 0 := by
  show UInt64.ofNat (FP.Core.fromInt FP.Core.b64 (Int64.ofInt (n : Int)).toInt) = _
  rw [i64_toInt ⟨by omega, by omega⟩]
  unfold FP.Core.fromInt FP.Core.ofInt FP.Core.round
  rw [show decide ((n : Int) < 0) = false from decide_eq_false (by omega), Int.natAbs_natCast]
  show UInt64.ofNat (FP.Core.encode FP.Core.b64 (FP.Core.roundRatio FP.Core.b64 false n 1 0)) = _
  by_cases z : n = 0
  · rw [z]
    exact z_of
  · have hn : nOk n := ⟨by omega, h⟩
    have hf := nOk_f hn
    have := rrG (m := n) (t := 0) (e := 0) hn ⟨by omega, by omega⟩
    rw [Nat.pow_zero, Nat.mul_one] at this
    rw [this, show (0 + ((0 : Nat) : Int) + nq n) = 0 + nq n by omega]
    exact dI_of hn
theorem i2d_of {n : Nat} (h : n < 2147483648) : FP.i2d (Int32.ofInt (n : Int)) = dI n 0 := by
  rw [← l2d_of (show n ≤ 9007199254740992 by omega)]
  show UInt64.ofNat (FP.Core.fromInt FP.Core.b64 (Int32.ofInt (n : Int)).toInt) = UInt64.ofNat (FP.Core.fromInt FP.Core.b64 (Int64.ofInt (n : Int)).toInt)
  rw [i64_toInt ⟨by omega, by omega⟩, i32_toInt ⟨by omega, by omega⟩]
