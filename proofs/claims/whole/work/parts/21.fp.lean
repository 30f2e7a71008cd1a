/-! doubles that are whole numbers times a power of two -/
theorem fb64 : FP.Core.b64.tails = 4503599627370496 ∧ FP.Core.b64.exps = 2048 ∧ FP.Core.b64.qmin = -1074 ∧ FP.Core.b64.qmax = 971 ∧ 2 ^ FP.Core.b64.p = 9007199254740992 ∧ ((FP.Core.b64.p : Int) - 1) = 52 := by decide +kernel
def db (c : Nat) (q : Int) : UInt64 := .ofNat (FP.Core.encode FP.Core.b64 (.fin false c q))
abbrev cOk (c : Nat) : Prop := 4503599627370496 ≤ c ∧ c < 9007199254740992
abbrev qOk (q : Int) : Prop := -1074 ≤ q ∧ q ≤ 971
theorem enc64 {c : Nat} {q : Int} (hc : cOk c) : FP.Core.encode FP.Core.b64 (.fin false c q) = ((q + 1074).toNat + 1) * 4503599627370496 + (c - 4503599627370496) := by
  obtain ⟨t1, t2, t3, t4, t5, t6⟩ := fb64
  unfold FP.Core.encode FP.Core.assemble
  simp only [t1, t2, t3, t4]
  rw [if_neg (by omega)]
  show (Bool.toNat false * 2048 + _) * _ + _ = _
  rw [show Bool.toNat false = 0 from rfl, show (q - -1074) = q + 1074 by omega]
  omega
theorem db_nat {c : Nat} {q : Int} (hc : cOk c) (hq : qOk q) : (db c q).toNat = ((q + 1074).toNat + 1) * 4503599627370496 + (c - 4503599627370496) := by
  unfold db
  rw [enc64 hc, UInt64.toNat_ofNat']
  apply Nat.mod_eq_of_lt
  omega
theorem db_dec {c : Nat} {q : Int} (hc : cOk c) (hq : qOk q) : FP.Core.decode FP.Core.b64 (db c q).toNat = .fin false c q := by
  obtain ⟨t1, t2, t3, t4, t5, t6⟩ := fb64
  rw [db_nat hc hq]
  unfold FP.Core.decode FP.Core.fieldE FP.Core.fieldT FP.Core.fieldS
  simp only [t1, t2, t3, t4]
  have e1 : (((q + 1074).toNat + 1) * 4503599627370496 + (c - 4503599627370496)) / 4503599627370496 = (q + 1074).toNat + 1 := by omega
  have e2 : (((q + 1074).toNat + 1) * 4503599627370496 + (c - 4503599627370496)) % 4503599627370496 = c - 4503599627370496 := by omega
  rw [e1, e2]
  have e3 : ((q + 1074).toNat + 1) % 2048 = (q + 1074).toNat + 1 := by omega
  have e4 : ((q + 1074).toNat + 1) / 2048 = 0 := by omega
  rw [e3, e4, if_neg (by omega), if_neg (by omega)]
  rw [show (4503599627370496 + (c - 4503599627370496)) = c by omega, show (-1074 + ((((q + 1074).toNat + 1 : Nat) : Int) - 1)) = q by omega]
  rfl
theorem lg2 {n k : Nat} (h1 : 2 ^ k ≤ n) (h2 : n < 2 ^ (k + 1)) : n.log2 = k := (Nat.log2_eq_iff (by have := Nat.two_pow_pos k; omega)).mpr ⟨h1, h2⟩
theorem nearest1 (c d : Nat) (hd : 0 < d) : FP.Core.nearest (c * d) d = c := by
  unfold FP.Core.nearest
  rw [Nat.mul_mod_left, if_pos (by omega), Nat.mul_div_cancel _ hd]
theorem settle64 {c : Nat} {q : Int} (hc : cOk c) (hq : qOk q) : FP.Core.settle FP.Core.b64 false c q = .fin false c q := by
  obtain ⟨t1, t2, t3, t4, t5, t6⟩ := fb64
  unfold FP.Core.settle FP.Core.bound
  simp only [t5, t4]
  rw [if_pos hc.2, if_pos hq.2]
/-- what is told by more digits than are kept, all of them 0 -/
theorem rr1 {c j : Nat} {e : Int} (hc : cOk c) (hq : qOk (e + j)) : FP.Core.roundRatio FP.Core.b64 false (c * 2 ^ j) 1 e = .fin false c (e + j) := by
  obtain ⟨t1, t2, t3, t4, t5, t6⟩ := fb64
  have hp := Nat.two_pow_pos j
  have hn : c * 2 ^ j ≠ 0 := Nat.ne_of_gt (Nat.mul_pos (by omega) hp)
  have hlo : 2 ^ (52 + j) ≤ c * 2 ^ j := by rw [Nat.pow_add]; exact Nat.mul_le_mul_right _ hc.1
  have hhi : c * 2 ^ j < 2 ^ (52 + j + 1) := by
    rw [show 52 + j + 1 = 53 + j by omega, Nat.pow_add]
    exact Nat.mul_lt_mul_of_pos_right hc.2 hp
  have hl : (c * 2 ^ j).log2 = 52 + j := lg2 hlo hhi
  have hld : FP.Core.leading (c * 2 ^ j) 1 = ((52 + j : Nat) : Int) := by
    unfold FP.Core.leading
    rw [hl, show Nat.log2 1 = 0 from by decide +kernel]
    simp only
    rw [if_pos]
    · omega
    · rw [show (((52 + j : Nat) : Int) - ((0 : Nat) : Int)).toNat = 52 + j by omega, show (-(((52 + j : Nat) : Int) - ((0 : Nat) : Int))).toNat = 0 by omega]
      simpa using hlo
  have hqn : FP.Core.quantum FP.Core.b64 (c * 2 ^ j) 1 e = e + j := by
    unfold FP.Core.quantum
    rw [hld, t3, t6]
    omega
  unfold FP.Core.roundRatio
  rw [if_neg hn, hqn]
  unfold FP.Core.roundAt FP.Core.unitsNum FP.Core.unitsDen
  rw [show (e - (e + (j : Int))).toNat = 0 by omega, show (e + (j : Int) - e).toNat = j by omega, Nat.pow_zero, Nat.mul_one, Nat.one_mul, nearest1 c _ hp]
  exact settle64 hc hq
/-- what is told by fewer digits than are kept -/
theorem rr2 {n i : Nat} {e : Int} (hc : cOk (n * 2 ^ i)) (hi : i ≤ 52) (hq : qOk (e - i)) : FP.Core.roundRatio FP.Core.b64 false n 1 e = .fin false (n * 2 ^ i) (e - i) := by
  obtain ⟨t1, t2, t3, t4, t5, t6⟩ := fb64
  have hp := Nat.two_pow_pos i
  have hn : n ≠ 0 := by
    rintro rfl
    omega
  have e52 : 2 ^ (52 - i) * 2 ^ i = 4503599627370496 := by rw [← Nat.pow_add, show 52 - i + i = 52 by omega]
  have e53 : 2 ^ (52 - i + 1) * 2 ^ i = 9007199254740992 := by rw [← Nat.pow_add, show 52 - i + 1 + i = 53 by omega]
  have hlo : 2 ^ (52 - i) ≤ n := Nat.le_of_mul_le_mul_right (by rw [e52]; exact hc.1) hp
  have hhi : n < 2 ^ (52 - i + 1) := Nat.lt_of_mul_lt_mul_right (a := 2 ^ i) (by rw [e53]; exact hc.2)
  have hl : n.log2 = 52 - i := lg2 hlo hhi
  have hld : FP.Core.leading n 1 = ((52 - i : Nat) : Int) := by
    unfold FP.Core.leading
    rw [hl, show Nat.log2 1 = 0 from by decide +kernel]
    simp only
    rw [if_pos]
    · omega
    · rw [show (((52 - i : Nat) : Int) - ((0 : Nat) : Int)).toNat = 52 - i by omega, show (-(((52 - i : Nat) : Int) - ((0 : Nat) : Int))).toNat = 0 by omega]
      simpa using hlo
  have hqn : FP.Core.quantum FP.Core.b64 n 1 e = e - i := by
    unfold FP.Core.quantum
    rw [hld, t3, t6]
    omega
  unfold FP.Core.roundRatio
  rw [if_neg hn, hqn]
  unfold FP.Core.roundAt FP.Core.unitsNum FP.Core.unitsDen
  rw [show (e - (e - (i : Int))).toNat = i by omega, show (e - (i : Int) - e).toNat = 0 by omega, Nat.pow_zero, Nat.mul_one]
  have := nearest1 (n * 2 ^ i) 1 (by decide)
  rw [Nat.mul_one] at this
  rw [this]
  exact settle64 hc hq
/-- a quotient by a power of two -/
theorem rr3 {c : Nat} {e : Int} (hc : cOk c) (hq : qOk (e - 52)) : FP.Core.roundRatio FP.Core.b64 false c 4503599627370496 e = .fin false c (e - 52) := by
  obtain ⟨t1, t2, t3, t4, t5, t6⟩ := fb64
  have hl : c.log2 = 52 := lg2 (by exact hc.1) (by exact hc.2)
  have hld : FP.Core.leading c 4503599627370496 = 0 := by
    unfold FP.Core.leading
    rw [hl, show Nat.log2 4503599627370496 = 52 from by decide +kernel]
    simp only
    rw [if_pos]
    · omega
    · rw [show (((52 : Nat) : Int) - ((52 : Nat) : Int)).toNat = 0 by omega, show (-(((52 : Nat) : Int) - ((52 : Nat) : Int))).toNat = 0 by omega]
      omega
  have hqn : FP.Core.quantum FP.Core.b64 c 4503599627370496 e = e - 52 := by
    unfold FP.Core.quantum
    rw [hld, t3, t6]
    omega
  unfold FP.Core.roundRatio
  rw [if_neg (by omega), hqn]
  unfold FP.Core.roundAt FP.Core.unitsNum FP.Core.unitsDen
  rw [show (e - (e - 52)).toNat = 52 by omega, show (e - 52 - e).toNat = 0 by omega, Nat.pow_zero, Nat.mul_one, show (2 ^ 52 : Nat) = 4503599627370496 from by decide +kernel, nearest1 c _ (by decide)]
  exact settle64 hc hq
