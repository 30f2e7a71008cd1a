/-! what is rounded is no NaN; floats -/
theorem fb32 : FP.Core.b32.tails = 8388608 ∧ FP.Core.b32.exps = 256 ∧ FP.Core.b32.qmin = -149 ∧ FP.Core.b32.qmax = 104 ∧ 2 ^ FP.Core.b32.p = 16777216 ∧ ((FP.Core.b32.p : Int) - 1) = 23 := by decide +kernel
def rdd (s : Bool) (P : Nat) (Q : Int) (x : FP.Core.Datum) : Prop := x = .inf s ∨ ∃ (c : Nat) (q : Int), x = .fin s c q ∧ c < P ∧ q ≤ Q
theorem settle_r (f : FP.Core.Fmt) (s : Bool) (c : Nat) (q : Int) (ht : f.tails < 2 ^ f.p) : rdd s (2 ^ f.p) f.qmax (FP.Core.settle f s c q) := by
  unfold FP.Core.settle FP.Core.bound
  split
  · split
    · exact Or.inr ⟨c, q, rfl, ‹_›, ‹_›⟩
    · exact Or.inl rfl
  · split
    · exact Or.inr ⟨_, _, rfl, ht, ‹_›⟩
    · exact Or.inl rfl
theorem rr_r (f : FP.Core.Fmt) (s : Bool) (n d : Nat) (e : Int) (ht : f.tails < 2 ^ f.p) (hq : f.qmin ≤ f.qmax) (hp : 0 < 2 ^ f.p) : rdd s (2 ^ f.p) f.qmax (FP.Core.roundRatio f s n d e) := by
  unfold FP.Core.roundRatio
  split
  · exact Or.inr ⟨0, _, rfl, hp, hq⟩
  · exact settle_r f s _ _ ht
theorem rr64 (s : Bool) (n d : Nat) (e : Int) : rdd s 9007199254740992 971 (FP.Core.roundRatio FP.Core.b64 s n d e) := by
  obtain ⟨t1, t2, t3, t4, t5, t6⟩ := fb64
  have := rr_r FP.Core.b64 s n d e (by rw [t1, t5]; decide) (by rw [t3, t4]; decide) (by rw [t5]; decide)
  rw [t4, t5] at this
  exact this
theorem rr32 (s : Bool) (n d : Nat) (e : Int) : rdd s 16777216 104 (FP.Core.roundRatio FP.Core.b32 s n d e) := by
  obtain ⟨t1, t2, t3, t4, t5, t6⟩ := fb32
  have := rr_r FP.Core.b32 s n d e (by rw [t1, t5]; decide) (by rw [t3, t4]; decide) (by rw [t5]; decide)
  rw [t4, t5] at this
  exact this
theorem nn64 {x : FP.Core.Datum} (h : rdd false 9007199254740992 971 x) : vf_n64 (UInt64.ofNat (FP.Core.encode FP.Core.b64 x)) := by
  obtain ⟨t1, t2, t3, t4, t5, t6⟩ := fb64
  have e63 : (2 ^ 63 : Nat) = 9223372036854775808 := by decide +kernel
  have e64 : (2 ^ 64 : Nat) = 18446744073709551616 := by decide +kernel
  rcases h with rfl | ⟨c, q, rfl, hc, hq⟩
  · unfold vf_n64
    decide +kernel
  · unfold vf_n64
    rw [UInt64.le_iff_toNat_le, UInt64.toNat_and, UInt64.toNat_ofNat']
    rw [show (0x7fffffffffffffff : UInt64).toNat = 2 ^ 63 - 1 from by decide +kernel, show (0x7ff0000000000000 : UInt64).toNat = 9218868437227405312 from by decide +kernel, Nat.and_two_pow_sub_one_eq_mod]
    unfold FP.Core.encode FP.Core.assemble
    simp only [t1, t2, t3, t4]
    rw [e63, e64]
    split
    · rw [show Bool.toNat false = 0 from rfl]
      omega
    · rw [show Bool.toNat false = 0 from rfl]
      omega
theorem nn32 {x : FP.Core.Datum} (h : rdd false 16777216 104 x) : vf_n32 (UInt32.ofNat (FP.Core.encode FP.Core.b32 x)) := by
  obtain ⟨t1, t2, t3, t4, t5, t6⟩ := fb32
  have e63 : (2 ^ 31 : Nat) = 2147483648 := by decide +kernel
  have e64 : (2 ^ 32 : Nat) = 4294967296 := by decide +kernel
  rcases h with rfl | ⟨c, q, rfl, hc, hq⟩
  · unfold vf_n32
    decide +kernel
  · unfold vf_n32
    rw [UInt32.le_iff_toNat_le, UInt32.toNat_and, UInt32.toNat_ofNat']
    rw [show (0x7fffffff : UInt32).toNat = 2 ^ 31 - 1 from by decide +kernel, show (0x7f800000 : UInt32).toNat = 2139095040 from by decide +kernel, Nat.and_two_pow_sub_one_eq_mod]
    unfold FP.Core.encode FP.Core.assemble
    simp only [t1, t2, t3, t4]
    rw [e63, e64]
    split
    · rw [show Bool.toNat false = 0 from rfl]
      omega
    · rw [show Bool.toNat false = 0 from rfl]
      omega
/-- a quotient of two whole numbers, the second one not 0 -/
theorem ddiv_nn {a b : Nat} (ha : a ≤ 9007199254740992) (hb : 1 ≤ b ∧ b ≤ 9007199254740992) : vf_n64 (FP.ddiv (dI a 0) (dI b 0)) := by
  have kb := nOk_f hb
  have key : ∃ (c : Nat) (q : Int), FP.Core.decode FP.Core.b64 (dI a 0).toNat = .fin false c q := by
    by_cases z : a = 0
    · rw [z, dI_0]
      exact ⟨_, _, rfl⟩
    · have ka := nOk_f (n := a) ⟨by omega, ha⟩
      exact ⟨_, _, dI_dec (e := 0) ⟨by omega, ha⟩ ⟨by omega, by omega⟩⟩
  obtain ⟨c, q, hk⟩ := key
  show vf_n64 (UInt64.ofNat (FP.Core.encode FP.Core.b64 (FP.Core.quotient FP.Core.b64 (FP.Core.decode FP.Core.b64 (dI a 0).toNat) (FP.Core.decode FP.Core.b64 (dI b 0).toNat))))
  rw [hk, dI_dec (e := 0) hb ⟨by omega, by omega⟩]
  unfold FP.Core.quotient
  simp only
  rw [if_neg (by omega), show (false != false) = false from rfl]
  exact nn64 (rr64 false _ _ _)
theorem dec32 {c : Nat} {q : Int} (hc : 8388608 ≤ c ∧ c < 16777216) (hq : -149 ≤ q ∧ q ≤ 104) : FP.Core.decode FP.Core.b32 (UInt32.ofNat (FP.Core.encode FP.Core.b32 (.fin false c q))).toNat = .fin false c q := by
  obtain ⟨t1, t2, t3, t4, t5, t6⟩ := fb32
  have e : (UInt32.ofNat (FP.Core.encode FP.Core.b32 (.fin false c q))).toNat = ((q + 149).toNat + 1) * 8388608 + (c - 8388608) := by
    unfold FP.Core.encode FP.Core.assemble
    simp only [t1, t2, t3, t4]
    rw [if_neg (by omega), UInt32.toNat_ofNat', show Bool.toNat false = 0 from rfl, show (q - -149) = q + 149 by omega, Nat.mod_eq_of_lt (by omega)]
    omega
  rw [e]
  unfold FP.Core.decode FP.Core.fieldE FP.Core.fieldT FP.Core.fieldS
  simp only [t1, t2, t3, t4]
  have e1 : (((q + 149).toNat + 1) * 8388608 + (c - 8388608)) / 8388608 = (q + 149).toNat + 1 := by omega
  have e2 : (((q + 149).toNat + 1) * 8388608 + (c - 8388608)) % 8388608 = c - 8388608 := by omega
  rw [e1, e2]
  have e3 : ((q + 149).toNat + 1) % 256 = (q + 149).toNat + 1 := by omega
  have e4 : ((q + 149).toNat + 1) / 256 = 0 := by omega
  rw [e3, e4, if_neg (by omega), if_neg (by omega)]
  rw [show (8388608 + (c - 8388608)) = c by omega, show (-149 + ((((q + 149).toNat + 1 : Nat) : Int) - 1)) = q by omega]
  rfl
/-- a whole number, as a float, is told without an error -/
theorem i2f_dec {n : Nat} (h : 1 ≤ n ∧ n < 16777216) : ∃ (c : Nat) (q : Int), FP.Core.decode FP.Core.b32 (FP.i2f (Int32.ofInt (n : Int))).toNat = .fin false c q ∧ c ≠ 0 := by
  obtain ⟨t1, t2, t3, t4, t5, t6⟩ := fb32
  have hl := log2_b (n := n) (by omega)
  have hl2 : n.log2 < 24 := (Nat.pow_lt_pow_iff_right (a := 2) (by decide)).mp (Nat.lt_of_le_of_lt hl.1 (by rw [show (2 ^ 24 : Nat) = 16777216 from by decide +kernel]; exact h.2))
  have hld : FP.Core.leading n 1 = (n.log2 : Int) := by
    unfold FP.Core.leading
    rw [show Nat.log2 1 = 0 from by decide +kernel]
    simp only
    rw [if_pos]
    · omega
    · rw [show (((n.log2 : Nat) : Int) - ((0 : Nat) : Int)).toNat = n.log2 by omega, show (-(((n.log2 : Nat) : Int) - ((0 : Nat) : Int))).toNat = 0 by omega]
      simpa using hl.1
  have hqn : FP.Core.quantum FP.Core.b32 n 1 0 = (n.log2 : Int) - 23 := by
    unfold FP.Core.quantum
    rw [hld, t3, t6]
    omega
  have hc1 : 2 ^ n.log2 * 2 ^ (23 - n.log2) = 8388608 := by rw [← Nat.pow_add, show n.log2 + (23 - n.log2) = 23 by omega]
  have hc2 : 2 ^ (n.log2 + 1) * 2 ^ (23 - n.log2) = 16777216 := by rw [← Nat.pow_add, show n.log2 + 1 + (23 - n.log2) = 24 by omega]
  have hp := Nat.two_pow_pos (23 - n.log2)
  have hlo : 8388608 ≤ n * 2 ^ (23 - n.log2) := by rw [← hc1]; exact Nat.mul_le_mul_right _ hl.1
  have hhi : n * 2 ^ (23 - n.log2) < 16777216 := by rw [← hc2]; exact Nat.mul_lt_mul_of_pos_right hl.2 hp
  refine ⟨n * 2 ^ (23 - n.log2), (n.log2 : Int) - 23, ?_, by omega⟩
  have e : FP.Core.roundRatio FP.Core.b32 false n 1 0 = .fin false (n * 2 ^ (23 - n.log2)) ((n.log2 : Int) - 23) := by
    unfold FP.Core.roundRatio
    rw [if_neg (by omega), hqn]
    unfold FP.Core.roundAt FP.Core.unitsNum FP.Core.unitsDen
    rw [show (0 - ((n.log2 : Int) - 23)).toNat = 23 - n.log2 by omega, show ((n.log2 : Int) - 23 - 0).toNat = 0 by omega, Nat.pow_zero, Nat.mul_one]
    have := nearest1 (n * 2 ^ (23 - n.log2)) 1 (by decide)
    rw [Nat.mul_one] at this
    rw [this]
    unfold FP.Core.settle FP.Core.bound
    simp only [t5, t4]
    rw [if_pos hhi, if_pos (by omega)]
  have e2 : FP.i2f (Int32.ofInt (n : Int)) = UInt32.ofNat (FP.Core.encode FP.Core.b32 (FP.Core.roundRatio FP.Core.b32 false n 1 0)) := by
    show UInt32.ofNat (FP.Core.fromInt FP.Core.b32 (Int32.ofInt (n : Int)).toInt) = _
    rw [i32_toInt ⟨by omega, by omega⟩]
    unfold FP.Core.fromInt FP.Core.ofInt FP.Core.round
    rw [show decide ((n : Int) < 0) = false from decide_eq_false (by omega), Int.natAbs_natCast]
  rw [e2, e]
  exact dec32 ⟨hlo, hhi⟩ ⟨by omega, by omega⟩
/-- the ratio of two whole numbers, as a float -/
def fQ (a b : Int) : UInt32 := FP.fdiv (FP.i2f (Int32.ofInt a)) (FP.i2f (Int32.ofInt b))
theorem fQ_r {a b : Int} (ha : 1 ≤ a ∧ a < 16777216) (hb : 1 ≤ b ∧ b < 16777216) : ∃ x : FP.Core.Datum, fQ a b = UInt32.ofNat (FP.Core.encode FP.Core.b32 x) ∧ rdd false 16777216 104 x := by
  obtain ⟨c, q, h1, h2⟩ := i2f_dec (n := a.toNat) (by omega)
  obtain ⟨d, r, h3, h4⟩ := i2f_dec (n := b.toNat) (by omega)
  rw [show ((a.toNat : Nat) : Int) = a by omega] at h1
  rw [show ((b.toNat : Nat) : Int) = b by omega] at h3
  refine ⟨FP.Core.roundRatio FP.Core.b32 false c d (q - r), ?_, rr32 _ _ _ _⟩
  show UInt32.ofNat (FP.Core.encode FP.Core.b32 (FP.Core.quotient FP.Core.b32 (FP.Core.decode FP.Core.b32 (FP.i2f (Int32.ofInt a)).toNat) (FP.Core.decode FP.Core.b32 (FP.i2f (Int32.ofInt b)).toNat))) = _
  rw [h1, h3]
  unfold FP.Core.quotient
  simp only
  rw [if_neg h4, show (false != false) = false from rfl]
theorem fQ_nn {a b : Int} (ha : 1 ≤ a ∧ a < 16777216) (hb : 1 ≤ b ∧ b < 16777216) : vf_n32 (fQ a b) := by
  obtain ⟨x, h1, h2⟩ := fQ_r ha hb
  rw [h1]
  exact nn32 h2
/-- a float that is no NaN stays none as a double -/
theorem f2d_nn {x : FP.Core.Datum} (h : rdd false 16777216 104 x) (hx : ∃ y, FP.Core.decode FP.Core.b32 (UInt32.ofNat (FP.Core.encode FP.Core.b32 x)).toNat = y ∧ (y = .inf false ∨ ∃ (c : Nat) (q : Int), y = .fin false c q)) : vf_n64 (FP.f2d (UInt32.ofNat (FP.Core.encode FP.Core.b32 x))) := by
  obtain ⟨y, hy, hk⟩ := hx
  unfold FP.f2d FP.Core.fIsNaN FP.Core.isNaN FP.Core.f2d FP.Core.convert
  rw [hy]
  rcases hk with rfl | ⟨c, q, rfl⟩
  · rw [if_neg (by decide)]
    exact nn64 (Or.inl rfl)
  · rw [if_neg (by simp)]
    exact nn64 (rr64 false _ _ _)
theorem dec32_any {x : FP.Core.Datum} (h : rdd false 16777216 104 x) : FP.Core.decode FP.Core.b32 (UInt32.ofNat (FP.Core.encode FP.Core.b32 x)).toNat = .inf false ∨ ∃ (c : Nat) (q : Int), FP.Core.decode FP.Core.b32 (UInt32.ofNat (FP.Core.encode FP.Core.b32 x)).toNat = .fin false c q := by
  obtain ⟨t1, t2, t3, t4, t5, t6⟩ := fb32
  rcases h with rfl | ⟨c, q, rfl, hc, hq⟩
  · left
    decide +kernel
  · right
    have key : ∀ e t : Nat, e < 255 → t < 8388608 → ∃ (c : Nat) (q : Int), FP.Core.decode FP.Core.b32 (e * 8388608 + t) = .fin false c q := by
      intro e t he ht
      unfold FP.Core.decode FP.Core.fieldE FP.Core.fieldT FP.Core.fieldS
      simp only [t1, t2, t3, t4]
      have e1 : (e * 8388608 + t) / 8388608 = e := by omega
      rw [e1, show e % 256 = e by omega, show e / 256 = 0 by omega, if_neg (by omega)]
      split
      · exact ⟨_, _, rfl⟩
      · exact ⟨_, _, rfl⟩
    have hn : FP.Core.encode FP.Core.b32 (.fin false c q) = (if c < 8388608 then 0 else (q + 149).toNat + 1) * 8388608 + (if c < 8388608 then c else c - 8388608) := by
      unfold FP.Core.encode FP.Core.assemble
      simp only [t1, t2, t3, t4]
      split
      · rw [show Bool.toNat false = 0 from rfl]
      · rw [show Bool.toNat false = 0 from rfl, show (q - -149) = q + 149 by omega, Nat.zero_mul, Nat.zero_add]
    rw [hn]
    have hb1 : (if c < 8388608 then 0 else (q + 149).toNat + 1) < 255 := by split <;> omega
    have hb2 : (if c < 8388608 then c else c - 8388608) < 8388608 := by split <;> omega
    rw [UInt32.toNat_ofNat', Nat.mod_eq_of_lt (by omega)]
    exact key _ _ hb1 hb2
theorem fQ_d {a b : Int} (ha : 1 ≤ a ∧ a < 16777216) (hb : 1 ≤ b ∧ b < 16777216) : vf_n64 (FP.f2d (fQ a b)) := by
  obtain ⟨x, h1, h2⟩ := fQ_r ha hb
  rw [h1]
  rcases dec32_any h2 with h | h
  · exact f2d_nn h2 ⟨_, rfl, Or.inl h⟩
  · exact f2d_nn h2 ⟨_, rfl, Or.inr h⟩
