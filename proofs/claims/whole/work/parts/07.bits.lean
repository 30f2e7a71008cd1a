/-! shifts, masks, comparisons of doubles: rows over whole numbers -/
theorem ofInt32_nat (a : Int) : (Int32.ofInt a).toBitVec.toNat = (a % 2 ^ 32).toNat := by
  show (BitVec.ofInt 32 a).toNat = _
  rw [BitVec.toNat_ofInt]
  rfl
theorem ofInt64_nat (a : Int) : (Int64.ofInt a).toBitVec.toNat = (a % 2 ^ 64).toNat := by
  show (BitVec.ofInt 64 a).toNat = _
  rw [BitVec.toNat_ofInt]
  rfl
theorem emod_toNat (a : Int) {m n : Nat} (hm : 0 < m) (hd : m ∣ n) (hn : 0 < n) : (a % (n : Int)).toNat % m = (a % (m : Int)).toNat := by
  have h1 : 0 ≤ a % (n : Int) := Int.emod_nonneg _ (by omega)
  have h2 : 0 ≤ a % (m : Int) := Int.emod_nonneg _ (by omega)
  apply Int.ofNat_inj.mp
  rw [Int.natCast_emod, Int.toNat_of_nonneg h1, Int.toNat_of_nonneg h2, Int.emod_emod_of_dvd _ (Int.natCast_dvd_natCast.mpr hd)]
theorem i64_mask (a : Int) (k : Nat) (hk : k ≤ 63) : Int64.ofInt a &&& Int64.ofInt ((2 ^ k : Nat) - 1 : Int) = Int64.ofInt (a % (2 ^ k : Nat)) := by
  apply Int64.toBitVec_inj.mp
  apply BitVec.eq_of_toNat_eq
  have hp : 0 < 2 ^ k := Nat.two_pow_pos k
  have hk2 : 2 ^ k ≤ 2 ^ 63 := Nat.pow_le_pow_right (by omega) hk
  have hm : (Int64.ofInt ((2 ^ k : Nat) - 1 : Int)).toBitVec.toNat = 2 ^ k - 1 := by
    rw [ofInt64_nat, Int.emod_eq_of_lt (by omega) (by omega)]
    omega
  have hr : 0 ≤ a % ((2 ^ k : Nat) : Int) := Int.emod_nonneg _ (by omega)
  have hr2 : a % ((2 ^ k : Nat) : Int) < ((2 ^ k : Nat) : Int) := Int.emod_lt_of_pos _ (by omega)
  rw [Int64.toBitVec_and, BitVec.toNat_and, hm, Nat.and_two_pow_sub_one_eq_mod, ofInt64_nat, ofInt64_nat, Int.emod_eq_of_lt (a := a % _) hr (by omega)]
  exact emod_toNat a hp (Nat.pow_dvd_pow 2 (by omega)) (Nat.two_pow_pos _)
theorem i32_mask (a : Int) (k : Nat) (hk : k ≤ 31) : Int32.ofInt a &&& Int32.ofInt ((2 ^ k : Nat) - 1 : Int) = Int32.ofInt (a % (2 ^ k : Nat)) := by
  apply Int32.toBitVec_inj.mp
  apply BitVec.eq_of_toNat_eq
  have hp : 0 < 2 ^ k := Nat.two_pow_pos k
  have hk2 : 2 ^ k ≤ 2 ^ 31 := Nat.pow_le_pow_right (by omega) hk
  have hm : (Int32.ofInt ((2 ^ k : Nat) - 1 : Int)).toBitVec.toNat = 2 ^ k - 1 := by
    rw [ofInt32_nat, Int.emod_eq_of_lt (by omega) (by omega)]
    omega
  have hr : 0 ≤ a % ((2 ^ k : Nat) : Int) := Int.emod_nonneg _ (by omega)
  have hr2 : a % ((2 ^ k : Nat) : Int) < ((2 ^ k : Nat) : Int) := Int.emod_lt_of_pos _ (by omega)
  rw [Int32.toBitVec_and, BitVec.toNat_and, hm, Nat.and_two_pow_sub_one_eq_mod, ofInt32_nat, ofInt32_nat, Int.emod_eq_of_lt (a := a % _) hr (by omega)]
  exact emod_toNat a hp (Nat.pow_dvd_pow 2 (by omega)) (Nat.two_pow_pos _)
theorem i64_or (x b : Int) (k : Nat) (hk : k ≤ 63) (hb : 0 ≤ b ∧ b < (2 ^ k : Nat)) : Int64.ofInt (x * (2 ^ k : Nat)) ||| Int64.ofInt b = Int64.ofInt (x * (2 ^ k : Nat) + b) := by
  have h0 : Int64.ofInt b = Int64.ofInt b &&& Int64.ofInt ((2 ^ k : Nat) - 1 : Int) := by
    rw [i64_mask b k hk, Int.emod_eq_of_lt hb.1 hb.2]
  have h1 : Int64.ofInt (x * (2 ^ k : Nat)) &&& Int64.ofInt b = 0 := by
    rw [h0, Int64.and_comm (Int64.ofInt b), ← Int64.and_assoc, i64_mask _ k hk, Int.mul_emod_left]
    exact Int64.zero_and
  apply Int64.toBitVec_inj.mp
  rw [Int64.ofInt_add, Int64.toBitVec_or, Int64.toBitVec_add]
  refine (BitVec.add_eq_or_of_and_eq_zero _ _ ?_).symm
  rw [← Int64.toBitVec_and, h1]
  rfl
theorem i32_or (x b : Int) (k : Nat) (hk : k ≤ 31) (hb : 0 ≤ b ∧ b < (2 ^ k : Nat)) : Int32.ofInt (x * (2 ^ k : Nat)) ||| Int32.ofInt b = Int32.ofInt (x * (2 ^ k : Nat) + b) := by
  have h0 : Int32.ofInt b = Int32.ofInt b &&& Int32.ofInt ((2 ^ k : Nat) - 1 : Int) := by
    rw [i32_mask b k hk, Int.emod_eq_of_lt hb.1 hb.2]
  have h1 : Int32.ofInt (x * (2 ^ k : Nat)) &&& Int32.ofInt b = 0 := by
    rw [h0, Int32.and_comm (Int32.ofInt b), ← Int32.and_assoc, i32_mask _ k hk, Int.mul_emod_left]
    exact Int32.zero_and
  apply Int32.toBitVec_inj.mp
  rw [Int32.ofInt_add, Int32.toBitVec_or, Int32.toBitVec_add]
  refine (BitVec.add_eq_or_of_and_eq_zero _ _ ?_).symm
  rw [← Int32.toBitVec_and, h1]
  rfl
theorem sh32 : ∀ n : Nat, n < 32 → ((Int32.ofInt n &&& 31).toBitVec.smod 32).toNat = n := by decide +kernel
theorem sh64 : ∀ n : Nat, n < 64 → (((Int32.ofInt n).toInt64 &&& 63).toBitVec.smod 64).toNat = n := by decide +kernel
theorem i32_shl (a : Int) (k : Nat) (hk : k < 32) : Int32.ofInt a <<< (Int32.ofInt k &&& 31) = Int32.ofInt (a * (2 ^ k : Nat)) := by
  apply Int32.toBitVec_inj.mp
  apply BitVec.eq_of_toNat_eq
  rw [pk_shl _ _ k (sh32 k hk), ofInt32_nat, ofInt32_nat]
  apply Int.ofNat_inj.mp
  rw [Int.natCast_emod, Int.natCast_mul, Int.toNat_of_nonneg (Int.emod_nonneg _ (by decide)), Int.toNat_of_nonneg (Int.emod_nonneg _ (by decide))]
  show (a % 2 ^ 32 * _) % (4294967296 : Int) = (a * _) % 2 ^ 32
  rw [show (2 : Int) ^ 32 = 4294967296 from rfl, Int.mul_emod, Int.emod_emod, ← Int.mul_emod]
theorem i32_shr (a : Int) (k : Nat) (hk : k < 32) (ha : I32 a) : Int32.ofInt a >>> (Int32.ofInt k &&& 31) = Int32.ofInt (a / (2 ^ k : Nat)) := by
  have hp : 0 < 2 ^ k := Nat.two_pow_pos k
  have h1 : a / ((2 ^ k : Nat) : Int) ≤ 2147483647 := by
    refine Int.le_trans (Int.ediv_le_ediv (by omega) (show a ≤ 2147483647 by have := ha.2; omega)) (Int.ediv_le_self _ (by decide))
  have h2 : -2147483648 ≤ a / ((2 ^ k : Nat) : Int) := by
    rw [Int.le_ediv_iff_mul_le (by omega)]
    refine Int.le_trans ?_ ha.1
    have : (1 : Int) ≤ ((2 ^ k : Nat) : Int) := by omega
    omega
  apply Int32.toInt_inj.mp
  rw [pk_shr _ _ k (sh32 k hk), i32_toInt ha, i32_toInt ⟨h2, by omega⟩, Int.shiftRight_eq_div_pow]
theorem i64_shl (a : Int) (k : Nat) (hk : k < 64) : Int64.ofInt a <<< ((Int32.ofInt k).toInt64 &&& 63) = Int64.ofInt (a * (2 ^ k : Nat)) := by
  apply Int64.toBitVec_inj.mp
  apply BitVec.eq_of_toNat_eq
  show ((Int64.ofInt a).toBitVec <<< (((Int32.ofInt k).toInt64 &&& 63).toBitVec.smod 64).toNat).toNat = _
  rw [sh64 k hk, BitVec.toNat_shiftLeft, Nat.shiftLeft_eq, ofInt64_nat, ofInt64_nat]
  apply Int.ofNat_inj.mp
  rw [Int.natCast_emod, Int.natCast_mul, Int.toNat_of_nonneg (Int.emod_nonneg _ (by decide)), Int.toNat_of_nonneg (Int.emod_nonneg _ (by decide))]
  show (a % 2 ^ 64 * _) % (18446744073709551616 : Int) = (a * _) % 2 ^ 64
  rw [show (2 : Int) ^ 64 = 18446744073709551616 from rfl, Int.mul_emod, Int.emod_emod, ← Int.mul_emod]
theorem i64_shr (a : Int) (k : Nat) (hk : k < 64) (ha : I64 a) : Int64.ofInt a >>> ((Int32.ofInt k).toInt64 &&& 63) = Int64.ofInt (a / (2 ^ k : Nat)) := by
  have hp : 0 < 2 ^ k := Nat.two_pow_pos k
  have h1 : a / ((2 ^ k : Nat) : Int) ≤ 9223372036854775807 := by
    refine Int.le_trans (Int.ediv_le_ediv (by omega) (show a ≤ 9223372036854775807 by have := ha.2; omega)) (Int.ediv_le_self _ (by decide))
  have h2 : -9223372036854775808 ≤ a / ((2 ^ k : Nat) : Int) := by
    rw [Int.le_ediv_iff_mul_le (by omega)]
    refine Int.le_trans ?_ ha.1
    have : (1 : Int) ≤ ((2 ^ k : Nat) : Int) := by omega
    omega
  apply Int64.toInt_inj.mp
  show ((Int64.ofInt a).toBitVec.sshiftRight (((Int32.ofInt k).toInt64 &&& 63).toBitVec.smod 64).toNat).toInt = _
  rw [sh64 k hk, BitVec.toInt_sshiftRight]
  show (Int64.ofInt a).toInt >>> k = _
  rw [i64_toInt ha, i64_toInt ⟨h2, by omega⟩, Int.shiftRight_eq_div_pow]
theorem i32_i2c (a : Int) : ((Int32.ofInt a).toUInt32 % 65536).toInt32 = Int32.ofInt (a % 65536) := by
  rw [pk_char, ofInt32_nat]
  have h := emod_toNat a (m := 65536) (n := 4294967296) (by decide) (by decide) (by decide)
  have h0 : 0 ≤ a % ((65536 : Nat) : Int) := Int.emod_nonneg _ (by decide)
  have e1 : nI ((a % (4294967296 : Nat)).toNat % 65536) = nI (a % (65536 : Nat)).toNat := congrArg nI h
  refine Eq.trans (show nI ((a % 2 ^ 32).toNat % 65536) = nI ((a % (4294967296 : Nat)).toNat % 65536) from rfl) (e1.trans ?_)
  show Int32.ofNat _ = _
  rw [← Int32.ofInt_eq_ofNat, Int.toNat_of_nonneg h0]
  rfl
section Rows3
variable {K : KT} {D : va_G} {z0 nL : Nat} {h : Hp} {kc ks pc : Nat} {L : List (Nat × Value)} {st : List Value} {cc : ByteArray} {own : String} {rm : Room}
theorem r_land (X : CX K D z0 cc nL own rm) (d : decode cc pc = .ok (.land, 1)) {a b : Int} (k : Nat) (M : Int) (hk : k ≤ 63) (hM : ((2 ^ k : Nat) : Int) = M) (hb0 : b = M - 1) (kk : WW K D z0 nL h kc ks (pc + 1) L (jv (a % M) :: st)) : WW K D z0 nL h kc ks pc L (jv b :: jv a :: st) := by
  obtain ⟨p, l, e, R, s, m, args, below, meth, c, Q⟩ := K
  obtain ⟨hx, hb, hml, hown, hts, hl, hlk, hF, hR⟩ := X
  intro H locs cells slots ls h1 h2 h3 h4 h5
  refine lv_land hx hb d ?_
  subst hb0; subst hM
  rw [i64_mask a k hk]
  exact kk H locs cells slots ls h1 h2 h3 h4 h5
theorem r_iand (X : CX K D z0 cc nL own rm) (d : decode cc pc = .ok (.iand, 1)) {a b : Int} (k : Nat) (M : Int) (hk : k ≤ 31) (hM : ((2 ^ k : Nat) : Int) = M) (hb0 : b = M - 1) (kk : WW K D z0 nL h kc ks (pc + 1) L (iv (a % M) :: st)) : WW K D z0 nL h kc ks pc L (iv b :: iv a :: st) := by
  obtain ⟨p, l, e, R, s, m, args, below, meth, c, Q⟩ := K
  obtain ⟨hx, hb, hml, hown, hts, hl, hlk, hF, hR⟩ := X
  intro H locs cells slots ls h1 h2 h3 h4 h5
  refine lv_iand hx hb d ?_
  subst hb0; subst hM
  rw [i32_mask a k hk]
  exact kk H locs cells slots ls h1 h2 h3 h4 h5
/-- '|' of what has k noughts at its end and what has at most k digits -/
theorem r_lor (X : CX K D z0 cc nL own rm) (d : decode cc pc = .ok (.lor, 1)) {a b : Int} (x : Int) (k : Nat) (M : Int) (hk : k ≤ 63) (hM : ((2 ^ k : Nat) : Int) = M) (ha : a = x * M) (hb0 : 0 ≤ b ∧ b < M) (kk : WW K D z0 nL h kc ks (pc + 1) L (jv (a + b) :: st)) : WW K D z0 nL h kc ks pc L (jv b :: jv a :: st) := by
  obtain ⟨p, l, e, R, s, m, args, below, meth, c, Q⟩ := K
  obtain ⟨hx, hb, hml, hown, hts, hl, hlk, hF, hR⟩ := X
  intro H locs cells slots ls h1 h2 h3 h4 h5
  refine lv_lor hx hb d ?_
  subst hM; subst ha
  rw [i64_or x b k hk hb0]
  exact kk H locs cells slots ls h1 h2 h3 h4 h5
theorem r_ior (X : CX K D z0 cc nL own rm) (d : decode cc pc = .ok (.ior, 1)) {a b : Int} (x : Int) (k : Nat) (M : Int) (hk : k ≤ 31) (hM : ((2 ^ k : Nat) : Int) = M) (ha : a = x * M) (hb0 : 0 ≤ b ∧ b < M) (kk : WW K D z0 nL h kc ks (pc + 1) L (iv (a + b) :: st)) : WW K D z0 nL h kc ks pc L (iv b :: iv a :: st) := by
  obtain ⟨p, l, e, R, s, m, args, below, meth, c, Q⟩ := K
  obtain ⟨hx, hb, hml, hown, hts, hl, hlk, hF, hR⟩ := X
  intro H locs cells slots ls h1 h2 h3 h4 h5
  refine lv_ior hx hb d ?_
  subst hM; subst ha
  rw [i32_or x b k hk hb0]
  exact kk H locs cells slots ls h1 h2 h3 h4 h5
theorem r_ishl (X : CX K D z0 cc nL own rm) (d : decode cc pc = .ok (.ishl, 1)) {a b : Int} (k : Nat) (M : Int) (hk : k < 32) (hM : ((2 ^ k : Nat) : Int) = M) (hb0 : b = k) (kk : WW K D z0 nL h kc ks (pc + 1) L (iv (a * M) :: st)) : WW K D z0 nL h kc ks pc L (iv b :: iv a :: st) := by
  obtain ⟨p, l, e, R, s, m, args, below, meth, c, Q⟩ := K
  obtain ⟨hx, hb, hml, hown, hts, hl, hlk, hF, hR⟩ := X
  intro H locs cells slots ls h1 h2 h3 h4 h5
  refine lv_ishl hx hb d ?_
  subst hb0; subst hM
  rw [i32_shl a k hk]
  exact kk H locs cells slots ls h1 h2 h3 h4 h5
theorem r_ishr (X : CX K D z0 cc nL own rm) (d : decode cc pc = .ok (.ishr, 1)) {a b : Int} (k : Nat) (M : Int) (hk : k < 32) (hM : ((2 ^ k : Nat) : Int) = M) (hb0 : b = k) (ha : I32 a) (kk : WW K D z0 nL h kc ks (pc + 1) L (iv (a / M) :: st)) : WW K D z0 nL h kc ks pc L (iv b :: iv a :: st) := by
  obtain ⟨p, l, e, R, s, m, args, below, meth, c, Q⟩ := K
  obtain ⟨hx, hb, hml, hown, hts, hl, hlk, hF, hR⟩ := X
  intro H locs cells slots ls h1 h2 h3 h4 h5
  refine lv_ishr hx hb d ?_
  subst hb0; subst hM
  rw [i32_shr a k hk ha]
  exact kk H locs cells slots ls h1 h2 h3 h4 h5
theorem r_lshl (X : CX K D z0 cc nL own rm) (d : decode cc pc = .ok (.lshl, 1)) {a b : Int} (k : Nat) (M : Int) (hk : k < 64) (hM : ((2 ^ k : Nat) : Int) = M) (hb0 : b = k) (kk : WW K D z0 nL h kc ks (pc + 1) L (jv (a * M) :: st)) : WW K D z0 nL h kc ks pc L (iv b :: jv a :: st) := by
  obtain ⟨p, l, e, R, s, m, args, below, meth, c, Q⟩ := K
  obtain ⟨hx, hb, hml, hown, hts, hl, hlk, hF, hR⟩ := X
  intro H locs cells slots ls h1 h2 h3 h4 h5
  subst hb0; subst hM
  exact lv_lshl hx hb d (i64_shl a k hk) (kk H locs cells slots ls h1 h2 h3 h4 h5)
theorem r_lshr (X : CX K D z0 cc nL own rm) (d : decode cc pc = .ok (.lshr, 1)) {a b : Int} (k : Nat) (M : Int) (hk : k < 64) (hM : ((2 ^ k : Nat) : Int) = M) (hb0 : b = k) (ha : I64 a) (kk : WW K D z0 nL h kc ks (pc + 1) L (jv (a / M) :: st)) : WW K D z0 nL h kc ks pc L (iv b :: jv a :: st) := by
  obtain ⟨p, l, e, R, s, m, args, below, meth, c, Q⟩ := K
  obtain ⟨hx, hb, hml, hown, hts, hl, hlk, hF, hR⟩ := X
  intro H locs cells slots ls h1 h2 h3 h4 h5
  subst hb0; subst hM
  exact lv_lshr hx hb d (i64_shr a k hk ha) (kk H locs cells slots ls h1 h2 h3 h4 h5)
theorem r_i2c (X : CX K D z0 cc nL own rm) (d : decode cc pc = .ok (.i2c, 1)) {a : Int} (kk : WW K D z0 nL h kc ks (pc + 1) L (iv (a % 65536) :: st)) : WW K D z0 nL h kc ks pc L (iv a :: st) := by
  obtain ⟨p, l, e, R, s, m, args, below, meth, c, Q⟩ := K
  obtain ⟨hx, hb, hml, hown, hts, hl, hlk, hF, hR⟩ := X
  intro H locs cells slots ls h1 h2 h3 h4 h5
  exact lv_i2c hx hb d (i32_i2c a) (kk H locs cells slots ls h1 h2 h3 h4 h5)
/-- doubles compared: the order of two whole numbers that stand for them -/
theorem r_dcmp (X : CX K D z0 cc nL own rm) {op : CmpOp} (d : decode cc pc = .ok (.dcmp op, 1)) {x y : UInt64} (a b : Int) (ho : FP.dcmp x y = some (compare a b)) (kk : ∀ c : Int, (c = -1 ∧ a < b) ∨ (c = 0 ∧ a = b) ∨ (c = 1 ∧ b < a) → WW K D z0 nL h kc ks (pc + 1) L (iv c :: st)) : WW K D z0 nL h kc ks pc L (.double y :: .double x :: st) := by
  obtain ⟨p, l, e, R, s, m, args, below, meth, c, Q⟩ := K
  obtain ⟨hx, hb, hml, hown, hts, hl, hlk, hF, hR⟩ := X
  intro H locs cells slots ls h1 h2 h3 h4 h5
  refine lv_dcmp hx hb d ?_
  rw [ho]
  rcases Int.lt_trichotomy a b with q | q | q
  · rw [show compare a b = .lt from Int.compare_eq_lt.mpr q]
    exact kk (-1) (Or.inl ⟨rfl, q⟩) H locs cells slots ls h1 h2 h3 h4 h5
  · rw [show compare a b = .eq from Int.compare_eq_eq.mpr q]
    exact kk 0 (Or.inr (Or.inl ⟨rfl, q⟩)) H locs cells slots ls h1 h2 h3 h4 h5
  · rw [show compare a b = .gt from Int.compare_eq_gt.mpr q]
    exact kk 1 (Or.inr (Or.inr ⟨rfl, q⟩)) H locs cells slots ls h1 h2 h3 h4 h5
end Rows3
