/-! Primitives: by hypot -/
theorem dRf_ex {n : Nat} (h1 : 1 ≤ n) (h2 : n < 17179869184) : ∀ (m j : Nat), j + m = 63 → isq (n * 4 ^ j) < 18014398509481984 → ∃ i, 1 ≤ i ∧ i ≤ 53 ∧ 9007199254740992 ≤ isq (n * 4 ^ i) ∧ isq (n * 4 ^ i) < 18014398509481984 ∧ dRf n m j = dI ((isq (n * 4 ^ i) + 1) / 2) (-((i - 1 : Nat) : Int))
  | 0, j, hj, hb => by
    have := j_le h1 hb
    omega
  | m + 1, j, hj, hb => by
    rw [dRf_s]
    by_cases q : 9007199254740992 ≤ isq (n * 4 ^ j)
    · rw [if_pos q]
      refine ⟨j, ?_, j_le h1 hb, q, hb, rfl⟩
      apply Nat.pos_of_ne_zero
      intro z
      rw [z, Nat.pow_zero, Nat.mul_one] at q
      have := isq_lt (a := 131072) (N := n) (by omega)
      omega
    · rw [if_neg q]
      refine dRf_ex h1 h2 m (j + 1) (by omega) ?_
      have hst := isq_step (n * 4 ^ j) 0 (by decide)
      rw [four_j n j] at hst
      by_cases c : 4 * rs (n * 4 ^ j) + ((0 : Nat) : Int) ≤ 2 * (2 * (isq (n * 4 ^ j) : Int))
      · have := (hst.1 c).1
        omega
      · have := (hst.2 c).1
        omega
theorem dR_ex {n : Nat} (h1 : 1 ≤ n) (h2 : n < 17179869184) : ∃ i, 1 ≤ i ∧ i ≤ 53 ∧ 9007199254740992 ≤ isq (n * 4 ^ i) ∧ isq (n * 4 ^ i) < 18014398509481984 ∧ dR n = dI ((isq (n * 4 ^ i) + 1) / 2) (-((i - 1 : Nat) : Int)) :=
  dRf_ex h1 h2 63 0 rfl (by
    rw [Nat.pow_zero, Nat.mul_one]
    have := isq_lt (a := 131072) (N := n) (by omega)
    omega)
theorem isq_sq4 (z i : Nat) : isq (z * z * 4 ^ i) = z * 2 ^ i := by
  rw [← pow22, show z * z * (2 ^ i * 2 ^ i) = (z * 2 ^ i) * (z * 2 ^ i) by ac_rfl]
  exact isq_sq _
/-- the root of a square is told as that whole number -/
theorem dR_sq {z : Nat} (h1 : 1 ≤ z) (h2 : z * z < 17179869184) : FP.dcmp (dR (z * z)) (dI z 0) = some (compare (0 : Int) 0) := by
  have hz : z ≤ 131072 := by
    apply Nat.not_lt.mp
    intro w
    have := Nat.mul_self_le_mul_self (show 131072 ≤ z by omega)
    omega
  obtain ⟨i, i1, i2, i3, i4, e⟩ := dR_ex (n := z * z) (Nat.mul_pos h1 h1) h2
  rw [isq_sq4] at i3 i4 e
  have hp : z * 2 ^ i = 2 * (z * 2 ^ (i - 1)) := by
    have : 2 ^ i = 2 ^ (i - 1) * 2 := by rw [← Nat.pow_succ]; exact congrArg (fun x => 2 ^ x) (show i = (i - 1).succ by omega)
    rw [this]
    ac_rfl
  have hx : (z * 2 ^ i + 1) / 2 = z * 2 ^ (i - 1) := by omega
  rw [hx] at e
  have := dcmp_of (m := z * 2 ^ (i - 1)) (n := z) (k := i - 1) (l := 0) (by omega) (by omega) (by omega) (by omega)
  rw [e]
  refine this.trans ?_
  rw [Nat.pow_zero, Nat.mul_one]
  have k := (@cmp_lt (((z * 2 ^ (i - 1) : Nat) : Int)) (((z * 2 ^ (i - 1) : Nat) : Int))).2.mpr rfl
  have k2 := (@cmp_lt (0 : Int) 0).2.mpr rfl
  rw [k, k2]
/-- an odd leg and an even one, if they make a primitive one up to b -/
def hA1 (b o e : Nat) (r : List Nat) : List Nat := if isq (o * o + e * e) * isq (o * o + e * e) = o * o + e * e ∧ isq (o * o + e * e) ≤ b ∧ Nat.gcd o e = 1 then insR (keyN o e (isq (o * o + e * e))) r else r
def hE (b o : Nat) : Nat → Nat → List Nat → List Nat
  | 0, _, r => r
  | m + 1, e, r => hE b o m (e + 2) (hA1 b o e r)
theorem hE_s (b o m e : Nat) (r : List Nat) : hE b o (m + 1) e r = hE b o m (e + 2) (hA1 b o e r) := rfl
theorem hA1_len (b o e : Nat) (r : List Nat) : r.length ≤ (hA1 b o e r).length := by
  unfold hA1
  split
  · rw [insR_len]; omega
  · exact Nat.le_refl _
theorem hE_len (b o : Nat) : ∀ (m e : Nat) (r : List Nat), r.length ≤ (hE b o m e r).length
  | 0, _, _ => Nat.le_refl _
  | m + 1, e, r => Nat.le_trans (hA1_len b o e r) (hE_len b o m (e + 2) _)
theorem hA1_id {b o e : Nat} {r : List Nat} (h : b * b < o * o + e * e) : hA1 b o e r = r := by
  refine if_neg (fun z => ?_)
  have := Nat.mul_le_mul z.2.1 z.2.1
  omega
theorem hE_id (b o : Nat) : ∀ (m e : Nat) (r : List Nat), b * b < o * o + e * e → hE b o m e r = r
  | 0, _, _, _ => rfl
  | m + 1, e, r, h => by
    rw [hE_s, hA1_id h]
    refine hE_id b o m (e + 2) r ?_
    have := Nat.mul_le_mul (show e ≤ e + 2 by omega) (show e ≤ e + 2 by omega)
    omega
def hO (b k : Nat) : Nat → Nat → List Nat → List Nat
  | 0, _, r => r
  | m + 1, o, r => hO b k m (o + 2) (hE b o k 2 r)
theorem hO_s (b k m o : Nat) (r : List Nat) : hO b k (m + 1) o r = hO b k m (o + 2) (hE b o k 2 r) := rfl
theorem hO_len (b k : Nat) : ∀ (m o : Nat) (r : List Nat), r.length ≤ (hO b k m o r).length
  | 0, _, _ => Nat.le_refl _
  | m + 1, o, r => Nat.le_trans (hE_len b o k 2 r) (hO_len b k m (o + 2) _)
theorem hO_id (b k : Nat) : ∀ (m o : Nat) (r : List Nat), b ≤ o → hO b k m o r = r
  | 0, _, _, _ => rfl
  | m + 1, o, r, h => by
    rw [hO_s, hE_id b o k 2 r (by have := Nat.mul_le_mul h h; omega)]
    exact hO_id b k m (o + 2) r (by omega)
abbrev rX2_addByHypot : Room := { frames := 2, cells := 0, slots := 0, locals := 56 }
