/-! Primitives: by hypot -/
theorem dRf_ex {n : Nat} (h1 : 1 ≤ n) (h2 : n < 17179869184) : ∀ (m j : Nat), j + m = 63 → isq (n * 4 ^ j) < 18014398509481984 → ∃ i, 1 ≤ i ∧ i ≤ 53 ∧ 9007199254740992 ≤ isq (n * 4 ^ i) ∧ isq (n * 4 ^ i) < 18014398509481984 ∧ dRf n m j = dI ((isq (n * 4 ^ i) + 1) / 2) (-((i - 1 : Nat) : Int))
  | 0, j, hj, hb => by
    have := j_le h1 hb
    omega
  | m + 1, j, hj, hb => by
    rw [dRf_s]
    by_cases q : 9007199254740992 ≤ isq (n * 4 ^ j)
    · rw [if_pos q]
      refine ⟨j, ?_, j_le h1 hb, q, hb, rfl⟩
      apply Nat.pos_of_ne_zero
      intro z
      rw [z, Nat.pow_zero, Nat.mul_one] at q
      have := isq_lt (a := 131072) (N := n) (by omega)
      omega
    · rw [if_neg q]
      refine dRf_ex h1 h2 m (j + 1) (by omega) ?_
      have hst := isq_step (n * 4 ^ j) 0 (by decide)
      rw [four_j n j] at hst
      by_cases c : 4 * rs (n * 4 ^ j) + ((0 : Nat) : Int) ≤ 2 * (2 * (isq (n * 4 ^ j) : Int))
      · have := (hst.1 c).1
        omega
      · have := (hst.2 c).1
        omega
theorem dR_ex {n : Nat} (h1 : 1 ≤ n) (h2 : n < 17179869184) : ∃ i, 1 ≤ i ∧ i ≤ 53 ∧ 9007199254740992 ≤ isq (n * 4 ^ i) ∧ isq (n * 4 ^ i) < 18014398509481984 ∧ dR n = dI ((isq (n * 4 ^ i) + 1) / 2) (-((i - 1 : Nat) : Int)) :=
  dRf_ex h1 h2 63 0 rfl (by
    rw [Nat.pow_zero, Nat.mul_one]
    have := isq_lt (a := 131072) (N := n) (by omega)
    omega)
theorem isq_sq4 (z i : Nat) : isq (z * z * 4 ^ i) = z * 2 ^ i := by
  rw [← pow22, show z * z * (2 ^ i * 2 ^ i) = (z * 2 ^ i) * (z * 2 ^ i) by ac_rfl]
  exact isq_sq _
/-- the root of a square is told as that whole number -/
theorem dR_sq {z : Nat} (h1 : 1 ≤ z) (h2 : z * z < 17179869184) : FP.dcmp (dR (z * z)) (dI z 0) = some (compare (0 : Int) 0) := by
  have hz : z ≤ 131072 := by
    apply Nat.not_lt.mp
    intro w
    have := Nat.mul_self_le_mul_self (show 131072 ≤ z by omega)
    omega
  obtain ⟨i, i1, i2, i3, i4, e⟩ := dR_ex (n := z * z) (Nat.mul_pos h1 h1) h2
  rw [isq_sq4] at i3 i4 e
  have hp : z * 2 ^ i = 2 * (z * 2 ^ (i - 1)) := by
    have : 2 ^ i = 2 ^ (i - 1) * 2 := by rw [← Nat.pow_succ]; exact congrArg (fun x => 2 ^ x) (show i = (i - 1).succ by omega)
    rw [this]
    ac_rfl
  have hx : (z * 2 ^ i + 1) / 2 = z * 2 ^ (i - 1) := by omega
  rw [hx] at e
  have := dcmp_of (m := z * 2 ^ (i - 1)) (n := z) (k := i - 1) (l := 0) (by omega) (by omega) (by omega) (by omega)
  rw [e]
  refine this.trans ?_
  rw [Nat.pow_zero, Nat.mul_one]
  have k := (@cmp_lt (((z * 2 ^ (i - 1) : Nat) : Int)) (((z * 2 ^ (i - 1) : Nat) : Int))).2.mpr rfl
  have k2 := (@cmp_lt (0 : Int) 0).2.mpr rfl
  rw [k, k2]
/-- an odd leg and an even one, if they make a primitive one up to b -/
def hA1 (b o e : Nat) (r : List Nat) : List Nat := if isq (o * o + e * e) * isq (o * o + e * e) = o * o + e * e ∧ isq (o * o + e * e) ≤ b ∧ Nat.gcd o e = 1 then insR (keyN o e (isq (o * o + e * e))) r else r
def hE (b o : Nat) : Nat → Nat → List Nat → List Nat
  | 0, _, r => r
  | m + 1, e, r => hE b o m (e + 2) (hA1 b o e r)
theorem hE_s (b o m e : Nat) (r : List Nat) : hE b o (m + 1) e r = hE b o m (e + 2) (hA1 b o e r) := rfl
theorem hA1_len (b o e : Nat) (r : List Nat) : r.length ≤ (hA1 b o e r).length := by
  unfold hA1
  split
  · rw [insR_len]; omega
  · exact Nat.le_refl _
theorem hE_len (b o : Nat) : ∀ (m e : Nat) (r : List Nat), r.length ≤ (hE b o m e r).length
  | 0, _, _ => Nat.le_refl _
  | m + 1, e, r => Nat.le_trans (hA1_len b o e r) (hE_len b o m (e + 2) _)
theorem hA1_id {b o e : Nat} {r : List Nat} (h : b * b < o * o + e * e) : hA1 b o e r = r := by
  refine if_neg (fun z => ?_)
  have := Nat.mul_le_mul z.2.1 z.2.1
  omega
theorem hE_id (b o : Nat) : ∀ (m e : Nat) (r : List Nat), b * b < o * o + e * e → hE b o m e r = r
  | 0, _, _, _ => rfl
  | m + 1, e, r, h => by
    rw [hE_s, hA1_id h]
    refine hE_id b o m (e + 2) r ?_
    have := Nat.mul_le_mul (show e ≤ e + 2 by omega) (show e ≤ e + 2 by omega)
    omega
def hO (b k : Nat) : Nat → Nat → List Nat → List Nat
  | 0, _, r => r
  | m + 1, o, r => hO b k m (o + 2) (hE b o k 2 r)
theorem hO_s (b k m o : Nat) (r : List Nat) : hO b k (m + 1) o r = hO b k m (o + 2) (hE b o k 2 r) := rfl
theorem hO_len (b k : Nat) : ∀ (m o : Nat) (r : List Nat), r.length ≤ (hO b k m o r).length
  | 0, _, _ => Nat.le_refl _
  | m + 1, o, r => Nat.le_trans (hE_len b o k 2 r) (hO_len b k m (o + 2) _)
theorem hO_id (b k : Nat) : ∀ (m o : Nat) (r : List Nat), b ≤ o → hO b k m o r = r
  | 0, _, _, _ => rfl
  | m + 1, o, r, h => by
    rw [hO_s, hE_id b o k 2 r (by have := Nat.mul_le_mul h h; omega)]
    exact hO_id b k m (o + 2) r (by omega)
abbrev rX2_addByHypot : Room := { frames := 2, cells := 0, slots := 0, locals := 56 }
theorem c_X2_addByHypot {l : Launch} (hl : l.stackTraces = false) (D : va_G) (z0 : Nat) (h : Hp) (f k : Nat) (r : List Nat) (hm : Pm D h f k r) (hb : ∀ a ∈ r, a < 134217728) (o b c : Nat) (hc : c = 199) (ho : 1 ≤ o) (hob : o < b) (hbb : b ≤ 400) (hlq : (hE b o c 2 r).length ≤ 63) : CC l yX2_addByHypot cX2_addByHypot 6 none rX2_addByHypot D z0 h [.ref f, iv (o : Int), iv (b : Int)] (fun w0 h' => w0 = none ∧ Pm D h' f k (hE b o c 2 r) ∧ Keep (fun y => y = f ∨ y = k) h h') NX := by
  refine CC_of RX2 hl (by decide) rfl (Nat.le_of_ble_eq_true rfl) (fun K X Y Z hmn hKl => ?_)
  subst hKl
  show WW K D z0 6 h 0 0 0 [(0, .ref f), (1, iv (o : Int)), (2, iv (b : Int))] []
  obtain ⟨R, hR⟩ : ∃ R, R = hE b o c 2 r := ⟨_, rfl⟩
  have outer : ∀ (m e l : Nat) (r1 : List Nat) (hA : Hp), e + 2 * m = 400 → 2 ≤ e → o ≤ l → l ≤ b → (l - 1) * (l - 1) < o * o + e * e → (∀ a ∈ r1, a < 134217728) → (hE b o m e r1).length ≤ 63 → hE b o m e r1 = R → Pm D hA f k r1 → Keep (fun y => y = f ∨ y = k) h hA → WW K D z0 6 hA 0 0 5 [(4, iv (e : Int)), (3, iv (l : Int)), (0, .ref f), (1, iv (o : Int)), (2, iv (b : Int))] [] := by
    intro m
    induction m with
    | zero =>
      intro e l r1 hA hem he2 hol hlb0 hlo0 hb hl9 he hm9 hkk
      refine r_iload 0 X dX2_addByHypot_5 rfl ?_
      refine r_iload_n 4 X dX2_addByHypot_7 rfl ?_
      refine r_icmp_ge 94 X dX2_addByHypot_8 (by decide) ⟨by omega, by omega⟩ ⟨by omega, by omega⟩ (fun c8 => ?_) (fun c8 => ?_)
      · refine r_vret X Y dX2_addByHypot_94 (by decide) (by decide) ?_
        exact ⟨rfl, by rw [← hR, ← he]; exact hm9, hkk⟩
      · exfalso
        omega
    | succ m ihe =>
      intro e l r1 hA hem he2 hol hlb0 hlo0 hb hl9 he hm9 hkk
      have hoo := Nat.mul_le_mul (show o ≤ 400 by omega) (show o ≤ 400 by omega)
      have hoo1 := Nat.mul_le_mul (show 1 ≤ o by omega) (show 1 ≤ o by omega)
      have hee := Nat.mul_le_mul (show e ≤ 400 by omega) (show e ≤ 400 by omega)
      have hmono := Nat.mul_le_mul (show e ≤ e + 2 by omega) (show e ≤ e + 2 by omega)
      have hl3 : r1.length ≤ 63 := Nat.le_trans (hE_len b o (m + 1) e r1) hl9
      refine r_iload 0 X dX2_addByHypot_5 rfl ?_
      refine r_iload_n 4 X dX2_addByHypot_7 rfl ?_
      refine r_icmp_ge 94 X dX2_addByHypot_8 (by decide) ⟨by omega, by omega⟩ ⟨by omega, by omega⟩ (fun c8 => ?_) (fun c8 => ?_)
      · refine r_vret X Y dX2_addByHypot_94 (by decide) (by decide) ?_
        have hbe := Nat.mul_le_mul (show b ≤ e by omega) (show b ≤ e by omega)
        exact ⟨rfl, by rw [← hR, ← he, hE_id b o (m + 1) e r1 (by omega)]; exact hm9, hkk⟩
      · refine r_iload_n 3 X dX2_addByHypot_11 rfl ?_
        refine r_iload_n 3 X dX2_addByHypot_12 rfl ?_
        refine r_imul X dX2_addByHypot_13 ?_
        refine r_iload 0 X dX2_addByHypot_14 rfl ?_
        refine r_iload 0 X dX2_addByHypot_16 rfl ?_
        refine r_imul X dX2_addByHypot_18 ?_
        refine r_iadd X dX2_addByHypot_19 ?_
        refine WW_e (congrArg (fun z => iv z :: []) (show ((o : Int) * (o : Int)) + ((e : Int) * (e : Int)) = ((o * o + e * e : Nat) : Int) by rw [Int.natCast_add, Int.natCast_mul, Int.natCast_mul])) ?_
        show WW K D z0 6 hA 0 0 20 [(4, iv (e : Int)), (3, iv (l : Int)), (0, .ref f), (1, iv (o : Int)), (2, iv (b : Int))] [iv ((o * o + e * e : Nat) : Int)]
        refine r_istore (L' := [(5, iv ((o * o + e * e : Nat) : Int)), (4, iv (e : Int)), (3, iv (l : Int)), (0, .ref f), (1, iv (o : Int)), (2, iv (b : Int))]) X dX2_addByHypot_20 (by decide) rfl ?_
        have inner : ∀ (q l : Nat), l + q = b + 1 → o ≤ l → (l - 1) * (l - 1) < o * o + e * e → WW K D z0 6 hA 0 0 22 [(5, iv ((o * o + e * e : Nat) : Int)), (4, iv (e : Int)), (3, iv (l : Int)), (0, .ref f), (1, iv (o : Int)), (2, iv (b : Int))] [] := by
          intro q
          induction q with
          | zero =>
            intro l hq ho hlo
            have hlb : l = b + 1 := hq
            rw [hlb, Nat.add_sub_cancel] at hlo
            refine r_iload_n 2 X dX2_addByHypot_22 rfl ?_
            refine r_iload_n 5 X dX2_addByHypot_23 rfl ?_
            refine r_icmp_gt 41 X dX2_addByHypot_24 (by decide) ⟨by omega, by omega⟩ ⟨by omega, by omega⟩ (fun c24 => ?_) (fun c24 => ?_)
            · refine r_iload_n 2 X dX2_addByHypot_41 rfl ?_
              refine r_iload_n 5 X dX2_addByHypot_42 rfl ?_
              refine r_icmp_le 47 X dX2_addByHypot_43 (by decide) ⟨by omega, by omega⟩ ⟨by omega, by omega⟩ (fun c43 => ?_) (fun c43 => ?_)
              · exfalso
                omega
              · refine r_vret X Y dX2_addByHypot_46 (by decide) (by decide) ?_
                exact ⟨rfl, by rw [← hR, ← he, hE_id b o (m + 1) e r1 (by omega)]; exact hm9, hkk⟩
            · exfalso
              omega
          | succ q ihq =>
            intro l hq ho hlo
            have hl2 := Nat.mul_le_mul (show l ≤ 400 by omega) (show l ≤ 400 by omega)
            refine r_iload_n 2 X dX2_addByHypot_22 rfl ?_
            refine r_iload_n 5 X dX2_addByHypot_23 rfl ?_
            refine r_icmp_gt 41 X dX2_addByHypot_24 (by decide) ⟨by omega, by omega⟩ ⟨by omega, by omega⟩ (fun c24 => ?_) (fun c24 => ?_)
            · exfalso
              omega
            · refine r_iload_n 2 X dX2_addByHypot_27 rfl ?_
              refine r_iload_n 2 X dX2_addByHypot_28 rfl ?_
              refine r_imul X dX2_addByHypot_29 ?_
              refine r_iload 0 X dX2_addByHypot_30 rfl ?_
              refine r_icmp_ge 41 X dX2_addByHypot_32 (by decide) ⟨by omega, by omega⟩ ⟨by omega, by omega⟩ (fun c32 => ?_) (fun c32 => ?_)
              · refine r_iload_n 2 X dX2_addByHypot_41 rfl ?_
                refine r_iload_n 5 X dX2_addByHypot_42 rfl ?_
                refine r_icmp_le 47 X dX2_addByHypot_43 (by decide) ⟨by omega, by omega⟩ ⟨by omega, by omega⟩ (fun c43 => ?_) (fun c43 => ?_)
                · refine r_iload_n 2 X dX2_addByHypot_47 rfl ?_
                  refine r_iload_n 2 X dX2_addByHypot_48 rfl ?_
                  refine r_imul X dX2_addByHypot_49 ?_
                  refine r_iload 0 X dX2_addByHypot_50 rfl ?_
                  refine r_icmp_ne 88 X dX2_addByHypot_52 (by decide) ⟨by omega, by omega⟩ ⟨by omega, by omega⟩ (fun c52 => ?_) (fun c52 => ?_)
                  · refine r_iinc 1 (L' := [(4, iv ((e : Int) + 2)), (5, iv ((o * o + e * e : Nat) : Int)), (3, iv (l : Int)), (0, .ref f), (1, iv (o : Int)), (2, iv (b : Int))]) X dX2_addByHypot_88 rfl (by decide) rfl ?_
                    refine r_goto 5 X dX2_addByHypot_91 (by decide) ?_
                    refine WW_sub (L' := [(4, iv ((e : Int) + 2)), (3, iv (l : Int)), (0, .ref f), (1, iv (o : Int)), (2, iv (b : Int))]) [0, 2, 3, 4, 5] rfl ?_
                    have hid : hA1 b o e r1 = r1 := by
                      refine if_neg (fun z => ?_)
                      have hz := z.1
                      have z1 : isq (o * o + e * e) ≤ l := by
                        apply Nat.not_lt.mp
                        intro w
                        have := Nat.mul_self_le_mul_self (show l + 1 ≤ isq (o * o + e * e) from w)
                        simp only [Nat.mul_add, Nat.add_mul, Nat.mul_one, Nat.one_mul] at this
                        omega
                      have z2 : l ≤ isq (o * o + e * e) := by
                        apply Nat.not_lt.mp
                        intro w
                        have := Nat.mul_self_le_mul_self (show isq (o * o + e * e) ≤ l - 1 by omega)
                        omega
                      have z3 : isq (o * o + e * e) = l := Nat.le_antisymm z1 z2
                      rw [z3] at hz
                      omega
                    rw [show ((e : Int) + 2) = ((e + 2 : Nat) : Int) from rfl]
                    rw [hE_s, hid] at hl9 he
                    exact ihe (e + 2) l _ _ (by omega) (by omega) (by omega) (by omega) (by omega) hb hl9 he hm9 hkk
                  · refine r_iload_n 4 X dX2_addByHypot_55 rfl ?_
                    refine r_iload 1 X dX2_addByHypot_56 rfl ?_
                    refine r_callS_v X dX2_addByHypot_58 kX2_74 (c_X1_nearestHypot (CX_l X) D z0 hA o e (by omega) (by omega)) [] rfl rfl (Nat.le_of_ble_eq_true rfl) (by decide) rfl rfl (by decide) ?_
                    refine r_iload_n 2 X dX2_addByHypot_61 rfl ?_
                    refine r_i2d X dX2_addByHypot_62 ?_
                    have hll : l * l = o * o + e * e := by omega
                    refine WW_e (congrArg (fun z => Value.double z :: [.double (dR (o * o + e * e))]) (show FP.i2d (Int32.ofInt (l : Int)) = dI l 0 from i2d_of (by omega))) ?_
                    show WW K D z0 6 hA 0 0 63 [(5, iv ((o * o + e * e : Nat) : Int)), (4, iv (e : Int)), (3, iv (l : Int)), (0, .ref f), (1, iv (o : Int)), (2, iv (b : Int))] [.double (dI l 0), .double (dR (o * o + e * e))]
                    refine r_dcmp X dX2_addByHypot_63 0 0 (by rw [← hll]; exact dR_sq (by omega) (by omega)) (fun v63 hv63 => ?_)
                    refine r_if_ne 88 X dX2_addByHypot_64 (by decide) ⟨by omega, by omega⟩ (fun c63 => ?_) (fun c63 => ?_)
                    · exfalso
                      omega
                    · refine r_iload_n 4 X dX2_addByHypot_67 rfl ?_
                      refine r_i2l X dX2_addByHypot_68 ⟨by omega, by omega⟩ ?_
                      refine r_iload 1 X dX2_addByHypot_69 rfl ?_
                      refine r_i2l X dX2_addByHypot_71 ⟨by omega, by omega⟩ ?_
                      have hgn : Int.gcd (o : Int) (e : Int) = Nat.gcd o e := rfl
                      have hgb : Nat.gcd o e ≤ e := Nat.gcd_le_right _ (by omega)
                      refine r_callS_v X dX2_addByHypot_72 kX2_38 (c_X1_commonDivisor (CX_l X) D z0 hA (o : Int) (e : Int) ⟨by omega, by omega⟩ ⟨by omega, by omega⟩) [] rfl rfl (Nat.le_of_ble_eq_true rfl) (by decide) rfl rfl (by decide) ?_
                      refine r_lconst 1 X dX2_addByHypot_75 (by decide) ?_
                      refine r_lcmp_ne 88 X dX2_addByHypot_76 dX2_addByHypot_77 (by decide) ⟨by omega, by omega⟩ ⟨by omega, by omega⟩ (fun c76 => ?_) (fun c76 => ?_)
                      · refine r_iinc 1 (L' := [(4, iv ((e : Int) + 2)), (5, iv ((o * o + e * e : Nat) : Int)), (3, iv (l : Int)), (0, .ref f), (1, iv (o : Int)), (2, iv (b : Int))]) X dX2_addByHypot_88 rfl (by decide) rfl ?_
                        refine r_goto 5 X dX2_addByHypot_91 (by decide) ?_
                        refine WW_sub (L' := [(4, iv ((e : Int) + 2)), (3, iv (l : Int)), (0, .ref f), (1, iv (o : Int)), (2, iv (b : Int))]) [0, 2, 3, 4, 5] rfl ?_
                        have hid : hA1 b o e r1 = r1 := by
                          refine if_neg (fun z => ?_)
                          have := z.2.2
                          omega
                        rw [show ((e : Int) + 2) = ((e + 2 : Nat) : Int) from rfl]
                        rw [hE_s, hid] at hl9 he
                        exact ihe (e + 2) l _ _ (by omega) (by omega) (by omega) (by omega) (by omega) hb hl9 he hm9 hkk
                      · refine r_aload_n 3 X dX2_addByHypot_80 rfl ?_
                        refine r_iload_n 4 X dX2_addByHypot_81 rfl ?_
                        refine r_iload 1 X dX2_addByHypot_82 rfl ?_
                        refine r_iload_n 2 X dX2_addByHypot_84 rfl ?_
                        refine r_callV X dX2_addByHypot_85 kX2_44 hm9.1 (c_X2_add (CX_l X) D z0 hA f k r1 hm9 (by omega) hb o e l (by omega) (by omega) (by omega)) [] rfl rfl (Nat.le_of_ble_eq_true rfl) (by decide) (by decide) (fun _ _ z => z.elim) (fun v9 h9 hv9 => ?_)
                        obtain ⟨rfl, hm8, hk8⟩ := hv9
                        show WW K D z0 6 h9 0 0 88 [(5, iv ((o * o + e * e : Nat) : Int)), (4, iv (e : Int)), (3, iv (l : Int)), (0, .ref f), (1, iv (o : Int)), (2, iv (b : Int))] []
                        refine r_iinc 1 (L' := [(4, iv ((e : Int) + 2)), (5, iv ((o * o + e * e : Nat) : Int)), (3, iv (l : Int)), (0, .ref f), (1, iv (o : Int)), (2, iv (b : Int))]) X dX2_addByHypot_88 rfl (by decide) rfl ?_
                        refine r_goto 5 X dX2_addByHypot_91 (by decide) ?_
                        refine WW_sub (L' := [(4, iv ((e : Int) + 2)), (3, iv (l : Int)), (0, .ref f), (1, iv (o : Int)), (2, iv (b : Int))]) [0, 2, 3, 4, 5] rfl ?_
                        rw [show ((e : Int) + 2) = ((e + 2 : Nat) : Int) from rfl]
                        have hsq : isq (o * o + e * e) = l := by rw [← hll]; exact isq_sq l
                        have hA1e : hA1 b o e r1 = insR (keyN o e l) r1 := by unfold hA1; rw [hsq, if_pos ⟨hll, by omega, by omega⟩]
                        rw [hE_s, hA1e] at hl9 he
                        exact ihe (e + 2) l _ _ (by omega) (by omega) (by omega) (by omega) (by omega) (ins_lt (keyN_lt (by omega) (by omega) (by omega)) hb) hl9 he hm8 (Keep_tr hkk hk8)
                · exfalso
                  omega
              · refine r_iinc 2 (L' := [(3, iv ((l : Int) + 1)), (5, iv ((o * o + e * e : Nat) : Int)), (4, iv (e : Int)), (0, .ref f), (1, iv (o : Int)), (2, iv (b : Int))]) X dX2_addByHypot_35 rfl (by decide) rfl ?_
                refine r_goto 22 X dX2_addByHypot_38 (by decide) ?_
                refine WW_sub (L' := [(5, iv ((o * o + e * e : Nat) : Int)), (4, iv (e : Int)), (3, iv ((l : Int) + 1)), (0, .ref f), (1, iv (o : Int)), (2, iv (b : Int))]) [1, 2, 0, 3, 4, 5] rfl ?_
                rw [show ((l : Int) + 1) = ((l + 1 : Nat) : Int) from rfl]
                exact ihq (l + 1) (by omega) (by omega) (by rw [Nat.add_sub_cancel]; omega)
        exact inner (b + 1 - l) l (by omega) hol hlo0
  refine r_iload_n 1 X dX2_addByHypot_0 rfl ?_
  refine r_istore_n (L' := [(3, iv (o : Int)), (0, .ref f), (1, iv (o : Int)), (2, iv (b : Int))]) X dX2_addByHypot_1 (by decide) rfl ?_
  refine r_iconst X dX2_addByHypot_2 ?_
  refine r_istore (L' := [(4, iv 2), (3, iv (o : Int)), (0, .ref f), (1, iv (o : Int)), (2, iv (b : Int))]) X dX2_addByHypot_3 (by decide) rfl ?_
  exact outer c 2 o r h (by omega) (Nat.le_refl _) (Nat.le_refl _) (by omega) (by have := Nat.mul_self_le_mul_self (show o - 1 ≤ o by omega); omega) hb hlq hR.symm hm Keep_rf
