/-! scale, reduce, join, euclid -/
theorem if01 {P : Prop} [Decidable P] (h : (if P then (0 : Int) else 1) = 0) : P := by
  by_cases z : P
  · exact z
  · rw [if_neg z] at h
    exact absurd h (by decide)
theorem ml_le {w a b : Int} (hw : 0 ≤ w) (h : a ≤ b) : w * a ≤ w * b := Int.mul_le_mul_of_nonneg_left h hw
theorem sc_f {a b c w : Int} (hv : TV a b c) (hw : 1 ≤ w ∧ w ≤ 64) : 1 ≤ w * a ∧ w * a ≤ w * b ∧ w * b ≤ w * c ∧ w * c ≤ 4194240 ∧ w * c < w * a + w * b := by
  obtain ⟨h1, h2, h3, h4, h5⟩ := hv
  have m1 := mlb (a := w) (x := 64) (b := c) (y := 65535) (by omega) (by omega) (by omega) (by omega)
  have m2 := ml_le (w := w) (by omega) h2
  have m3 := ml_le (w := w) (by omega) h3
  have m4 := Int.mul_pos (show 0 < w by omega) (show 0 < a + b - c by omega)
  rw [Int.mul_sub, Int.mul_add] at m4
  have m5 := Int.mul_pos (show 0 < w by omega) (show 0 < a by omega)
  omega
theorem sc_TV {a b c w : Int} (hv : TV a b c) (hw : 1 ≤ w ∧ w ≤ 64) (h : sd (w * a) ∧ sd (w * b) ∧ sd (w * c)) : TV (mn3 (w * a) (w * b) (w * c)) (md3 (w * a) (w * b) (w * c)) (mx3 (w * a) (w * b) (w * c)) := by
  have := sc_f hv hw
  exact TV_of h.1 h.2.1 h.2.2 (by omega) (by omega) (by omega)
def cdSc (σ : Tg) (p w : Int) : Int := if ¬ pl p then 1 else if ¬ (1 ≤ w ∧ w ≤ 64) then 2 else if (σ p.toNat).isNone then 3 else if 65535 < on σ p (fun _ _ c => w * c) then 4 else 0
theorem gcd3_f {a b c : Int} (hv : TV a b c) : 1 ≤ gcd3 a b c ∧ gcd3 a b c ≤ 65535 ∧ gcd3 a b c ∣ a ∧ gcd3 a b c ∣ b ∧ gcd3 a b c ∣ c := by
  obtain ⟨h1, h2, h3, h4, h5⟩ := hv
  have d1 : gcd3 a b c ∣ ((Int.gcd a b : Nat) : Int) := Int.gcd_dvd_left _ _
  have d2 : gcd3 a b c ∣ c := Int.gcd_dvd_right _ _
  have d3 : gcd3 a b c ∣ a := Int.dvd_trans d1 (Int.gcd_dvd_left _ _)
  have d4 : gcd3 a b c ∣ b := Int.dvd_trans d1 (Int.gcd_dvd_right _ _)
  have l1 : gcd3 a b c ≤ a := Int.le_of_dvd (by omega) d3
  have l2 : 0 ≤ gcd3 a b c := Int.natCast_nonneg _
  have l3 : gcd3 a b c ≠ 0 := by
    intro z
    rw [z] at d3
    have := Int.zero_dvd.mp d3
    omega
  exact ⟨by omega, by omega, d3, d4, d2⟩
theorem red_f {a b c k : Int} (hv : TV a b c) (hk : 1 ≤ k) (h1 : k ∣ a) (h2 : k ∣ b) (h3 : k ∣ c) : TV (a / k) (b / k) (c / k) := by
  obtain ⟨x, rfl⟩ := h1
  obtain ⟨y, rfl⟩ := h2
  obtain ⟨z, rfl⟩ := h3
  rw [Int.mul_ediv_cancel_left _ (by omega), Int.mul_ediv_cancel_left _ (by omega), Int.mul_ediv_cancel_left _ (by omega)]
  obtain ⟨h1, h2, h3, h4, h5⟩ := hv
  have p0 : 0 < k := by omega
  have r1 : 0 < x := Int.pos_of_mul_pos_right (by omega : 0 < k * x) p0
  have r2 : x ≤ y := Int.le_of_mul_le_mul_left h2 p0
  have r3 : y ≤ z := Int.le_of_mul_le_mul_left h3 p0
  have r4 : z < x + y := by
    rw [← Int.mul_add] at h5
    exact Int.lt_of_mul_lt_mul_left h5 (by omega)
  have r5 := Int.mul_le_mul_of_nonneg_right hk (show 0 ≤ z by omega)
  exact ⟨by omega, r2, r3, by omega, r4⟩
theorem sq2 (a b c : Int) : sqb3 a b c 2 = a * a + b * b - c * c := by
  unfold sqb3 ln
  rw [if_neg (by decide), if_neg (by decide), Int.mul_assoc]
  omega
theorem rt_lt {a b c : Int} (hv : TV a b c) (h : sqb3 a b c 2 = 0) : a < c ∧ b < c := by
  have hb := TV_b hv
  rw [sq2] at h
  have : b ≠ c := by
    rintro rfl
    omega
  omega
theorem cmpv_z {a : Int} : cmpv a 0 = 0 ↔ a = 0 := by
  unfold cmpv
  constructor
  · split <;> (try split) <;> omega
  · intro z
    rw [if_neg (by omega), if_pos z]
/-- the longest leg of both, or 0 -/
def lg (a b d e : Int) : Int := if a = e ∨ b = e then e else if a = d ∨ b = d then d else 0
/-- the two other legs added -/
def wd (a b d e : Int) : Int := (a + b - lg a b d e) + (d + e - lg a b d e)
abbrev jok (a b c d e f : Int) : Prop := sqb3 a b c 2 = 0 ∧ sqb3 d e f 2 = 0 ∧ lg a b d e ≠ 0 ∧ wd a b d e ≤ 65535
def cdJo (σ : Tg) (p q r : Int) : Int := if ¬ pl p ∨ ¬ pl q ∨ ¬ pl r then 1 else if (σ p.toNat).isNone ∨ (σ q.toNat).isNone then 2 else if on σ p (fun a b c => on σ q (fun d e f => if jok a b c d e f then 0 else 1)) = 0 then 0 else 3
theorem cdJo_k {σ : Tg} {p q r a b c d e f : Int} (h1 : pl p) (h2 : pl q) (h3 : pl r) (h4 : σ p.toNat = some (a, b, c)) (h5 : σ q.toNat = some (d, e, f)) : cdJo σ p q r = if jok a b c d e f then 0 else 3 := by
  unfold cdJo
  rw [if_neg (by omega), on_s h4, on_s h5, h4, h5, if_neg (by simp)]
  by_cases z : jok a b c d e f
  · rw [if_pos z, if_pos z, if_pos rfl]
  · rw [if_neg z, if_neg z, if_neg (by decide)]
theorem jo_TV {a b c d e f : Int} (h1 : TV a b c) (h2 : TV d e f) (h3 : sqb3 a b c 2 = 0) (h4 : sqb3 d e f 2 = 0) (h5 : lg a b d e ≠ 0) (h : sd c ∧ sd f ∧ sd (wd a b d e)) : TV (mn3 c f (wd a b d e)) (md3 c f (wd a b d e)) (mx3 c f (wd a b d e)) := by
  have r1 := rt_lt h1 h3
  have r2 := rt_lt h2 h4
  unfold TV at h1 h2
  have hw : wd a b d e = (a + b - lg a b d e) + (d + e - lg a b d e) := rfl
  have hl : (lg a b d e = a ∨ lg a b d e = b) ∧ (lg a b d e = d ∨ lg a b d e = e) := by
    revert h5
    unfold lg
    split
    · omega
    · split <;> omega
  exact TV_of h.1 h.2.1 h.2.2 (by omega) (by omega) (by omega)
theorem wd_b {a b c d e f : Int} (h1 : TV a b c) (h2 : TV d e f) (h5 : lg a b d e ≠ 0) : 1 ≤ wd a b d e ∧ wd a b d e ≤ 131070 := by
  unfold TV at h1 h2
  have hw : wd a b d e = (a + b - lg a b d e) + (d + e - lg a b d e) := rfl
  have hl : (lg a b d e = a ∨ lg a b d e = b) ∧ (lg a b d e = d ∨ lg a b d e = e) := by
    revert h5
    unfold lg
    split
    · omega
    · split <;> omega
  omega
def cdEu (p m k : Int) : Int := if ¬ pl p then 1 else if ¬ (2 ≤ m ∧ m ≤ 255 ∧ 1 ≤ k ∧ k < m) then 2 else if 65535 < m * m + k * k then 3 else 0
theorem eu_f {m k : Int} (h : 2 ≤ m ∧ m ≤ 255 ∧ 1 ≤ k ∧ k < m) : 2 * m * k = 2 * (m * k) ∧ m * m ≤ 65025 ∧ 1 ≤ k * k ∧ k * k < m * k ∧ m * k < m * m ∧ 2 * (m * k) < m * m + k * k := by
  have m1 := mlb (a := m) (x := 255) (b := m) (y := 255) (by omega) (by omega) (by omega) (by omega)
  have m4 := Int.mul_pos (show 0 < m - k by omega) (show 0 < k by omega)
  have m5 := Int.mul_pos (show 0 < m - k by omega) (show 0 < m - k by omega)
  have m6 := Int.mul_pos (show 0 < k by omega) (show 0 < k by omega)
  rw [Int.sub_mul] at m4
  rw [Int.sub_mul, Int.mul_sub, Int.mul_sub, Int.mul_comm k m] at m5
  refine ⟨Int.mul_assoc _ _ _, by omega, by omega, by omega, by omega, by omega⟩
theorem eu_TV {m k : Int} (h0 : 2 ≤ m ∧ m ≤ 255 ∧ 1 ≤ k ∧ k < m) (h : sd (m * m - k * k) ∧ sd (2 * m * k) ∧ sd (m * m + k * k)) : TV (mn3 (m * m - k * k) (2 * m * k) (m * m + k * k)) (md3 (m * m - k * k) (2 * m * k) (m * m + k * k)) (mx3 (m * m - k * k) (2 * m * k) (m * m + k * k)) := by
  have := eu_f h0
  exact TV_of h.1 h.2.1 h.2.2 (by omega) (by omega) (by omega)
abbrev rX6_scale : Room := { frames := 8, cells := 6, slots := 35, locals := 132 }
theorem c_X6_scale {l : Launch} (hl : l.stackTraces = false) (D : va_G) (z0 : Nat) (h : Hp) (x T f u v o : Nat) (n : Int) (g : Nat → Option Nat) (σ : Tg) (hc : Cy D h x T f u v o n g σ) (p : Int) (hp0 : I32 p) (w : Int) (hw : I32 w) : CC l yX6_scale cX6_scale 4 (some .int) rX6_scale D z0 h [.ref x, iv p, iv w] (fun w0 h' => ∃ g', w0 = some (iv (on σ p (fun _ _ c => w * c))) ∧ Cy D h' x T f u v o n g' (up σ p.toNat (onT σ p (fun a b c => st3 (w * a) (w * b) (w * c)))) ∧ Keep (fun y => y = T) h h' ∧ cdSc σ p w = 0) (Xn [iob, iae, nseN, ise] (cdSc σ p w) h) := by
  refine CC_of RX6 hl (by decide) rfl (Nat.le_of_ble_eq_true rfl) (fun K X Y Z hmn hKl => ?_)
  subst hKl
  show WW K D z0 4 h 0 0 0 [(0, .ref x), (1, iv p), (2, iv w)] []
  refine r_iload_n 1 X dX6_scale_0 rfl ?_
  refine r_callS X dX6_scale_1 kX6_36 (c_X6_requirePlace (CX_l X) D z0 h p ⟨by omega, by omega⟩) [] rfl rfl (Nat.le_of_ble_eq_true rfl) (by decide) (by decide) (fun E9 h9 hx9 => by obtain ⟨rfl, rfl, hn1⟩ := Xn1 hx9; exact WX_out X Y Z (by decide) (by decide) (Xn_mk 1 (by unfold cdSc; (try simp only [isNone_f, isNone_t, true_or, or_true, false_or, or_false]); ((repeat' split) <;> first | rfl | contradiction | omega)) (by decide) rfl)) (fun v9 h9 hv9 => ?_)
  obtain ⟨rfl, rfl, hp1⟩ := hv9
  show WW K D z0 4 h 1 6 4 [(0, .ref x), (1, iv p), (2, iv w)] []
  refine r_iload_n 2 X dX6_scale_4 rfl ?_
  refine r_iconst X dX6_scale_5 ?_
  refine r_icmp_lt 15 X dX6_scale_6 (by decide) ⟨by omega, by omega⟩ ⟨by omega, by omega⟩ (fun c6 => ?_) (fun c6 => ?_)
  · refine r_throwS (E := "java/lang/IllegalArgumentException") (text := "the number is out of range") X Y Z dX6_scale_15 dX6_scale_18 dX6_scale_19 dX6_scale_21 dX6_scale_24 (by decide) gX6_44 ini_IllegalArgumentException (by decide) hX6_48 (Nat.le_of_ble_eq_true rfl) (by decide) (by decide) (by decide) ?_
    exact Xn_mk 2 (by unfold cdSc; (try simp only [isNone_f, isNone_t, true_or, or_true, false_or, or_false]); ((repeat' split) <;> first | rfl | contradiction | omega)) (by decide) rfl
  · refine r_iload_n 2 X dX6_scale_9 rfl ?_
    refine r_bipush X dX6_scale_10 (by decide) ?_
    refine r_icmp_le 25 X dX6_scale_12 (by decide) ⟨by omega, by omega⟩ ⟨by omega, by omega⟩ (fun c12 => ?_) (fun c12 => ?_)
    · refine r_aload_n 0 X dX6_scale_25 rfl ?_
      refine r_iload_n 1 X dX6_scale_26 rfl ?_
      refine r_callV X dX6_scale_27 kX6_67 hc.1 (c_X6_heldAt (CX_l X) D z0 h x T f u v o n g σ hc p ⟨by omega, by omega⟩) [] rfl rfl (Nat.le_of_ble_eq_true rfl) (by decide) (by decide) (fun E9 h9 hx9 => by obtain ⟨rfl, ⟨hn27, rfl⟩ | ⟨hn27, hz27, rfl⟩⟩ := Xn_ms hx9; exact WX_out X Y Z (by decide) (by decide) (Xn_mk 1 (by unfold cdSc; (try simp only [isNone_f, isNone_t, true_or, or_true, false_or, or_false]); ((repeat' split) <;> first | rfl | contradiction | omega)) (by decide) rfl); exact WX_out X Y Z (by decide) (by decide) (Xn_mk 3 (by unfold cdSc; (try simp only [hz27, isNone_f, isNone_t, true_or, or_true, false_or, or_false]); ((repeat' split) <;> first | rfl | contradiction | omega)) (by decide) rfl)) (fun v9 h9 hv9 => ?_)
      obtain ⟨rfl, hp27, q27, a27, b27, c027, rfl, hg27, hs27, ht27, hv27⟩ := hv9
      have hb27 := TV_b hv27
      show WW K D z0 4 h 3 18 30 [(0, .ref x), (1, iv p), (2, iv w)] [.ref q27]
      refine r_astore_n (L' := [(3, .ref q27), (0, .ref x), (1, iv p), (2, iv w)]) X dX6_scale_30 (by decide) rfl ?_
      have hsf := sc_f (w := w) hv27 ⟨by omega, by omega⟩
      refine r_aload_n 1 X dX6_scale_31 rfl ?_
      refine r_iload_n 2 X dX6_scale_32 rfl ?_
      refine r_iload_n 3 X dX6_scale_33 rfl ?_
      refine r_aload_n 0 X dX6_scale_34 rfl ?_
      refine r_getf X dX6_scale_35 fX6_83 ht27 rfl ?_
      refine r_imul X dX6_scale_38 ?_
      refine r_iload_n 3 X dX6_scale_39 rfl ?_
      refine r_aload_n 0 X dX6_scale_40 rfl ?_
      refine r_getf X dX6_scale_41 fX6_86 ht27 rfl ?_
      refine r_imul X dX6_scale_44 ?_
      refine r_iload_n 3 X dX6_scale_45 rfl ?_
      refine r_aload_n 0 X dX6_scale_46 rfl ?_
      refine r_getf X dX6_scale_47 fX6_89 ht27 rfl ?_
      refine r_imul X dX6_scale_50 ?_
      refine r_callV X dX6_scale_51 kX6_92 hc.1 (c_X6_holdIfShortEnough (CX_l X) D z0 h x T f u v o n g σ hc p hp1 (w * a27) (w * b27) (w * c027) ⟨by omega, by omega⟩ ⟨by omega, by omega⟩ ⟨by omega, by omega⟩ (sc_TV hv27 ⟨by omega, by omega⟩)) [] rfl rfl (Nat.le_of_ble_eq_true rfl) (by decide) (by decide) (fun E9 h9 hx9 => by obtain ⟨rfl, rfl, hn51⟩ := Xn1 hx9; exact WX_out X Y Z (by decide) (by decide) (Xn_mk 4 (by unfold cdSc; (try simp only [on_s hs27, hs27, isNone_f, isNone_t, true_or, or_true, false_or, or_false]); ((repeat' split) <;> first | rfl | contradiction | omega)) (by decide) rfl)) (fun v9 h9 hv9 => ?_)
      obtain ⟨g9, rfl, hc9, hk9, hp51⟩ := hv9
      have hp51 := if01 hp51
      show WW K D z0 4 h9 5 29 54 [(3, .ref q27), (0, .ref x), (1, iv p), (2, iv w)] [iv (mx3 (w * a27) (w * b27) (w * c027))]
      refine r_iret X Y dX6_scale_54 (by decide) (by decide) ?_
      exact ⟨g9, by rw [on_s hs27]; exact congrArg (fun z => some (iv z)) (by unfold mx3; omega), by rw [onT_s hs27]; exact hc9, hk9, (by unfold cdSc; (try simp only [on_s hs27, hs27, isNone_f, isNone_t, true_or, or_true, false_or, or_false]); ((repeat' split) <;> first | rfl | contradiction | omega))⟩
    · refine r_throwS (E := "java/lang/IllegalArgumentException") (text := "the number is out of range") X Y Z dX6_scale_15 dX6_scale_18 dX6_scale_19 dX6_scale_21 dX6_scale_24 (by decide) gX6_44 ini_IllegalArgumentException (by decide) hX6_48 (Nat.le_of_ble_eq_true rfl) (by decide) (by decide) (by decide) ?_
      exact Xn_mk 2 (by unfold cdSc; (try simp only [isNone_f, isNone_t, true_or, or_true, false_or, or_false]); ((repeat' split) <;> first | rfl | contradiction | omega)) (by decide) rfl
abbrev rX6_reduce : Room := { frames := 8, cells := 3, slots := 17, locals := 132 }
theorem c_X6_reduce {l : Launch} (hl : l.stackTraces = false) (D : va_G) (z0 : Nat) (h : Hp) (x T f u v o : Nat) (n : Int) (g : Nat → Option Nat) (σ : Tg) (hc : Cy D h x T f u v o n g σ) (p : Int) (hp0 : I32 p) : CC l yX6_reduce cX6_reduce 4 (some .int) rX6_reduce D z0 h [.ref x, iv p] (fun w0 h' => ∃ g', w0 = some (iv (on σ p gcd3)) ∧ Cy D h' x T f u v o n g' (up σ p.toNat (onT σ p (fun a b c => st3 (a / gcd3 a b c) (b / gcd3 a b c) (c / gcd3 a b c)))) ∧ Keep (fun y => y = T) h h' ∧ ms σ p 2 = 0) (Xn [iob, nseN] (ms σ p 2) h) := by
  refine CC_of RX6 hl (by decide) rfl (Nat.le_of_ble_eq_true rfl) (fun K X Y Z hmn hKl => ?_)
  subst hKl
  show WW K D z0 4 h 0 0 0 [(0, .ref x), (1, iv p)] []
  refine r_aload_n 0 X dX6_reduce_0 rfl ?_
  refine r_iload_n 1 X dX6_reduce_1 rfl ?_
  refine r_callV X dX6_reduce_2 kX6_67 hc.1 (c_X6_heldAt (CX_l X) D z0 h x T f u v o n g σ hc p ⟨by omega, by omega⟩) [] rfl rfl (Nat.le_of_ble_eq_true rfl) (by decide) (by decide) (fun E9 h9 hx9 => by obtain ⟨rfl, ⟨hn2, rfl⟩ | ⟨hn2, hz2, rfl⟩⟩ := Xn_ms hx9; exact WX_out X Y Z (by decide) (by decide) (Xn_mk 1 (by unfold ms; (try simp only [isNone_f, isNone_t, true_or, or_true, false_or, or_false]); ((repeat' split) <;> first | rfl | contradiction | omega)) (by decide) rfl); exact WX_out X Y Z (by decide) (by decide) (Xn_mk 2 (by unfold ms; (try simp only [hz2, isNone_f, isNone_t, true_or, or_true, false_or, or_false]); ((repeat' split) <;> first | rfl | contradiction | omega)) (by decide) rfl)) (fun v9 h9 hv9 => ?_)
  obtain ⟨rfl, hp2, q2, a2, b2, c02, rfl, hg2, hs2, ht2, hv2⟩ := hv9
  have hb2 := TV_b hv2
  show WW K D z0 4 h 2 12 5 [(0, .ref x), (1, iv p)] [.ref q2]
  refine r_astore_n (L' := [(2, .ref q2), (0, .ref x), (1, iv p)]) X dX6_reduce_5 (by decide) rfl ?_
  have hgf := gcd3_f hv2
  have hrf := red_f hv2 hgf.1 hgf.2.2.1 hgf.2.2.2.1 hgf.2.2.2.2
  have hrg := TV_b hrf
  refine r_aload_n 0 X dX6_reduce_6 rfl ?_
  refine r_callV_v X dX6_reduce_7 kX6_96 ht2 (c_X5_commonDivisor (CX_l X) D z0 h q2 a2 b2 c02 ht2 hv2) [] rfl rfl (Nat.le_of_ble_eq_true rfl) (by decide) rfl rfl (by decide) ?_
  refine r_istore_n (L' := [(3, iv (gcd3 a2 b2 c02)), (2, .ref q2), (0, .ref x), (1, iv p)]) X dX6_reduce_10 (by decide) rfl ?_
  refine r_iload_n 0 X dX6_reduce_11 rfl ?_
  refine r_iconst X dX6_reduce_12 ?_
  refine r_icmp_le 46 X dX6_reduce_13 (by decide) ⟨by omega, by omega⟩ ⟨by omega, by omega⟩ (fun c13 => ?_) (fun c13 => ?_)
  · refine r_iload_n 0 X dX6_reduce_46 rfl ?_
    refine r_iret X Y dX6_reduce_47 (by decide) (by decide) ?_
    exact ⟨g, by rw [on_s hs2], by rw [onT_s hs2, show gcd3 a2 b2 c02 = 1 by omega, Int.ediv_one, Int.ediv_one, Int.ediv_one, show st3 a2 b2 c02 = some (a2, b2, c02) by unfold st3; rw [(st_TV hv2).1, (st_TV hv2).2.1, (st_TV hv2).2.2], up_same hs2]; exact hc, Keep_rf, (by unfold ms; (try simp only [on_s hs2, hs2, isNone_f, isNone_t, true_or, or_true, false_or, or_false]); ((repeat' split) <;> first | rfl | contradiction | omega))⟩
  · refine r_aload_n 2 X dX6_reduce_16 rfl ?_
    refine r_iload_n 3 X dX6_reduce_17 rfl ?_
    refine r_new (ci := 2) (fs := [iv 0, iv 0, iv 0, jv 0, jv 0]) X dX6_reduce_18 _ rfl gX6_9 inst_X5 init_X5 dft5 (Nat.le_of_ble_eq_true rfl) (Nat.le_of_ble_eq_true rfl) (fun q8 hq8 _ => ?_)
    show WW K D z0 4 (hu h q8 (ob 2 [iv 0, iv 0, iv 0, jv 0, jv 0])) 3 17 21 [(3, iv (gcd3 a2 b2 c02)), (2, .ref q2), (0, .ref x), (1, iv p)] [.ref q8, iv p, .ref x]
    refine r_dup X dX6_reduce_21 rfl ?_
    refine r_aload_n 1 X dX6_reduce_22 rfl ?_
    refine r_getf X dX6_reduce_23 fX6_83 (hu_new hq8 ht2) rfl ?_
    refine r_iload_n 0 X dX6_reduce_26 rfl ?_
    refine r_idiv X dX6_reduce_27 ⟨by omega, by omega⟩ ⟨by omega, by omega⟩ ?_
    refine r_aload_n 1 X dX6_reduce_28 rfl ?_
    refine r_getf X dX6_reduce_29 fX6_86 (hu_new hq8 ht2) rfl ?_
    refine r_iload_n 0 X dX6_reduce_32 rfl ?_
    refine r_idiv X dX6_reduce_33 ⟨by omega, by omega⟩ ⟨by omega, by omega⟩ ?_
    refine r_aload_n 1 X dX6_reduce_34 rfl ?_
    refine r_getf X dX6_reduce_35 fX6_89 (hu_new hq8 ht2) rfl ?_
    refine r_iload_n 0 X dX6_reduce_38 rfl ?_
    refine r_idiv X dX6_reduce_39 ⟨by omega, by omega⟩ ⟨by omega, by omega⟩ ?_
    refine r_callI X dX6_reduce_40 kX6_56 (c_X5_init (CX_l X) D z0 (hu h q8 (ob 2 [iv 0, iv 0, iv 0, jv 0, jv 0])) q8 (a2 / (gcd3 a2 b2 c02)) (b2 / (gcd3 a2 b2 c02)) (c02 / (gcd3 a2 b2 c02)) ⟨⟨by omega, by omega⟩, ⟨by omega, by omega⟩, ⟨by omega, by omega⟩⟩ (by rw [(st_TV hrf).1, (st_TV hrf).2.1, (st_TV hrf).2.2]; exact hrf) (hu_s _ _ _)) [.ref q8, iv p, .ref x] rfl rfl (Nat.le_of_ble_eq_true rfl) (by decide) (by decide) (fun v9 h9 hv9 => ?_)
    obtain ⟨rfl, rfl⟩ := hv9
    refine WW_h (hu_hu _ _ _ _) ?_
    have hc8 := Cy_new hc (triE (mn3 (a2 / (gcd3 a2 b2 c02)) (b2 / (gcd3 a2 b2 c02)) (c02 / (gcd3 a2 b2 c02))) (md3 (a2 / (gcd3 a2 b2 c02)) (b2 / (gcd3 a2 b2 c02)) (c02 / (gcd3 a2 b2 c02))) (mx3 (a2 / (gcd3 a2 b2 c02)) (b2 / (gcd3 a2 b2 c02)) (c02 / (gcd3 a2 b2 c02)))) hq8
    have ht8 := hu_s h q8 (triE (mn3 (a2 / (gcd3 a2 b2 c02)) (b2 / (gcd3 a2 b2 c02)) (c02 / (gcd3 a2 b2 c02))) (md3 (a2 / (gcd3 a2 b2 c02)) (b2 / (gcd3 a2 b2 c02)) (c02 / (gcd3 a2 b2 c02))) (mx3 (a2 / (gcd3 a2 b2 c02)) (b2 / (gcd3 a2 b2 c02)) (c02 / (gcd3 a2 b2 c02))))
    show WW K D z0 4 (hu h q8 (triE (mn3 (a2 / (gcd3 a2 b2 c02)) (b2 / (gcd3 a2 b2 c02)) (c02 / (gcd3 a2 b2 c02))) (md3 (a2 / (gcd3 a2 b2 c02)) (b2 / (gcd3 a2 b2 c02)) (c02 / (gcd3 a2 b2 c02))) (mx3 (a2 / (gcd3 a2 b2 c02)) (b2 / (gcd3 a2 b2 c02)) (c02 / (gcd3 a2 b2 c02))))) 3 17 43 [(3, iv (gcd3 a2 b2 c02)), (2, .ref q2), (0, .ref x), (1, iv p)] [.ref q8, iv p, .ref x]
    refine r_callV X dX6_reduce_43 kX6_59 hc8.1 (c_X6_hold_q (CX_l X) D z0 (hu h q8 (triE (mn3 (a2 / (gcd3 a2 b2 c02)) (b2 / (gcd3 a2 b2 c02)) (c02 / (gcd3 a2 b2 c02))) (md3 (a2 / (gcd3 a2 b2 c02)) (b2 / (gcd3 a2 b2 c02)) (c02 / (gcd3 a2 b2 c02))) (mx3 (a2 / (gcd3 a2 b2 c02)) (b2 / (gcd3 a2 b2 c02)) (c02 / (gcd3 a2 b2 c02))))) x T f u v o n g σ hc8 p hp2 q8 _ ht8) [] rfl rfl (Nat.le_of_ble_eq_true rfl) (by decide) (by decide) (fun _ _ z => z.elim) (fun v9 h9 hv9 => ?_)
    obtain ⟨rfl, rfl⟩ := hv9
    have hc7 := Cy_up hc8 hp2 ht8 (by rw [(st_TV hrf).1, (st_TV hrf).2.1, (st_TV hrf).2.2]; exact hrf)
    show WW K D z0 4 (hu (hu h q8 (triE (mn3 (a2 / (gcd3 a2 b2 c02)) (b2 / (gcd3 a2 b2 c02)) (c02 / (gcd3 a2 b2 c02))) (md3 (a2 / (gcd3 a2 b2 c02)) (b2 / (gcd3 a2 b2 c02)) (c02 / (gcd3 a2 b2 c02))) (mx3 (a2 / (gcd3 a2 b2 c02)) (b2 / (gcd3 a2 b2 c02)) (c02 / (gcd3 a2 b2 c02))))) T (aR D 16 (up g p.toNat (some q8)))) 3 17 46 [(3, iv (gcd3 a2 b2 c02)), (2, .ref q2), (0, .ref x), (1, iv p)] []
    refine r_iload_n 0 X dX6_reduce_46 rfl ?_
    refine r_iret X Y dX6_reduce_47 (by decide) (by decide) ?_
    exact ⟨_, by rw [on_s hs2], by rw [onT_s hs2]; exact hc7, Keep_new hq8 Keep_hu, (by unfold ms; (try simp only [on_s hs2, hs2, isNone_f, isNone_t, true_or, or_true, false_or, or_false]); ((repeat' split) <;> first | rfl | contradiction | omega))⟩
abbrev rX6_euclid : Room := { frames := 7, cells := 4, slots := 23, locals := 115 }
theorem c_X6_euclid {l : Launch} (hl : l.stackTraces = false) (D : va_G) (z0 : Nat) (h : Hp) (x T f u v o : Nat) (n : Int) (g : Nat → Option Nat) (σ : Tg) (hc : Cy D h x T f u v o n g σ) (p : Int) (hp0 : I32 p) (m k : Int) (hm : I32 m) (hk : I32 k) : CC l yX6_euclid cX6_euclid 4 (some .int) rX6_euclid D z0 h [.ref x, iv p, iv m, iv k] (fun w0 h' => ∃ g', w0 = some (iv (m * m + k * k)) ∧ Cy D h' x T f u v o n g' (up σ p.toNat (st3 (m * m - k * k) (2 * m * k) (m * m + k * k))) ∧ Keep (fun y => y = T) h h' ∧ cdEu p m k = 0) (Xn [iob, iae, ise] (cdEu p m k) h) := by
  refine CC_of RX6 hl (by decide) rfl (Nat.le_of_ble_eq_true rfl) (fun K X Y Z hmn hKl => ?_)
  subst hKl
  show WW K D z0 4 h 0 0 0 [(0, .ref x), (1, iv p), (2, iv m), (3, iv k)] []
  refine r_iload_n 1 X dX6_euclid_0 rfl ?_
  refine r_callS X dX6_euclid_1 kX6_36 (c_X6_requirePlace (CX_l X) D z0 h p ⟨by omega, by omega⟩) [] rfl rfl (Nat.le_of_ble_eq_true rfl) (by decide) (by decide) (fun E9 h9 hx9 => by obtain ⟨rfl, rfl, hn1⟩ := Xn1 hx9; exact WX_out X Y Z (by decide) (by decide) (Xn_mk 1 (by unfold cdEu; (try simp only [isNone_f, isNone_t, true_or, or_true, false_or, or_false]); ((repeat' split) <;> first | rfl | contradiction | omega)) (by decide) rfl)) (fun v9 h9 hv9 => ?_)
  obtain ⟨rfl, rfl, hp1⟩ := hv9
  show WW K D z0 4 h 1 6 4 [(0, .ref x), (1, iv p), (2, iv m), (3, iv k)] []
  refine r_iload_n 2 X dX6_euclid_4 rfl ?_
  refine r_iconst X dX6_euclid_5 ?_
  refine r_icmp_lt 26 X dX6_euclid_6 (by decide) ⟨by omega, by omega⟩ ⟨by omega, by omega⟩ (fun c6 => ?_) (fun c6 => ?_)
  · refine r_throwS (E := "java/lang/IllegalArgumentException") (text := "m or n is out of range") X Y Z dX6_euclid_26 dX6_euclid_29 dX6_euclid_30 dX6_euclid_32 dX6_euclid_35 (by decide) gX6_44 ini_IllegalArgumentException (by decide) hX6_48 (Nat.le_of_ble_eq_true rfl) (by decide) (by decide) (by decide) ?_
    exact Xn_mk 2 (by unfold cdEu; (try simp only [isNone_f, isNone_t, true_or, or_true, false_or, or_false]); ((repeat' split) <;> first | rfl | contradiction | omega)) (by decide) rfl
  · refine r_iload_n 2 X dX6_euclid_9 rfl ?_
    refine r_sipush X dX6_euclid_10 (by decide) ?_
    refine r_icmp_gt 26 X dX6_euclid_13 (by decide) ⟨by omega, by omega⟩ ⟨by omega, by omega⟩ (fun c13 => ?_) (fun c13 => ?_)
    · refine r_throwS (E := "java/lang/IllegalArgumentException") (text := "m or n is out of range") X Y Z dX6_euclid_26 dX6_euclid_29 dX6_euclid_30 dX6_euclid_32 dX6_euclid_35 (by decide) gX6_44 ini_IllegalArgumentException (by decide) hX6_48 (Nat.le_of_ble_eq_true rfl) (by decide) (by decide) (by decide) ?_
      exact Xn_mk 2 (by unfold cdEu; (try simp only [isNone_f, isNone_t, true_or, or_true, false_or, or_false]); ((repeat' split) <;> first | rfl | contradiction | omega)) (by decide) rfl
    · refine r_iload_n 3 X dX6_euclid_16 rfl ?_
      refine r_iconst X dX6_euclid_17 ?_
      refine r_icmp_lt 26 X dX6_euclid_18 (by decide) ⟨by omega, by omega⟩ ⟨by omega, by omega⟩ (fun c18 => ?_) (fun c18 => ?_)
      · refine r_throwS (E := "java/lang/IllegalArgumentException") (text := "m or n is out of range") X Y Z dX6_euclid_26 dX6_euclid_29 dX6_euclid_30 dX6_euclid_32 dX6_euclid_35 (by decide) gX6_44 ini_IllegalArgumentException (by decide) hX6_48 (Nat.le_of_ble_eq_true rfl) (by decide) (by decide) (by decide) ?_
        exact Xn_mk 2 (by unfold cdEu; (try simp only [isNone_f, isNone_t, true_or, or_true, false_or, or_false]); ((repeat' split) <;> first | rfl | contradiction | omega)) (by decide) rfl
      · refine r_iload_n 3 X dX6_euclid_21 rfl ?_
        refine r_iload_n 2 X dX6_euclid_22 rfl ?_
        refine r_icmp_lt 36 X dX6_euclid_23 (by decide) ⟨by omega, by omega⟩ ⟨by omega, by omega⟩ (fun c23 => ?_) (fun c23 => ?_)
        · have hef := eu_f (m := m) (k := k) ⟨by omega, by omega, by omega, by omega⟩
          refine r_aload_n 0 X dX6_euclid_36 rfl ?_
          refine r_iload_n 1 X dX6_euclid_37 rfl ?_
          refine r_iload_n 2 X dX6_euclid_38 rfl ?_
          refine r_iload_n 2 X dX6_euclid_39 rfl ?_
          refine r_imul X dX6_euclid_40 ?_
          refine r_iload_n 3 X dX6_euclid_41 rfl ?_
          refine r_iload_n 3 X dX6_euclid_42 rfl ?_
          refine r_imul X dX6_euclid_43 ?_
          refine r_isub X dX6_euclid_44 ?_
          refine r_iconst X dX6_euclid_45 ?_
          refine r_iload_n 2 X dX6_euclid_46 rfl ?_
          refine r_imul X dX6_euclid_47 ?_
          refine r_iload_n 3 X dX6_euclid_48 rfl ?_
          refine r_imul X dX6_euclid_49 ?_
          refine r_iload_n 2 X dX6_euclid_50 rfl ?_
          refine r_iload_n 2 X dX6_euclid_51 rfl ?_
          refine r_imul X dX6_euclid_52 ?_
          refine r_iload_n 3 X dX6_euclid_53 rfl ?_
          refine r_iload_n 3 X dX6_euclid_54 rfl ?_
          refine r_imul X dX6_euclid_55 ?_
          refine r_iadd X dX6_euclid_56 ?_
          refine r_callV X dX6_euclid_57 kX6_92 hc.1 (c_X6_holdIfShortEnough (CX_l X) D z0 h x T f u v o n g σ hc p hp1 ((m * m) - (k * k)) ((2 * m) * k) ((m * m) + (k * k)) ⟨by omega, by omega⟩ ⟨by omega, by omega⟩ ⟨by omega, by omega⟩ (eu_TV ⟨by omega, by omega, by omega, by omega⟩)) [] rfl rfl (Nat.le_of_ble_eq_true rfl) (by decide) (by decide) (fun E9 h9 hx9 => by obtain ⟨rfl, rfl, hn57⟩ := Xn1 hx9; exact WX_out X Y Z (by decide) (by decide) (Xn_mk 3 (by unfold cdEu; (try simp only [isNone_f, isNone_t, true_or, or_true, false_or, or_false]); ((repeat' split) <;> first | rfl | contradiction | omega)) (by decide) rfl)) (fun v9 h9 hv9 => ?_)
          obtain ⟨g9, rfl, hc9, hk9, hp57⟩ := hv9
          have hp57 := if01 hp57
          show WW K D z0 4 h9 3 17 60 [(0, .ref x), (1, iv p), (2, iv m), (3, iv k)] [iv (mx3 ((m * m) - (k * k)) ((2 * m) * k) ((m * m) + (k * k)))]
          refine r_iret X Y dX6_euclid_60 (by decide) (by decide) ?_
          exact ⟨g9, congrArg (fun z => some (iv z)) (by unfold mx3; omega), hc9, hk9, (by unfold cdEu; (try simp only [isNone_f, isNone_t, true_or, or_true, false_or, or_false]); ((repeat' split) <;> first | rfl | contradiction | omega))⟩
        · refine r_throwS (E := "java/lang/IllegalArgumentException") (text := "m or n is out of range") X Y Z dX6_euclid_26 dX6_euclid_29 dX6_euclid_30 dX6_euclid_32 dX6_euclid_35 (by decide) gX6_44 ini_IllegalArgumentException (by decide) hX6_48 (Nat.le_of_ble_eq_true rfl) (by decide) (by decide) (by decide) ?_
          exact Xn_mk 2 (by unfold cdEu; (try simp only [isNone_f, isNone_t, true_or, or_true, false_or, or_false]); ((repeat' split) <;> first | rfl | contradiction | omega)) (by decide) rfl
abbrev rX6_join : Room := { frames := 8, cells := 11, slots := 65, locals := 132 }
theorem c_X6_join {l : Launch} (hl : l.stackTraces = false) (D : va_G) (z0 : Nat) (h : Hp) (x T f u v o : Nat) (n : Int) (g : Nat → Option Nat) (σ : Tg) (hc : Cy D h x T f u v o n g σ) (p : Int) (hp0 : I32 p) (q : Int) (hq0 : I32 q) (r : Int) (hr0 : I32 r) : CC l yX6_join cX6_join 7 (some .int) rX6_join D z0 h [.ref x, iv p, iv q, iv r] (fun w0 h' => ∃ g', w0 = some (iv (on σ p (fun a b c => on σ q (fun d e f => mx3 c f (wd a b d e))))) ∧ Cy D h' x T f u v o n g' (up σ r.toNat (onT σ p (fun a b c => onT σ q (fun d e f => st3 c f (wd a b d e))))) ∧ Keep (fun y => y = T) h h' ∧ cdJo σ p q r = 0) (Xn [iob, nseN, ise] (cdJo σ p q r) h) := by
  refine CC_of RX6 hl (by decide) rfl (Nat.le_of_ble_eq_true rfl) (fun K X Y Z hmn hKl => ?_)
  subst hKl
  show WW K D z0 7 h 0 0 0 [(0, .ref x), (1, iv p), (2, iv q), (3, iv r)] []
  refine r_iload_n 1 X dX6_join_0 rfl ?_
  refine r_callS X dX6_join_1 kX6_36 (c_X6_requirePlace (CX_l X) D z0 h p ⟨by omega, by omega⟩) [] rfl rfl (Nat.le_of_ble_eq_true rfl) (by decide) (by decide) (fun E9 h9 hx9 => by obtain ⟨rfl, rfl, hn1⟩ := Xn1 hx9; exact WX_out X Y Z (by decide) (by decide) (Xn_mk 1 (by unfold cdJo; (try simp only [isNone_f, isNone_t, true_or, or_true, false_or, or_false]); ((repeat' split) <;> first | rfl | contradiction | omega)) (by decide) rfl)) (fun v9 h9 hv9 => ?_)
  obtain ⟨rfl, rfl, hp1⟩ := hv9
  show WW K D z0 7 h 1 6 4 [(0, .ref x), (1, iv p), (2, iv q), (3, iv r)] []
  refine r_iload_n 2 X dX6_join_4 rfl ?_
  refine r_callS X dX6_join_5 kX6_36 (c_X6_requirePlace (CX_l X) D z0 h q ⟨by omega, by omega⟩) [] rfl rfl (Nat.le_of_ble_eq_true rfl) (by decide) (by decide) (fun E9 h9 hx9 => by obtain ⟨rfl, rfl, hn5⟩ := Xn1 hx9; exact WX_out X Y Z (by decide) (by decide) (Xn_mk 1 (by unfold cdJo; (try simp only [isNone_f, isNone_t, true_or, or_true, false_or, or_false]); ((repeat' split) <;> first | rfl | contradiction | omega)) (by decide) rfl)) (fun v9 h9 hv9 => ?_)
  obtain ⟨rfl, rfl, hp5⟩ := hv9
  show WW K D z0 7 h 2 12 8 [(0, .ref x), (1, iv p), (2, iv q), (3, iv r)] []
  refine r_iload_n 3 X dX6_join_8 rfl ?_
  refine r_callS X dX6_join_9 kX6_36 (c_X6_requirePlace (CX_l X) D z0 h r ⟨by omega, by omega⟩) [] rfl rfl (Nat.le_of_ble_eq_true rfl) (by decide) (by decide) (fun E9 h9 hx9 => by obtain ⟨rfl, rfl, hn9⟩ := Xn1 hx9; exact WX_out X Y Z (by decide) (by decide) (Xn_mk 1 (by unfold cdJo; (try simp only [isNone_f, isNone_t, true_or, or_true, false_or, or_false]); ((repeat' split) <;> first | rfl | contradiction | omega)) (by decide) rfl)) (fun v9 h9 hv9 => ?_)
  obtain ⟨rfl, rfl, hp9⟩ := hv9
  show WW K D z0 7 h 3 18 12 [(0, .ref x), (1, iv p), (2, iv q), (3, iv r)] []
  refine r_aload_n 0 X dX6_join_12 rfl ?_
  refine r_iload_n 1 X dX6_join_13 rfl ?_
  refine r_callV X dX6_join_14 kX6_67 hc.1 (c_X6_heldAt (CX_l X) D z0 h x T f u v o n g σ hc p ⟨by omega, by omega⟩) [] rfl rfl (Nat.le_of_ble_eq_true rfl) (by decide) (by decide) (fun E9 h9 hx9 => by obtain ⟨rfl, ⟨hn14, rfl⟩ | ⟨hn14, hz14, rfl⟩⟩ := Xn_ms hx9; exact WX_out X Y Z (by decide) (by decide) (Xn_mk 1 (by unfold cdJo; (try simp only [isNone_f, isNone_t, true_or, or_true, false_or, or_false]); ((repeat' split) <;> first | rfl | contradiction | omega)) (by decide) rfl); exact WX_out X Y Z (by decide) (by decide) (Xn_mk 2 (by unfold cdJo; (try simp only [hz14, isNone_f, isNone_t, true_or, or_true, false_or, or_false]); ((repeat' split) <;> first | rfl | contradiction | omega)) (by decide) rfl)) (fun v9 h9 hv9 => ?_)
  obtain ⟨rfl, hp14, q14, a14, b14, c014, rfl, hg14, hs14, ht14, hv14⟩ := hv9
  have hb14 := TV_b hv14
  show WW K D z0 7 h 5 30 17 [(0, .ref x), (1, iv p), (2, iv q), (3, iv r)] [.ref q14]
  refine r_astore (L' := [(4, .ref q14), (0, .ref x), (1, iv p), (2, iv q), (3, iv r)]) X dX6_join_17 (by decide) rfl ?_
  refine r_aload_n 1 X dX6_join_19 rfl ?_
  refine r_iload_n 3 X dX6_join_20 rfl ?_
  refine r_callV X dX6_join_21 kX6_67 hc.1 (c_X6_heldAt (CX_l X) D z0 h x T f u v o n g σ hc q ⟨by omega, by omega⟩) [] rfl rfl (Nat.le_of_ble_eq_true rfl) (by decide) (by decide) (fun E9 h9 hx9 => by obtain ⟨rfl, ⟨hn21, rfl⟩ | ⟨hn21, hz21, rfl⟩⟩ := Xn_ms hx9; exact WX_out X Y Z (by decide) (by decide) (Xn_mk 1 (by unfold cdJo; (try simp only [on_s hs14, hs14, isNone_f, isNone_t, true_or, or_true, false_or, or_false]); ((repeat' split) <;> first | rfl | contradiction | omega)) (by decide) rfl); exact WX_out X Y Z (by decide) (by decide) (Xn_mk 2 (by unfold cdJo; (try simp only [on_s hs14, hs14, hz21, isNone_f, isNone_t, true_or, or_true, false_or, or_false]); ((repeat' split) <;> first | rfl | contradiction | omega)) (by decide) rfl)) (fun v9 h9 hv9 => ?_)
  obtain ⟨rfl, hp21, q21, a21, b21, c021, rfl, hg21, hs21, ht21, hv21⟩ := hv9
  have hb21 := TV_b hv21
  show WW K D z0 7 h 7 42 24 [(4, .ref q14), (0, .ref x), (1, iv p), (2, iv q), (3, iv r)] [.ref q21]
  refine r_astore (L' := [(5, .ref q21), (4, .ref q14), (0, .ref x), (1, iv p), (2, iv q), (3, iv r)]) X dX6_join_24 (by decide) rfl ?_
  refine r_aload 1 X dX6_join_26 rfl ?_
  refine r_callV_v X dX6_join_28 kX6_99 ht14 (c_X5_sharpness (CX_l X) D z0 h q14 a14 b14 c014 ht14 hv14) [] rfl rfl (Nat.le_of_ble_eq_true rfl) (by decide) rfl rfl (by decide) ?_
  refine r_if_ne 42 X dX6_join_31 (by decide) ⟨by unfold cmpv; split <;> (try split) <;> omega, by unfold cmpv; split <;> (try split) <;> omega⟩ (fun c31 => ?_) (fun c31 => ?_)
  · refine r_throwS (E := "java/lang/IllegalStateException") (text := "one of the two is not right") X Y Z dX6_join_42 dX6_join_45 dX6_join_46 dX6_join_48 dX6_join_51 (by decide) gX6_51 ini_IllegalStateException (by decide) hX6_55 (Nat.le_of_ble_eq_true rfl) (by decide) (by decide) (by decide) ?_
    exact Xn_mk 3 (by rw [cdJo_k hp1 hp5 hp9 hs14 hs21, if_neg (fun z => c31 (cmpv_z.mpr z.1))]) (by decide) rfl
  · refine r_aload 0 X dX6_join_34 rfl ?_
    refine r_callV_v X dX6_join_36 kX6_99 ht21 (c_X5_sharpness (CX_l X) D z0 h q21 a21 b21 c021 ht21 hv21) [] rfl rfl (Nat.le_of_ble_eq_true rfl) (by decide) rfl rfl (by decide) ?_
    refine r_if_eq 52 X dX6_join_39 (by decide) ⟨by unfold cmpv; split <;> (try split) <;> omega, by unfold cmpv; split <;> (try split) <;> omega⟩ (fun c39 => ?_) (fun c39 => ?_)
    · refine r_aload 1 X dX6_join_52 rfl ?_
      refine r_aload 0 X dX6_join_54 rfl ?_
      refine r_getf X dX6_join_56 fX6_86 ht21 rfl ?_
      refine r_callV_v X dX6_join_59 kX6_104 ht14 (c_X5_hasLeg (CX_l X) D z0 h q14 a14 b14 c014 ht14 hv14 b21 ⟨by omega, by omega⟩) [] rfl rfl (Nat.le_of_ble_eq_true rfl) (by decide) rfl rfl (by decide) ?_
      refine r_ifb_eq 73 X dX6_join_62 (by decide) (fun c62 => ?_) (fun c62 => ?_)
      · refine r_aload 0 X dX6_join_73 rfl ?_
        refine r_getf X dX6_join_75 fX6_83 ht21 rfl ?_
        refine r_istore (L' := [(6, iv a21), (5, .ref q21), (4, .ref q14), (0, .ref x), (1, iv p), (2, iv q), (3, iv r)]) X dX6_join_78 (by decide) rfl ?_
        refine r_aload 2 X dX6_join_80 rfl ?_
        refine r_iload 0 X dX6_join_82 rfl ?_
        refine r_callV_v X dX6_join_84 kX6_104 ht14 (c_X5_hasLeg (CX_l X) D z0 h q14 a14 b14 c014 ht14 hv14 a21 ⟨by omega, by omega⟩) [] rfl rfl (Nat.le_of_ble_eq_true rfl) (by decide) rfl rfl (by decide) ?_
        refine r_ifb_ne 100 X dX6_join_87 (by decide) (fun c87 => ?_) (fun c87 => ?_)
        · refine r_aload_n 3 X dX6_join_100 rfl ?_
          refine r_iload_n 6 X dX6_join_101 rfl ?_
          refine r_aload 2 X dX6_join_102 rfl ?_
          refine r_getf X dX6_join_104 fX6_89 ht14 rfl ?_
          refine r_aload 1 X dX6_join_107 rfl ?_
          refine r_getf X dX6_join_109 fX6_89 ht21 rfl ?_
          refine r_aload 2 X dX6_join_112 rfl ?_
          refine r_iload 0 X dX6_join_114 rfl ?_
          refine r_callV_v X dX6_join_116 kX6_109 ht14 (c_X5_otherLeg (CX_l X) D z0 h q14 a14 b14 c014 ht14 hv14 a21 ⟨by omega, by omega⟩) [iv c021, iv c014, iv r, .ref x] rfl rfl (Nat.le_of_ble_eq_true rfl) (by decide) rfl rfl (by decide) ?_
          refine r_aload 1 X dX6_join_119 rfl ?_
          refine r_iload 0 X dX6_join_121 rfl ?_
          refine r_callV_v X dX6_join_123 kX6_109 ht21 (c_X5_otherLeg (CX_l X) D z0 h q21 a21 b21 c021 ht21 hv21 a21 ⟨by omega, by omega⟩) [iv (if a14 = a21 then b14 else a14), iv c021, iv c014, iv r, .ref x] rfl rfl (Nat.le_of_ble_eq_true rfl) (by decide) rfl rfl (by decide) ?_
          refine r_iadd X dX6_join_126 ?_
          have hlg : lg a14 b14 a21 b21 = a21 := by unfold lg; rw [if_neg c62, if_pos c87]
          have hlz : lg a14 b14 a21 b21 ≠ 0 := by rw [hlg]; omega
          have hsq1 : sqb3 a14 b14 c014 2 = 0 := cmpv_z.mp (by omega)
          have hsq2 : sqb3 a21 b21 c021 2 = 0 := cmpv_z.mp (by omega)
          have hwb := wd_b hv14 hv21 hlz
          have hwz : (if a14 = a21 then b14 else a14) + (if a21 = a21 then b21 else a21) = wd a14 b14 a21 b21 := by
            unfold wd
            rw [hlg]
            split <;> split <;> omega
          rw [hwz]
          refine r_callV X dX6_join_127 kX6_92 hc.1 (c_X6_holdIfShortEnough (CX_l X) D z0 h x T f u v o n g σ hc r hp9 c014 c021 (wd a14 b14 a21 b21) ⟨by omega, by omega⟩ ⟨by omega, by omega⟩ ⟨by omega, by omega⟩ (jo_TV hv14 hv21 hsq1 hsq2 hlz)) [] rfl rfl (Nat.le_of_ble_eq_true rfl) (by decide) (by decide) (fun E9 h9 hx9 => by obtain ⟨rfl, rfl, hn127⟩ := Xn1 hx9; exact WX_out X Y Z (by decide) (by decide) (Xn_mk 3 (by rw [cdJo_k hp1 hp5 hp9 hs14 hs21, if_neg (fun z => hn127 ⟨by omega, by omega, by have := z.2.2.2; omega⟩)]) (by decide) rfl)) (fun v9 h9 hv9 => ?_)
          obtain ⟨g9, rfl, hc9, hk9, hp127⟩ := hv9
          have hp127 := if01 hp127
          show WW K D z0 7 h9 9 53 130 [(6, iv a21), (5, .ref q21), (4, .ref q14), (0, .ref x), (1, iv p), (2, iv q), (3, iv r)] [iv (mx3 c014 c021 (wd a14 b14 a21 b21))]
          refine r_iret X Y dX6_join_130 (by decide) (by decide) ?_
          exact ⟨g9, by rw [on_s hs14, on_s hs21], by rw [onT_s hs14, onT_s hs21]; exact hc9, hk9, by rw [cdJo_k hp1 hp5 hp9 hs14 hs21, if_pos ⟨hsq1, hsq2, hlz, hp127.2.2.2⟩]⟩
        · refine r_throwS (E := "java/lang/IllegalStateException") (text := "they have no leg of the same length") X Y Z dX6_join_90 dX6_join_93 dX6_join_94 dX6_join_96 dX6_join_99 (by decide) gX6_51 ini_IllegalStateException (by decide) hX6_55 (Nat.le_of_ble_eq_true rfl) (by decide) (by decide) (by decide) ?_
          exact Xn_mk 3 (by rw [cdJo_k hp1 hp5 hp9 hs14 hs21, if_neg (fun z => z.2.2.1 (by unfold lg; rw [if_neg (by omega), if_neg (by omega)]))]) (by decide) rfl
      · refine r_aload 0 X dX6_join_65 rfl ?_
        refine r_getf X dX6_join_67 fX6_86 ht21 rfl ?_
        refine r_goto 78 X dX6_join_70 (by decide) ?_
        refine r_istore (L' := [(6, iv b21), (5, .ref q21), (4, .ref q14), (0, .ref x), (1, iv p), (2, iv q), (3, iv r)]) X dX6_join_78 (by decide) rfl ?_
        refine r_aload 2 X dX6_join_80 rfl ?_
        refine r_iload 0 X dX6_join_82 rfl ?_
        refine r_callV_v X dX6_join_84 kX6_104 ht14 (c_X5_hasLeg (CX_l X) D z0 h q14 a14 b14 c014 ht14 hv14 b21 ⟨by omega, by omega⟩) [] rfl rfl (Nat.le_of_ble_eq_true rfl) (by decide) rfl rfl (by decide) ?_
        refine r_ifb_ne 100 X dX6_join_87 (by decide) (fun c87 => ?_) (fun c87 => ?_)
        · refine r_aload_n 3 X dX6_join_100 rfl ?_
          refine r_iload_n 6 X dX6_join_101 rfl ?_
          refine r_aload 2 X dX6_join_102 rfl ?_
          refine r_getf X dX6_join_104 fX6_89 ht14 rfl ?_
          refine r_aload 1 X dX6_join_107 rfl ?_
          refine r_getf X dX6_join_109 fX6_89 ht21 rfl ?_
          refine r_aload 2 X dX6_join_112 rfl ?_
          refine r_iload 0 X dX6_join_114 rfl ?_
          refine r_callV_v X dX6_join_116 kX6_109 ht14 (c_X5_otherLeg (CX_l X) D z0 h q14 a14 b14 c014 ht14 hv14 b21 ⟨by omega, by omega⟩) [iv c021, iv c014, iv r, .ref x] rfl rfl (Nat.le_of_ble_eq_true rfl) (by decide) rfl rfl (by decide) ?_
          refine r_aload 1 X dX6_join_119 rfl ?_
          refine r_iload 0 X dX6_join_121 rfl ?_
          refine r_callV_v X dX6_join_123 kX6_109 ht21 (c_X5_otherLeg (CX_l X) D z0 h q21 a21 b21 c021 ht21 hv21 b21 ⟨by omega, by omega⟩) [iv (if a14 = b21 then b14 else a14), iv c021, iv c014, iv r, .ref x] rfl rfl (Nat.le_of_ble_eq_true rfl) (by decide) rfl rfl (by decide) ?_
          refine r_iadd X dX6_join_126 ?_
          have hlg : lg a14 b14 a21 b21 = b21 := by unfold lg; rw [if_pos c62]
          have hlz : lg a14 b14 a21 b21 ≠ 0 := by rw [hlg]; omega
          have hsq1 : sqb3 a14 b14 c014 2 = 0 := cmpv_z.mp (by omega)
          have hsq2 : sqb3 a21 b21 c021 2 = 0 := cmpv_z.mp (by omega)
          have hwb := wd_b hv14 hv21 hlz
          have hwz : (if a14 = b21 then b14 else a14) + (if a21 = b21 then b21 else a21) = wd a14 b14 a21 b21 := by
            unfold wd
            rw [hlg]
            split <;> split <;> omega
          rw [hwz]
          refine r_callV X dX6_join_127 kX6_92 hc.1 (c_X6_holdIfShortEnough (CX_l X) D z0 h x T f u v o n g σ hc r hp9 c014 c021 (wd a14 b14 a21 b21) ⟨by omega, by omega⟩ ⟨by omega, by omega⟩ ⟨by omega, by omega⟩ (jo_TV hv14 hv21 hsq1 hsq2 hlz)) [] rfl rfl (Nat.le_of_ble_eq_true rfl) (by decide) (by decide) (fun E9 h9 hx9 => by obtain ⟨rfl, rfl, hn127⟩ := Xn1 hx9; exact WX_out X Y Z (by decide) (by decide) (Xn_mk 3 (by rw [cdJo_k hp1 hp5 hp9 hs14 hs21, if_neg (fun z => hn127 ⟨by omega, by omega, by have := z.2.2.2; omega⟩)]) (by decide) rfl)) (fun v9 h9 hv9 => ?_)
          obtain ⟨g9, rfl, hc9, hk9, hp127⟩ := hv9
          have hp127 := if01 hp127
          show WW K D z0 7 h9 9 53 130 [(6, iv b21), (5, .ref q21), (4, .ref q14), (0, .ref x), (1, iv p), (2, iv q), (3, iv r)] [iv (mx3 c014 c021 (wd a14 b14 a21 b21))]
          refine r_iret X Y dX6_join_130 (by decide) (by decide) ?_
          exact ⟨g9, by rw [on_s hs14, on_s hs21], by rw [onT_s hs14, onT_s hs21]; exact hc9, hk9, by rw [cdJo_k hp1 hp5 hp9 hs14 hs21, if_pos ⟨hsq1, hsq2, hlz, hp127.2.2.2⟩]⟩
        · refine r_throwS (E := "java/lang/IllegalStateException") (text := "they have no leg of the same length") X Y Z dX6_join_90 dX6_join_93 dX6_join_94 dX6_join_96 dX6_join_99 (by decide) gX6_51 ini_IllegalStateException (by decide) hX6_55 (Nat.le_of_ble_eq_true rfl) (by decide) (by decide) (by decide) ?_
          exact absurd c62 c87
    · refine r_throwS (E := "java/lang/IllegalStateException") (text := "one of the two is not right") X Y Z dX6_join_42 dX6_join_45 dX6_join_46 dX6_join_48 dX6_join_51 (by decide) gX6_51 ini_IllegalStateException (by decide) hX6_55 (Nat.le_of_ble_eq_true rfl) (by decide) (by decide) (by decide) ?_
      exact Xn_mk 3 (by rw [cdJo_k hp1 hp5 hp9 hs14 hs21, if_neg (fun z => c39 (cmpv_z.mpr z.2.1))]) (by decide) rfl
