/-! primitive right triangles: a step back -/
/-- odd leg, even leg, longest side; no divisor of all three -/
def PT (x y z : Int) : Prop := 0 < x ∧ 0 < y ∧ 0 < z ∧ x % 2 = 1 ∧ y % 2 = 0 ∧ x * x + y * y = z * z ∧ (∀ d : Int, d ∣ x → d ∣ y → d ∣ z → d ∣ 1)
theorem sq_lt {a b : Int} (ha : 0 ≤ a) (h : a * a < b * b) (hb : 0 ≤ b) : a < b := by
  apply Int.not_le.mp
  intro z
  have := Int.mul_le_mul z z hb ha
  omega
theorem sq_lt2 {a b : Int} (h : a < b) (ha : 0 ≤ a) : a * a < b * b := by
  have h1 := Int.mul_le_mul_of_nonneg_left (Int.le_of_lt h) ha
  have h2 := Int.mul_lt_mul_of_pos_right h (show 0 < b by omega)
  omega
theorem sq_le {a b : Int} (hb : 0 ≤ b) (h : b ≤ a) : b * b ≤ a * a := Int.mul_le_mul h h hb (by omega)
theorem sq_add (x y : Int) : (x + y) * (x + y) = x * x + y * y + 2 * (x * y) := by
  rw [Int.add_mul, Int.mul_add, Int.mul_add, Int.mul_comm y x]
  omega
theorem sq_sub (x y : Int) : (x - y) * (x - y) = x * x + y * y - 2 * (x * y) := by
  rw [Int.sub_mul, Int.mul_sub, Int.mul_sub, Int.mul_comm y x]
  omega
theorem sq_dif (x y : Int) : (x - y) * (x + y) = x * x - y * y := by
  rw [Int.sub_mul, Int.mul_add, Int.mul_add, Int.mul_comm y x]
  omega
theorem sq_nn (x : Int) : 0 ≤ x * x := by
  rcases Int.le_total 0 x with h | h
  · exact Int.mul_nonneg h h
  · have := Int.mul_nonneg (show 0 ≤ -x by omega) (show 0 ≤ -x by omega)
    rw [Int.neg_mul_neg] at this
    exact this
theorem pt_lt {x y z : Int} (h : PT x y z) : x < z ∧ y < z ∧ z < x + y ∧ 2 * (x * y) ≤ z * z ∧ 0 < x * y := by
  obtain ⟨h1, h2, h3, h4, h5, h6, h7⟩ := h
  have hx := Int.mul_pos h1 h1
  have hy := Int.mul_pos h2 h2
  have hxy := Int.mul_pos h1 h2
  have e1 := sq_add x y
  have e2 := sq_sub x y
  have e3 := sq_nn (x - y)
  exact ⟨sq_lt (by omega) (by omega) (by omega), sq_lt (by omega) (by omega) (by omega), sq_lt (by omega) (by omega) (by omega), by omega, hxy⟩
theorem pt_z {x y z : Int} (h : PT x y z) : 0 < 3 * z - 2 * x - 2 * y := by
  obtain ⟨l1, l2, l3, l4, l5⟩ := pt_lt h
  obtain ⟨h1, h2, h3, h4, h5, h6, h7⟩ := h
  have e1 := sq_add x y
  have e2 : 2 * (x + y) < 3 * z := by
    apply sq_lt (by omega) _ (by omega)
    rw [show 2 * (x + y) * (2 * (x + y)) = 4 * ((x + y) * (x + y)) by rw [Int.mul_assoc, Int.mul_left_comm (x + y) 2]; omega, show 3 * z * (3 * z) = 9 * (z * z) by rw [Int.mul_assoc, Int.mul_left_comm z 3]; omega]
    omega
  omega
theorem pt_5 {x y z : Int} (h : PT x y z) (hz : z ≤ 5) : x = 3 ∧ y = 4 ∧ z = 5 := by
  obtain ⟨l1, l2, l3, l4, l5⟩ := pt_lt h
  obtain ⟨h1, h2, h3, h4, h5, h6, h7⟩ := h
  have hx : x = 1 ∨ x = 3 := by omega
  have hy : y = 2 ∨ y = 4 := by omega
  have hz' : z = 2 ∨ z = 3 ∨ z = 4 ∨ z = 5 := by omega
  rcases hx with rfl | rfl <;> rcases hy with rfl | rfl <;> rcases hz' with rfl | rfl | rfl | rfl <;> omega
theorem bk_sq (x y z : Int) (h : x * x + y * y = z * z) : (x + 2 * y - 2 * z) * (x + 2 * y - 2 * z) + (2 * x + y - 2 * z) * (2 * x + y - 2 * z) = (3 * z - 2 * x - 2 * y) * (3 * z - 2 * x - 2 * y) := by grind
theorem abs_sq (a : Int) : (a.natAbs : Int) * (a.natAbs : Int) = a * a := by
  rw [← Int.natCast_mul, Int.natAbs_mul_self]
theorem pt_back {x y z : Int} (h : PT x y z) (hz : 5 < z) : PT ((x + 2 * y - 2 * z).natAbs : Int) ((2 * x + y - 2 * z).natAbs : Int) (3 * z - 2 * x - 2 * y) ∧ 3 * z - 2 * x - 2 * y < z ∧ x + 2 * y - 2 * z ≠ 0 ∧ 2 * x + y - 2 * z ≠ 0 ∧ ¬ (x + 2 * y - 2 * z < 0 ∧ 2 * x + y - 2 * z < 0) := by
  obtain ⟨l1, l2, l3, l4, l5⟩ := pt_lt h
  have hz' := pt_z h
  obtain ⟨h1, h2, h3, h4, h5, h6, h7⟩ := h
  obtain ⟨a, ha⟩ : ∃ a, a = x + 2 * y - 2 * z := ⟨_, rfl⟩
  obtain ⟨b, hb⟩ : ∃ b, b = 2 * x + y - 2 * z := ⟨_, rfl⟩
  obtain ⟨c, hc⟩ : ∃ c, c = 3 * z - 2 * x - 2 * y := ⟨_, rfl⟩
  have hs := bk_sq x y z h6
  rw [← ha, ← hb, ← hc] at hs ⊢
  rw [← hc] at hz'
  have ex : x = a + 2 * b + 2 * c := by omega
  have ey : y = 2 * a + b + 2 * c := by omega
  have ez : z = 2 * a + 2 * b + 3 * c := by omega
  have hd : ∀ d : Int, d ∣ a → d ∣ b → d ∣ c → d ∣ 1 := by
    intro d d1 d2 d3
    refine h7 d ?_ ?_ ?_
    · rw [ex]; exact Int.dvd_add (Int.dvd_add d1 (Int.dvd_mul_of_dvd_right d2)) (Int.dvd_mul_of_dvd_right d3)
    · rw [ey]; exact Int.dvd_add (Int.dvd_add (Int.dvd_mul_of_dvd_right d1) d2) (Int.dvd_mul_of_dvd_right d3)
    · rw [ez]; exact Int.dvd_add (Int.dvd_add (Int.dvd_mul_of_dvd_right d1) (Int.dvd_mul_of_dvd_right d2)) (Int.dvd_mul_of_dvd_right d3)
  have hb0 : b ≠ 0 := by
    intro z0
    rw [z0, Int.mul_zero, Int.add_zero] at hs
    have hca : c ∣ a := by
      rcases Int.le_total 0 a with q | q
      · have : a = c := by
          rcases Int.lt_trichotomy a c with w | w | w
          · have := sq_lt2 w q
            omega
          · exact w
          · have := sq_lt2 w (show 0 ≤ c by omega)
            omega
        rw [this]
        exact Int.dvd_refl _
      · have : -a = c := by
          have hn : -a * -a = a * a := Int.neg_mul_neg a a
          rcases Int.lt_trichotomy (-a) c with w | w | w
          · have := sq_lt2 w (show 0 ≤ -a by omega)
            omega
          · exact w
          · have := sq_lt2 w (show 0 ≤ c by omega)
            omega
        rw [← this]
        exact Int.neg_dvd.mpr (Int.dvd_refl _)
    have hc1 := Int.le_of_dvd (by decide) (hd c hca (by rw [z0]; exact Int.dvd_zero _) (Int.dvd_refl _))
    have hc2 : c = 1 := by omega
    rw [hc2] at hs hca
    have ha1 : a ≤ 1 := by
      apply Int.not_lt.mp
      intro w
      have := sq_lt2 w (show (0 : Int) ≤ 1 by decide)
      omega
    omega
  refine ⟨⟨by omega, by omega, hz', by omega, by omega, ?_, fun d d1 d2 d3 => hd d (Int.dvd_natAbs.mp d1) (Int.dvd_natAbs.mp d2) d3⟩, by omega, by omega, hb0, ?_⟩
  · rw [abs_sq, abs_sq]
    exact hs
  · rintro ⟨n1, n2⟩
    obtain ⟨A, hA⟩ : ∃ A, a = -A := ⟨-a, by omega⟩
    obtain ⟨B, hB⟩ : ∃ B, b = -B := ⟨-b, by omega⟩
    have p1 := sq_lt2 (show A + 2 * B < 2 * c by omega) (by omega)
    have p2 := sq_lt2 (show 2 * A + B < 2 * c by omega) (by omega)
    have e1 : (A + 2 * B) * (A + 2 * B) = A * A + 4 * (B * B) + 4 * (A * B) := by grind
    have e2 : (2 * A + B) * (2 * A + B) = 4 * (A * A) + B * B + 4 * (A * B) := by grind
    have e3 : 2 * c * (2 * c) = 4 * (c * c) := by grind
    have e4 : A * A + B * B = c * c := by
      rw [hA, hB] at hs
      rw [← hs]
      grind
    have m1 := Int.mul_pos (show 0 < A by omega) (show 0 < B by omega)
    rcases Int.le_total A B with q | q
    · have := Int.mul_le_mul_of_nonneg_left q (show 0 ≤ A by omega)
      omega
    · have := Int.mul_le_mul_of_nonneg_right q (show 0 ≤ B by omega)
      omega
/-- so many steps back are enough: the half of odd leg and longest side is at most a square, whose root falls -/
theorem pt_pot {x y z k : Int} (h : PT x y z) (hk : 1 ≤ k) (hu : z + x ≤ 2 * (k * k)) : (3 * z - 2 * x - 2 * y) + ((x + 2 * y - 2 * z).natAbs : Int) ≤ 2 * ((k - 1) * (k - 1)) := by
  obtain ⟨l1, l2, l3, l4, l5⟩ := pt_lt h
  obtain ⟨h1, h2, h3, h4, h5, h6, h7⟩ := h
  obtain ⟨K, hK⟩ : ∃ K, K = (k - 1) * (k - 1) := ⟨_, rfl⟩
  have hkk : k * k = K + 2 * k - 1 := by
    rw [hK]
    grind
  have hK0 : 0 ≤ K := by rw [hK]; exact sq_nn _
  rw [← hK]
  have e1 := sq_dif z y
  have e2 := sq_dif z x
  have hzx : 2 ≤ z - x := by
    have : z * z % 2 = 1 := by
      obtain ⟨i, hi⟩ : ∃ i, x = 2 * i + 1 := ⟨x / 2, by omega⟩
      obtain ⟨j, hj⟩ : ∃ j, y = 2 * j := ⟨y / 2, by omega⟩
      have e3 : z * z = 2 * (2 * (i * i) + 2 * i + 2 * (j * j)) + 1 := by
        rw [← h6, hi, hj]
        grind
      omega
    have hz1 : z % 2 = 1 := by
      apply Decidable.byContradiction
      intro w
      obtain ⟨i, hi⟩ : ∃ i, z = 2 * i := ⟨z / 2, by omega⟩
      have e3 : z * z = 2 * (2 * (i * i)) := by
        rw [hi]
        grind
      omega
    omega
  obtain ⟨V, hV⟩ : ∃ V, V = z - x := ⟨_, rfl⟩
  obtain ⟨U, hU⟩ : ∃ U, U = z + x := ⟨_, rfl⟩
  rw [← hV, ← hU] at e2
  have hVU : V ≤ U := by omega
  have hVy : V ≤ y := by
    apply Int.not_lt.mp
    intro w
    have := sq_lt2 w (by omega)
    have := Int.mul_le_mul_of_nonneg_left hVU (show 0 ≤ V by omega)
    omega
  have key1 : V ≤ 2 * K := by
    apply Int.not_lt.mp
    intro w
    have q1 := Int.mul_le_mul_of_nonneg_right (show 1 ≤ z - y by omega) (show 0 ≤ z + y by omega)
    have q2 : 2 * (k - 1) < x := by
      apply sq_lt (by omega) _ (by omega)
      rw [show 2 * (k - 1) * (2 * (k - 1)) = 4 * ((k - 1) * (k - 1)) by grind, ← hK]
      omega
    omega
  have key2 : U + 4 * V - 4 * y ≤ 2 * K := by
    by_cases q : 2 * V ≤ y
    · apply Int.not_lt.mp
      intro w
      have q1 := sq_lt2 (show y < 2 * k - 1 by omega) (by omega)
      have q2 := sq_le (b := y) (a := 2 * (k - 1)) (by omega) (by omega)
      rw [show 2 * (k - 1) * (2 * (k - 1)) = 4 * ((k - 1) * (k - 1)) by grind, ← hK] at q2
      have q3 := Int.mul_le_mul_of_nonneg_right (show 2 ≤ V by omega) (show 0 ≤ U by omega)
      omega
    · have q1 := Int.mul_nonneg (show 0 ≤ y - V by omega) (show 0 ≤ 3 * V - y by omega)
      have q2 : (y - V) * (3 * V - y) = V * (4 * y - 3 * V) - y * y := by grind
      have q3 : V * U = y * y := by omega
      have q4 : V * U ≤ V * (4 * y - 3 * V) := by omega
      have q5 := Int.le_of_mul_le_mul_left q4 (show 0 < V by omega)
      omega
  omega
/-- steps back until the longest side is no more than 5 -/
def dpN : Nat → Int → Int → Int → Nat
  | 0, _, _, _ => 0
  | m + 1, x, y, z => if 5 < z then dpN m ((x + 2 * y - 2 * z).natAbs : Int) ((2 * x + y - 2 * z).natAbs : Int) (3 * z - 2 * x - 2 * y) + 1 else 0
theorem dpN_s (m : Nat) (x y z : Int) : dpN (m + 1) x y z = if 5 < z then dpN m ((x + 2 * y - 2 * z).natAbs : Int) ((2 * x + y - 2 * z).natAbs : Int) (3 * z - 2 * x - 2 * y) + 1 else 0 := rfl
theorem dpN_b : ∀ (m : Nat) (x y z : Int), dpN m x y z ≤ m
  | 0, _, _, _ => Nat.le_refl _
  | m + 1, x, y, z => by
    have := dpN_b m ((x + 2 * y - 2 * z).natAbs : Int) ((2 * x + y - 2 * z).natAbs : Int) (3 * z - 2 * x - 2 * y)
    rw [dpN_s]
    split <;> omega
/-- a held primitive one -/
theorem PT_of {a b c : Int} (hv : TV a b c) (h : sqb3 a b c 2 = 0) (hg : gcd3 a b c = 1) : PT (odd2 a b) (eve2 a b) c := by
  obtain ⟨v1, v2, v3, v4, v5⟩ := hv
  rw [sq2] at h
  have hd : ∀ d : Int, d ∣ a → d ∣ b → d ∣ c → d ∣ 1 := by
    intro d d1 d2 d3
    have := Int.dvd_coe_gcd (Int.dvd_coe_gcd d1 d2) d3
    rw [show ((Int.gcd ((Int.gcd a b : Nat) : Int) c : Nat) : Int) = 1 from hg] at this
    exact this
  have hpar : (a % 2 = 1 ∧ b % 2 = 0) ∨ (a % 2 = 0 ∧ b % 2 = 1) := by
    have ha : a % 2 = 0 ∨ a % 2 = 1 := by omega
    have hb : b % 2 = 0 ∨ b % 2 = 1 := by omega
    have hc : c % 2 = 0 ∨ c % 2 = 1 := by omega
    rcases ha with ha | ha <;> rcases hb with hb | hb
    · exfalso
      obtain ⟨i, hi⟩ : ∃ i, a = 2 * i := ⟨a / 2, by omega⟩
      obtain ⟨j, hj⟩ : ∃ j, b = 2 * j := ⟨b / 2, by omega⟩
      have hc2 : c % 2 = 0 := by
        rcases hc with hc | hc
        · exact hc
        · exfalso
          obtain ⟨t, ht⟩ : ∃ t, c = 2 * t + 1 := ⟨c / 2, by omega⟩
          have e : c * c = 2 * (2 * (t * t) + 2 * t) + 1 := by rw [ht]; grind
          have e2 : a * a = 2 * (2 * (i * i)) := by rw [hi]; grind
          have e3 : b * b = 2 * (2 * (j * j)) := by rw [hj]; grind
          omega
      have := hd 2 (Int.dvd_of_emod_eq_zero ha) (Int.dvd_of_emod_eq_zero hb) (Int.dvd_of_emod_eq_zero hc2)
      omega
    · exact Or.inr ⟨ha, hb⟩
    · exact Or.inl ⟨ha, hb⟩
    · exfalso
      obtain ⟨i, hi⟩ : ∃ i, a = 2 * i + 1 := ⟨a / 2, by omega⟩
      obtain ⟨j, hj⟩ : ∃ j, b = 2 * j + 1 := ⟨b / 2, by omega⟩
      have e2 : a * a = 4 * (i * i + i) + 1 := by rw [hi]; grind
      have e3 : b * b = 4 * (j * j + j) + 1 := by rw [hj]; grind
      rcases hc with hc | hc
      · obtain ⟨t, ht⟩ : ∃ t, c = 2 * t := ⟨c / 2, by omega⟩
        have e : c * c = 4 * (t * t) := by rw [ht]; grind
        omega
      · obtain ⟨t, ht⟩ : ∃ t, c = 2 * t + 1 := ⟨c / 2, by omega⟩
        have e : c * c = 4 * (t * t + t) + 1 := by rw [ht]; grind
        omega
  unfold odd2 eve2
  rcases hpar with ⟨p1, p2⟩ | ⟨p1, p2⟩
  · rw [if_pos p1, if_pos p1]
    exact ⟨by omega, by omega, by omega, p1, p2, by omega, hd⟩
  · rw [if_neg (by omega), if_neg (by omega)]
    exact ⟨by omega, by omega, by omega, p2, p1, by omega, fun d d1 d2 d3 => hd d d2 d1 d3⟩
/-- three sides of a right triangle -/
theorem rt_TV {x y z : Int} (hx : 0 < x) (hy : 0 < y) (hz : 0 < z) (h : x * x + y * y = z * z) : x < z ∧ y < z ∧ z < x + y := by
  have mx := Int.mul_pos hx hx
  have my := Int.mul_pos hy hy
  have mxy := Int.mul_pos hx hy
  have e1 := sq_add x y
  exact ⟨sq_lt (by omega) (by omega) (by omega), sq_lt (by omega) (by omega) (by omega), sq_lt (by omega) (by omega) (by omega)⟩
theorem TV_rt {x y z : Int} (hx : sd x) (hy : sd y) (hz : sd z) (h : x * x + y * y = z * z) : TV (mn3 x y z) (md3 x y z) (mx3 x y z) := by
  have := rt_TV (x := x) (y := y) (z := z) (by omega) (by omega) (by omega) h
  exact TV_of hx hy hz (by omega) (by omega) (by omega)
theorem st_sq (c x y z : Int) (h : x * x + y * y = z * z) : (so c x + 2 * se c y + 2 * z) * (so c x + 2 * se c y + 2 * z) + (2 * so c x + se c y + 2 * z) * (2 * so c x + se c y + 2 * z) = (2 * so c x + 2 * se c y + 3 * z) * (2 * so c x + 2 * se c y + 3 * z) := by
  have e1 : so c x * so c x = x * x := by
    unfold so
    split
    · exact Int.neg_mul_neg x x
    · rfl
  have e2 : se c y * se c y = y * y := by
    unfold se
    split
    · exact Int.neg_mul_neg y y
    · rfl
  generalize so c x = X at *
  generalize se c y = Y at *
  grind
theorem st_pos {x y z : Int} (c : Int) (h : PT x y z) : 0 < so c x + 2 * se c y + 2 * z ∧ 0 < 2 * so c x + se c y + 2 * z ∧ so c x + 2 * se c y + 2 * z < 2 * so c x + 2 * se c y + 3 * z ∧ 2 * so c x + se c y + 2 * z < 2 * so c x + 2 * se c y + 3 * z := by
  obtain ⟨l1, l2, l3, l4, l5⟩ := pt_lt h
  obtain ⟨h1, h2, h3, h4, h5, h6, h7⟩ := h
  have hp : 0 < so c x + 2 * se c y + 2 * z ∧ 0 < 2 * so c x + se c y + 2 * z ∧ 0 < 2 * so c x + 2 * se c y + 3 * z := by
    unfold so se
    split <;> split <;> omega
  have := rt_TV hp.1 hp.2.1 hp.2.2 (st_sq c x y z h6)
  exact ⟨hp.1, hp.2.1, this.1, this.2.1⟩
