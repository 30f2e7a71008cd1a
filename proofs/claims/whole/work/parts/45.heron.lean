/-! S: beside the squares, below the sides, what its root is; right ones; primitive ones
-/
theorem S_sq (a b c : Int) : Sx a b c + sqb3 a b c 2 * sqb3 a b c 2 = 2 * a * b * (2 * a * b) := by
  rw [sq2]
  unfold Sx outr innr
  grind
theorem S_below {a b c : Int} (hv : TV a b c) : (a = c → Sx a b c = a * b * c * (a + b + c)) ∧ (a ≠ c → Sx a b c < a * b * c * (a + b + c)) := by
  obtain ⟨h1, h2, h3, h4, h5⟩ := hv
  constructor
  · intro e
    have e2 : b = a := by omega
    subst e2
    subst e
    unfold Sx outr innr
    grind
  · intro e
    obtain ⟨x, hx⟩ : ∃ x, x = b + c - a := ⟨_, rfl⟩
    obtain ⟨y, hy⟩ : ∃ y, y = a + c - b := ⟨_, rfl⟩
    obtain ⟨z, hz⟩ : ∃ z, z = a + b - c := ⟨_, rfl⟩
    have s1 := sq_nn (b - c)
    have s2 := Int.mul_pos (show 0 < c - a by omega) (show 0 < c - a by omega)
    have s3 := sq_nn (a - b)
    have p1 : z * y = a * a - (b - c) * (b - c) := by rw [hz, hy]; grind
    have p2 : z * x = b * b - (c - a) * (c - a) := by rw [hz, hx]; grind
    have p3 : x * y = c * c - (a - b) * (a - b) := by rw [hx, hy]; grind
    have x0 : 0 < x := by omega
    have y0 : 0 < y := by omega
    have z0 : 0 < z := by omega
    have xy := Int.mul_pos x0 y0
    have zx := Int.mul_pos z0 x0
    have zy := Int.mul_pos z0 y0
    have aa := Int.mul_pos (show 0 < a by omega) (show 0 < a by omega)
    have bb := Int.mul_pos (show 0 < b by omega) (show 0 < b by omega)
    have q1 : z * y * (z * x) ≤ a * a * (z * x) := Int.mul_le_mul_of_nonneg_right (by omega) (by omega)
    have q2 : a * a * (z * x) < a * a * (b * b) := Int.mul_lt_mul_of_pos_left (by omega) aa
    have q3 : z * y * (z * x) * (x * y) < a * a * (b * b) * (x * y) := Int.mul_lt_mul_of_pos_right (by omega) xy
    have q4 : a * a * (b * b) * (x * y) ≤ a * a * (b * b) * (c * c) := Int.mul_le_mul_of_nonneg_left (by omega) (Int.le_of_lt (Int.mul_pos aa bb))
    have q5 : z * (x * y) < a * b * c := by
      apply sq_lt (Int.le_of_lt (Int.mul_pos z0 xy)) _ (Int.le_of_lt (Int.mul_pos (Int.mul_pos (show 0 < a by omega) (show 0 < b by omega)) (show 0 < c by omega)))
      have e1 : z * (x * y) * (z * (x * y)) = z * y * (z * x) * (x * y) := by grind
      have e2 : a * b * c * (a * b * c) = a * a * (b * b) * (c * c) := by grind
      omega
    have q6 := Int.mul_lt_mul_of_pos_right q5 (show 0 < a + b + c by omega)
    have e3 : Sx a b c = z * (x * y) * (a + b + c) := by
      unfold Sx outr innr
      rw [← hz, ← hx, ← hy]
      grind
    omega
theorem key3 : ∀ x, x < 3 → ∀ y, y < 3 → ∀ z, z < 3 → ∀ a, a < 3 → ((x + y + z) % 3 * z % 3) * (x * y % 3) % 3 = a * a % 3 → a = 0 := by decide
theorem key4 : ∀ x, x < 4 → ∀ y, y < 4 → ∀ z, z < 4 → ∀ a, a < 4 → ((x + y + z) % 4 * z % 4) * (x * y % 4) % 4 = a * a % 4 → a % 2 = 0 := by decide +kernel
theorem heron6 {X Y Z A : Nat} (h : A * A = (X + Y + Z) * Z * (X * Y)) : A % 6 = 0 := by
  have k3 : A % 3 = 0 := by
    have e5 := Nat.mul_mod A A 3
    rw [h, Nat.mul_mod ((X + Y + Z) * Z) (X * Y) 3, Nat.mul_mod (X + Y + Z) Z 3, Nat.mul_mod X Y 3, show (X + Y + Z) % 3 = (X % 3 + Y % 3 + Z % 3) % 3 by omega] at e5
    exact key3 (X % 3) (by omega) (Y % 3) (by omega) (Z % 3) (by omega) (A % 3) (by omega) e5
  have k4 : A % 4 % 2 = 0 := by
    have e5 := Nat.mul_mod A A 4
    rw [h, Nat.mul_mod ((X + Y + Z) * Z) (X * Y) 4, Nat.mul_mod (X + Y + Z) Z 4, Nat.mul_mod X Y 4, show (X + Y + Z) % 4 = (X % 4 + Y % 4 + Z % 4) % 4 by omega] at e5
    exact key4 (X % 4) (by omega) (Y % 4) (by omega) (Z % 4) (by omega) (A % 4) (by omega) e5
  omega
theorem sq_par (a : Int) : a * a % 2 = a % 2 := by
  rcases (show a % 2 = 0 ∨ a % 2 = 1 by omega) with h | h
  · obtain ⟨i, hi⟩ : ∃ i, a = 2 * i := ⟨a / 2, by omega⟩
    have e : a * a = 2 * (2 * (i * i)) := by rw [hi]; grind
    omega
  · obtain ⟨i, hi⟩ : ∃ i, a = 2 * i + 1 := ⟨a / 2, by omega⟩
    have e : a * a = 2 * (2 * (i * i) + 2 * i) + 1 := by rw [hi]; grind
    omega
theorem sq_m4 (a : Int) : a * a % 4 = a % 2 := by
  rcases (show a % 2 = 0 ∨ a % 2 = 1 by omega) with h | h
  · obtain ⟨i, hi⟩ : ∃ i, a = 2 * i := ⟨a / 2, by omega⟩
    have e : a * a = 4 * (i * i) := by rw [hi]; grind
    omega
  · obtain ⟨i, hi⟩ : ∃ i, a = 2 * i + 1 := ⟨a / 2, by omega⟩
    have e : a * a = 4 * (i * i + i) + 1 := by rw [hi]; grind
    omega
theorem rtS_0 (s : Int) : rtS s = 0 ∨ (0 < rtS s ∧ rtS s * rtS s = s) := by
  unfold rtS
  split
  · next q =>
    rcases Nat.eq_zero_or_pos (isq s.toNat) with z | z
    · exact Or.inl (by rw [z]; rfl)
    · exact Or.inr ⟨by omega, q⟩
  · exact Or.inl rfl
theorem rtS_sq {d : Int} (hd : 0 ≤ d) : rtS (d * d) = d := by
  obtain ⟨k, rfl⟩ := Int.eq_ofNat_of_zero_le hd
  unfold rtS
  rw [show ((k : Int) * (k : Int)).toNat = k * k from rfl, isq_sq, if_pos rfl]
/-- if S is a square, all around is even, and the area a multiple of 6 -/
theorem S_root {a b c : Int} (hv : TV a b c) : rtS (Sx a b c) = 0 ∨ ((a + b + c) % 2 = 0 ∧ rtS (Sx a b c) % 4 = 0 ∧ rtS (Sx a b c) / 4 % 6 = 0) := by
  obtain ⟨h1, h2, h3, h4, h5⟩ := hv
  rcases rtS_0 (Sx a b c) with z | ⟨hr, hrr⟩
  · exact Or.inl z
  · refine Or.inr ?_
    generalize rtS (Sx a b c) = r at *
    have hS := S_sq a b c
    have hp : (a + b + c) % 2 = 0 := by
      apply Decidable.byContradiction
      intro w
      have q1 := sq_m4 (sqb3 a b c 2)
      have q2 := sq_m4 r
      have q3 : sqb3 a b c 2 % 2 = 1 := by
        rw [sq2]
        have := sq_par a
        have := sq_par b
        have := sq_par c
        omega
      have q4 : 2 * a * b * (2 * a * b) = 4 * (a * b * (a * b)) := by grind
      omega
    obtain ⟨X, hX⟩ : ∃ X : Nat, b + c - a = 2 * (X : Int) := ⟨((b + c - a) / 2).toNat, by omega⟩
    obtain ⟨Y, hY⟩ : ∃ Y : Nat, a + c - b = 2 * (Y : Int) := ⟨((a + c - b) / 2).toNat, by omega⟩
    obtain ⟨Z, hZ⟩ : ∃ Z : Nat, a + b - c = 2 * (Z : Int) := ⟨((a + b - c) / 2).toNat, by omega⟩
    have e1 : Sx a b c = 16 * (((X : Int) + Y + Z) * Z * (X * Y)) := by
      unfold Sx outr innr
      rw [hX, hY, hZ, show a + b + c = 2 * ((X : Int) + Y + Z) by omega]
      grind
    generalize hQ : ((X : Int) + Y + Z) * Z * (X * Y) = Q at e1
    have q2 := sq_par r
    obtain ⟨r1, hr1⟩ : ∃ r1, r = 2 * r1 := ⟨r / 2, by omega⟩
    have e2 : r * r = 4 * (r1 * r1) := by rw [hr1]; grind
    have q3 := sq_par r1
    obtain ⟨A, hA⟩ : ∃ A : Nat, r1 = 2 * (A : Int) := ⟨(r1 / 2).toNat, by omega⟩
    have e3 : r1 * r1 = 4 * ((A : Int) * A) := by rw [hA]; grind
    have e4 : (A : Int) * A = Q := by omega
    rw [← hQ] at e4
    have e5 : A * A = (X + Y + Z) * Z * (X * Y) := by exact_mod_cast e4
    have := heron6 e5
    omega
theorem sqrt2 : ∀ (n a c : Nat), a ≤ n → 2 * (a * a) = c * c → a = 0
  | 0, a, c, h, _ => by omega
  | n + 1, a, c, h, e => by
    have p1 := sq_par (c : Int)
    have e1 : ((c * c : Nat) : Int) = (c : Int) * c := rfl
    obtain ⟨t, ht⟩ : ∃ t, c = 2 * t := ⟨c / 2, by omega⟩
    have e2 : c * c = 4 * (t * t) := by rw [ht]; grind
    by_cases z : a = 0
    · exact z
    · have hta : t < a := by
        apply Nat.mul_self_lt_mul_self_iff.mp
        have := Nat.mul_pos (show 0 < a by omega) (show 0 < a by omega)
        omega
      have := sqrt2 n t a (by omega) (by omega)
      rw [this] at e2
      have := Nat.mul_pos (show 0 < a by omega) (show 0 < a by omega)
      omega
/-- a right one -/
theorem rt_facts {a b c : Int} (hv : TV a b c) (h : sqb3 a b c 2 = 0) : a ≠ b ∧ (a % 2 = 0 ∨ b % 2 = 0) ∧ rtS (Sx a b c) = 2 * a * b ∧ 0 < 2 * a * b ∧ (a + b - c) % 2 = 0 ∧ wq (2 * a * b) (2 * (a + b + c)) = (a + b - c) / 2 ∧ wq (2 * a * b * c) (2 * a * b) = c := by
  obtain ⟨h1, h2, h3, h4, h5⟩ := hv
  have hS := S_sq a b c
  have h0 := h
  rw [sq2] at h
  have ab := Int.mul_pos (show 0 < 2 * a by omega) (show 0 < b by omega)
  rw [h0, Int.mul_zero, Int.add_zero] at hS
  refine ⟨?_, ?_, by rw [hS]; exact rtS_sq (by omega), ab, ?_, ?_, ?_⟩
  · intro e
    subst e
    obtain ⟨n, rfl⟩ := Int.eq_ofNat_of_zero_le (show 0 ≤ a by omega)
    obtain ⟨k, rfl⟩ := Int.eq_ofNat_of_zero_le (show 0 ≤ c by omega)
    have := sqrt2 n n k (Nat.le_refl n) (by exact_mod_cast (show 2 * ((n : Int) * n) = (k : Int) * k by omega))
    omega
  · have q1 := sq_m4 a
    have q2 := sq_m4 b
    have q3 := sq_m4 c
    omega
  · have q1 := sq_par a
    have q2 := sq_par b
    have q3 := sq_par c
    omega
  · obtain ⟨k, hk⟩ : ∃ k, a + b - c = 2 * k := ⟨(a + b - c) / 2, by
      have q1 := sq_par a
      have q2 := sq_par b
      have q3 := sq_par c
      omega⟩
    have e : 2 * a * b = k * (2 * (a + b + c)) := by
      have e1 : (a + b - c) * (a + b + c) = a * a + b * b - c * c + 2 * a * b := by grind
      have e2 : k * (2 * (a + b + c)) = 2 * k * (a + b + c) := by grind
      rw [e2, ← hk, e1]
      omega
    unfold wq
    rw [e, if_pos ⟨by omega, Int.mul_emod_left _ _⟩, Int.mul_ediv_cancel _ (by omega)]
    omega
  · unfold wq
    rw [if_pos ⟨ab, Int.mul_emod_right _ _⟩, Int.mul_ediv_cancel_left _ (by omega)]
/-- the numbers m and n of a primitive one -/
theorem PT_mn {x y z : Int} (h : PT x y z) : ∃ M N : Nat, 1 ≤ N ∧ N < M ∧ z + x = 2 * ((M : Int) * M) ∧ z - x = 2 * ((N : Int) * N) ∧ y = 2 * M * N ∧ Nat.gcd M N = 1 ∧ (M + N) % 2 = 1 := by
  obtain ⟨l1, l2, l3, l4, l5⟩ := pt_lt h
  obtain ⟨h1, h2, h3, h4, h5, h6, h7⟩ := h
  have p1 := sq_par x
  have p2 := sq_par y
  have p3 := sq_par z
  obtain ⟨u, hu⟩ : ∃ u : Nat, z + x = 2 * (u : Int) := ⟨((z + x) / 2).toNat, by omega⟩
  obtain ⟨v, hv⟩ : ∃ v : Nat, z - x = 2 * (v : Int) := ⟨((z - x) / 2).toNat, by omega⟩
  obtain ⟨t, ht⟩ : ∃ t : Nat, y = 2 * (t : Int) := ⟨(y / 2).toNat, by omega⟩
  have e1 : u * v = t * t := by
    have e2 := sq_dif z x
    rw [hv, hu] at e2
    have e3 : 2 * (v : Int) * (2 * (u : Int)) = 4 * ((u : Int) * v) := by grind
    have e4 : y * y = 4 * ((t : Int) * t) := by rw [ht]; grind
    have e5 : (u : Int) * v = (t : Int) * t := by omega
    exact_mod_cast e5
  have hg : Nat.gcd u v = 1 := by
    generalize hgg : Nat.gcd u v = g
    have d1 : g ∣ u := by rw [← hgg]; exact Nat.gcd_dvd_left _ _
    have d2 : g ∣ v := by rw [← hgg]; exact Nat.gcd_dvd_right _ _
    have d3 : g ∣ t := by
      have := Nat.mul_dvd_mul d1 d2
      rw [e1, ← Nat.pow_two, ← Nat.pow_two] at this
      exact (Nat.pow_dvd_pow_iff (by decide)).mp this
    have i1 : (g : Int) ∣ (u : Int) := Int.natCast_dvd_natCast.mpr d1
    have i2 : (g : Int) ∣ (v : Int) := Int.natCast_dvd_natCast.mpr d2
    have i3 : (g : Int) ∣ (t : Int) := Int.natCast_dvd_natCast.mpr d3
    have := h7 (g : Int) (by rw [show x = (u : Int) - v by omega]; exact Int.dvd_sub i1 i2) (by rw [ht]; exact Int.dvd_mul_of_dvd_right i3) (by rw [show z = (u : Int) + v by omega]; exact Int.dvd_add i1 i2)
    have := Int.natCast_dvd_natCast.mp (show ((g : Nat) : Int) ∣ ((1 : Nat) : Int) from this)
    exact Nat.dvd_one.mp this
  obtain ⟨M, hM⟩ := cop_sq hg e1
  obtain ⟨N, hN⟩ := cop_sq (x := v) (y := u) (z := t) (by rw [Nat.gcd_comm]; exact hg) (by rw [Nat.mul_comm]; exact e1)
  have hMN : t = M * N := by
    apply Nat.mul_self_inj.mp
    rw [← e1, hM, hN]
    ac_rfl
  have eM : ((M * M : Nat) : Int) = (M : Int) * M := rfl
  have eN : ((N * N : Nat) : Int) = (N : Int) * N := rfl
  have hN1 : 1 ≤ N := by
    apply Nat.pos_of_ne_zero
    intro w
    rw [w] at hN
    omega
  have hlt : N < M := Nat.mul_self_lt_mul_self_iff.mp (by omega)
  have q1 := sq_par (M : Int)
  have q2 := sq_par (N : Int)
  refine ⟨M, N, hN1, hlt, by omega, by omega, ?_, ?_, by omega⟩
  · rw [ht, hMN, Int.natCast_mul, Int.mul_assoc]
  · apply Nat.dvd_one.mp
    rw [← hg]
    exact Nat.dvd_gcd (by rw [hM]; exact Nat.dvd_mul_right_of_dvd (Nat.gcd_dvd_left _ _) _) (by rw [hN]; exact Nat.dvd_mul_right_of_dvd (Nat.gcd_dvd_right _ _) _)
