/-! the double nearest to a root, beside whole numbers -/
theorem dR_w {n : Nat} (h2 : n < 17179869184) : ∃ N k : Nat, dR n = dI N (-(k : Int)) ∧ N ≤ 9007199254740992 ∧ k ≤ 900 ∧ N / 2 ^ k = isq n ∧ (N % 2 ^ k = 0 ↔ isq n * isq n = n) := by
  by_cases h0 : n = 0
  · subst h0
    exact ⟨0, 0, rfl, by omega, by omega, rfl, by decide⟩
  obtain ⟨i, i1, i2, hR1, hR2, he⟩ := dR_ex (n := n) (by omega) h2
  have hs := isq_spec n
  have hS := isq_spec (n * 4 ^ i)
  have hsq := isq_sq4 (isq n) i
  have hr := isq_lt (a := 131072) (N := n) (by omega)
  refine ⟨(isq (n * 4 ^ i) + 1) / 2, i - 1, he, by omega, by omega, ?_⟩
  rw [← pow22] at hS hR1 hR2 hsq ⊢
  have hT : 2 ^ i = 2 * 2 ^ (i - 1) := by
    obtain ⟨j, rfl⟩ : ∃ j, i = j + 1 := ⟨i - 1, by omega⟩
    rw [Nat.pow_succ, Nat.add_sub_cancel, Nat.mul_comm]
  generalize 2 ^ i = T at *
  generalize 2 ^ (i - 1) = V at *
  generalize hRR : isq (n * (T * T)) = R at *
  generalize isq n = r at *
  have hb : R < (r + 1) * T := by
    apply Nat.mul_self_lt_mul_self_iff.mp
    rw [show (r + 1) * T * ((r + 1) * T) = (r + 1) * (r + 1) * (T * T) by ac_rfl]
    refine Nat.lt_of_le_of_lt hS.1 (Nat.mul_lt_mul_of_pos_right hs.2 ?_)
    apply Nat.pos_of_ne_zero
    intro z
    rw [z, Nat.mul_zero] at hS
    have := Nat.mul_le_mul hR1 hR1
    omega
  have hT36 : 68719476736 < T := by
    have := Nat.mul_le_mul_right T (show r + 1 ≤ 131072 by omega)
    omega
  have hTT := Nat.mul_le_mul_right T (show 2 * r + 2 ≤ T by omega)
  have e0 : (2 * r + 2) * T = 2 * (r * T) + 2 * T := by rw [Nat.add_mul, Nat.mul_assoc]
  have e1 : (r + 1) * T = r * T + T := by rw [Nat.add_mul, Nat.one_mul]
  have e2 : r * T = 2 * (r * V) := by rw [hT]; ac_rfl
  have e3 : (r + 1) * V = r * V + V := by rw [Nat.add_mul, Nat.one_mul]
  by_cases hq : r * r = n
  · rw [hq] at hsq
    rw [hRR] at hsq
    have hN : (R + 1) / 2 = r * V := by omega
    rw [hN]
    refine ⟨Nat.mul_div_cancel _ (by omega), ?_⟩
    rw [Nat.mul_mod_left]
    exact ⟨fun _ => hq, fun _ => rfl⟩
  · have hlo : r * T + 1 ≤ R := by
      rw [← hRR]
      apply le_isq
      rw [show (r * T + 1) * (r * T + 1) = r * r * (T * T) + 2 * (r * T) + 1 by grind]
      have := Nat.mul_le_mul_right (T * T) (show r * r + 1 ≤ n by omega)
      rw [Nat.add_mul, Nat.one_mul] at this
      omega
    have hhi : R + 1 < (r + 1) * T := by
      apply Nat.not_le.mp
      intro z
      have hR : R + 1 = (r + 1) * T := by omega
      have h5 : (R + 1) * (R + 1) = (r + 1) * (r + 1) * (T * T) := by rw [hR]; ac_rfl
      have h6 : (R + 1) * (R + 1) = R * R + 2 * R + 1 := by grind
      have h7 := Nat.mul_le_mul_right (T * T) (show n + 1 ≤ (r + 1) * (r + 1) by omega)
      rw [Nat.add_mul, Nat.one_mul] at h7
      omega
    have hd : (R + 1) / 2 / V = r := Nat.div_eq_of_lt_le (by omega) (by omega)
    refine ⟨hd, ?_⟩
    have hm := Nat.div_add_mod ((R + 1) / 2) V
    rw [hd, Nat.mul_comm V r] at hm
    constructor
    · intro z
      omega
    · intro z
      exact absurd z hq
theorem dR_l {n : Nat} (h : n < 17179869184) : FP.d2l (dR n) = Int64.ofInt ((isq n : Nat) : Int) := by
  obtain ⟨N, k, h1, h2, h3, h4, h5⟩ := dR_w h
  rw [h1, d2l_of h2 h3, h4]
theorem dR_c {n : Nat} (h : n < 17179869184) : FP.dcmp (dR n) (dR n) = some (compare (0 : Int) 0) := by
  obtain ⟨N, k, h1, h2, h3, h4, h5⟩ := dR_w h
  rw [h1, dcmp_of h2 h2 h3 h3]
  have e1 := (cmp_lt (a := ((N * 2 ^ k : Nat) : Int)) (b := ((N * 2 ^ k : Nat) : Int))).2.mpr rfl
  rw [e1]
  rfl
theorem dR_d {n c : Nat} (h : n < 17179869184) (hc : c ≤ 65535) : ∃ A B : Int, FP.dcmp (dR n) (dI c 0) = some (compare A B) ∧ (A < B ↔ n < c * c) ∧ (A = B ↔ n = c * c) := by
  obtain ⟨N, k, h1, h2, h3, h4, h5⟩ := dR_w h
  have hs := isq_spec n
  have hp := Nat.two_pow_pos k
  have hd := dcmp_of (m := N) (n := c) (k := k) (l := 0) h2 (by omega) h3 (by omega)
  rw [Nat.pow_zero, Nat.mul_one, show -((0 : Nat) : Int) = 0 from rfl] at hd
  refine ⟨_, _, by rw [h1]; exact hd, ?_, ?_⟩
  · have e1 := Nat.div_lt_iff_lt_mul (x := N) (y := c) hp
    rw [h4] at e1
    constructor
    · intro z
      have := e1.mpr (by omega)
      exact Nat.lt_of_lt_of_le hs.2 (Nat.mul_le_mul this this)
    · intro z
      have := e1.mp (isq_lt z)
      omega
  · have hm := Nat.div_add_mod N (2 ^ k)
    rw [h4, Nat.mul_comm] at hm
    constructor
    · intro z
      have z2 : N = c * 2 ^ k := by omega
      have e2 : isq n = c := by rw [← h4, z2, Nat.mul_div_cancel _ hp]
      have e3 : N % 2 ^ k = 0 := by rw [z2, Nat.mul_mod_left]
      have := h5.mp e3
      rw [e2] at this
      exact this.symm
    · intro z
      have e2 : isq n = c := by rw [z, isq_sq]
      have e3 := h5.mpr (by rw [e2]; exact z.symm)
      rw [e2, e3] at hm
      omega
theorem c_isWhole_R {l : Launch} (hl : l.stackTraces = false) (D : va_G) (z0 : Nat) (h : Hp) (n : Nat) (hn : n < 17179869184) : CC l yX1_isWhole cX1_isWhole 2 (some .boolean) rX1_isWhole D z0 h [.double (dR n)] (PV (iv (if ((isq n : Nat) : Int) * ((isq n : Nat) : Int) = (n : Int) then 1 else 0)) h) NX := by
  obtain ⟨N, k, h1, h2, h3, h4, h5⟩ := dR_w hn
  have e : (if ((isq n : Nat) : Int) * ((isq n : Nat) : Int) = (n : Int) then (1 : Int) else 0) = (if N % 2 ^ k = 0 then 1 else 0) := by
    by_cases z : isq n * isq n = n
    · rw [if_pos (by exact_mod_cast z), if_pos (h5.mpr z)]
    · rw [if_neg (fun w => z (by exact_mod_cast w)), if_neg (fun w => z (h5.mp w))]
  rw [e, h1]
  exact c_X1_isWhole hl D z0 h N k h2 h3
