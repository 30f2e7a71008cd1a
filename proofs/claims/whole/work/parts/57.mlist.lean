/-! the model's list: place by place, by computation -/
def mX (z : Nat) : Nat → Nat → Nat → List Nat → List Nat
  | 0, _, _, r => r
  | m + 1, a, b, r => if a < b then (if a * a + b * b ≤ z * z then mX z m (a + 1) b (if a * a + b * b = z * z ∧ Nat.gcd a b = 1 then (z * 262144 + a * 512 + b) :: r else r) else mX z m a (b - 1) r) else r
theorem mX_s (z m a b : Nat) (r : List Nat) : mX z (m + 1) a b r = if a < b then (if a * a + b * b ≤ z * z then mX z m (a + 1) b (if a * a + b * b = z * z ∧ Nat.gcd a b = 1 then (z * 262144 + a * 512 + b) :: r else r) else mX z m a (b - 1) r) else r := rfl
theorem mX_n (z : Nat) : ∀ (m a b : Nat) (r : List Nat), ¬ a < b → mX z m a b r = r
  | 0, _, _, _, _ => rfl
  | m + 1, a, b, r, h => by rw [mX_s, if_neg h]
theorem mX_len (z : Nat) : ∀ (m a b : Nat) (r : List Nat), r.length ≤ (mX z m a b r).length
  | 0, _, _, _ => Nat.le_refl _
  | m + 1, a, b, r => by
    rw [mX_s]
    split
    · split
      · refine Nat.le_trans ?_ (mX_len z m (a + 1) b _)
        split
        · rw [List.length_cons]; omega
        · exact Nat.le_refl _
      · exact mX_len z m a (b - 1) r
    · exact Nat.le_refl _
def mZ : Nat → List Nat
  | 0 => []
  | z + 1 => mX (z + 1) (z + 1) 1 z (mZ z)
theorem mZ_s (z : Nat) : mZ (z + 1) = mX (z + 1) (z + 1) 1 z (mZ z) := rfl
def mF (z m : Nat) : Nat → Nat → List Nat → List Nat := Nat.rec (motive := fun _ => Nat → Nat → List Nat → List Nat) (fun _ _ r => r) (fun _ ih a b r => cond (Nat.ble (Nat.succ a) b) (cond (Nat.ble (Nat.add (Nat.mul a a) (Nat.mul b b)) (Nat.mul z z)) (cond (Nat.beq (Nat.add (Nat.mul a a) (Nat.mul b b)) (Nat.mul z z)) (cond (Nat.beq (Nat.gcd a b) 1) (ih (Nat.succ a) b ((Nat.add (Nat.add (Nat.mul z 262144) (Nat.mul a 512)) b) :: r)) (ih (Nat.succ a) b r)) (ih (Nat.succ a) b r)) (ih a (Nat.pred b) r)) r) m
theorem mF_is (z : Nat) : ∀ (m a b : Nat) (r : List Nat), mF z m a b r = mX z m a b r
  | 0, _, _, _ => rfl
  | m + 1, a, b, r => by
    have ih := mF_is z m
    have e : mF z (m + 1) a b r = cond (Nat.ble (a + 1) b) (cond (Nat.ble (a * a + b * b) (z * z)) (cond (Nat.beq (a * a + b * b) (z * z)) (cond (Nat.beq (Nat.gcd a b) 1) (mF z m (a + 1) b ((z * 262144 + a * 512 + b) :: r)) (mF z m (a + 1) b r)) (mF z m (a + 1) b r)) (mF z m a (b - 1) r)) r := rfl
    rw [e, ble_c, ble_c, beq_c, beq_c, mX_s, ih, ih, ih]
    by_cases h1 : a < b
    · rw [if_pos (show a + 1 ≤ b from h1), if_pos h1]
      by_cases h2 : a * a + b * b ≤ z * z
      · rw [if_pos h2, if_pos h2]
        by_cases h3 : a * a + b * b = z * z
        · rw [if_pos h3]
          by_cases h4 : Nat.gcd a b = 1
          · rw [if_pos h4, if_pos ⟨h3, h4⟩]
          · rw [if_neg h4, if_neg (fun q => h4 q.2)]
        · rw [if_neg h3, if_neg (fun q => h3 q.1)]
      · rw [if_neg h2, if_neg h2]
    · rw [if_neg (show ¬ a + 1 ≤ b from h1), if_neg h1]
def mC (b : Nat) : Bool := decide (mF (b + 1) (b + 1) 1 b (eR b) = eR (b + 1))
theorem mC_0 : ∀ b, b < 50 → mC (0 + b) = true := by decide +kernel
theorem mC_1 : ∀ b, b < 50 → mC (50 + b) = true := by decide +kernel
theorem mC_2 : ∀ b, b < 50 → mC (100 + b) = true := by decide +kernel
theorem mC_3 : ∀ b, b < 50 → mC (150 + b) = true := by decide +kernel
theorem mC_4 : ∀ b, b < 50 → mC (200 + b) = true := by decide +kernel
theorem mC_5 : ∀ b, b < 50 → mC (250 + b) = true := by decide +kernel
theorem mC_6 : ∀ b, b < 50 → mC (300 + b) = true := by decide +kernel
theorem mC_7 : ∀ b, b < 50 → mC (350 + b) = true := by decide +kernel
theorem mC_all (b : Nat) (hb : b < 400) : mC b = true := by
  rcases (show (∃ c, c < 50 ∧ b = 0 + c) ∨ (∃ c, c < 50 ∧ b = 50 + c) ∨ (∃ c, c < 50 ∧ b = 100 + c) ∨ (∃ c, c < 50 ∧ b = 150 + c) ∨ (∃ c, c < 50 ∧ b = 200 + c) ∨ (∃ c, c < 50 ∧ b = 250 + c) ∨ (∃ c, c < 50 ∧ b = 300 + c) ∨ (∃ c, c < 50 ∧ b = 350 + c) by
    rcases (show (0 ≤ b ∧ b < 50) ∨ (50 ≤ b ∧ b < 100) ∨ (100 ≤ b ∧ b < 150) ∨ (150 ≤ b ∧ b < 200) ∨ (200 ≤ b ∧ b < 250) ∨ (250 ≤ b ∧ b < 300) ∨ (300 ≤ b ∧ b < 350) ∨ (350 ≤ b ∧ b < 400) by omega) with h | h | h | h | h | h | h | h
    · exact Or.inl ⟨b - 0, by omega, by omega⟩
    · exact Or.inr (Or.inl ⟨b - 50, by omega, by omega⟩)
    · exact Or.inr (Or.inr (Or.inl ⟨b - 100, by omega, by omega⟩))
    · exact Or.inr (Or.inr (Or.inr (Or.inl ⟨b - 150, by omega, by omega⟩)))
    · exact Or.inr (Or.inr (Or.inr (Or.inr (Or.inl ⟨b - 200, by omega, by omega⟩))))
    · exact Or.inr (Or.inr (Or.inr (Or.inr (Or.inr (Or.inl ⟨b - 250, by omega, by omega⟩)))))
    · exact Or.inr (Or.inr (Or.inr (Or.inr (Or.inr (Or.inr (Or.inl ⟨b - 300, by omega, by omega⟩))))))
    · exact Or.inr (Or.inr (Or.inr (Or.inr (Or.inr (Or.inr (Or.inr (⟨b - 350, by omega, by omega⟩)))))))
    ) with ⟨c, hc, e⟩ | ⟨c, hc, e⟩ | ⟨c, hc, e⟩ | ⟨c, hc, e⟩ | ⟨c, hc, e⟩ | ⟨c, hc, e⟩ | ⟨c, hc, e⟩ | ⟨c, hc, e⟩ <;> rw [e]
  · exact mC_0 c hc
  · exact mC_1 c hc
  · exact mC_2 c hc
  · exact mC_3 c hc
  · exact mC_4 c hc
  · exact mC_5 c hc
  · exact mC_6 c hc
  · exact mC_7 c hc
theorem mZ_eR : ∀ b : Nat, b ≤ 400 → mZ b = eR b
  | 0, _ => by decide +kernel
  | b + 1, h => by
    have ih := mZ_eR b (by omega)
    have h1 := of_decide_eq_true (mC_all b (by omega))
    rw [mZ_s, ih, ← mF_is]
    exact h1
theorem mZ_len {b : Nat} (hb : b ≤ 400) : (mZ b).length ≤ 63 := by
  rw [mZ_eR b hb]
  exact (et_at hb).2.1
theorem nthR_c (a : Nat) (r : List Nat) (i : Nat) (h : i < r.length) : nthR (a :: r) i = nthR r i := by
  unfold nthR
  rw [List.length_cons, show r.length + 1 - 1 - i = (r.length - 1 - i) + 1 by omega, List.getD_cons_succ]
theorem nthR_l (a : Nat) (r : List Nat) : nthR (a :: r) r.length = a := by
  unfold nthR
  rw [List.length_cons, show r.length + 1 - 1 - r.length = 0 by omega, List.getD_cons_zero]
theorem EL_c {e1 e2 e3 : Nat → Int} {r : List Nat} (hE : EL e1 e2 e3 r) (z a b : Nat) (ha : a < 512) (hb : b < 512) : EL (up e1 r.length (a : Int)) (up e2 r.length (b : Int)) (up e3 r.length (z : Int)) ((z * 262144 + a * 512 + b) :: r) := by
  intro i hi
  rw [List.length_cons] at hi
  by_cases h : i = r.length
  · rw [h, up_s, up_s, up_s, nthR_l]
    unfold lnK
    refine ⟨?_, ?_, ?_⟩
    · rw [if_pos rfl]; omega
    · rw [if_neg (by decide), if_pos rfl]; omega
    · rw [if_neg (by decide), if_neg (by decide)]; omega
  · rw [up_n _ _ h, up_n _ _ h, up_n _ _ h, nthR_c _ _ _ (by omega)]
    exact hE i (by omega)
theorem EL_0 (e1 e2 e3 : Nat → Int) : EL e1 e2 e3 [] := fun i h => absurd h (Nat.not_lt_zero i)
