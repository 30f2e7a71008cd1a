/-! countIsTrue: the two counts for all numbers up to 1000 -/
def lgF (n i : Nat) : Nat → Nat := Nat.rec (motive := fun _ => Nat → Nat) (fun c => c) (fun j ih c => cond (Nat.beq (Nat.mod (Nat.mul n n) (Nat.succ j)) 0) (cond (Nat.beq (Nat.mod (Nat.sub (Nat.div (Nat.mul n n) (Nat.succ j)) (Nat.succ j)) 2) 0) (ih (Nat.succ c)) (ih c)) (ih c)) i
theorem beq_c {α : Type} (a b : Nat) (x y : α) : cond (Nat.beq a b) x y = if a = b then x else y := by
  by_cases h : a = b
  · rw [if_pos h, show Nat.beq a b = true from by rw [h]; exact Nat.beq_refl b]
    rfl
  · rw [if_neg h]
    cases z : Nat.beq a b with
    | true => exact absurd (Nat.eq_of_beq_eq_true z) h
    | false => rfl
theorem ble_c {α : Type} (a b : Nat) (x y : α) : cond (Nat.ble a b) x y = if a ≤ b then x else y := by
  by_cases h : a ≤ b
  · rw [if_pos h, Nat.ble_eq_true_of_le h]
    rfl
  · rw [if_neg h]
    cases z : Nat.ble a b with
    | true => exact absurd (Nat.le_of_ble_eq_true z) h
    | false => rfl
theorem lgF_is (n : Nat) : ∀ i c : Nat, lgF n i c = c + lgN n i
  | 0, c => rfl
  | i + 1, c => by
    have ih := lgF_is n i
    have e : lgF n (i + 1) c = cond (Nat.beq (n * n % (i + 1)) 0) (cond (Nat.beq ((n * n / (i + 1) - (i + 1)) % 2) 0) (lgF n i (c + 1)) (lgF n i c)) (lgF n i c) := rfl
    rw [e, beq_c, beq_c, lgN_s, ih, ih]
    split
    · split
      · rw [if_pos ⟨‹_›, ‹_›⟩]; omega
      · rw [if_neg (fun z => ‹¬ _› z.2)]; omega
    · rw [if_neg (fun z => ‹¬ _› z.1)]; omega
def aF (n m : Nat) : Nat → Nat → Nat → Nat := Nat.rec (motive := fun _ => Nat → Nat → Nat → Nat) (fun _ _ c => c) (fun _ ih x y c => cond (Nat.ble (Nat.succ x) y) (cond (Nat.ble (Nat.add (Nat.mul x x) (Nat.mul y y)) (Nat.mul n n)) (cond (Nat.beq (Nat.add (Nat.mul x x) (Nat.mul y y)) (Nat.mul n n)) (ih (Nat.succ x) y (Nat.succ c)) (ih (Nat.succ x) y c)) (ih x (Nat.pred y) c)) c) m
theorem aF_is (n : Nat) : ∀ m x y c : Nat, aF n m x y c = c + aL n m x y
  | 0, x, y, c => rfl
  | m + 1, x, y, c => by
    have ih := aF_is n m
    have e : aF n (m + 1) x y c = cond (Nat.ble (x + 1) y) (cond (Nat.ble (x * x + y * y) (n * n)) (cond (Nat.beq (x * x + y * y) (n * n)) (aF n m (x + 1) y (c + 1)) (aF n m (x + 1) y c)) (aF n m x (y - 1) c)) c := rfl
    rw [e, ble_c, ble_c, beq_c, aL_s, ih, ih, ih]
    generalize aL n m (x + 1) y = A1
    generalize aL n m x (y - 1) = A2
    by_cases h1 : x < y
    · rw [if_pos (show x + 1 ≤ y from h1), if_pos h1]
      split <;> split <;> omega
    · rw [if_neg (show ¬ x + 1 ≤ y from h1), if_neg h1]
      omega
def dvF (p m : Nat) : Nat → Nat → (Nat → Nat → Nat) → Nat := Nat.rec (motive := fun _ => Nat → Nat → (Nat → Nat → Nat) → Nat) (fun t r k => k t r) (fun _ ih t r k => cond (Nat.beq (Nat.mod r p) 0) (ih (Nat.succ t) (Nat.div r p) k) (k t r)) m
theorem dvF_is (p : Nat) (k : Nat → Nat → Nat) : ∀ m t r : Nat, dvF p m t r k = k (dvT p m t r).1 (dvT p m t r).2
  | 0, t, r => rfl
  | m + 1, t, r => by
    have ih := dvF_is p k m
    have e : dvF p (m + 1) t r k = cond (Nat.beq (r % p) 0) (dvF p m (t + 1) (r / p) k) (k t r) := rfl
    rw [e, beq_c, dvT_s]
    split
    · exact ih _ _
    · rfl
def povF (n o m : Nat) : Nat → Nat → Nat → Nat := Nat.rec (motive := fun _ => Nat → Nat → Nat → Nat) (fun _ d _ => d) (fun _ ih p d r => cond (Nat.ble p n) (cond (Nat.ble 2 r) (dvF p 32 0 r (fun t r' => cond (Nat.beq o 0) (ih (Nat.succ p) (Nat.mul d (Nat.succ (Nat.mul 2 t))) r') (cond (Nat.beq (Nat.mod p 4) 1) (ih (Nat.succ p) (Nat.mul d (Nat.succ (Nat.mul 2 t))) r') (ih (Nat.succ p) d r')))) d) d) m
theorem povF_is (n o : Nat) : ∀ m p d r : Nat, povF n o m p d r = pov n o m p d r
  | 0, p, d, r => rfl
  | m + 1, p, d, r => by
    have ih := povF_is n o m
    have e : povF n o (m + 1) p d r = cond (Nat.ble p n) (cond (Nat.ble 2 r) (dvF p 32 0 r (fun t r' => cond (Nat.beq o 0) (povF n o m (p + 1) (d * (2 * t + 1)) r') (cond (Nat.beq (p % 4) 1) (povF n o m (p + 1) (d * (2 * t + 1)) r') (povF n o m (p + 1) d r')))) d) d := rfl
    rw [e, ble_c, ble_c, dvF_is, pov_s]
    by_cases h1 : p ≤ n
    · rw [if_pos h1]
      by_cases h2 : 1 < r
      · rw [if_pos (show 2 ≤ r from h2), if_pos ⟨h1, h2⟩]
        simp only [beq_c, ih]
        by_cases h3 : o = 0
        · rw [if_pos h3, if_pos (Or.inl h3)]
        · rw [if_neg h3]
          by_cases h4 : p % 4 = 1
          · rw [if_pos h4, if_pos (Or.inr h4)]
          · rw [if_neg h4, if_neg (fun z => z.elim h3 h4)]
      · rw [if_neg (show ¬ 2 ≤ r from h2), if_neg (fun z => h2 z.2)]
    · rw [if_neg h1, if_neg (fun z => h1 z.1)]
def okA (n : Nat) (a b : Nat) : Bool := cond (Nat.ble 1 a) (cond (Nat.ble a 1000000) (cond (Nat.ble 1 b) (cond (Nat.ble b 1000000) (cond (Nat.beq (aF n n 1 (Nat.pred n) 0) (Nat.div (Nat.pred a) 2)) (Nat.beq (lgF n (Nat.pred n) 0) (Nat.div (Nat.pred b) 2)) false) false) false) false) false
def hlf (n : Nat) : Nat := if n % 2 = 0 then n / 2 else n
def okC (n : Nat) : Bool := okA n (povF n 1 (Nat.pred n) 2 1 n) (povF (hlf n) 0 (Nat.pred (hlf n)) 2 1 (hlf n))
def rgC (lo m : Nat) : Bool := Nat.rec (motive := fun _ => Bool) true (fun j r => cond (okC (Nat.add lo (Nat.succ j))) r false) m
theorem rgC_0 : rgC 0 25 = true := by decide +kernel
theorem rgC_1 : rgC 25 25 = true := by decide +kernel
theorem rgC_2 : rgC 50 25 = true := by decide +kernel
theorem rgC_3 : rgC 75 25 = true := by decide +kernel
theorem rgC_4 : rgC 100 25 = true := by decide +kernel
theorem rgC_5 : rgC 125 25 = true := by decide +kernel
theorem rgC_6 : rgC 150 25 = true := by decide +kernel
theorem rgC_7 : rgC 175 25 = true := by decide +kernel
theorem rgC_8 : rgC 200 25 = true := by decide +kernel
theorem rgC_9 : rgC 225 25 = true := by decide +kernel
theorem rgC_10 : rgC 250 25 = true := by decide +kernel
theorem rgC_11 : rgC 275 25 = true := by decide +kernel
theorem rgC_12 : rgC 300 25 = true := by decide +kernel
theorem rgC_13 : rgC 325 25 = true := by decide +kernel
theorem rgC_14 : rgC 350 25 = true := by decide +kernel
theorem rgC_15 : rgC 375 25 = true := by decide +kernel
theorem rgC_16 : rgC 400 25 = true := by decide +kernel
theorem rgC_17 : rgC 425 25 = true := by decide +kernel
theorem rgC_18 : rgC 450 25 = true := by decide +kernel
theorem rgC_19 : rgC 475 25 = true := by decide +kernel
theorem rgC_20 : rgC 500 25 = true := by decide +kernel
theorem rgC_21 : rgC 525 25 = true := by decide +kernel
theorem rgC_22 : rgC 550 25 = true := by decide +kernel
theorem rgC_23 : rgC 575 25 = true := by decide +kernel
theorem rgC_24 : rgC 600 25 = true := by decide +kernel
theorem rgC_25 : rgC 625 25 = true := by decide +kernel
theorem rgC_26 : rgC 650 25 = true := by decide +kernel
theorem rgC_27 : rgC 675 25 = true := by decide +kernel
theorem rgC_28 : rgC 700 25 = true := by decide +kernel
theorem rgC_29 : rgC 725 25 = true := by decide +kernel
theorem rgC_30 : rgC 750 25 = true := by decide +kernel
theorem rgC_31 : rgC 775 25 = true := by decide +kernel
theorem rgC_32 : rgC 800 25 = true := by decide +kernel
theorem rgC_33 : rgC 825 25 = true := by decide +kernel
theorem rgC_34 : rgC 850 25 = true := by decide +kernel
theorem rgC_35 : rgC 875 25 = true := by decide +kernel
theorem rgC_36 : rgC 900 25 = true := by decide +kernel
theorem rgC_37 : rgC 925 25 = true := by decide +kernel
theorem rgC_38 : rgC 950 25 = true := by decide +kernel
theorem rgC_39 : rgC 975 25 = true := by decide +kernel
theorem rgC_in (lo : Nat) : ∀ m : Nat, rgC lo m = true → ∀ n, lo < n → n ≤ lo + m → okC n = true
  | 0, _, n, h1, h2 => absurd h1 (by omega)
  | m + 1, h, n, h1, h2 => by
    have e : rgC lo (m + 1) = cond (okC (lo + (m + 1))) (rgC lo m) false := rfl
    rw [e] at h
    cases z : okC (lo + (m + 1)) with
    | true =>
      rw [z] at h
      by_cases q : n = lo + (m + 1)
      · rw [q]; exact z
      · exact rgC_in lo m h n h1 (by omega)
    | false =>
      rw [z] at h
      exact absurd h Bool.false_ne_true
theorem okC_all {n : Nat} (h1 : 1 ≤ n) (h2 : n ≤ 1000) : okC n = true := by
  by_cases q0_40 : n ≤ 500
  · by_cases q0_20 : n ≤ 250
    · by_cases q0_10 : n ≤ 125
      · by_cases q0_5 : n ≤ 50
        · by_cases q0_2 : n ≤ 25
          · exact rgC_in 0 25 rgC_0 n (by omega) (by omega)
          · exact rgC_in 25 25 rgC_1 n (by omega) (by omega)
        · by_cases q2_5 : n ≤ 75
          · exact rgC_in 50 25 rgC_2 n (by omega) (by omega)
          · by_cases q3_5 : n ≤ 100
            · exact rgC_in 75 25 rgC_3 n (by omega) (by omega)
            · exact rgC_in 100 25 rgC_4 n (by omega) (by omega)
      · by_cases q5_10 : n ≤ 175
        · by_cases q5_7 : n ≤ 150
          · exact rgC_in 125 25 rgC_5 n (by omega) (by omega)
          · exact rgC_in 150 25 rgC_6 n (by omega) (by omega)
        · by_cases q7_10 : n ≤ 200
          · exact rgC_in 175 25 rgC_7 n (by omega) (by omega)
          · by_cases q8_10 : n ≤ 225
            · exact rgC_in 200 25 rgC_8 n (by omega) (by omega)
            · exact rgC_in 225 25 rgC_9 n (by omega) (by omega)
    · by_cases q10_20 : n ≤ 375
      · by_cases q10_15 : n ≤ 300
        · by_cases q10_12 : n ≤ 275
          · exact rgC_in 250 25 rgC_10 n (by omega) (by omega)
          · exact rgC_in 275 25 rgC_11 n (by omega) (by omega)
        · by_cases q12_15 : n ≤ 325
          · exact rgC_in 300 25 rgC_12 n (by omega) (by omega)
          · by_cases q13_15 : n ≤ 350
            · exact rgC_in 325 25 rgC_13 n (by omega) (by omega)
            · exact rgC_in 350 25 rgC_14 n (by omega) (by omega)
      · by_cases q15_20 : n ≤ 425
        · by_cases q15_17 : n ≤ 400
          · exact rgC_in 375 25 rgC_15 n (by omega) (by omega)
          · exact rgC_in 400 25 rgC_16 n (by omega) (by omega)
        · by_cases q17_20 : n ≤ 450
          · exact rgC_in 425 25 rgC_17 n (by omega) (by omega)
          · by_cases q18_20 : n ≤ 475
            · exact rgC_in 450 25 rgC_18 n (by omega) (by omega)
            · exact rgC_in 475 25 rgC_19 n (by omega) (by omega)
  · by_cases q20_40 : n ≤ 750
    · by_cases q20_30 : n ≤ 625
      · by_cases q20_25 : n ≤ 550
        · by_cases q20_22 : n ≤ 525
          · exact rgC_in 500 25 rgC_20 n (by omega) (by omega)
          · exact rgC_in 525 25 rgC_21 n (by omega) (by omega)
        · by_cases q22_25 : n ≤ 575
          · exact rgC_in 550 25 rgC_22 n (by omega) (by omega)
          · by_cases q23_25 : n ≤ 600
            · exact rgC_in 575 25 rgC_23 n (by omega) (by omega)
            · exact rgC_in 600 25 rgC_24 n (by omega) (by omega)
      · by_cases q25_30 : n ≤ 675
        · by_cases q25_27 : n ≤ 650
          · exact rgC_in 625 25 rgC_25 n (by omega) (by omega)
          · exact rgC_in 650 25 rgC_26 n (by omega) (by omega)
        · by_cases q27_30 : n ≤ 700
          · exact rgC_in 675 25 rgC_27 n (by omega) (by omega)
          · by_cases q28_30 : n ≤ 725
            · exact rgC_in 700 25 rgC_28 n (by omega) (by omega)
            · exact rgC_in 725 25 rgC_29 n (by omega) (by omega)
    · by_cases q30_40 : n ≤ 875
      · by_cases q30_35 : n ≤ 800
        · by_cases q30_32 : n ≤ 775
          · exact rgC_in 750 25 rgC_30 n (by omega) (by omega)
          · exact rgC_in 775 25 rgC_31 n (by omega) (by omega)
        · by_cases q32_35 : n ≤ 825
          · exact rgC_in 800 25 rgC_32 n (by omega) (by omega)
          · by_cases q33_35 : n ≤ 850
            · exact rgC_in 825 25 rgC_33 n (by omega) (by omega)
            · exact rgC_in 850 25 rgC_34 n (by omega) (by omega)
      · by_cases q35_40 : n ≤ 925
        · by_cases q35_37 : n ≤ 900
          · exact rgC_in 875 25 rgC_35 n (by omega) (by omega)
          · exact rgC_in 900 25 rgC_36 n (by omega) (by omega)
        · by_cases q37_40 : n ≤ 950
          · exact rgC_in 925 25 rgC_37 n (by omega) (by omega)
          · by_cases q38_40 : n ≤ 975
            · exact rgC_in 950 25 rgC_38 n (by omega) (by omega)
            · exact rgC_in 975 25 rgC_39 n (by omega) (by omega)
theorem cond_t {a b : Bool} (h : cond a b false = true) : a = true ∧ b = true := by
  cases a
  · exact absurd h Bool.false_ne_true
  · exact ⟨rfl, h⟩
theorem cnt_ok {n : Nat} (h1 : 1 ≤ n) (h2 : n ≤ 1000) : (1 ≤ pov n 1 (n - 1) 2 1 n ∧ pov n 1 (n - 1) 2 1 n ≤ 1000000) ∧ (1 ≤ pov (hlf n) 0 (hlf n - 1) 2 1 (hlf n) ∧ pov (hlf n) 0 (hlf n - 1) 2 1 (hlf n) ≤ 1000000) ∧ aL n n 1 (n - 1) = (pov n 1 (n - 1) 2 1 n - 1) / 2 ∧ lgN n (n - 1) = (pov (hlf n) 0 (hlf n - 1) 2 1 (hlf n) - 1) / 2 := by
  have h := okC_all h1 h2
  unfold okC okA at h
  rw [povF_is, povF_is, aF_is, lgF_is] at h
  obtain ⟨a1, h⟩ := cond_t h
  obtain ⟨a2, h⟩ := cond_t h
  obtain ⟨a3, h⟩ := cond_t h
  obtain ⟨a4, h⟩ := cond_t h
  obtain ⟨a5, h⟩ := cond_t h
  have b1 := Nat.le_of_ble_eq_true a1
  have b2 := Nat.le_of_ble_eq_true a2
  have b3 := Nat.le_of_ble_eq_true a3
  have b4 := Nat.le_of_ble_eq_true a4
  have b5 := Nat.eq_of_beq_eq_true a5
  have b6 := Nat.eq_of_beq_eq_true h
  rw [Nat.zero_add] at b5 b6
  exact ⟨⟨b1, b2⟩, ⟨b3, b4⟩, b5, b6⟩
