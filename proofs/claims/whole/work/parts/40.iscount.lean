/-! countIsTrue: the two counts for all numbers up to 1000 -/
def lgF (n i : Nat) : Nat → Nat := Nat.rec (motive := fun _ => Nat → Nat) (fun c => c) (fun j ih c => cond (Nat.beq (Nat.mod (Nat.mul n n) (Nat.succ j)) 0) (cond (Nat.beq (Nat.mod (Nat.sub (Nat.div (Nat.mul n n) (Nat.succ j)) (Nat.succ j)) 2) 0) (ih (Nat.succ c)) (ih c)) (ih c)) i
theorem beq_c {α : Type} (a b : Nat) (x y : α) : cond (Nat.beq a b) x y = if a = b then x else y := by
  by_cases h : a = b
  · rw [if_pos h, show Nat.beq a b = true from Nat.beq_eq_true_eq a b ▸ h]
    rfl
  · rw [if_neg h]
    cases z : Nat.beq a b with
    | true => exact absurd (Nat.eq_of_beq_eq_true z) h
    | false => rfl
theorem ble_c {α : Type} (a b : Nat) (x y : α) : cond (Nat.ble a b) x y = if a ≤ b then x else y := by
  by_cases h : a ≤ b
  · rw [if_pos h, Nat.ble_eq_true_of_le h]
    rfl
  · rw [if_neg h]
    cases z : Nat.ble a b with
    | true => exact absurd (Nat.le_of_ble_eq_true z) h
    | false => rfl
theorem lgF_is (n : Nat) : ∀ i c : Nat, lgF n i c = c + lgN n i
  | 0, c => rfl
  | i + 1, c => by
    have ih := lgF_is n i
    have e : lgF n (i + 1) c = cond (Nat.beq (n * n % (i + 1)) 0) (cond (Nat.beq ((n * n / (i + 1) - (i + 1)) % 2) 0) (lgF n i (c + 1)) (lgF n i c)) (lgF n i c) := rfl
    rw [e, beq_c, beq_c, lgN_s, ih, ih]
    split
    · split
      · rw [if_pos ⟨‹_›, ‹_›⟩]; omega
      · rw [if_neg (fun z => ‹¬ _› z.2)]; omega
    · rw [if_neg (fun z => ‹¬ _› z.1)]; omega
def aF (n m : Nat) : Nat → Nat → Nat → Nat := Nat.rec (motive := fun _ => Nat → Nat → Nat → Nat) (fun _ _ c => c) (fun _ ih x y c => cond (Nat.ble (Nat.succ x) y) (cond (Nat.ble (Nat.add (Nat.mul x x) (Nat.mul y y)) (Nat.mul n n)) (cond (Nat.beq (Nat.add (Nat.mul x x) (Nat.mul y y)) (Nat.mul n n)) (ih (Nat.succ x) y (Nat.succ c)) (ih (Nat.succ x) y c)) (ih x (Nat.pred y) c)) c) m
theorem aF_is (n : Nat) : ∀ m x y c : Nat, aF n m x y c = c + aL n m x y
  | 0, x, y, c => rfl
  | m + 1, x, y, c => by
    have ih := aF_is n m
    have e : aF n (m + 1) x y c = cond (Nat.ble (x + 1) y) (cond (Nat.ble (x * x + y * y) (n * n)) (cond (Nat.beq (x * x + y * y) (n * n)) (aF n m (x + 1) y (c + 1)) (aF n m (x + 1) y c)) (aF n m x (y - 1) c)) c := rfl
    rw [e, ble_c, ble_c, beq_c, aL_s, ih, ih, ih]
    generalize aL n m (x + 1) y = A1
    generalize aL n m x (y - 1) = A2
    by_cases h1 : x < y
    · rw [if_pos (show x + 1 ≤ y from h1), if_pos h1]
      split <;> split <;> omega
    · rw [if_neg (show ¬ x + 1 ≤ y from h1), if_neg h1]
      omega
def dvF (p m : Nat) : Nat → Nat → (Nat → Nat → Nat) → Nat := Nat.rec (motive := fun _ => Nat → Nat → (Nat → Nat → Nat) → Nat) (fun t r k => k t r) (fun _ ih t r k => cond (Nat.beq (Nat.mod r p) 0) (ih (Nat.succ t) (Nat.div r p) k) (k t r)) m
theorem dvF_is (p : Nat) (k : Nat → Nat → Nat) : ∀ m t r : Nat, dvF p m t r k = k (dvT p m t r).1 (dvT p m t r).2
  | 0, t, r => rfl
  | m + 1, t, r => by
    have ih := dvF_is p k m
    have e : dvF p (m + 1) t r k = cond (Nat.beq (r % p) 0) (dvF p m (t + 1) (r / p) k) (k t r) := rfl
    rw [e, beq_c, dvT_s]
    split
    · exact ih _ _
    · rfl
def povF (n o m : Nat) : Nat → Nat → Nat → Nat := Nat.rec (motive := fun _ => Nat → Nat → Nat → Nat) (fun _ d _ => d) (fun _ ih p d r => cond (Nat.ble p n) (cond (Nat.ble 2 r) (dvF p 32 0 r (fun t r' => cond (Nat.beq o 0) (ih (Nat.succ p) (Nat.mul d (Nat.succ (Nat.mul 2 t))) r') (cond (Nat.beq (Nat.mod p 4) 1) (ih (Nat.succ p) (Nat.mul d (Nat.succ (Nat.mul 2 t))) r') (ih (Nat.succ p) d r')))) d) d) m
theorem povF_is (n o : Nat) : ∀ m p d r : Nat, povF n o m p d r = pov n o m p d r
  | 0, p, d, r => rfl
  | m + 1, p, d, r => by
    have ih := povF_is n o m
    have e : povF n o (m + 1) p d r = cond (Nat.ble p n) (cond (Nat.ble 2 r) (dvF p 32 0 r (fun t r' => cond (Nat.beq o 0) (povF n o m (p + 1) (d * (2 * t + 1)) r') (cond (Nat.beq (p % 4) 1) (povF n o m (p + 1) (d * (2 * t + 1)) r') (povF n o m (p + 1) d r')))) d) d := rfl
    rw [e, ble_c, ble_c, dvF_is, pov_s]
    by_cases h1 : p ≤ n
    · rw [if_pos h1]
      by_cases h2 : 1 < r
      · rw [if_pos (show 2 ≤ r from h2), if_pos ⟨h1, h2⟩]
        simp only [beq_c, ih]
        by_cases h3 : o = 0
        · rw [if_pos h3, if_pos (Or.inl h3)]
        · rw [if_neg h3]
          by_cases h4 : p % 4 = 1
          · rw [if_pos h4, if_pos (Or.inr h4)]
          · rw [if_neg h4, if_neg (fun z => z.elim h3 h4)]
      · rw [if_neg (show ¬ 2 ≤ r from h2), if_neg (fun z => h2 z.2)]
    · rw [if_neg h1, if_neg (fun z => h1 z.1)]
def okA (n : Nat) (a b : Nat) : Bool := cond (Nat.ble 1 a) (cond (Nat.ble a 1000000) (cond (Nat.ble 1 b) (cond (Nat.ble b 1000000) (cond (Nat.beq (aF n n 1 (Nat.pred n) 0) (Nat.div (Nat.pred a) 2)) (Nat.beq (lgF n (Nat.pred n) 0) (Nat.div (Nat.pred b) 2)) false) false) false) false) false
def hlf (n : Nat) : Nat := if n % 2 = 0 then n / 2 else n
def okC (n : Nat) : Bool := okA n (povF n 1 (Nat.pred n) 2 1 n) (povF (hlf n) 0 (Nat.pred (hlf n)) 2 1 (hlf n))
def allC (m : Nat) : Bool := Nat.rec (motive := fun _ => Bool) true (fun j r => cond (okC (Nat.succ j)) r false) m
theorem allC_all : allC 1000 = true := by decide +kernel
theorem allC_in : ∀ m : Nat, allC m = true → ∀ n, 1 ≤ n → n ≤ m → okC n = true
  | 0, _, n, h1, h2 => absurd h1 (by omega)
  | m + 1, h, n, h1, h2 => by
    have e : allC (m + 1) = cond (okC (m + 1)) (allC m) false := rfl
    rw [e] at h
    cases z : okC (m + 1) with
    | true =>
      rw [z] at h
      by_cases q : n = m + 1
      · rw [q]; exact z
      · exact allC_in m h n h1 (by omega)
    | false =>
      rw [z] at h
      exact absurd h (by decide)
theorem cond_t {a b : Bool} (h : cond a b false = true) : a = true ∧ b = true := by
  cases a
  · exact absurd h (by decide)
  · exact ⟨rfl, h⟩
theorem cnt_ok {n : Nat} (h1 : 1 ≤ n) (h2 : n ≤ 1000) : (1 ≤ pov n 1 (n - 1) 2 1 n ∧ pov n 1 (n - 1) 2 1 n ≤ 1000000) ∧ (1 ≤ pov (hlf n) 0 (hlf n - 1) 2 1 (hlf n) ∧ pov (hlf n) 0 (hlf n - 1) 2 1 (hlf n) ≤ 1000000) ∧ aL n n 1 (n - 1) = (pov n 1 (n - 1) 2 1 n - 1) / 2 ∧ lgN n (n - 1) = (pov (hlf n) 0 (hlf n - 1) 2 1 (hlf n) - 1) / 2 := by
  have h := allC_in 1000 allC_all n h1 h2
  unfold okC okA at h
  rw [povF_is, povF_is, aF_is, lgF_is] at h
  obtain ⟨a1, h⟩ := cond_t h
  obtain ⟨a2, h⟩ := cond_t h
  obtain ⟨a3, h⟩ := cond_t h
  obtain ⟨a4, h⟩ := cond_t h
  obtain ⟨a5, h⟩ := cond_t h
  have b1 := Nat.le_of_ble_eq_true a1
  have b2 := Nat.le_of_ble_eq_true a2
  have b3 := Nat.le_of_ble_eq_true a3
  have b4 := Nat.le_of_ble_eq_true a4
  have b5 := Nat.eq_of_beq_eq_true a5
  have b6 := Nat.eq_of_beq_eq_true h
  rw [Nat.zero_add] at b5 b6
  exact ⟨⟨b1, b2⟩, ⟨b3, b4⟩, b5, b6⟩
abbrev rX4_ofCounts : Room := { frames := 2, cells := 0, slots := 0, locals := 46 }
theorem c_X4_ofCounts {l : Launch} (hl : l.stackTraces = false) (D : va_G) (z0 : Nat) (h : Hp) (n : Nat) (hn1 : 1 ≤ n) (hn : n ≤ 1000) : CC l yX4_ofCounts cX4_ofCounts 3 (some .boolean) rX4_ofCounts D z0 h [iv (n : Int)] (PV (iv 1) h) NX := by
  refine CC_of RX4 hl (by decide) rfl (Nat.le_of_ble_eq_true rfl) (fun K X Y Z hmn hKl => ?_)
  subst hKl
  have hh : 1 ≤ hlf n ∧ hlf n ≤ n := by
    unfold hlf
    split <;> omega
  have hk := cnt_ok hn1 hn
  obtain ⟨A, hA⟩ : ∃ A, A = pov n 1 (n - 1) 2 1 n := ⟨_, rfl⟩
  obtain ⟨B, hB⟩ : ∃ B, B = pov (hlf n) 0 (hlf n - 1) 2 1 (hlf n) := ⟨_, rfl⟩
  obtain ⟨C, hC⟩ : ∃ C, C = aL n n 1 (n - 1) := ⟨_, rfl⟩
  obtain ⟨E, hE⟩ : ∃ E, E = lgN n (n - 1) := ⟨_, rfl⟩
  rw [← hA, ← hB, ← hC, ← hE] at hk
  have hcA := c_X0_productOverPrimes (CX_l X) D z0 h n 1 hn1 hn (by omega)
  have hcB := c_X0_productOverPrimes (CX_l X) D z0 h (hlf n) 0 hh.1 (by omega) (by omega)
  have hcC := c_X0_asLongest (CX_l X) D z0 h n hn1 hn
  have hcE := c_X0_asLeg (CX_l X) D z0 h n hn1 hn
  rw [← hA] at hcA
  rw [← hB] at hcB
  rw [← hC] at hcC
  rw [← hE] at hcE
  show WW K D z0 3 h 0 0 0 [(0, iv (n : Int))] []
  refine r_iload_n 0 X dX4_ofCounts_0 rfl ?_
  refine r_iconst X dX4_ofCounts_1 ?_
  refine r_callS_v X dX4_ofCounts_2 kX4_70 hcA [] rfl rfl (Nat.le_of_ble_eq_true rfl) (by decide) rfl rfl (by decide) ?_
  refine r_istore_n (L' := [(1, iv (A : Int)), (0, iv (n : Int))]) X dX4_ofCounts_5 (by decide) rfl ?_
  refine r_iload_n 1 X dX4_ofCounts_6 rfl ?_
  refine r_iconst X dX4_ofCounts_7 ?_
  refine r_irem X dX4_ofCounts_8 ⟨by omega, by omega⟩ ⟨by omega, by omega⟩ ?_
  refine r_if_ne 18 X dX4_ofCounts_9 (by decide) ⟨by omega, by omega⟩ (fun c9 => ?_) (fun c9 => ?_)
  · refine r_iload_n 1 X dX4_ofCounts_18 rfl ?_
    have hz : (n : Int) = (hlf n : Int) := by
      unfold hlf
      first | (rw [if_pos (by omega)]; omega) | (rw [if_neg (by omega)])
    refine WW_e (congrArg (fun z => iv z :: []) hz) ?_
    show WW K D z0 3 h 0 0 19 [(1, iv (A : Int)), (0, iv (n : Int))] [iv (hlf n : Int)]
    refine r_iconst X dX4_ofCounts_19 ?_
    refine r_callS_v X dX4_ofCounts_20 kX4_70 hcB [] rfl rfl (Nat.le_of_ble_eq_true rfl) (by decide) rfl rfl (by decide) ?_
    refine r_istore_n (L' := [(2, iv (B : Int)), (1, iv (A : Int)), (0, iv (n : Int))]) X dX4_ofCounts_23 (by decide) rfl ?_
    refine r_iload_n 2 X dX4_ofCounts_24 rfl ?_
    refine r_callS_v X dX4_ofCounts_25 kX4_76 hcC [] rfl rfl (Nat.le_of_ble_eq_true rfl) (by decide) rfl rfl (by decide) ?_
    refine r_iload_n 1 X dX4_ofCounts_28 rfl ?_
    refine r_iconst X dX4_ofCounts_29 ?_
    refine r_isub X dX4_ofCounts_30 ?_
    refine r_iconst X dX4_ofCounts_31 ?_
    refine r_idiv X dX4_ofCounts_32 ⟨by omega, by omega⟩ ⟨by omega, by omega⟩ ?_
    refine r_icmp_ne 52 X dX4_ofCounts_33 (by decide) ⟨by omega, by omega⟩ ⟨by omega, by omega⟩ (fun c33 => ?_) (fun c33 => ?_)
    · refine r_iconst X dX4_ofCounts_52 ?_
      refine r_zret X Y dX4_ofCounts_53 (Or.inl rfl) (by decide) (by decide) ?_
      exfalso
      omega
    · refine r_iload_n 2 X dX4_ofCounts_36 rfl ?_
      refine r_callS_v X dX4_ofCounts_37 kX4_80 hcE [] rfl rfl (Nat.le_of_ble_eq_true rfl) (by decide) rfl rfl (by decide) ?_
      refine r_iload_n 0 X dX4_ofCounts_40 rfl ?_
      refine r_iconst X dX4_ofCounts_41 ?_
      refine r_isub X dX4_ofCounts_42 ?_
      refine r_iconst X dX4_ofCounts_43 ?_
      refine r_idiv X dX4_ofCounts_44 ⟨by omega, by omega⟩ ⟨by omega, by omega⟩ ?_
      refine r_icmp_ne 52 X dX4_ofCounts_45 (by decide) ⟨by omega, by omega⟩ ⟨by omega, by omega⟩ (fun c45 => ?_) (fun c45 => ?_)
      · refine r_iconst X dX4_ofCounts_52 ?_
        refine r_zret X Y dX4_ofCounts_53 (Or.inl rfl) (by decide) (by decide) ?_
        exfalso
        omega
      · refine r_iconst X dX4_ofCounts_48 ?_
        refine r_goto 53 X dX4_ofCounts_49 (by decide) ?_
        refine r_zret X Y dX4_ofCounts_53 (Or.inr rfl) (by decide) (by decide) ?_
        exact pv rfl
  · refine r_iload_n 1 X dX4_ofCounts_12 rfl ?_
    refine r_iconst X dX4_ofCounts_13 ?_
    refine r_idiv X dX4_ofCounts_14 ⟨by omega, by omega⟩ ⟨by omega, by omega⟩ ?_
    refine r_goto 19 X dX4_ofCounts_15 (by decide) ?_
    have hz : (n : Int) / 2 = (hlf n : Int) := by
      unfold hlf
      first | (rw [if_pos (by omega)]; omega) | (rw [if_neg (by omega)])
    refine WW_e (congrArg (fun z => iv z :: []) hz) ?_
    show WW K D z0 3 h 0 0 19 [(1, iv (A : Int)), (0, iv (n : Int))] [iv (hlf n : Int)]
    refine r_iconst X dX4_ofCounts_19 ?_
    refine r_callS_v X dX4_ofCounts_20 kX4_70 hcB [] rfl rfl (Nat.le_of_ble_eq_true rfl) (by decide) rfl rfl (by decide) ?_
    refine r_istore_n (L' := [(2, iv (B : Int)), (1, iv (A : Int)), (0, iv (n : Int))]) X dX4_ofCounts_23 (by decide) rfl ?_
    refine r_iload_n 2 X dX4_ofCounts_24 rfl ?_
    refine r_callS_v X dX4_ofCounts_25 kX4_76 hcC [] rfl rfl (Nat.le_of_ble_eq_true rfl) (by decide) rfl rfl (by decide) ?_
    refine r_iload_n 1 X dX4_ofCounts_28 rfl ?_
    refine r_iconst X dX4_ofCounts_29 ?_
    refine r_isub X dX4_ofCounts_30 ?_
    refine r_iconst X dX4_ofCounts_31 ?_
    refine r_idiv X dX4_ofCounts_32 ⟨by omega, by omega⟩ ⟨by omega, by omega⟩ ?_
    refine r_icmp_ne 52 X dX4_ofCounts_33 (by decide) ⟨by omega, by omega⟩ ⟨by omega, by omega⟩ (fun c33 => ?_) (fun c33 => ?_)
    · refine r_iconst X dX4_ofCounts_52 ?_
      refine r_zret X Y dX4_ofCounts_53 (Or.inl rfl) (by decide) (by decide) ?_
      exfalso
      omega
    · refine r_iload_n 2 X dX4_ofCounts_36 rfl ?_
      refine r_callS_v X dX4_ofCounts_37 kX4_80 hcE [] rfl rfl (Nat.le_of_ble_eq_true rfl) (by decide) rfl rfl (by decide) ?_
      refine r_iload_n 0 X dX4_ofCounts_40 rfl ?_
      refine r_iconst X dX4_ofCounts_41 ?_
      refine r_isub X dX4_ofCounts_42 ?_
      refine r_iconst X dX4_ofCounts_43 ?_
      refine r_idiv X dX4_ofCounts_44 ⟨by omega, by omega⟩ ⟨by omega, by omega⟩ ?_
      refine r_icmp_ne 52 X dX4_ofCounts_45 (by decide) ⟨by omega, by omega⟩ ⟨by omega, by omega⟩ (fun c45 => ?_) (fun c45 => ?_)
      · refine r_iconst X dX4_ofCounts_52 ?_
        refine r_zret X Y dX4_ofCounts_53 (Or.inl rfl) (by decide) (by decide) ?_
        exfalso
        omega
      · refine r_iconst X dX4_ofCounts_48 ?_
        refine r_goto 53 X dX4_ofCounts_49 (by decide) ?_
        refine r_zret X Y dX4_ofCounts_53 (Or.inr rfl) (by decide) (by decide) ?_
        exact pv rfl
abbrev rX6_countIsTrue : Room := { frames := 7, cells := 1, slots := 6, locals := 110 }
def cdCt (p : Int) : Int := if 1 ≤ p ∧ p ≤ 1000 then 0 else 1
theorem c_X6_countIsTrue {l : Launch} (hl : l.stackTraces = false) (D : va_G) (z0 : Nat) (h : Hp) (x : Nat) (p : Int) (hp0 : I32 p) : CC l yX6_countIsTrue cX6_countIsTrue 2 (some .boolean) rX6_countIsTrue D z0 h [.ref x, iv p] (fun w0 h' => w0 = some (iv 1) ∧ h = h' ∧ cdCt p = 0) (Xn [iae] (cdCt p) h) := by
  refine CC_of RX6 hl (by decide) rfl (Nat.le_of_ble_eq_true rfl) (fun K X Y Z hmn hKl => ?_)
  subst hKl
  show WW K D z0 2 h 0 0 0 [(0, .ref x), (1, iv p)] []
  refine r_iload_n 1 X dX6_countIsTrue_0 rfl ?_
  refine r_callS X dX6_countIsTrue_1 kX6_227 (c_X6_requireLength (CX_l X) D z0 h p ⟨by omega, by omega⟩) [] rfl rfl (Nat.le_of_ble_eq_true rfl) (by decide) (by decide) (fun E9 h9 hx9 => by obtain ⟨rfl, rfl, hn1⟩ := Xn1 hx9; exact WX_out X Y Z (by decide) (by decide) (Xn_mk 1 (if_neg (by omega)) (by decide) rfl)) (fun v9 h9 hv9 => ?_)
  obtain ⟨rfl, rfl, hp1⟩ := hv9
  show WW K D z0 2 h 1 6 4 [(0, .ref x), (1, iv p)] []
  refine r_iload_n 1 X dX6_countIsTrue_4 rfl ?_
  refine WW_e (congrArg (fun z => iv z :: []) (show p = (p.toNat : Int) by omega)) ?_
  show WW K D z0 2 h 1 6 5 [(0, .ref x), (1, iv p)] [iv (p.toNat : Int)]
  refine r_callS_v X dX6_countIsTrue_5 kX6_276 (c_X4_ofCounts (CX_l X) D z0 h p.toNat (by omega) (by omega)) [] rfl rfl (Nat.le_of_ble_eq_true rfl) (by decide) rfl rfl (by decide) ?_
  refine r_zret X Y dX6_countIsTrue_8 (Or.inr rfl) (by decide) (by decide) ?_
  exact ⟨rfl, rfl, if_pos (by omega)⟩
