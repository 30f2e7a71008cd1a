/-! the class Trigonyard: its places -/
abbrev iob : String := "java/lang/IndexOutOfBoundsException"
abbrev iae : String := "java/lang/IllegalArgumentException"
abbrev ise : String := "java/lang/IllegalStateException"
abbrev pl (p : Int) : Prop := 0 ≤ p ∧ p < 16
abbrev sd (a : Int) : Prop := 1 ≤ a ∧ a ≤ 65535
/-- what is thrown: the k-th of the names ns; nothing has changed -/
def Xn (ns : List String) (k : Int) (h : Hp) : String → Hp → Prop := fun E h' => h = h' ∧ 1 ≤ k ∧ ns[(k - 1).toNat]? = some E
theorem Xn_mk {ns : List String} {k : Int} {h : Hp} {E : String} (j : Int) (e : k = j) (h1 : 1 ≤ j) (h2 : ns[(j - 1).toNat]? = some E) : Xn ns k h E h := by
  subst e
  exact ⟨rfl, h1, h2⟩
theorem Xn1 {e : String} {P : Prop} [Decidable P] {h h' : Hp} {E : String} (x : Xn [e] (if P then 0 else 1) h E h') : h = h' ∧ E = e ∧ ¬ P := by
  obtain ⟨h1, h2, h3⟩ := x
  by_cases q : P
  · rw [if_pos q] at h2
    exact absurd h2 (by decide)
  · rw [if_neg q] at h3
    exact ⟨h1, (Option.some.inj h3).symm, q⟩
/-- nothing answered, nothing changed, and P holds -/
def PN (P : Prop) (h : Hp) : Option Value → Hp → Prop := fun v h' => v = none ∧ h = h' ∧ P
def mn3 (x y z : Int) : Int := min x (min y z)
def mx3 (x y z : Int) : Int := max x (max y z)
def md3 (x y z : Int) : Int := x + y + z - mn3 x y z - mx3 x y z
/-- what is held at the places -/
abbrev Tg : Type := Nat → Option (Int × Int × Int)
def Trs (h : Hp) (g : Nat → Option Nat) (σ : Tg) : Prop := ∀ i, i < 16 → (g i = none ∧ σ i = none) ∨ ∃ (q : Nat) (a b c : Int), g i = some q ∧ σ i = some (a, b, c) ∧ h q = some (triE a b c) ∧ TV a b c
/-- the object x with its row T of places -/
def Cy (D : va_G) (h : Hp) (x T f u v o : Nat) (n : Int) (g : Nat → Option Nat) (σ : Tg) : Prop := h x = some (ob 0 [.ref T, .ref f, .ref u, .ref v, .ref o, iv n]) ∧ h T = some (aR D 16 g) ∧ Trs h g σ
/-- 1: no such place; k: none is held there -/
def ms (σ : Tg) (p k : Int) : Int := if ¬ pl p then 1 else if (σ p.toNat).isNone then k else 0
def cntT (σ : Tg) : Nat → Int
  | 0 => 0
  | k + 1 => cntT σ k + (if (σ k).isNone then 0 else 1)
theorem cntT_b (σ : Tg) : ∀ k : Nat, 0 ≤ cntT σ k ∧ cntT σ k ≤ k
  | 0 => by simp [cntT]
  | k + 1 => by
    have := cntT_b σ k
    unfold cntT
    split <;> omega
theorem Xn_ms {σ : Tg} {p : Int} {h h' : Hp} {E : String} (x : Xn [iob, nseN] (ms σ p 2) h E h') : h = h' ∧ ((¬ pl p ∧ E = iob) ∨ (pl p ∧ σ p.toNat = none ∧ E = nseN)) := by
  obtain ⟨h1, h2, h3⟩ := x
  unfold ms at h2 h3
  by_cases q : pl p
  · rw [if_neg (fun z => z q)] at h2 h3
    by_cases q2 : (σ p.toNat).isNone = true
    · rw [if_pos q2] at h3
      exact ⟨h1, Or.inr ⟨q, Option.isNone_iff_eq_none.mp q2, (Option.some.inj h3).symm⟩⟩
    · rw [if_neg q2] at h2
      exact absurd h2 (by decide)
  · rw [if_pos q] at h3
    exact ⟨h1, Or.inl ⟨q, (Option.some.inj h3).symm⟩⟩
theorem Trs_hold {D : va_G} {h : Hp} {T : Nat} {g : Nat → Option Nat} {σ : Tg} (ht : h T = some (aR D 16 g)) (hs : Trs h g σ) (e : va_E) (g' : Nat → Option Nat) (σ' : Tg) (h1 : ∀ i, i < 16 → (g' i = g i ∧ σ' i = σ i) ∨ (g' i = none ∧ σ' i = none) ∨ ∃ (q : Nat) (a b c : Int), g' i = some q ∧ σ' i = some (a, b, c) ∧ h q = some (triE a b c) ∧ TV a b c) : Trs (hu h T e) g' σ' := by
  have key : ∀ (q : Nat) (a b c : Int), h q = some (triE a b c) → hu h T e q = some (triE a b c) := by
    intro q a b c hq
    rw [hu_n]
    · exact hq
    · intro z
      rw [z, ht] at hq
      cases hq
  intro i hi
  rcases h1 i hi with ⟨e1, e2⟩ | z | ⟨q, a, b, c, z1, z2, z3, z4⟩
  · rw [e1, e2]
    rcases hs i hi with z | ⟨q, a, b, c, z1, z2, z3, z4⟩
    · exact Or.inl z
    · exact Or.inr ⟨q, a, b, c, z1, z2, key q a b c z3, z4⟩
  · exact Or.inl z
  · exact Or.inr ⟨q, a, b, c, z1, z2, key q a b c z3, z4⟩
/-- cells that may have changed: those of W -/
def Keep (W : Nat → Prop) (h h' : Hp) : Prop := ∀ (y : Nat) (e : va_E), h y = some e → ¬ W y → h' y = some e
theorem Keep_hu {h : Hp} {q : Nat} {e : va_E} : Keep (fun y => y = q) h (hu h q e) := fun y e' hy hn => by rw [hu_n h e hn]; exact hy
theorem Keep_rf {W : Nat → Prop} {h : Hp} : Keep W h h := fun _ _ hy _ => hy
theorem Keep_new {W : Nat → Prop} {h h' : Hp} {q : Nat} {e : va_E} (hq : h q = none) (k : Keep W (hu h q e) h') : Keep W h h' := fun y e' hy hn => k y e' (by rw [hu_n h e (fun z => by rw [z, hq] at hy; cases hy)]; exact hy) hn
abbrev rX5_init : Room := { frames := 1, cells := 0, slots := 0, locals := 25 }
theorem c_X5_init {l : Launch} (hl : l.stackTraces = false) (D : va_G) (z0 : Nat) (h : Hp) (q : Nat) (x y z : Int) (hx : sd x ∧ sd y ∧ sd z) (hv : TV (mn3 x y z) (md3 x y z) (mx3 x y z)) (hq : h q = some (ob 2 [iv 0, iv 0, iv 0, jv 0, jv 0])) : CC l yX5_init cX5_init 8 none rX5_init D z0 h [.ref q, iv x, iv y, iv z] (fun v h' => v = none ∧ h' = hu h q (triE (mn3 x y z) (md3 x y z) (mx3 x y z))) NX := by
  refine CC_of RX5 hl (by decide) rfl (Nat.le_of_ble_eq_true rfl) (fun K X Y Z hmn hKl => ?_)
  subst hKl
  have hb := TV_b hv
  unfold outr innr mn3 md3 mx3 at hb
  have m1 := mlb (a := outr (mn3 x y z) (md3 x y z) (mx3 x y z) / 262144) (x := 65536) (b := innr (mn3 x y z) (md3 x y z) (mx3 x y z)) (y := 8589606915) (by have := (TV_b hv).2.2.2.2.1; omega) (by have := (TV_b hv).2.2.2.2.1; omega) (by have := (TV_b hv).2.2.2.2.2; omega) (by have := (TV_b hv).2.2.2.2.2; omega)
  have hb5 := (TV_b hv).2.2.2.2.1
  have hb6 := (TV_b hv).2.2.2.2.2
  show WW K D z0 8 h 0 0 0 [(0, .ref q), (1, iv x), (2, iv y), (3, iv z)] []
  refine r_aload_n 0 X dX5_init_0 rfl ?_
  refine r_objInit X dX5_init_1 kX5_1 obj_i obj_c (Nat.le_of_ble_eq_true rfl) (by decide) ?_
  refine r_aload_n 0 X dX5_init_4 rfl ?_
  refine r_iload_n 1 X dX5_init_5 rfl ?_
  refine r_iload_n 2 X dX5_init_6 rfl ?_
  refine r_iload_n 3 X dX5_init_7 rfl ?_
  refine r_mmin X dX5_init_8 kX5_7 ⟨by omega, by omega⟩ ⟨by omega, by omega⟩ (Nat.le_of_ble_eq_true rfl) (by decide) ?_
  refine r_mmin X dX5_init_11 kX5_7 ⟨by omega, by omega⟩ ⟨by omega, by omega⟩ (Nat.le_of_ble_eq_true rfl) (by decide) ?_
  refine r_putfF (fs' := [iv (min x (min y z)), iv 0, iv 0, jv 0, jv 0]) X hmn dX5_init_14 fX5_13 hq rfl (Nat.le_of_ble_eq_true rfl) rfl rfl rfl ?_
  refine r_aload_n 0 X dX5_init_17 rfl ?_
  refine r_iload_n 1 X dX5_init_18 rfl ?_
  refine r_iload_n 2 X dX5_init_19 rfl ?_
  refine r_iload_n 3 X dX5_init_20 rfl ?_
  refine r_mmax X dX5_init_21 kX5_19 ⟨by omega, by omega⟩ ⟨by omega, by omega⟩ (Nat.le_of_ble_eq_true rfl) (by decide) ?_
  refine r_mmax X dX5_init_24 kX5_19 ⟨by omega, by omega⟩ ⟨by omega, by omega⟩ (Nat.le_of_ble_eq_true rfl) (by decide) ?_
  refine r_putfF (fs' := [iv (min x (min y z)), iv 0, iv (max x (max y z)), jv 0, jv 0]) X hmn dX5_init_27 fX5_22 (hu_s _ _ _) rfl (Nat.le_of_ble_eq_true rfl) rfl rfl rfl ?_
  refine WW_h (hu_hu _ _ _ _) ?_
  refine r_aload_n 0 X dX5_init_30 rfl ?_
  refine r_iload_n 1 X dX5_init_31 rfl ?_
  refine r_iload_n 2 X dX5_init_32 rfl ?_
  refine r_iadd X dX5_init_33 ?_
  refine r_iload_n 3 X dX5_init_34 rfl ?_
  refine r_iadd X dX5_init_35 ?_
  refine r_aload_n 0 X dX5_init_36 rfl ?_
  refine r_getf X dX5_init_37 fX5_13 (hu_s _ _ _) rfl ?_
  refine r_isub X dX5_init_40 ?_
  refine r_aload_n 0 X dX5_init_41 rfl ?_
  refine r_getf X dX5_init_42 fX5_22 (hu_s _ _ _) rfl ?_
  refine r_isub X dX5_init_45 ?_
  refine r_putfF (fs' := [iv (min x (min y z)), iv ((((x + y) + z) - (min x (min y z))) - (max x (max y z))), iv (max x (max y z)), jv 0, jv 0]) X hmn dX5_init_46 fX5_25 (hu_s _ _ _) rfl (Nat.le_of_ble_eq_true rfl) rfl rfl rfl ?_
  refine WW_h (hu_hu _ _ _ _) ?_
  refine r_aload_n 0 X dX5_init_49 rfl ?_
  refine r_getf X dX5_init_50 fX5_13 (hu_s _ _ _) rfl ?_
  refine r_i2l X dX5_init_53 ⟨by omega, by omega⟩ ?_
  refine r_aload_n 0 X dX5_init_54 rfl ?_
  refine r_getf X dX5_init_55 fX5_25 (hu_s _ _ _) rfl ?_
  refine r_i2l X dX5_init_58 ⟨by omega, by omega⟩ ?_
  refine r_aload_n 0 X dX5_init_59 rfl ?_
  refine r_getf X dX5_init_60 fX5_22 (hu_s _ _ _) rfl ?_
  refine r_i2l X dX5_init_63 ⟨by omega, by omega⟩ ?_
  refine r_callS_v X dX5_init_64 kX5_28 (c_X5_outerFactor (CX_l X) D z0 (hu h q (ob 2 [iv (min x (min y z)), iv ((((x + y) + z) - (min x (min y z))) - (max x (max y z))), iv (max x (max y z)), jv 0, jv 0])) (min x (min y z)) ((((x + y) + z) - (min x (min y z))) - (max x (max y z))) (max x (max y z))) [] rfl rfl (Nat.le_of_ble_eq_true rfl) (by decide) rfl rfl (by decide) ?_
  refine r_lstore (L' := [(4, jv (outr (min x (min y z)) ((((x + y) + z) - (min x (min y z))) - (max x (max y z))) (max x (max y z)))), (0, .ref q), (1, iv x), (2, iv y), (3, iv z)]) X dX5_init_67 (by decide) rfl ?_
  refine r_aload_n 1 X dX5_init_69 rfl ?_
  refine r_getf X dX5_init_70 fX5_13 (hu_s _ _ _) rfl ?_
  refine r_i2l X dX5_init_73 ⟨by omega, by omega⟩ ?_
  refine r_aload_n 1 X dX5_init_74 rfl ?_
  refine r_getf X dX5_init_75 fX5_25 (hu_s _ _ _) rfl ?_
  refine r_i2l X dX5_init_78 ⟨by omega, by omega⟩ ?_
  refine r_aload_n 1 X dX5_init_79 rfl ?_
  refine r_getf X dX5_init_80 fX5_22 (hu_s _ _ _) rfl ?_
  refine r_i2l X dX5_init_83 ⟨by omega, by omega⟩ ?_
  refine r_callS_v X dX5_init_84 kX5_32 (c_X5_innerFactor (CX_l X) D z0 (hu h q (ob 2 [iv (min x (min y z)), iv ((((x + y) + z) - (min x (min y z))) - (max x (max y z))), iv (max x (max y z)), jv 0, jv 0])) (min x (min y z)) ((((x + y) + z) - (min x (min y z))) - (max x (max y z))) (max x (max y z))) [] rfl rfl (Nat.le_of_ble_eq_true rfl) (by decide) rfl rfl (by decide) ?_
  refine r_lstore (L' := [(6, jv (innr (min x (min y z)) ((((x + y) + z) - (min x (min y z))) - (max x (max y z))) (max x (max y z)))), (4, jv (outr (min x (min y z)) ((((x + y) + z) - (min x (min y z))) - (max x (max y z))) (max x (max y z)))), (0, .ref q), (1, iv x), (2, iv y), (3, iv z)]) X dX5_init_87 (by decide) rfl ?_
  refine r_aload_n 2 X dX5_init_89 rfl ?_
  refine r_lload 1 X dX5_init_90 rfl ?_
  refine r_lload 0 X dX5_init_92 rfl ?_
  refine r_callS_v X dX5_init_94 kX5_35 (c_X1_high (CX_l X) D z0 (hu h q (ob 2 [iv (min x (min y z)), iv ((((x + y) + z) - (min x (min y z))) - (max x (max y z))), iv (max x (max y z)), jv 0, jv 0])) (outr (min x (min y z)) ((((x + y) + z) - (min x (min y z))) - (max x (max y z))) (max x (max y z))) (innr (min x (min y z)) ((((x + y) + z) - (min x (min y z))) - (max x (max y z))) (max x (max y z))) ⟨by show 0 ≤ outr (mn3 x y z) (md3 x y z) (mx3 x y z); omega, by show outr (mn3 x y z) (md3 x y z) (mx3 x y z) < _; omega⟩ ⟨by show 0 ≤ innr (mn3 x y z) (md3 x y z) (mx3 x y z); omega, by show innr (mn3 x y z) (md3 x y z) (mx3 x y z) < _; omega⟩ (by show outr (mn3 x y z) (md3 x y z) (mx3 x y z) / 262144 * innr (mn3 x y z) (md3 x y z) (mx3 x y z) < _; omega)) [.ref q] rfl rfl (Nat.le_of_ble_eq_true rfl) (by decide) rfl rfl (by decide) ?_
  refine r_putfF (fs' := [iv (min x (min y z)), iv ((((x + y) + z) - (min x (min y z))) - (max x (max y z))), iv (max x (max y z)), jv ((outr (min x (min y z)) ((((x + y) + z) - (min x (min y z))) - (max x (max y z))) (max x (max y z))) * (innr (min x (min y z)) ((((x + y) + z) - (min x (min y z))) - (max x (max y z))) (max x (max y z))) / 262144), jv 0]) X hmn dX5_init_97 fX5_41 (hu_s _ _ _) rfl (Nat.le_of_ble_eq_true rfl) rfl rfl rfl ?_
  refine WW_h (hu_hu _ _ _ _) ?_
  refine r_aload_n 2 X dX5_init_100 rfl ?_
  refine r_lload 1 X dX5_init_101 rfl ?_
  refine r_lload 0 X dX5_init_103 rfl ?_
  refine r_callS_v X dX5_init_105 kX5_45 (c_X1_low (CX_l X) D z0 (hu h q (ob 2 [iv (min x (min y z)), iv ((((x + y) + z) - (min x (min y z))) - (max x (max y z))), iv (max x (max y z)), jv ((outr (min x (min y z)) ((((x + y) + z) - (min x (min y z))) - (max x (max y z))) (max x (max y z))) * (innr (min x (min y z)) ((((x + y) + z) - (min x (min y z))) - (max x (max y z))) (max x (max y z))) / 262144), jv 0])) (outr (min x (min y z)) ((((x + y) + z) - (min x (min y z))) - (max x (max y z))) (max x (max y z))) (innr (min x (min y z)) ((((x + y) + z) - (min x (min y z))) - (max x (max y z))) (max x (max y z)))) [.ref q] rfl rfl (Nat.le_of_ble_eq_true rfl) (by decide) rfl rfl (by decide) ?_
  refine r_putfF (fs' := [iv (min x (min y z)), iv ((((x + y) + z) - (min x (min y z))) - (max x (max y z))), iv (max x (max y z)), jv ((outr (min x (min y z)) ((((x + y) + z) - (min x (min y z))) - (max x (max y z))) (max x (max y z))) * (innr (min x (min y z)) ((((x + y) + z) - (min x (min y z))) - (max x (max y z))) (max x (max y z))) / 262144), jv ((outr (min x (min y z)) ((((x + y) + z) - (min x (min y z))) - (max x (max y z))) (max x (max y z))) * (innr (min x (min y z)) ((((x + y) + z) - (min x (min y z))) - (max x (max y z))) (max x (max y z))) % 262144)]) X hmn dX5_init_108 fX5_48 (hu_s _ _ _) rfl (Nat.le_of_ble_eq_true rfl) rfl rfl rfl ?_
  refine WW_h (hu_hu _ _ _ _) ?_
  refine r_vret X Y dX5_init_111 (by decide) (by decide) ?_
  exact ⟨rfl, rfl⟩
abbrev rX6_isPlace : Room := { frames := 0, cells := 0, slots := 0, locals := 0 }
theorem c_X6_isPlace {l : Launch} (hl : l.stackTraces = false) (D : va_G) (z0 : Nat) (h : Hp) (p : Int) (hp0 : I32 p) : CC l yX6_isPlace cX6_isPlace 1 (some .boolean) rX6_isPlace D z0 h [iv p] (PV (iv (if pl p then 1 else 0)) h) NX := by
  refine CC_of RX6 hl (by decide) rfl (Nat.le_of_ble_eq_true rfl) (fun K X Y Z hmn hKl => ?_)
  subst hKl
  show WW K D z0 1 h 0 0 0 [(0, iv p)] []
  refine r_iload_n 0 X dX6_isPlace_0 rfl ?_
  refine r_if_lt 14 X dX6_isPlace_1 (by decide) ⟨by omega, by omega⟩ (fun c1 => ?_) (fun c1 => ?_)
  · refine r_iconst X dX6_isPlace_14 ?_
    refine r_zret X Y dX6_isPlace_15 (Or.inl rfl) (by decide) (by decide) ?_
    exact pv_f (by omega)
  · refine r_iload_n 0 X dX6_isPlace_4 rfl ?_
    refine r_bipush X dX6_isPlace_5 (by decide) ?_
    refine r_icmp_ge 14 X dX6_isPlace_7 (by decide) ⟨by omega, by omega⟩ ⟨by omega, by omega⟩ (fun c7 => ?_) (fun c7 => ?_)
    · refine r_iconst X dX6_isPlace_14 ?_
      refine r_zret X Y dX6_isPlace_15 (Or.inl rfl) (by decide) (by decide) ?_
      exact pv_f (by omega)
    · refine r_iconst X dX6_isPlace_10 ?_
      refine r_goto 15 X dX6_isPlace_11 (by decide) ?_
      refine r_zret X Y dX6_isPlace_15 (Or.inr rfl) (by decide) (by decide) ?_
      exact pv_t (by omega)
abbrev rX6_isSide : Room := { frames := 0, cells := 0, slots := 0, locals := 0 }
theorem c_X6_isSide {l : Launch} (hl : l.stackTraces = false) (D : va_G) (z0 : Nat) (h : Hp) (p : Int) (hp0 : I32 p) : CC l yX6_isSide cX6_isSide 1 (some .boolean) rX6_isSide D z0 h [iv p] (PV (iv (if sd p then 1 else 0)) h) NX := by
  refine CC_of RX6 hl (by decide) rfl (Nat.le_of_ble_eq_true rfl) (fun K X Y Z hmn hKl => ?_)
  subst hKl
  show WW K D z0 1 h 0 0 0 [(0, iv p)] []
  refine r_iload_n 0 X dX6_isSide_0 rfl ?_
  refine r_iconst X dX6_isSide_1 ?_
  refine r_icmp_lt 16 X dX6_isSide_2 (by decide) ⟨by omega, by omega⟩ ⟨by omega, by omega⟩ (fun c2 => ?_) (fun c2 => ?_)
  · refine r_iconst X dX6_isSide_16 ?_
    refine r_zret X Y dX6_isSide_17 (Or.inl rfl) (by decide) (by decide) ?_
    exact pv_f (by omega)
  · refine r_iload_n 0 X dX6_isSide_5 rfl ?_
    refine r_ldcw 65535 X dX6_isSide_6 nX6_261 (by decide) ?_
    refine r_icmp_gt 16 X dX6_isSide_9 (by decide) ⟨by omega, by omega⟩ ⟨by omega, by omega⟩ (fun c9 => ?_) (fun c9 => ?_)
    · refine r_iconst X dX6_isSide_16 ?_
      refine r_zret X Y dX6_isSide_17 (Or.inl rfl) (by decide) (by decide) ?_
      exact pv_f (by omega)
    · refine r_iconst X dX6_isSide_12 ?_
      refine r_goto 17 X dX6_isSide_13 (by decide) ?_
      refine r_zret X Y dX6_isSide_17 (Or.inr rfl) (by decide) (by decide) ?_
      exact pv_t (by omega)
abbrev rX6_requirePlace : Room := { frames := 6, cells := 1, slots := 6, locals := 90 }
theorem c_X6_requirePlace {l : Launch} (hl : l.stackTraces = false) (D : va_G) (z0 : Nat) (h : Hp) (p : Int) (hp0 : I32 p) : CC l yX6_requirePlace cX6_requirePlace 1 none rX6_requirePlace D z0 h [iv p] (PN (pl p) h) (Xn [iob] (if pl p then 0 else 1) h) := by
  refine CC_of RX6 hl (by decide) rfl (Nat.le_of_ble_eq_true rfl) (fun K X Y Z hmn hKl => ?_)
  subst hKl
  show WW K D z0 1 h 0 0 0 [(0, iv p)] []
  refine r_iload_n 0 X dX6_requirePlace_0 rfl ?_
  refine r_callS_v X dX6_requirePlace_1 kX6_279 (c_X6_isPlace (CX_l X) D z0 h p ⟨by omega, by omega⟩) [] rfl rfl (Nat.le_of_ble_eq_true rfl) (by decide) rfl rfl (by decide) ?_
  refine r_ifb_ne 18 X dX6_requirePlace_4 (by decide) (fun c4 => ?_) (fun c4 => ?_)
  · refine r_vret X Y dX6_requirePlace_18 (by decide) (by decide) ?_
    exact ⟨rfl, rfl, c4⟩
  · refine r_throwSW (E := "java/lang/IndexOutOfBoundsException") (text := "there is no such place") X Y Z dX6_requirePlace_7 dX6_requirePlace_10 dX6_requirePlace_11 dX6_requirePlace_14 dX6_requirePlace_17 (by decide) gX6_219 ini_IndexOutOfBoundsException (by decide) hX6_223 (Nat.le_of_ble_eq_true rfl) (by decide) (by decide) (by decide) ?_
    exact Xn_mk 1 (if_neg c4) (by decide) rfl
abbrev rX6_requireSide : Room := { frames := 6, cells := 1, slots := 6, locals := 90 }
theorem c_X6_requireSide {l : Launch} (hl : l.stackTraces = false) (D : va_G) (z0 : Nat) (h : Hp) (p : Int) (hp0 : I32 p) : CC l yX6_requireSide cX6_requireSide 1 none rX6_requireSide D z0 h [iv p] (PN (0 ≤ p ∧ p ≤ 2) h) (Xn [iob] (if 0 ≤ p ∧ p ≤ 2 then 0 else 1) h) := by
  refine CC_of RX6 hl (by decide) rfl (Nat.le_of_ble_eq_true rfl) (fun K X Y Z hmn hKl => ?_)
  subst hKl
  show WW K D z0 1 h 0 0 0 [(0, iv p)] []
  refine r_iload_n 0 X dX6_requireSide_0 rfl ?_
  refine r_if_lt 9 X dX6_requireSide_1 (by decide) ⟨by omega, by omega⟩ (fun c1 => ?_) (fun c1 => ?_)
  · refine r_throwSW (E := "java/lang/IndexOutOfBoundsException") (text := "there is no such side") X Y Z dX6_requireSide_9 dX6_requireSide_12 dX6_requireSide_13 dX6_requireSide_16 dX6_requireSide_19 (by decide) gX6_219 ini_IndexOutOfBoundsException (by decide) hX6_223 (Nat.le_of_ble_eq_true rfl) (by decide) (by decide) (by decide) ?_
    exact Xn_mk 1 (if_neg (by omega)) (by decide) rfl
  · refine r_iload_n 0 X dX6_requireSide_4 rfl ?_
    refine r_iconst X dX6_requireSide_5 ?_
    refine r_icmp_lt 20 X dX6_requireSide_6 (by decide) ⟨by omega, by omega⟩ ⟨by omega, by omega⟩ (fun c6 => ?_) (fun c6 => ?_)
    · refine r_vret X Y dX6_requireSide_20 (by decide) (by decide) ?_
      exact ⟨rfl, rfl, (by omega)⟩
    · refine r_throwSW (E := "java/lang/IndexOutOfBoundsException") (text := "there is no such side") X Y Z dX6_requireSide_9 dX6_requireSide_12 dX6_requireSide_13 dX6_requireSide_16 dX6_requireSide_19 (by decide) gX6_219 ini_IndexOutOfBoundsException (by decide) hX6_223 (Nat.le_of_ble_eq_true rfl) (by decide) (by decide) (by decide) ?_
      exact Xn_mk 1 (if_neg (by omega)) (by decide) rfl
abbrev rX6_requireNumber : Room := { frames := 6, cells := 1, slots := 6, locals := 90 }
theorem c_X6_requireNumber {l : Launch} (hl : l.stackTraces = false) (D : va_G) (z0 : Nat) (h : Hp) (p : Int) (hp0 : I64 p) : CC l yX6_requireNumber cX6_requireNumber 2 none rX6_requireNumber D z0 h [jv p] (PN (0 ≤ p ∧ p ≤ 8589672450) h) (Xn [iae] (if 0 ≤ p ∧ p ≤ 8589672450 then 0 else 1) h) := by
  refine CC_of RX6 hl (by decide) rfl (Nat.le_of_ble_eq_true rfl) (fun K X Y Z hmn hKl => ?_)
  subst hKl
  show WW K D z0 2 h 0 0 0 [(0, jv p)] []
  refine r_lload_n 0 X dX6_requireNumber_0 rfl ?_
  refine r_lconst 0 X dX6_requireNumber_1 (by decide) ?_
  refine r_lcmp_lt 14 X dX6_requireNumber_2 dX6_requireNumber_3 (by decide) ⟨by omega, by omega⟩ ⟨by omega, by omega⟩ (fun c2 => ?_) (fun c2 => ?_)
  · refine r_throwS (E := "java/lang/IllegalArgumentException") (text := "the number is out of range") X Y Z dX6_requireNumber_14 dX6_requireNumber_17 dX6_requireNumber_18 dX6_requireNumber_20 dX6_requireNumber_23 (by decide) gX6_44 ini_IllegalArgumentException (by decide) hX6_48 (Nat.le_of_ble_eq_true rfl) (by decide) (by decide) (by decide) ?_
    exact Xn_mk 1 (if_neg (by omega)) (by decide) rfl
  · refine r_lload_n 0 X dX6_requireNumber_6 rfl ?_
    refine r_ldc2 8589672450 X dX6_requireNumber_7 nX6_286 (by decide) ?_
    refine r_lcmp_le 24 X dX6_requireNumber_10 dX6_requireNumber_11 (by decide) ⟨by omega, by omega⟩ ⟨by omega, by omega⟩ (fun c10 => ?_) (fun c10 => ?_)
    · refine r_vret X Y dX6_requireNumber_24 (by decide) (by decide) ?_
      exact ⟨rfl, rfl, (by omega)⟩
    · refine r_throwS (E := "java/lang/IllegalArgumentException") (text := "the number is out of range") X Y Z dX6_requireNumber_14 dX6_requireNumber_17 dX6_requireNumber_18 dX6_requireNumber_20 dX6_requireNumber_23 (by decide) gX6_44 ini_IllegalArgumentException (by decide) hX6_48 (Nat.le_of_ble_eq_true rfl) (by decide) (by decide) (by decide) ?_
      exact Xn_mk 1 (if_neg (by omega)) (by decide) rfl
abbrev rX6_requireBound : Room := { frames := 6, cells := 1, slots := 6, locals := 90 }
theorem c_X6_requireBound {l : Launch} (hl : l.stackTraces = false) (D : va_G) (z0 : Nat) (h : Hp) (p : Int) (hp0 : I32 p) : CC l yX6_requireBound cX6_requireBound 1 none rX6_requireBound D z0 h [iv p] (PN (0 ≤ p ∧ p ≤ 400) h) (Xn [iae] (if 0 ≤ p ∧ p ≤ 400 then 0 else 1) h) := by
  refine CC_of RX6 hl (by decide) rfl (Nat.le_of_ble_eq_true rfl) (fun K X Y Z hmn hKl => ?_)
  subst hKl
  show WW K D z0 1 h 0 0 0 [(0, iv p)] []
  refine r_iload_n 0 X dX6_requireBound_0 rfl ?_
  refine r_if_lt 11 X dX6_requireBound_1 (by decide) ⟨by omega, by omega⟩ (fun c1 => ?_) (fun c1 => ?_)
  · refine r_throwSW (E := "java/lang/IllegalArgumentException") (text := "the bound is out of range") X Y Z dX6_requireBound_11 dX6_requireBound_14 dX6_requireBound_15 dX6_requireBound_18 dX6_requireBound_21 (by decide) gX6_44 ini_IllegalArgumentException (by decide) hX6_48 (Nat.le_of_ble_eq_true rfl) (by decide) (by decide) (by decide) ?_
    exact Xn_mk 1 (if_neg (by omega)) (by decide) rfl
  · refine r_iload_n 0 X dX6_requireBound_4 rfl ?_
    refine r_sipush X dX6_requireBound_5 (by decide) ?_
    refine r_icmp_le 22 X dX6_requireBound_8 (by decide) ⟨by omega, by omega⟩ ⟨by omega, by omega⟩ (fun c8 => ?_) (fun c8 => ?_)
    · refine r_vret X Y dX6_requireBound_22 (by decide) (by decide) ?_
      exact ⟨rfl, rfl, (by omega)⟩
    · refine r_throwSW (E := "java/lang/IllegalArgumentException") (text := "the bound is out of range") X Y Z dX6_requireBound_11 dX6_requireBound_14 dX6_requireBound_15 dX6_requireBound_18 dX6_requireBound_21 (by decide) gX6_44 ini_IllegalArgumentException (by decide) hX6_48 (Nat.le_of_ble_eq_true rfl) (by decide) (by decide) (by decide) ?_
      exact Xn_mk 1 (if_neg (by omega)) (by decide) rfl
abbrev rX6_requireLength : Room := { frames := 6, cells := 1, slots := 6, locals := 90 }
theorem c_X6_requireLength {l : Launch} (hl : l.stackTraces = false) (D : va_G) (z0 : Nat) (h : Hp) (p : Int) (hp0 : I32 p) : CC l yX6_requireLength cX6_requireLength 1 none rX6_requireLength D z0 h [iv p] (PN (1 ≤ p ∧ p ≤ 1000) h) (Xn [iae] (if 1 ≤ p ∧ p ≤ 1000 then 0 else 1) h) := by
  refine CC_of RX6 hl (by decide) rfl (Nat.le_of_ble_eq_true rfl) (fun K X Y Z hmn hKl => ?_)
  subst hKl
  show WW K D z0 1 h 0 0 0 [(0, iv p)] []
  refine r_iload_n 0 X dX6_requireLength_0 rfl ?_
  refine r_iconst X dX6_requireLength_1 ?_
  refine r_icmp_lt 12 X dX6_requireLength_2 (by decide) ⟨by omega, by omega⟩ ⟨by omega, by omega⟩ (fun c2 => ?_) (fun c2 => ?_)
  · refine r_throwSW (E := "java/lang/IllegalArgumentException") (text := "the length is out of range") X Y Z dX6_requireLength_12 dX6_requireLength_15 dX6_requireLength_16 dX6_requireLength_19 dX6_requireLength_22 (by decide) gX6_44 ini_IllegalArgumentException (by decide) hX6_48 (Nat.le_of_ble_eq_true rfl) (by decide) (by decide) (by decide) ?_
    exact Xn_mk 1 (if_neg (by omega)) (by decide) rfl
  · refine r_iload_n 0 X dX6_requireLength_5 rfl ?_
    refine r_sipush X dX6_requireLength_6 (by decide) ?_
    refine r_icmp_le 23 X dX6_requireLength_9 (by decide) ⟨by omega, by omega⟩ ⟨by omega, by omega⟩ (fun c9 => ?_) (fun c9 => ?_)
    · refine r_vret X Y dX6_requireLength_23 (by decide) (by decide) ?_
      exact ⟨rfl, rfl, (by omega)⟩
    · refine r_throwSW (E := "java/lang/IllegalArgumentException") (text := "the length is out of range") X Y Z dX6_requireLength_12 dX6_requireLength_15 dX6_requireLength_16 dX6_requireLength_19 dX6_requireLength_22 (by decide) gX6_44 ini_IllegalArgumentException (by decide) hX6_48 (Nat.le_of_ble_eq_true rfl) (by decide) (by decide) (by decide) ?_
      exact Xn_mk 1 (if_neg (by omega)) (by decide) rfl
abbrev rX6_hold : Room := { frames := 1, cells := 0, slots := 0, locals := 20 }
theorem c_X6_hold_q {l : Launch} (hl : l.stackTraces = false) (D : va_G) (z0 : Nat) (h : Hp) (x T f u v o : Nat) (n : Int) (g : Nat → Option Nat) (σ : Tg) (hc : Cy D h x T f u v o n g σ) (p : Int) (hp : pl p) (q : Nat) (fs : List Value) (hq : h q = some (ob 2 fs)) : CC l yX6_hold cX6_hold 3 none rX6_hold D z0 h [.ref x, iv p, .ref q] (fun v h' => v = none ∧ h' = hu h T (aR D 16 (up g p.toNat (some q)))) NX := by
  refine CC_of RX6 hl (by decide) rfl (Nat.le_of_ble_eq_true rfl) (fun K X Y Z hmn hKl => ?_)
  subst hKl
  show WW K D z0 3 h 0 0 0 [(0, .ref x), (1, iv p), (2, .ref q)] []
  refine r_iload_n 1 X dX6_hold_0 rfl ?_
  refine r_callS_v X dX6_hold_1 kX6_279 (c_X6_isPlace (CX_l X) D z0 h p ⟨by omega, by omega⟩) [] rfl rfl (Nat.le_of_ble_eq_true rfl) (by decide) rfl rfl (by decide) ?_
  refine r_ifb_eq 14 X dX6_hold_4 (by decide) (fun c4 => ?_) (fun c4 => ?_)
  · exact absurd hp c4
  · refine r_aload_n 0 X dX6_hold_7 rfl ?_
    refine r_getf X dX6_hold_8 fX6_11 hc.1 rfl ?_
    refine r_iload_n 1 X dX6_hold_11 rfl ?_
    refine r_aload_n 2 X dX6_hold_12 rfl ?_
    refine r_aastore X dX6_hold_13 hc.2.1 hq ⟨by omega, by omega⟩ (by decide) ?_
    refine r_vret X Y dX6_hold_14 (by decide) (by decide) ?_
    exact ⟨rfl, rfl⟩
theorem c_X6_hold_n {l : Launch} (hl : l.stackTraces = false) (D : va_G) (z0 : Nat) (h : Hp) (x T f u v o : Nat) (n : Int) (g : Nat → Option Nat) (σ : Tg) (hc : Cy D h x T f u v o n g σ) (p : Int) (hp : pl p)  : CC l yX6_hold cX6_hold 3 none rX6_hold D z0 h [.ref x, iv p, .null] (fun v h' => v = none ∧ h' = hu h T (aR D 16 (up g p.toNat (none)))) NX := by
  refine CC_of RX6 hl (by decide) rfl (Nat.le_of_ble_eq_true rfl) (fun K X Y Z hmn hKl => ?_)
  subst hKl
  show WW K D z0 3 h 0 0 0 [(0, .ref x), (1, iv p), (2, .null)] []
  refine r_iload_n 1 X dX6_hold_0 rfl ?_
  refine r_callS_v X dX6_hold_1 kX6_279 (c_X6_isPlace (CX_l X) D z0 h p ⟨by omega, by omega⟩) [] rfl rfl (Nat.le_of_ble_eq_true rfl) (by decide) rfl rfl (by decide) ?_
  refine r_ifb_eq 14 X dX6_hold_4 (by decide) (fun c4 => ?_) (fun c4 => ?_)
  · exact absurd hp c4
  · refine r_aload_n 0 X dX6_hold_7 rfl ?_
    refine r_getf X dX6_hold_8 fX6_11 hc.1 rfl ?_
    refine r_iload_n 1 X dX6_hold_11 rfl ?_
    refine r_aloadN_n 2 X dX6_hold_12 rfl ?_
    refine r_aastoreN X dX6_hold_13 hc.2.1 ⟨by omega, by omega⟩ (by decide) ?_
    refine r_vret X Y dX6_hold_14 (by decide) (by decide) ?_
    exact ⟨rfl, rfl⟩
theorem rf_null (r : Option Nat) : va_rf r = .null ∨ ∃ a, va_rf r = .ref a := by cases r; exact Or.inl rfl; exact Or.inr ⟨_, rfl⟩
abbrev rX6_triangleAt : Room := { frames := 1, cells := 0, slots := 0, locals := 20 }
theorem c_X6_triangleAt {l : Launch} (hl : l.stackTraces = false) (D : va_G) (z0 : Nat) (h : Hp) (x T f u v o : Nat) (n : Int) (g : Nat → Option Nat) (σ : Tg) (hc : Cy D h x T f u v o n g σ) (p : Int) (hp0 : I32 p) : CC l yX6_triangleAt cX6_triangleAt 2 (some (.object "Trigonyard$Triangle")) rX6_triangleAt D z0 h [.ref x, iv p] (PV (va_rf (if pl p then g p.toNat else none)) h) NX := by
  refine CC_of RX6 hl (by decide) rfl (Nat.le_of_ble_eq_true rfl) (fun K X Y Z hmn hKl => ?_)
  subst hKl
  show WW K D z0 2 h 0 0 0 [(0, .ref x), (1, iv p)] []
  refine r_iload_n 1 X dX6_triangleAt_0 rfl ?_
  refine r_callS_v X dX6_triangleAt_1 kX6_279 (c_X6_isPlace (CX_l X) D z0 h p ⟨by omega, by omega⟩) [] rfl rfl (Nat.le_of_ble_eq_true rfl) (by decide) rfl rfl (by decide) ?_
  refine r_ifb_eq 16 X dX6_triangleAt_4 (by decide) (fun c4 => ?_) (fun c4 => ?_)
  · refine r_null X dX6_triangleAt_16 ?_
    refine r_aret X Y dX6_triangleAt_17 (Or.inl rfl) (by decide) (by decide) ?_
    exact pv (by rw [if_neg c4]; rfl)
  · refine r_aload_n 0 X dX6_triangleAt_7 rfl ?_
    refine r_getf X dX6_triangleAt_8 fX6_11 hc.1 rfl ?_
    refine r_iload_n 1 X dX6_triangleAt_11 rfl ?_
    refine r_aaload X dX6_triangleAt_12 hc.2.1 ⟨by omega, by omega⟩ (by decide) ?_
    refine r_goto 17 X dX6_triangleAt_13 (by decide) ?_
    refine r_aret X Y dX6_triangleAt_17 (rf_null _) (by decide) (by decide) ?_
    exact pv (by rw [if_pos c4])
theorem Trs_none {h : Hp} {g : Nat → Option Nat} {σ : Tg} (hs : Trs h g σ) {i : Nat} (hi : i < 16) (e : g i = none) : σ i = none := by
  rcases hs i hi with z | ⟨q, a, b, c, z1, -⟩
  · exact z.2
  · rw [e] at z1; cases z1
theorem Trs_some {h : Hp} {g : Nat → Option Nat} {σ : Tg} (hs : Trs h g σ) {i q : Nat} (hi : i < 16) (e : g i = some q) : ∃ a b c : Int, σ i = some (a, b, c) ∧ h q = some (triE a b c) ∧ TV a b c := by
  rcases hs i hi with z | ⟨q', a, b, c, z1, z2, z3, z4⟩
  · rw [e] at z; cases z.1
  · rw [e] at z1
    cases z1
    exact ⟨a, b, c, z2, z3, z4⟩
abbrev rX6_countHeld : Room := { frames := 2, cells := 0, slots := 0, locals := 41 }
theorem c_X6_countHeld {l : Launch} (hl : l.stackTraces = false) (D : va_G) (z0 : Nat) (h : Hp) (x T f u v o : Nat) (n : Int) (g : Nat → Option Nat) (σ : Tg) (hc : Cy D h x T f u v o n g σ) : CC l yX6_countHeld cX6_countHeld 3 (some .int) rX6_countHeld D z0 h [.ref x] (PV (iv (cntT σ 16)) h) NX := by
  refine CC_of RX6 hl (by decide) rfl (Nat.le_of_ble_eq_true rfl) (fun K X Y Z hmn hKl => ?_)
  subst hKl
  show WW K D z0 3 h 0 0 0 [(0, .ref x)] []
  have hcb := cntT_b σ
  have loop : ∀ (m i : Nat), i + m = 16 → WW K D z0 3 h 0 0 4 [(0, .ref x), (1, iv (cntT σ i)), (2, iv (i : Int))] [] := by
    intro m
    induction m with
    | zero =>
      intro i hi0
      have hi : i = 16 := hi0
      refine r_iload_n 2 X dX6_countHeld_4 rfl ?_
      refine r_bipush X dX6_countHeld_5 (by decide) ?_
      refine r_icmp_ge 32 X dX6_countHeld_7 (by decide) ⟨by omega, by omega⟩ ⟨by omega, by omega⟩ (fun c7 => ?_) (fun c7 => ?_)
      · refine r_iload_n 1 X dX6_countHeld_32 rfl ?_
        refine r_iret X Y dX6_countHeld_33 (by decide) (by decide) ?_
        exact pv_i (by rw [hi])
      · exact absurd (by omega) c7
    | succ m ih =>
      intro i hi
      have hci := hcb i
      refine r_iload_n 2 X dX6_countHeld_4 rfl ?_
      refine r_bipush X dX6_countHeld_5 (by decide) ?_
      refine r_icmp_ge 32 X dX6_countHeld_7 (by decide) ⟨by omega, by omega⟩ ⟨by omega, by omega⟩ (fun c7 => ?_) (fun c7 => ?_)
      · exact absurd c7 (by omega)
      · refine r_iload_n 1 X dX6_countHeld_10 rfl ?_
        refine r_aload_n 0 X dX6_countHeld_11 rfl ?_
        refine r_iload_n 2 X dX6_countHeld_12 rfl ?_
        refine r_callV X dX6_countHeld_13 kX6_71 hc.1 (c_X6_triangleAt (CX_l X) D z0 h x T f u v o n g σ hc (i : Int) ⟨by omega, by omega⟩) [iv (cntT σ i)] rfl rfl (Nat.le_of_ble_eq_true rfl) (by decide) (by decide) (fun _ _ z => z.elim) (fun v9 h9 hv9 => ?_)
        obtain ⟨rfl, e9⟩ := hv9
        rw [e9]
        rw [if_pos (show pl (i : Int) by omega), Int.toNat_natCast]
        cases hg : g i with
        | none =>
          have hσ := Trs_none hc.2.2 (by omega) hg
          show WW K D z0 3 h 0 0 16 [(0, .ref x), (1, iv (cntT σ i)), (2, iv (i : Int))] [.null, iv (cntT σ i)]
          refine r_ifnonnullN X dX6_countHeld_16 ?_
          refine r_iconst X dX6_countHeld_19 ?_
          refine r_goto 24 X dX6_countHeld_20 (by decide) ?_
          refine r_iadd X dX6_countHeld_24 ?_
          refine r_istore_n (L' := [(1, iv ((cntT σ i) + 0)), (0, .ref x), (2, iv (i : Int))]) X dX6_countHeld_25 (by decide) rfl ?_
          refine r_iinc 2 (L' := [(2, iv ((i : Int) + 1)), (1, iv ((cntT σ i) + 0)), (0, .ref x)]) X dX6_countHeld_26 rfl (by decide) rfl ?_
          refine r_goto 4 X dX6_countHeld_29 (by decide) ?_
          refine WW_sub (L' := [(0, .ref x), (1, iv ((cntT σ i) + 0)), (2, iv ((i : Int) + 1))]) [2, 1, 0] rfl ?_
          have e1 : (cntT σ i) + 0 = cntT σ (i + 1) := by
            show _ = cntT σ i + _
            rw [hσ]
            rfl
          rw [e1, show ((i : Int) + 1) = ((i + 1 : Nat) : Int) from rfl]
          exact ih (i + 1) (by omega)
        | some q =>
          obtain ⟨a, b, c, hσ, -⟩ := Trs_some hc.2.2 (by omega) hg
          show WW K D z0 3 h 0 0 16 [(0, .ref x), (1, iv (cntT σ i)), (2, iv (i : Int))] [.ref q, iv (cntT σ i)]
          refine r_ifnonnull 23 X dX6_countHeld_16 (by decide) ?_
          refine r_iconst X dX6_countHeld_23 ?_
          refine r_iadd X dX6_countHeld_24 ?_
          refine r_istore_n (L' := [(1, iv ((cntT σ i) + 1)), (0, .ref x), (2, iv (i : Int))]) X dX6_countHeld_25 (by decide) rfl ?_
          refine r_iinc 2 (L' := [(2, iv ((i : Int) + 1)), (1, iv ((cntT σ i) + 1)), (0, .ref x)]) X dX6_countHeld_26 rfl (by decide) rfl ?_
          refine r_goto 4 X dX6_countHeld_29 (by decide) ?_
          refine WW_sub (L' := [(0, .ref x), (1, iv ((cntT σ i) + 1)), (2, iv ((i : Int) + 1))]) [2, 1, 0] rfl ?_
          have e1 : (cntT σ i) + 1 = cntT σ (i + 1) := by
            show _ = cntT σ i + _
            rw [hσ]
            rfl
          rw [e1, show ((i : Int) + 1) = ((i + 1 : Nat) : Int) from rfl]
          exact ih (i + 1) (by omega)
  refine r_iconst X dX6_countHeld_0 ?_
  refine r_istore_n (L' := [(1, iv 0), (0, .ref x)]) X dX6_countHeld_1 (by decide) rfl ?_
  refine r_iconst X dX6_countHeld_2 ?_
  refine r_istore_n (L' := [(2, iv 0), (1, iv 0), (0, .ref x)]) X dX6_countHeld_3 (by decide) rfl ?_
  refine WW_sub (L' := [(0, .ref x), (1, iv 0), (2, iv 0)]) [2, 1, 0] rfl ?_
  exact loop 16 0 rfl
abbrev rX6_heldAt : Room := { frames := 7, cells := 2, slots := 12, locals := 110 }
theorem c_X6_heldAt {l : Launch} (hl : l.stackTraces = false) (D : va_G) (z0 : Nat) (h : Hp) (x T f u v o : Nat) (n : Int) (g : Nat → Option Nat) (σ : Tg) (hc : Cy D h x T f u v o n g σ) (p : Int) (hp0 : I32 p) : CC l yX6_heldAt cX6_heldAt 3 (some (.object "Trigonyard$Triangle")) rX6_heldAt D z0 h [.ref x, iv p] (fun w h' => h = h' ∧ pl p ∧ ∃ (q : Nat) (a b c : Int), w = some (.ref q) ∧ g p.toNat = some q ∧ σ p.toNat = some (a, b, c) ∧ h q = some (triE a b c) ∧ TV a b c) (Xn [iob, nseN] (ms σ p 2) h) := by
  refine CC_of RX6 hl (by decide) rfl (Nat.le_of_ble_eq_true rfl) (fun K X Y Z hmn hKl => ?_)
  subst hKl
  show WW K D z0 3 h 0 0 0 [(0, .ref x), (1, iv p)] []
  refine r_iload_n 1 X dX6_heldAt_0 rfl ?_
  refine r_callS X dX6_heldAt_1 kX6_36 (c_X6_requirePlace (CX_l X) D z0 h p ⟨by omega, by omega⟩) [] rfl rfl (Nat.le_of_ble_eq_true rfl) (by decide) (by decide) (fun E9 h9 hx9 => by obtain ⟨rfl, rfl, hn1⟩ := Xn1 hx9; exact WX_out X Y Z (by decide) (by decide) (Xn_mk 1 (by unfold ms; rw [if_pos hn1]) (by decide) rfl)) (fun v9 h9 hv9 => ?_)
  obtain ⟨rfl, rfl, hp1⟩ := hv9
  show WW K D z0 3 h 1 6 4 [(0, .ref x), (1, iv p)] []
  refine r_aload_n 0 X dX6_heldAt_4 rfl ?_
  refine r_iload_n 1 X dX6_heldAt_5 rfl ?_
  refine r_callV X dX6_heldAt_6 kX6_71 hc.1 (c_X6_triangleAt (CX_l X) D z0 h x T f u v o n g σ hc p ⟨by omega, by omega⟩) [] rfl rfl (Nat.le_of_ble_eq_true rfl) (by decide) (by decide) (fun _ _ z => z.elim) (fun v9 h9 hv9 => ?_)
  obtain ⟨rfl, e9⟩ := hv9
  rw [e9]
  rw [if_pos hp1]
  cases hg : g p.toNat with
  | none =>
    have hσ := Trs_none hc.2.2 (by omega) hg
    show WW K D z0 3 h 1 6 9 [(0, .ref x), (1, iv p)] [.null]
    refine r_astoreN_n (L' := [(2, .null), (0, .ref x), (1, iv p)]) X dX6_heldAt_9 (by decide) rfl ?_
    refine r_aloadN_n 0 X dX6_heldAt_10 rfl ?_
    refine r_ifnonnullN X dX6_heldAt_11 ?_
    refine r_throwNW (text := "none is held there") X Y Z dX6_heldAt_14 dX6_heldAt_17 dX6_heldAt_18 dX6_heldAt_21 dX6_heldAt_24 gX6_292 ini_NoSuchElementException (by decide) hX6_296 (Nat.le_of_ble_eq_true rfl) (by decide) (by decide) (by decide) ?_
    exact Xn_mk 2 (by unfold ms; rw [if_neg (fun z => z hp1), hσ]; rfl) (by decide) rfl
  | some q =>
    obtain ⟨a, b, c, hσ, ht, hv⟩ := Trs_some hc.2.2 (by omega) hg
    show WW K D z0 3 h 1 6 9 [(0, .ref x), (1, iv p)] [.ref q]
    refine r_astore_n (L' := [(2, .ref q), (0, .ref x), (1, iv p)]) X dX6_heldAt_9 (by decide) rfl ?_
    refine r_aload_n 0 X dX6_heldAt_10 rfl ?_
    refine r_ifnonnull 25 X dX6_heldAt_11 (by decide) ?_
    refine r_aload_n 0 X dX6_heldAt_25 rfl ?_
    refine r_aret X Y dX6_heldAt_26 (Or.inr ⟨_, rfl⟩) (by decide) (by decide) ?_
    exact ⟨rfl, hp1, q, a, b, c, rfl, hg, hσ, ht, hv⟩
