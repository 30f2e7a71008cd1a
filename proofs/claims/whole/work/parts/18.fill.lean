/-! Primitives: what fills a list -/
abbrev gdK (K : Nat) : Prop := 1 ≤ K / 512 % 512 ∧ 1 ≤ K % 512 ∧ K / 512 % 512 < K / 262144 ∧ K % 512 < K / 262144 ∧ K / 262144 < K / 512 % 512 + K % 512 ∧ K / 262144 < 512
theorem keyN_d {a b c : Nat} (ha : a < 512) (hb : b < 512) : keyN a b c / 512 % 512 = min a b ∧ keyN a b c % 512 = max a b ∧ keyN a b c / 262144 = c := by
  unfold keyN
  omega
theorem keyN_g {a b c : Nat} (ha : 1 ≤ a) (hb : 1 ≤ b) (h1 : a < c) (h2 : b < c) (h3 : c < a + b) (hc : c < 512) : gdK (keyN a b c) := by
  obtain ⟨e1, e2, e3⟩ := keyN_d (a := a) (b := b) (c := c) (by omega) (by omega)
  unfold gdK
  rw [e1, e2, e3]
  omega
theorem gdK_l {K : Nat} (h : gdK K) : K < 134217728 := by
  unfold gdK at h
  omega
theorem gdK_ins {key : Nat} {r : List Nat} (hk : gdK key) (h : ∀ a ∈ r, gdK a) : ∀ a ∈ insR key r, gdK a := by
  intro a ha
  rcases insR_mem ha with rfl | z
  · exact hk
  · exact h a z
def stepR (b A B C : Nat) (r : List Nat) : List Nat := if C ≤ b then insR (keyN A B C) r else r
theorem stepR_len (b A B C : Nat) (r : List Nat) : r.length ≤ (stepR b A B C r).length ∧ (stepR b A B C r).length ≤ r.length + 1 := by
  unfold stepR
  split
  · rw [insR_len]; omega
  · omega
def oddK (K : Nat) : Nat := if K / 512 % 512 % 2 = 1 then K / 512 % 512 else K % 512
def eveK (K : Nat) : Nat := if K / 512 % 512 % 2 = 1 then K % 512 else K / 512 % 512
def lonK (K : Nat) : Nat := K / 262144
/-- the three steps of one -/
def stA (b K : Nat) (r : List Nat) : List Nat := stepR b (oddK K + 2 * lonK K - 2 * eveK K) (2 * oddK K + 2 * lonK K - eveK K) (2 * oddK K + 3 * lonK K - 2 * eveK K) r
def stB (b K : Nat) (r : List Nat) : List Nat := stepR b (oddK K + 2 * eveK K + 2 * lonK K) (2 * oddK K + eveK K + 2 * lonK K) (2 * oddK K + 2 * eveK K + 3 * lonK K) r
def stC (b K : Nat) (r : List Nat) : List Nat := stepR b (2 * eveK K + 2 * lonK K - oddK K) (eveK K + 2 * lonK K - 2 * oddK K) (2 * eveK K + 3 * lonK K - 2 * oddK K) r
def stepsOf (b i : Nat) (r : List Nat) : List Nat := stC b (nthR r i) (stB b (nthR r i) (stA b (nthR r i) r))
def tB (b : Nat) : Nat → Nat → List Nat → List Nat
  | 0, _, r => r
  | m + 1, i, r => if i < r.length then tB b m (i + 1) (stepsOf b i r) else r
theorem stepsOf_len (b i : Nat) (r : List Nat) : r.length ≤ (stA b (nthR r i) r).length ∧ (stA b (nthR r i) r).length ≤ (stB b (nthR r i) (stA b (nthR r i) r)).length ∧ (stB b (nthR r i) (stA b (nthR r i) r)).length ≤ (stepsOf b i r).length :=
  ⟨(stepR_len _ _ _ _ _).1, (stepR_len _ _ _ _ _).1, (stepR_len _ _ _ _ _).1⟩
theorem tB_len (b : Nat) : ∀ (m i : Nat) (r : List Nat), r.length ≤ (tB b m i r).length
  | 0, _, r => Nat.le_refl _
  | m + 1, i, r => by
    unfold tB
    split
    · have := stepsOf_len b i r
      exact Nat.le_trans (by omega) (tB_len b m (i + 1) (stepsOf b i r))
    · exact Nat.le_refl _
theorem gdK_n {r : List Nat} (h : ∀ a ∈ r, gdK a) {i : Nat} (hi : i < r.length) : gdK (nthR r i) := by
  unfold nthR
  rw [List.getD_eq_getElem?_getD]
  cases e : r[r.length - 1 - i]? with
  | none =>
    have := List.getElem?_eq_none_iff.mp e
    omega
  | some a => exact h a (List.mem_of_getElem? e)
theorem okK {K : Nat} (h : gdK K) : 1 ≤ oddK K ∧ 1 ≤ eveK K ∧ oddK K < lonK K ∧ eveK K < lonK K ∧ lonK K < oddK K + eveK K ∧ lonK K < 512 := by
  unfold gdK at h
  unfold oddK eveK lonK
  split <;> omega
theorem gdK_st {b A B C : Nat} {r : List Nat} (h : ∀ a ∈ r, gdK a) (hb : b ≤ 400) (ha : 1 ≤ A) (hbb : 1 ≤ B) (h1 : A < C) (h2 : B < C) (h3 : C < A + B) : ∀ a ∈ stepR b A B C r, gdK a := by
  unfold stepR
  split
  · exact gdK_ins (keyN_g ha hbb h1 h2 h3 (by omega)) h
  · exact h
theorem gdK_A {b K : Nat} {r : List Nat} (h : ∀ a ∈ r, gdK a) (hb : b ≤ 400) (hK : gdK K) : ∀ a ∈ stA b K r, gdK a := by
  have := okK hK
  exact gdK_st h hb (by omega) (by omega) (by omega) (by omega) (by omega)
theorem gdK_B {b K : Nat} {r : List Nat} (h : ∀ a ∈ r, gdK a) (hb : b ≤ 400) (hK : gdK K) : ∀ a ∈ stB b K r, gdK a := by
  have := okK hK
  exact gdK_st h hb (by omega) (by omega) (by omega) (by omega) (by omega)
theorem gdK_C {b K : Nat} {r : List Nat} (h : ∀ a ∈ r, gdK a) (hb : b ≤ 400) (hK : gdK K) : ∀ a ∈ stC b K r, gdK a := by
  have := okK hK
  exact gdK_st h hb (by omega) (by omega) (by omega) (by omega) (by omega)
abbrev rX2_areEachOnce : Room := { frames := 0, cells := 0, slots := 0, locals := 0 }
theorem c_X2_areEachOnce {l : Launch} (hl : l.stackTraces = false) (D : va_G) (z0 : Nat) (h : Hp) (f k : Nat) (r : List Nat) (hm : Pm D h f k r) (hr : r.length < 64) (hb : ∀ a ∈ r, a < 134217728) (hd : ∀ i, i + 1 < r.length → nthR r i < nthR r (i + 1)) : CC l yX2_areEachOnce cX2_areEachOnce 2 (some .boolean) rX2_areEachOnce D z0 h [.ref f] (PV (iv 1) h) NX := by
  refine CC_of RX2 hl (by decide) rfl (Nat.le_of_ble_eq_true rfl) (fun K X Y Z hmn hKl => ?_)
  subst hKl
  show WW K D z0 2 h 0 0 0 [(0, .ref f)] []
  obtain ⟨hm1, ks, hk, hR⟩ := hm
  have loop : ∀ (m i : Nat), r.length ≤ i + m → (1 ≤ i ∧ i ≤ 64) → WW K D z0 2 h 0 0 2 [(1, iv (i : Int)), (0, .ref f)] [] := by
    intro m
    induction m with
    | zero =>
      intro i hi hi1
      refine r_iload_n 0 X dX2_areEachOnce_2 rfl ?_
      refine r_aload_n 1 X dX2_areEachOnce_3 rfl ?_
      refine r_getf X dX2_areEachOnce_4 fX2_15 hm1 rfl ?_
      refine r_icmp_ge 41 X dX2_areEachOnce_7 (by decide) ⟨by omega, by omega⟩ ⟨by omega, by omega⟩ (fun c7 => ?_) (fun c7 => ?_)
      · refine r_iconst X dX2_areEachOnce_41 ?_
        refine r_zret X Y dX2_areEachOnce_42 (Or.inr rfl) (by decide) (by decide) ?_
        exact pv rfl
      · exact absurd (by omega) c7
    | succ m ih =>
      intro i hi hi1
      refine r_iload_n 0 X dX2_areEachOnce_2 rfl ?_
      refine r_aload_n 1 X dX2_areEachOnce_3 rfl ?_
      refine r_getf X dX2_areEachOnce_4 fX2_15 hm1 rfl ?_
      refine r_icmp_ge 41 X dX2_areEachOnce_7 (by decide) ⟨by omega, by omega⟩ ⟨by omega, by omega⟩ (fun c7 => ?_) (fun c7 => ?_)
      · refine r_iconst X dX2_areEachOnce_41 ?_
        refine r_zret X Y dX2_areEachOnce_42 (Or.inr rfl) (by decide) (by decide) ?_
        exact pv rfl
      · refine r_iload_n 0 X dX2_areEachOnce_10 rfl ?_
        refine r_bipush X dX2_areEachOnce_11 (by decide) ?_
        refine r_icmp_ge 41 X dX2_areEachOnce_13 (by decide) ⟨by omega, by omega⟩ ⟨by omega, by omega⟩ (fun c13 => ?_) (fun c13 => ?_)
        · exact absurd c13 (by omega)
        · refine r_aload_n 1 X dX2_areEachOnce_16 rfl ?_
          refine r_getf X dX2_areEachOnce_17 fX2_11 hm1 rfl ?_
          refine r_iload_n 0 X dX2_areEachOnce_20 rfl ?_
          refine r_iconst X dX2_areEachOnce_21 ?_
          refine r_isub X dX2_areEachOnce_22 ?_
          refine r_iaload X dX2_areEachOnce_23 hk ⟨by omega, by omega⟩ (by decide) ?_
          refine r_aload_n 1 X dX2_areEachOnce_24 rfl ?_
          refine r_getf X dX2_areEachOnce_25 fX2_11 hm1 rfl ?_
          refine r_iload_n 0 X dX2_areEachOnce_28 rfl ?_
          refine r_iaload X dX2_areEachOnce_29 hk ⟨by omega, by omega⟩ (by decide) ?_
          have hA : ks (((i : Nat) : Int) - 1).toNat = (nthR r (i - 1) : Int) := by rw [show (((i : Nat) : Int) - 1).toNat = i - 1 by omega]; exact Rp_get hR (by omega)
          have hB : ks ((i : Nat) : Int).toNat = (nthR r i : Int) := Rp_get hR (by omega)
          have hC := hd (i - 1) (by omega)
          rw [show i - 1 + 1 = i by omega] at hC
          have hn1 := nthR_b hb (by decide) (i - 1)
          have hn2 := nthR_b hb (by decide) i
          refine r_icmp_lt 35 X dX2_areEachOnce_30 (by decide) ⟨by omega, by omega⟩ ⟨by omega, by omega⟩ (fun c30 => ?_) (fun c30 => ?_)
          · refine r_iinc 0 (L' := [(1, iv ((i : Int) + 1)), (0, .ref f)]) X dX2_areEachOnce_35 rfl (by decide) rfl ?_
            refine r_goto 2 X dX2_areEachOnce_38 (by decide) ?_
            exact ih (i + 1) (by omega) (by omega)
          · exact absurd (by omega) c30
  refine r_iconst X dX2_areEachOnce_0 ?_
  refine r_istore_n (L' := [(1, iv 1), (0, .ref f)]) X dX2_areEachOnce_1 (by decide) rfl ?_
  exact loop r.length 1 (by omega) (by omega)
abbrev rX2_areThoseOf : Room := { frames := 0, cells := 0, slots := 0, locals := 0 }
theorem c_X2_areThoseOf {l : Launch} (hl : l.stackTraces = false) (D : va_G) (z0 : Nat) (h : Hp) (f k : Nat) (r : List Nat) (hm : Pm D h f k r) (hr : r.length < 64) (hb : ∀ a ∈ r, a < 134217728) (f2 k2 : Nat) (hmm : Pm D h f2 k2 r) : CC l yX2_areThoseOf cX2_areThoseOf 3 (some .boolean) rX2_areThoseOf D z0 h [.ref f, .ref f2] (PV (iv 1) h) NX := by
  refine CC_of RX2 hl (by decide) rfl (Nat.le_of_ble_eq_true rfl) (fun K X Y Z hmn hKl => ?_)
  subst hKl
  show WW K D z0 3 h 0 0 0 [(0, .ref f), (1, .ref f2)] []
  obtain ⟨hm1, ks, hk, hR⟩ := hm
  obtain ⟨hm2, ks2, hk2, hR2⟩ := hmm
  have loop : ∀ (m i : Nat), r.length ≤ i + m → i ≤ 64 → WW K D z0 3 h 0 0 15 [(2, iv (i : Int)), (0, .ref f), (1, .ref f2)] [] := by
    intro m
    induction m with
    | zero =>
      intro i hi hi1
      refine r_iload_n 0 X dX2_areThoseOf_15 rfl ?_
      refine r_aload_n 1 X dX2_areThoseOf_16 rfl ?_
      refine r_getf X dX2_areThoseOf_17 fX2_15 hm1 rfl ?_
      refine r_icmp_ge 52 X dX2_areThoseOf_20 (by decide) ⟨by omega, by omega⟩ ⟨by omega, by omega⟩ (fun c20 => ?_) (fun c20 => ?_)
      · refine r_iconst X dX2_areThoseOf_52 ?_
        refine r_zret X Y dX2_areThoseOf_53 (Or.inr rfl) (by decide) (by decide) ?_
        exact pv rfl
      · exact absurd (by omega) c20
    | succ m ih =>
      intro i hi hi1
      refine r_iload_n 0 X dX2_areThoseOf_15 rfl ?_
      refine r_aload_n 1 X dX2_areThoseOf_16 rfl ?_
      refine r_getf X dX2_areThoseOf_17 fX2_15 hm1 rfl ?_
      refine r_icmp_ge 52 X dX2_areThoseOf_20 (by decide) ⟨by omega, by omega⟩ ⟨by omega, by omega⟩ (fun c20 => ?_) (fun c20 => ?_)
      · refine r_iconst X dX2_areThoseOf_52 ?_
        refine r_zret X Y dX2_areThoseOf_53 (Or.inr rfl) (by decide) (by decide) ?_
        exact pv rfl
      · refine r_iload_n 0 X dX2_areThoseOf_23 rfl ?_
        refine r_bipush X dX2_areThoseOf_24 (by decide) ?_
        refine r_icmp_ge 52 X dX2_areThoseOf_26 (by decide) ⟨by omega, by omega⟩ ⟨by omega, by omega⟩ (fun c26 => ?_) (fun c26 => ?_)
        · exact absurd c26 (by omega)
        · refine r_aload_n 1 X dX2_areThoseOf_29 rfl ?_
          refine r_getf X dX2_areThoseOf_30 fX2_11 hm1 rfl ?_
          refine r_iload_n 0 X dX2_areThoseOf_33 rfl ?_
          refine r_iaload X dX2_areThoseOf_34 hk ⟨by omega, by omega⟩ (by decide) ?_
          refine r_aload_n 2 X dX2_areThoseOf_35 rfl ?_
          refine r_getf X dX2_areThoseOf_36 fX2_11 hm2 rfl ?_
          refine r_iload_n 0 X dX2_areThoseOf_39 rfl ?_
          refine r_iaload X dX2_areThoseOf_40 hk2 ⟨by omega, by omega⟩ (by decide) ?_
          have hA : ks ((i : Nat) : Int).toNat = (nthR r i : Int) := Rp_get hR (by omega)
          have hB : ks2 ((i : Nat) : Int).toNat = (nthR r i : Int) := Rp_get hR2 (by omega)
          have hn2 := nthR_b hb (by decide) i
          refine r_icmp_eq 46 X dX2_areThoseOf_41 (by decide) ⟨by omega, by omega⟩ ⟨by omega, by omega⟩ (fun c41 => ?_) (fun c41 => ?_)
          · refine r_iinc 0 (L' := [(2, iv ((i : Int) + 1)), (0, .ref f), (1, .ref f2)]) X dX2_areThoseOf_46 rfl (by decide) rfl ?_
            refine r_goto 15 X dX2_areThoseOf_49 (by decide) ?_
            exact ih (i + 1) (by omega) (by omega)
          · exact absurd (by omega) c41
  refine r_aload_n 0 X dX2_areThoseOf_0 rfl ?_
  refine r_getf X dX2_areThoseOf_1 fX2_15 hm1 rfl ?_
  refine r_aload_n 1 X dX2_areThoseOf_4 rfl ?_
  refine r_getf X dX2_areThoseOf_5 fX2_15 hm2 rfl ?_
  refine r_icmp_eq 13 X dX2_areThoseOf_8 (by decide) ⟨by omega, by omega⟩ ⟨by omega, by omega⟩ (fun c8 => ?_) (fun c8 => ?_)
  · refine r_iconst X dX2_areThoseOf_13 ?_
    refine r_istore_n (L' := [(2, iv 0), (0, .ref f), (1, .ref f2)]) X dX2_areThoseOf_14 (by decide) rfl ?_
    exact loop r.length 0 (by omega) (by omega)
  · exact absurd rfl c8
abbrev rX2_addStep : Room := { frames := 2, cells := 0, slots := 0, locals := 50 }
theorem c_X2_addStep {l : Launch} (hl : l.stackTraces = false) (D : va_G) (z0 : Nat) (h : Hp) (f k : Nat) (r : List Nat) (hm : Pm D h f k r) (hb : ∀ a ∈ r, a < 134217728) (w x y z : Int) (b A B C : Nat) (hw : I32 w) (hA : so w x + 2 * se w y + 2 * z = (A : Int)) (hB : 2 * so w x + se w y + 2 * z = (B : Int)) (hC : 2 * so w x + 2 * se w y + 3 * z = (C : Int)) (hbb : b ≤ 400) (hl1 : C ≤ b → A < 512 ∧ B < 512) (hC2 : C < 4096) (hr : C ≤ b → r.length < 64) : CC l yX2_addStep cX2_addStep 7 none rX2_addStep D z0 h [.ref f, iv w, iv x, iv y, iv z, iv (b : Int)] (fun w0 h' => w0 = none ∧ Pm D h' f k (stepR b A B C r) ∧ Keep (fun y => y = f ∨ y = k) h h') NX := by
  refine CC_of RX2 hl (by decide) rfl (Nat.le_of_ble_eq_true rfl) (fun K X Y Z hmn hKl => ?_)
  subst hKl
  show WW K D z0 7 h 0 0 0 [(0, .ref f), (1, iv w), (2, iv x), (3, iv y), (4, iv z), (5, iv (b : Int))] []
  refine r_iload_n 1 X dX2_addStep_0 rfl ?_
  refine r_iload_n 2 X dX2_addStep_1 rfl ?_
  refine r_iload_n 3 X dX2_addStep_2 rfl ?_
  refine r_iload 4 X dX2_addStep_3 rfl ?_
  refine r_callS_v X dX2_addStep_5 kX2_61 (c_X3_longest (CX_l X) D z0 h w x y z ⟨by omega, by omega⟩) [] rfl rfl (Nat.le_of_ble_eq_true rfl) (by decide) rfl rfl (by decide) ?_
  rw [hC]
  show WW K D z0 7 h 0 0 8 [(0, .ref f), (1, iv w), (2, iv x), (3, iv y), (4, iv z), (5, iv (b : Int))] [iv (C : Int)]
  refine r_istore (L' := [(6, iv (C : Int)), (0, .ref f), (1, iv w), (2, iv x), (3, iv y), (4, iv z), (5, iv (b : Int))]) X dX2_addStep_8 (by decide) rfl ?_
  refine r_iload 0 X dX2_addStep_10 rfl ?_
  refine r_iload 6 X dX2_addStep_12 rfl ?_
  refine r_icmp_gt 39 X dX2_addStep_14 (by decide) ⟨by omega, by omega⟩ ⟨by omega, by omega⟩ (fun c14 => ?_) (fun c14 => ?_)
  · refine r_vret X Y dX2_addStep_39 (by decide) (by decide) ?_
    exact ⟨rfl, by unfold stepR; rw [if_neg (by omega)]; exact hm, Keep_rf⟩
  · refine r_aload_n 1 X dX2_addStep_17 rfl ?_
    refine r_iload_n 2 X dX2_addStep_18 rfl ?_
    refine r_iload_n 3 X dX2_addStep_19 rfl ?_
    refine r_iload_n 4 X dX2_addStep_20 rfl ?_
    refine r_iload 5 X dX2_addStep_21 rfl ?_
    refine r_callS_v X dX2_addStep_23 kX2_65 (c_X3_oddLeg (CX_l X) D z0 h w x y z ⟨by omega, by omega⟩) [.ref f] rfl rfl (Nat.le_of_ble_eq_true rfl) (by decide) rfl rfl (by decide) ?_
    rw [hA]
    show WW K D z0 7 h 0 0 26 [(6, iv (C : Int)), (0, .ref f), (1, iv w), (2, iv x), (3, iv y), (4, iv z), (5, iv (b : Int))] [iv (A : Int), .ref f]
    refine r_iload_n 2 X dX2_addStep_26 rfl ?_
    refine r_iload_n 3 X dX2_addStep_27 rfl ?_
    refine r_iload_n 4 X dX2_addStep_28 rfl ?_
    refine r_iload 5 X dX2_addStep_29 rfl ?_
    refine r_callS_v X dX2_addStep_31 kX2_68 (c_X3_evenLeg (CX_l X) D z0 h w x y z ⟨by omega, by omega⟩) [iv (A : Int), .ref f] rfl rfl (Nat.le_of_ble_eq_true rfl) (by decide) rfl rfl (by decide) ?_
    rw [hB]
    show WW K D z0 7 h 0 0 34 [(6, iv (C : Int)), (0, .ref f), (1, iv w), (2, iv x), (3, iv y), (4, iv z), (5, iv (b : Int))] [iv (B : Int), iv (A : Int), .ref f]
    refine r_iload 0 X dX2_addStep_34 rfl ?_
    refine r_callV X dX2_addStep_36 kX2_44 hm.1 (c_X2_add (CX_l X) D z0 h f k r hm (hr (by omega)) hb A B C (hl1 (by omega)).1 (hl1 (by omega)).2 (by omega)) [] rfl rfl (Nat.le_of_ble_eq_true rfl) (by decide) (by decide) (fun _ _ z => z.elim) (fun v9 h9 hv9 => ?_)
    obtain ⟨rfl, hm9, hk9⟩ := hv9
    show WW K D z0 7 h9 0 0 39 [(6, iv (C : Int)), (0, .ref f), (1, iv w), (2, iv x), (3, iv y), (4, iv z), (5, iv (b : Int))] []
    refine r_vret X Y dX2_addStep_39 (by decide) (by decide) ?_
    exact ⟨rfl, by unfold stepR; rw [if_pos (by omega)]; exact hm9, hk9⟩
