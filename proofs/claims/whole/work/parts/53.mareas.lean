/-! the model: areas and circles -/
theorem wq_z1 (k : Int) : wq 0 k = 0 := by
  unfold wq
  rw [Int.zero_ediv]
  split <;> rfl
theorem wq_z2 (k : Int) : wq k 0 = 0 := by
  unfold wq
  rw [if_neg (fun z => absurd z.1 (by decide))]
theorem rS_f {a b c : Int} (hv : TV a b c) : (1 ≤ rS a b c ∧ rS a b c ≤ 17179869184) ∧ ((sS a b c = 1 ∧ rtS (Sx a b c) = rS a b c) ∨ (sS a b c = 0 ∧ rtS (Sx a b c) = 0)) := by
  have hS := Sx_b hv
  have hs := isq_spec_int (n := Sx a b c) (by omega)
  have hr : rS a b c = ((isq (Sx a b c).toNat : Nat) : Int) := rfl
  rw [← hr] at hs
  refine ⟨⟨?_, ?_⟩, ?_⟩
  · apply Int.not_lt.mp
    intro z
    have : rS a b c = 0 := by omega
    rw [this] at hs
    omega
  · apply Int.not_lt.mp
    intro z
    have := (mlb (a := 17179869184) (b := 17179869184) (by omega) (Int.le_of_lt z) (by omega) (Int.le_of_lt z)).2
    omega
  · unfold sS rtS
    rw [← hr]
    split
    · exact Or.inl ⟨rfl, rfl⟩
    · exact Or.inr ⟨rfl, rfl⟩
abbrev rX7_hasArea : Room := { frames := 3, cells := 0, slots := 0, locals := 82 }
theorem c_X7_hasArea {l : Launch} (hl : l.stackTraces = false) (D : va_G) (z0 : Nat) (h : Hp) {y : Nat} {v : Nat → Nat} {σ : Tg} {e1 e2 e3 od : Nat → Int} {lc oc tc hi lo rf sq : Int} (hm : Mz D h y v (fA σ) (fB σ) (fC σ) e1 e2 e3 od lc oc tc hi lo rf sq) (ht : TVs σ) (p : Int) (hp : pl p) (a b c : Int) (hs : σ p.toNat = some (a, b, c)) : CC l yX7_hasArea cX7_hasArea 2 (some .boolean) rX7_hasArea D z0 h [.ref y, iv p] (fun w0 h' => w0 = some (iv (if 0 < wq (rtS (Sx a b c)) 4 then 1 else 0)) ∧ (∃ hi lo : Int, Mz D h' y v (fA σ) (fB σ) (fC σ) e1 e2 e3 od lc oc tc hi lo (rS a b c) (sS a b c)) ∧ Keep (WM y v) h h') NX := by
  refine CC_of RX7 hl (by decide) rfl (Nat.le_of_ble_eq_true rfl) (fun K X Y Z hmn hKl => ?_)
  subst hKl
  have hv := ht p.toNat (by omega) a b c hs
  have hb := TV_b hv
  have hrf := rS_f hv
  have hw4 := wq4_b hv
  show WW K D z0 2 h 0 0 0 [(0, .ref y), (1, iv p)] []
  refine r_aload_n 0 X dX7_hasArea_0 rfl ?_
  refine r_iload_n 1 X dX7_hasArea_1 rfl ?_
  refine r_callV X dX7_hasArea_2 kX7_127 hm.1 (c_X7_findRoot (CX_l X) D z0 _ hm ht p (by omega) a b c hs ) [] rfl rfl (Nat.le_of_ble_eq_true rfl) (by decide) (by decide) (fun _ _ z => z.elim) (fun v9 hq2 hv9 => ?_)
  obtain ⟨rfl, ⟨hi2, lo2, hm2⟩, kp2⟩ := hv9
  show WW K D z0 2 hq2 0 0 5 [(0, .ref y), (1, iv p)] []
  refine r_aload_n 0 X dX7_hasArea_5 rfl ?_
  refine r_getf X dX7_hasArea_6 fX7_123 hm2.1 rfl ?_
  refine r_if_eq 29 X dX7_hasArea_9 (by decide) ⟨by omega, by omega⟩ (fun c9 => ?_) (fun c9 => ?_)
  · refine r_iconst X dX7_hasArea_29 ?_
    refine r_zret X Y dX7_hasArea_30 (Or.inl rfl) (by decide) (by decide) ?_
    exact ⟨congrArg (fun z => some (iv z)) (if_neg (by unfold wq; split <;> omega)).symm, ⟨_, _, hm2⟩, kp2⟩
  · refine r_aload_n 0 X dX7_hasArea_12 rfl ?_
    refine r_getf X dX7_hasArea_13 fX7_116 hm2.1 rfl ?_
    refine r_ldc2 4 X dX7_hasArea_16 nX7_121 (by decide) ?_
    refine r_lrem X dX7_hasArea_19 ⟨by omega, by omega⟩ ⟨by omega, by omega⟩ ?_
    refine r_lconst 0 X dX7_hasArea_20 (by decide) ?_
    refine r_lcmp_ne 29 X dX7_hasArea_21 dX7_hasArea_22 (by decide) ⟨by omega, by omega⟩ ⟨by omega, by omega⟩ (fun c21 => ?_) (fun c21 => ?_)
    · refine r_iconst X dX7_hasArea_29 ?_
      refine r_zret X Y dX7_hasArea_30 (Or.inl rfl) (by decide) (by decide) ?_
      exact ⟨congrArg (fun z => some (iv z)) (if_neg (by unfold wq; split <;> omega)).symm, ⟨_, _, hm2⟩, kp2⟩
    · refine r_iconst X dX7_hasArea_25 ?_
      refine r_goto 30 X dX7_hasArea_26 (by decide) ?_
      refine r_zret X Y dX7_hasArea_30 (Or.inr rfl) (by decide) (by decide) ?_
      exact ⟨congrArg (fun z => some (iv z)) (if_pos (by unfold wq; split <;> omega)).symm, ⟨_, _, hm2⟩, kp2⟩
abbrev rX7_areaIsWhole : Room := { frames := 4, cells := 0, slots := 0, locals := 103 }
theorem c_X7_areaIsWhole {l : Launch} (hl : l.stackTraces = false) (D : va_G) (z0 : Nat) (h : Hp) {y : Nat} {v : Nat → Nat} {σ : Tg} {e1 e2 e3 od : Nat → Int} {lc oc tc hi lo rf sq : Int} (hm : Mz D h y v (fA σ) (fB σ) (fC σ) e1 e2 e3 od lc oc tc hi lo rf sq) (ht : TVs σ) (p : Int) (hp0 : I32 p) : CC l yX7_areaIsWhole cX7_areaIsWhole 2 (some .boolean) rX7_areaIsWhole D z0 h [.ref y, iv p] (MO D y v σ σ e1 e2 e3 od lc oc (ms σ p 2) (iv (if 0 < on σ p (fun a b c => wq (rtS (Sx a b c)) 4) then 1 else 0)) (iv 0) h) NX := by
  refine CC_of RX7 hl (by decide) rfl (Nat.le_of_ble_eq_true rfl) (fun K X Y Z hmn hKl => ?_)
  subst hKl
  show WW K D z0 2 h 0 0 0 [(0, .ref y), (1, iv p)] []
  refine r_aload_n 0 X dX7_areaIsWhole_0 rfl ?_
  refine r_aload_n 0 X dX7_areaIsWhole_1 rfl ?_
  refine r_iload_n 1 X dX7_areaIsWhole_2 rfl ?_
  refine r_iconst X dX7_areaIsWhole_3 ?_
  refine r_callV_v X dX7_areaIsWhole_4 kX7_68 hm.1 (c_X7_missing (CX_l X) D z0 _ hm ht p 2 ⟨by omega, by omega⟩) [.ref y] rfl rfl (Nat.le_of_ble_eq_true rfl) (by decide) rfl rfl (by decide) ?_
  refine r_callV X dX7_areaIsWhole_7 kX7_57 hm.1 (c_X7_isWrong (CX_l X) D z0 _ hm (ms σ p 2) (ms_b ⟨by decide, by decide⟩)) [] rfl rfl (Nat.le_of_ble_eq_true rfl) (by decide) (by decide) (fun _ _ z => z.elim) (fun v9 hq7 hv9 => ?_)
  obtain ⟨rfl, hm7, kp7⟩ := hv9
  show WW K D z0 2 hq7 0 0 10 [(0, .ref y), (1, iv p)] [iv (if (ms σ p 2) ≠ 0 then 1 else 0)]
  refine r_ifb_ne 25 X dX7_areaIsWhole_10 (by decide) (fun c10 => ?_) (fun c10 => ?_)
  · refine r_iconst X dX7_areaIsWhole_25 ?_
    refine r_zret X Y dX7_areaIsWhole_26 (Or.inl rfl) (by decide) (by decide) ?_
    exact MO_w rfl (by first | decide | omega) hm7 kp7
  · have hcd : ms σ p 2 = 0 := by omega
    obtain ⟨hp_p, a, b, c, hs⟩ := ms_0 (by decide) hcd
    have hv := ht p.toNat (by omega) a b c hs
    have hb := TV_b hv
    have hrf := rS_f hv
    have hw4 := wq4_b hv
    refine r_aload_n 0 X dX7_areaIsWhole_13 rfl ?_
    refine r_iload_n 1 X dX7_areaIsWhole_14 rfl ?_
    refine r_callV X dX7_areaIsWhole_15 kX7_130 hm7.1 (c_X7_hasArea (CX_l X) D z0 _ hm7 ht p (by omega) a b c hs ) [] rfl rfl (Nat.le_of_ble_eq_true rfl) (by decide) (by decide) (fun _ _ z => z.elim) (fun v9 hq15 hv9 => ?_)
    obtain ⟨rfl, ⟨hi15, lo15, hm15⟩, kp15⟩ := hv9
    show WW K D z0 2 hq15 0 0 18 [(0, .ref y), (1, iv p)] [iv (if 0 < wq (rtS (Sx a b c)) 4 then 1 else 0)]
    refine r_ifb_eq 25 X dX7_areaIsWhole_18 (by decide) (fun c18 => ?_) (fun c18 => ?_)
    · refine r_iconst X dX7_areaIsWhole_25 ?_
      refine r_zret X Y dX7_areaIsWhole_26 (Or.inl rfl) (by decide) (by decide) ?_
      exact MO_k rfl (by omega) (by rw [on_s hs]; exact congrArg iv (if_neg (by assumption)).symm) hm15 (Keep_tr kp7 kp15)
    · refine r_iconst X dX7_areaIsWhole_21 ?_
      refine r_goto 26 X dX7_areaIsWhole_22 (by decide) ?_
      refine r_zret X Y dX7_areaIsWhole_26 (Or.inr rfl) (by decide) (by decide) ?_
      exact MO_k rfl (by omega) (by rw [on_s hs]; exact congrArg iv (if_pos (by assumption)).symm) hm15 (Keep_tr kp7 kp15)
abbrev rX7_area : Room := { frames := 4, cells := 0, slots := 0, locals := 103 }
theorem c_X7_area {l : Launch} (hl : l.stackTraces = false) (D : va_G) (z0 : Nat) (h : Hp) {y : Nat} {v : Nat → Nat} {σ : Tg} {e1 e2 e3 od : Nat → Int} {lc oc tc hi lo rf sq : Int} (hm : Mz D h y v (fA σ) (fB σ) (fC σ) e1 e2 e3 od lc oc tc hi lo rf sq) (ht : TVs σ) (p : Int) (hp0 : I32 p) : CC l yX7_area cX7_area 3 (some .long) rX7_area D z0 h [.ref y, iv p] (MO D y v σ σ e1 e2 e3 od lc oc (cdAr σ p) (jv (on σ p (fun a b c => wq (rtS (Sx a b c)) 4))) (jv 0) h) NX := by
  refine CC_of RX7 hl (by decide) rfl (Nat.le_of_ble_eq_true rfl) (fun K X Y Z hmn hKl => ?_)
  subst hKl
  show WW K D z0 3 h 0 0 0 [(0, .ref y), (1, iv p)] []
  refine r_aload_n 0 X dX7_area_0 rfl ?_
  refine r_iload_n 1 X dX7_area_1 rfl ?_
  refine r_iconst X dX7_area_2 ?_
  refine r_callV_v X dX7_area_3 kX7_68 hm.1 (c_X7_missing (CX_l X) D z0 _ hm ht p 2 ⟨by omega, by omega⟩) [] rfl rfl (Nat.le_of_ble_eq_true rfl) (by decide) rfl rfl (by decide) ?_
  refine r_istore_n (L' := [(2, iv (ms σ p 2)), (0, .ref y), (1, iv p)]) X dX7_area_6 (by decide) rfl ?_
  refine r_aload_n 1 X dX7_area_7 rfl ?_
  refine r_iload_n 0 X dX7_area_8 rfl ?_
  refine r_if_eq 16 X dX7_area_9 (by decide) (ms_b ⟨by decide, by decide⟩) (fun c9 => ?_) (fun c9 => ?_)
  · have hcd : ms σ p 2 = 0 := by omega
    obtain ⟨hp_p, a, b, c, hs⟩ := ms_0 (by decide) hcd
    have hv := ht p.toNat (by omega) a b c hs
    have hb := TV_b hv
    have hrf := rS_f hv
    have hw4 := wq4_b hv
    refine r_aload_n 1 X dX7_area_16 rfl ?_
    refine r_iload_n 2 X dX7_area_17 rfl ?_
    refine r_callV X dX7_area_18 kX7_130 hm.1 (c_X7_hasArea (CX_l X) D z0 _ hm ht p (by omega) a b c hs ) [.ref y] rfl rfl (Nat.le_of_ble_eq_true rfl) (by decide) (by decide) (fun _ _ z => z.elim) (fun v9 hq18 hv9 => ?_)
    obtain ⟨rfl, ⟨hi18, lo18, hm18⟩, kp18⟩ := hv9
    show WW K D z0 3 hq18 0 0 21 [(2, iv (ms σ p 2)), (0, .ref y), (1, iv p)] [iv (if 0 < wq (rtS (Sx a b c)) 4 then 1 else 0), .ref y]
    refine r_ifb_eq 28 X dX7_area_21 (by decide) (fun c21 => ?_) (fun c21 => ?_)
    · refine r_iconst X dX7_area_28 ?_
      refine r_callV X dX7_area_29 kX7_57 hm18.1 (c_X7_isWrong (CX_l X) D z0 _ hm18 3 ⟨by omega, by omega⟩) [] rfl rfl (Nat.le_of_ble_eq_true rfl) (by decide) (by decide) (fun _ _ z => z.elim) (fun v9 hq29 hv9 => ?_)
      obtain ⟨rfl, hm29, kp29⟩ := hv9
      show WW K D z0 3 hq29 0 0 32 [(2, iv (ms σ p 2)), (0, .ref y), (1, iv p)] [iv 1]
      refine r_if_eq 37 X dX7_area_32 (by decide) ⟨by omega, by omega⟩ (fun c32 => ?_) (fun c32 => ?_)
      · exfalso
        omega
      · refine r_lconst 0 X dX7_area_35 (by decide) ?_
        refine r_lret X Y dX7_area_36 (by decide) (by decide) ?_
        exact MO_w (by unfold cdAr; (try simp only [on_s hs, hs, isNone_f, isNone_t, true_or, or_true, false_or, or_false]); (repeat' split) <;> first | rfl | omega | contradiction | (exfalso; simp_all; done) | (exfalso; simp_all; omega)) (by first | decide | omega) hm29 (Keep_tr kp18 kp29)
    · refine r_iconst X dX7_area_24 ?_
      refine r_goto 29 X dX7_area_25 (by decide) ?_
      refine r_callV X dX7_area_29 kX7_57 hm18.1 (c_X7_isWrong (CX_l X) D z0 _ hm18 0 ⟨by omega, by omega⟩) [] rfl rfl (Nat.le_of_ble_eq_true rfl) (by decide) (by decide) (fun _ _ z => z.elim) (fun v9 hq29 hv9 => ?_)
      obtain ⟨rfl, hm29, kp29⟩ := hv9
      show WW K D z0 3 hq29 0 0 32 [(2, iv (ms σ p 2)), (0, .ref y), (1, iv p)] [iv 0]
      refine r_if_eq 37 X dX7_area_32 (by decide) ⟨by omega, by omega⟩ (fun c32 => ?_) (fun c32 => ?_)
      · refine r_aload_n 1 X dX7_area_37 rfl ?_
        refine r_getf X dX7_area_38 fX7_116 hm29.1 rfl ?_
        refine r_ldc2 4 X dX7_area_41 nX7_121 (by decide) ?_
        refine r_ldiv X dX7_area_44 ⟨by omega, by omega⟩ ⟨by omega, by omega⟩ ?_
        refine r_lret X Y dX7_area_45 (by decide) (by decide) ?_
        exact MO_k (by unfold cdAr; (try simp only [on_s hs, hs, isNone_f, isNone_t, true_or, or_true, false_or, or_false]); (repeat' split) <;> first | rfl | omega | contradiction | (exfalso; simp_all; done) | (exfalso; simp_all; omega)) rfl (by rw [on_s hs]; exact congrArg jv (by unfold wq at *; split at * <;> (try split) <;> omega)) hm29 (Keep_tr kp18 kp29)
      · exfalso
        omega
  · refine r_iload_n 0 X dX7_area_12 rfl ?_
    refine r_goto 29 X dX7_area_13 (by decide) ?_
    refine r_callV X dX7_area_29 kX7_57 hm.1 (c_X7_isWrong (CX_l X) D z0 _ hm (ms σ p 2) (ms_b ⟨by decide, by decide⟩)) [] rfl rfl (Nat.le_of_ble_eq_true rfl) (by decide) (by decide) (fun _ _ z => z.elim) (fun v9 hq29 hv9 => ?_)
    obtain ⟨rfl, hm29, kp29⟩ := hv9
    show WW K D z0 3 hq29 0 0 32 [(2, iv (ms σ p 2)), (0, .ref y), (1, iv p)] [iv (if (ms σ p 2) ≠ 0 then 1 else 0)]
    refine r_ifb_eq 37 X dX7_area_32 (by decide) (fun c32 => ?_) (fun c32 => ?_)
    · exfalso
      omega
    · refine r_lconst 0 X dX7_area_35 (by decide) ?_
      refine r_lret X Y dX7_area_36 (by decide) (by decide) ?_
      exact MO_w (by unfold cdAr; (try simp only [isNone_f, isNone_t, true_or, or_true, false_or, or_false]); (repeat' split) <;> first | rfl | omega | contradiction | (exfalso; simp_all; done) | (exfalso; simp_all; omega)) (by first | decide | omega) hm29 kp29
abbrev rX7_ratio : Room := { frames := 1, cells := 0, slots := 0, locals := 21 }
theorem c_X7_ratio {l : Launch} (hl : l.stackTraces = false) (D : va_G) (z0 : Nat) (h : Hp) {y : Nat} {v : Nat → Nat} {σ : Tg} {e1 e2 e3 od : Nat → Int} {lc oc tc hi lo rf sq : Int} (hm : Mz D h y v (fA σ) (fB σ) (fC σ) e1 e2 e3 od lc oc tc hi lo rf sq) (ht : TVs σ) (p : Int) (hp : pl p) (a b c : Int) (hs : σ p.toNat = some (a, b, c)) (hsq : sq = sS a b c) (i : Int) (hi0 : i = 0 ∨ i = 1) : CC l yX7_ratio cX7_ratio 9 (some .long) rX7_ratio D z0 h [.ref y, iv p, iv i, jv (rS a b c)] (PV (jv (if (if i = 1 then wq (rtS (Sx a b c)) (2 * (a + b + c)) else wq (2 * a * b * c) (rtS (Sx a b c))) = 0 then -1 else (if i = 1 then wq (rtS (Sx a b c)) (2 * (a + b + c)) else wq (2 * a * b * c) (rtS (Sx a b c))))) h) NX := by
  refine CC_of RX7 hl (by decide) rfl (Nat.le_of_ble_eq_true rfl) (fun K X Y Z hmn hKl => ?_)
  subst hKl
  have hv := ht p.toNat (by omega) a b c hs
  have hb := TV_b hv
  have hrf := rS_f hv
  have hw4 := wq4_b hv
  have q1 := mlb (a := 2 * a) (x := 131070) (b := b) (y := 65535) (by omega) (by omega) (by omega) (by omega)
  have q2 := mlb (a := 2 * a * b) (x := 131070 * 65535) (b := c) (y := 65535) q1.1 q1.2 (by omega) (by omega)
  have d1 : ∀ n m : Int, 0 < n → 0 < m → n % m = 0 → n / m ≠ 0 := by
    intro n m hn hm hz he
    have := Int.emod_add_mul_ediv n m
    rw [hz, he, Int.mul_zero] at this
    omega
  have d2 := d1 (rS a b c) (2 * (a + b + c)) (by omega) (by omega)
  have q3 : 0 < 2 * a * b * c := Int.mul_pos (Int.mul_pos (by omega) (by omega)) (by omega)
  have r1 := Int.emod_nonneg (rS a b c) (show 2 * (a + b + c) ≠ 0 by omega)
  have r2 := Int.emod_lt_of_pos (rS a b c) (show 0 < 2 * (a + b + c) by omega)
  have r3 := Int.emod_nonneg (2 * a * b * c) (show rS a b c ≠ 0 by omega)
  have r4 := Int.emod_lt_of_pos (2 * a * b * c) (show 0 < rS a b c by omega)
  have d3 := d1 (2 * a * b * c) (rS a b c) q3 (by omega)
  show WW K D z0 9 h 0 0 0 [(0, .ref y), (1, iv p), (2, iv i), (3, jv (rS a b c))] []
  refine r_iload_n 2 X dX7_ratio_0 rfl ?_
  refine r_if_eq 8 X dX7_ratio_1 (by decide) ⟨by omega, by omega⟩ (fun c1 => ?_) (fun c1 => ?_)
  · refine r_ldc2 2 X dX7_ratio_8 nX7_71 (by decide) ?_
    refine r_aload_n 0 X dX7_ratio_11 rfl ?_
    refine r_getf X dX7_ratio_12 fX7_7 hm.1 rfl ?_
    refine r_iload_n 1 X dX7_ratio_15 rfl ?_
    refine r_ialoadE X dX7_ratio_16 hm.2.1 ⟨by omega, by omega⟩ (by decide) (fA_s hs) ?_
    refine r_i2l X dX7_ratio_17 ⟨by omega, by omega⟩ ?_
    refine r_lmul X dX7_ratio_18 ?_
    refine r_aload_n 0 X dX7_ratio_19 rfl ?_
    refine r_getf X dX7_ratio_20 fX7_13 hm.1 rfl ?_
    refine r_iload_n 1 X dX7_ratio_23 rfl ?_
    refine r_ialoadE X dX7_ratio_24 hm.2.2.1 ⟨by omega, by omega⟩ (by decide) (fB_s hs) ?_
    refine r_i2l X dX7_ratio_25 ⟨by omega, by omega⟩ ?_
    refine r_lmul X dX7_ratio_26 ?_
    refine r_aload_n 0 X dX7_ratio_27 rfl ?_
    refine r_getf X dX7_ratio_28 fX7_16 hm.1 rfl ?_
    refine r_iload_n 1 X dX7_ratio_31 rfl ?_
    refine r_ialoadE X dX7_ratio_32 hm.2.2.2.1 ⟨by omega, by omega⟩ (by decide) (fC_s hs) ?_
    refine r_i2l X dX7_ratio_33 ⟨by omega, by omega⟩ ?_
    refine r_lmul X dX7_ratio_34 ?_
    refine r_lstore (L' := [(5, jv (((2 * a) * b) * c)), (0, .ref y), (1, iv p), (2, iv i), (3, jv (rS a b c))]) X dX7_ratio_35 (by decide) rfl ?_
    refine r_iload_n 3 X dX7_ratio_37 rfl ?_
    refine r_if_eq 54 X dX7_ratio_38 (by decide) ⟨by omega, by omega⟩ (fun c38 => ?_) (fun c38 => ?_)
    · refine r_lload_n 4 X dX7_ratio_54 rfl ?_
      refine r_lstore (L' := [(7, jv (rS a b c)), (5, jv (((2 * a) * b) * c)), (0, .ref y), (1, iv p), (2, iv i), (3, jv (rS a b c))]) X dX7_ratio_55 (by decide) rfl ?_
      refine r_aload_n 2 X dX7_ratio_57 rfl ?_
      refine r_getf X dX7_ratio_58 fX7_123 hm.1 rfl ?_
      refine r_if_eq 82 X dX7_ratio_61 (by decide) ⟨by omega, by omega⟩ (fun c61 => ?_) (fun c61 => ?_)
      · refine r_ldc2 (-1) X dX7_ratio_82 nX7_133 (by decide) ?_
        refine r_lret X Y dX7_ratio_85 (by decide) (by decide) ?_
        exact pv_j (by rcases hrf.2 with ⟨w1, w2⟩ | ⟨w1, w2⟩ <;> rw [w2] <;> (try rw [wq_z1, wq_z2]) <;> (try unfold wq) <;> (repeat' split) <;> omega)
      · refine r_lload 1 X dX7_ratio_64 rfl ?_
        refine r_lload 0 X dX7_ratio_66 rfl ?_
        refine r_lrem X dX7_ratio_68 ⟨by omega, by omega⟩ ⟨by omega, by omega⟩ ?_
        refine r_lconst 0 X dX7_ratio_69 (by decide) ?_
        refine r_lcmp_ne 82 X dX7_ratio_70 dX7_ratio_71 (by decide) ⟨by omega, by omega⟩ ⟨by omega, by omega⟩ (fun c70 => ?_) (fun c70 => ?_)
        · refine r_ldc2 (-1) X dX7_ratio_82 nX7_133 (by decide) ?_
          refine r_lret X Y dX7_ratio_85 (by decide) (by decide) ?_
          exact pv_j (by rcases hrf.2 with ⟨w1, w2⟩ | ⟨w1, w2⟩ <;> rw [w2] <;> (try rw [wq_z1, wq_z2]) <;> (try unfold wq) <;> (repeat' split) <;> omega)
        · refine r_lload 1 X dX7_ratio_74 rfl ?_
          refine r_lload 0 X dX7_ratio_76 rfl ?_
          refine r_ldiv X dX7_ratio_78 ⟨by omega, by omega⟩ ⟨by omega, by omega⟩ ?_
          refine r_goto 85 X dX7_ratio_79 (by decide) ?_
          refine r_lret X Y dX7_ratio_85 (by decide) (by decide) ?_
          exact pv_j (by rcases hrf.2 with ⟨w1, w2⟩ | ⟨w1, w2⟩ <;> rw [w2] <;> (try rw [wq_z1, wq_z2]) <;> (try unfold wq) <;> (repeat' split) <;> omega)
    · refine r_ldc2 2 X dX7_ratio_41 nX7_71 (by decide) ?_
      refine r_aload_n 1 X dX7_ratio_44 rfl ?_
      refine r_iload_n 2 X dX7_ratio_45 rfl ?_
      refine r_callV_v X dX7_ratio_46 kX7_96 hm.1 (c_X7_aroundH (CX_l X) D z0 _ hm ht p (by omega) a b c hs) [jv 2] rfl rfl (Nat.le_of_ble_eq_true rfl) (by decide) rfl rfl (by decide) ?_
      refine r_i2l X dX7_ratio_49 ⟨by omega, by omega⟩ ?_
      refine r_lmul X dX7_ratio_50 ?_
      refine r_goto 55 X dX7_ratio_51 (by decide) ?_
      refine r_lstore (L' := [(7, jv (2 * (a + b + c))), (5, jv (((2 * a) * b) * c)), (0, .ref y), (1, iv p), (2, iv i), (3, jv (rS a b c))]) X dX7_ratio_55 (by decide) rfl ?_
      refine r_aload_n 2 X dX7_ratio_57 rfl ?_
      refine r_getf X dX7_ratio_58 fX7_123 hm.1 rfl ?_
      refine r_if_eq 82 X dX7_ratio_61 (by decide) ⟨by omega, by omega⟩ (fun c61 => ?_) (fun c61 => ?_)
      · refine r_ldc2 (-1) X dX7_ratio_82 nX7_133 (by decide) ?_
        refine r_lret X Y dX7_ratio_85 (by decide) (by decide) ?_
        exact pv_j (by rcases hrf.2 with ⟨w1, w2⟩ | ⟨w1, w2⟩ <;> rw [w2] <;> (try rw [wq_z1, wq_z2]) <;> (try unfold wq) <;> (repeat' split) <;> omega)
      · refine r_lload 1 X dX7_ratio_64 rfl ?_
        refine r_lload 0 X dX7_ratio_66 rfl ?_
        refine r_lrem X dX7_ratio_68 ⟨by omega, by omega⟩ ⟨by omega, by omega⟩ ?_
        refine r_lconst 0 X dX7_ratio_69 (by decide) ?_
        refine r_lcmp_ne 82 X dX7_ratio_70 dX7_ratio_71 (by decide) ⟨by omega, by omega⟩ ⟨by omega, by omega⟩ (fun c70 => ?_) (fun c70 => ?_)
        · refine r_ldc2 (-1) X dX7_ratio_82 nX7_133 (by decide) ?_
          refine r_lret X Y dX7_ratio_85 (by decide) (by decide) ?_
          exact pv_j (by rcases hrf.2 with ⟨w1, w2⟩ | ⟨w1, w2⟩ <;> rw [w2] <;> (try rw [wq_z1, wq_z2]) <;> (try unfold wq) <;> (repeat' split) <;> omega)
        · refine r_lload 1 X dX7_ratio_74 rfl ?_
          refine r_lload 0 X dX7_ratio_76 rfl ?_
          refine r_ldiv X dX7_ratio_78 ⟨by omega, by omega⟩ ⟨by omega, by omega⟩ ?_
          refine r_goto 85 X dX7_ratio_79 (by decide) ?_
          refine r_lret X Y dX7_ratio_85 (by decide) (by decide) ?_
          exact pv_j (by rcases hrf.2 with ⟨w1, w2⟩ | ⟨w1, w2⟩ <;> rw [w2] <;> (try rw [wq_z1, wq_z2]) <;> (try unfold wq) <;> (repeat' split) <;> omega)
  · refine r_lload_n 3 X dX7_ratio_4 rfl ?_
    refine r_goto 35 X dX7_ratio_5 (by decide) ?_
    refine r_lstore (L' := [(5, jv (rS a b c)), (0, .ref y), (1, iv p), (2, iv i), (3, jv (rS a b c))]) X dX7_ratio_35 (by decide) rfl ?_
    refine r_iload_n 3 X dX7_ratio_37 rfl ?_
    refine r_if_eq 54 X dX7_ratio_38 (by decide) ⟨by omega, by omega⟩ (fun c38 => ?_) (fun c38 => ?_)
    · refine r_lload_n 4 X dX7_ratio_54 rfl ?_
      refine r_lstore (L' := [(7, jv (rS a b c)), (5, jv (rS a b c)), (0, .ref y), (1, iv p), (2, iv i), (3, jv (rS a b c))]) X dX7_ratio_55 (by decide) rfl ?_
      refine r_aload_n 2 X dX7_ratio_57 rfl ?_
      refine r_getf X dX7_ratio_58 fX7_123 hm.1 rfl ?_
      refine r_if_eq 82 X dX7_ratio_61 (by decide) ⟨by omega, by omega⟩ (fun c61 => ?_) (fun c61 => ?_)
      · refine r_ldc2 (-1) X dX7_ratio_82 nX7_133 (by decide) ?_
        refine r_lret X Y dX7_ratio_85 (by decide) (by decide) ?_
        exact pv_j (by rcases hrf.2 with ⟨w1, w2⟩ | ⟨w1, w2⟩ <;> rw [w2] <;> (try rw [wq_z1, wq_z2]) <;> (try unfold wq) <;> (repeat' split) <;> omega)
      · refine r_lload 1 X dX7_ratio_64 rfl ?_
        refine r_lload 0 X dX7_ratio_66 rfl ?_
        refine r_lrem X dX7_ratio_68 ⟨by omega, by omega⟩ ⟨by omega, by omega⟩ ?_
        refine r_lconst 0 X dX7_ratio_69 (by decide) ?_
        refine r_lcmp_ne 82 X dX7_ratio_70 dX7_ratio_71 (by decide) ⟨by omega, by omega⟩ ⟨by omega, by omega⟩ (fun c70 => ?_) (fun c70 => ?_)
        · refine r_ldc2 (-1) X dX7_ratio_82 nX7_133 (by decide) ?_
          refine r_lret X Y dX7_ratio_85 (by decide) (by decide) ?_
          exact pv_j (by rcases hrf.2 with ⟨w1, w2⟩ | ⟨w1, w2⟩ <;> rw [w2] <;> (try rw [wq_z1, wq_z2]) <;> (try unfold wq) <;> (repeat' split) <;> omega)
        · refine r_lload 1 X dX7_ratio_74 rfl ?_
          refine r_lload 0 X dX7_ratio_76 rfl ?_
          refine r_ldiv X dX7_ratio_78 ⟨by omega, by omega⟩ ⟨by omega, by omega⟩ ?_
          refine r_goto 85 X dX7_ratio_79 (by decide) ?_
          refine r_lret X Y dX7_ratio_85 (by decide) (by decide) ?_
          exact pv_j (by rcases hrf.2 with ⟨w1, w2⟩ | ⟨w1, w2⟩ <;> rw [w2] <;> (try rw [wq_z1, wq_z2]) <;> (try unfold wq) <;> (repeat' split) <;> omega)
    · refine r_ldc2 2 X dX7_ratio_41 nX7_71 (by decide) ?_
      refine r_aload_n 1 X dX7_ratio_44 rfl ?_
      refine r_iload_n 2 X dX7_ratio_45 rfl ?_
      refine r_callV_v X dX7_ratio_46 kX7_96 hm.1 (c_X7_aroundH (CX_l X) D z0 _ hm ht p (by omega) a b c hs) [jv 2] rfl rfl (Nat.le_of_ble_eq_true rfl) (by decide) rfl rfl (by decide) ?_
      refine r_i2l X dX7_ratio_49 ⟨by omega, by omega⟩ ?_
      refine r_lmul X dX7_ratio_50 ?_
      refine r_goto 55 X dX7_ratio_51 (by decide) ?_
      refine r_lstore (L' := [(7, jv (2 * (a + b + c))), (5, jv (rS a b c)), (0, .ref y), (1, iv p), (2, iv i), (3, jv (rS a b c))]) X dX7_ratio_55 (by decide) rfl ?_
      refine r_aload_n 2 X dX7_ratio_57 rfl ?_
      refine r_getf X dX7_ratio_58 fX7_123 hm.1 rfl ?_
      refine r_if_eq 82 X dX7_ratio_61 (by decide) ⟨by omega, by omega⟩ (fun c61 => ?_) (fun c61 => ?_)
      · refine r_ldc2 (-1) X dX7_ratio_82 nX7_133 (by decide) ?_
        refine r_lret X Y dX7_ratio_85 (by decide) (by decide) ?_
        exact pv_j (by rcases hrf.2 with ⟨w1, w2⟩ | ⟨w1, w2⟩ <;> rw [w2] <;> (try rw [wq_z1, wq_z2]) <;> (try unfold wq) <;> (repeat' split) <;> omega)
      · refine r_lload 1 X dX7_ratio_64 rfl ?_
        refine r_lload 0 X dX7_ratio_66 rfl ?_
        refine r_lrem X dX7_ratio_68 ⟨by omega, by omega⟩ ⟨by omega, by omega⟩ ?_
        refine r_lconst 0 X dX7_ratio_69 (by decide) ?_
        refine r_lcmp_ne 82 X dX7_ratio_70 dX7_ratio_71 (by decide) ⟨by omega, by omega⟩ ⟨by omega, by omega⟩ (fun c70 => ?_) (fun c70 => ?_)
        · refine r_ldc2 (-1) X dX7_ratio_82 nX7_133 (by decide) ?_
          refine r_lret X Y dX7_ratio_85 (by decide) (by decide) ?_
          exact pv_j (by rcases hrf.2 with ⟨w1, w2⟩ | ⟨w1, w2⟩ <;> rw [w2] <;> (try rw [wq_z1, wq_z2]) <;> (try unfold wq) <;> (repeat' split) <;> omega)
        · refine r_lload 1 X dX7_ratio_74 rfl ?_
          refine r_lload 0 X dX7_ratio_76 rfl ?_
          refine r_ldiv X dX7_ratio_78 ⟨by omega, by omega⟩ ⟨by omega, by omega⟩ ?_
          refine r_goto 85 X dX7_ratio_79 (by decide) ?_
          refine r_lret X Y dX7_ratio_85 (by decide) (by decide) ?_
          exact pv_j (by rcases hrf.2 with ⟨w1, w2⟩ | ⟨w1, w2⟩ <;> rw [w2] <;> (try rw [wq_z1, wq_z2]) <;> (try unfold wq) <;> (repeat' split) <;> omega)
abbrev rX7_round : Room := { frames := 3, cells := 0, slots := 0, locals := 82 }
theorem c_X7_round {l : Launch} (hl : l.stackTraces = false) (D : va_G) (z0 : Nat) (h : Hp) {y : Nat} {v : Nat → Nat} {σ : Tg} {e1 e2 e3 od : Nat → Int} {lc oc tc hi lo rf sq : Int} (hm : Mz D h y v (fA σ) (fB σ) (fC σ) e1 e2 e3 od lc oc tc hi lo rf sq) (ht : TVs σ) (p : Int) (hp : pl p) (a b c : Int) (hs : σ p.toNat = some (a, b, c)) (w : Int) (hw : 0 ≤ w ∧ w ≤ 65535) : CC l yX7_round cX7_round 3 (some .long) rX7_round D z0 h [.ref y, iv p, iv w] (fun w0 h' => w0 = some (jv (if vCi σ p w = 0 then -1 else vCi σ p w)) ∧ (∃ hi lo : Int, Mz D h' y v (fA σ) (fB σ) (fC σ) e1 e2 e3 od lc oc tc hi lo (rS a b c) (sS a b c)) ∧ Keep (WM y v) h h') NX := by
  refine CC_of RX7 hl (by decide) rfl (Nat.le_of_ble_eq_true rfl) (fun K X Y Z hmn hKl => ?_)
  subst hKl
  have hv := ht p.toNat (by omega) a b c hs
  have hb := TV_b hv
  have hrf := rS_f hv
  have hw4 := wq4_b hv
  show WW K D z0 3 h 0 0 0 [(0, .ref y), (1, iv p), (2, iv w)] []
  refine r_aload_n 0 X dX7_round_0 rfl ?_
  refine r_iload_n 1 X dX7_round_1 rfl ?_
  refine r_callV X dX7_round_2 kX7_127 hm.1 (c_X7_findRoot (CX_l X) D z0 _ hm ht p (by omega) a b c hs ) [] rfl rfl (Nat.le_of_ble_eq_true rfl) (by decide) (by decide) (fun _ _ z => z.elim) (fun v9 hq2 hv9 => ?_)
  obtain ⟨rfl, ⟨hi2, lo2, hm2⟩, kp2⟩ := hv9
  show WW K D z0 3 hq2 0 0 5 [(0, .ref y), (1, iv p), (2, iv w)] []
  refine r_aload_n 0 X dX7_round_5 rfl ?_
  refine r_iload_n 1 X dX7_round_6 rfl ?_
  refine r_iload_n 2 X dX7_round_7 rfl ?_
  refine r_bipush X dX7_round_8 (by decide) ?_
  refine r_icmp_ne 17 X dX7_round_10 (by decide) ⟨by omega, by omega⟩ ⟨by omega, by omega⟩ (fun c10 => ?_) (fun c10 => ?_)
  · refine r_iconst X dX7_round_17 ?_
    refine r_aload_n 0 X dX7_round_18 rfl ?_
    refine r_getf X dX7_round_19 fX7_116 hm2.1 rfl ?_
    refine r_callV_v X dX7_round_22 kX7_135 hm2.1 (c_X7_ratio (CX_l X) D z0 _ hm2 ht p (by omega) a b c hs rfl 0 (by omega)) [] rfl rfl (Nat.le_of_ble_eq_true rfl) (by decide) rfl rfl (by decide) ?_
    refine r_lret X Y dX7_round_25 (by decide) (by decide) ?_
    have hx : vCi σ p w = wq (2 * a * b * c) (rtS (Sx a b c)) := by unfold vCi; rw [on_s hs, if_neg (by omega)]
    exact ⟨congrArg (fun z => some (jv z)) (show _ = (if vCi σ p w = 0 then -1 else vCi σ p w) by rw [hx]; rfl), ⟨_, _, hm2⟩, kp2⟩
  · refine r_iconst X dX7_round_13 ?_
    refine r_goto 18 X dX7_round_14 (by decide) ?_
    refine r_aload_n 0 X dX7_round_18 rfl ?_
    refine r_getf X dX7_round_19 fX7_116 hm2.1 rfl ?_
    refine r_callV_v X dX7_round_22 kX7_135 hm2.1 (c_X7_ratio (CX_l X) D z0 _ hm2 ht p (by omega) a b c hs rfl 1 (by omega)) [] rfl rfl (Nat.le_of_ble_eq_true rfl) (by decide) rfl rfl (by decide) ?_
    refine r_lret X Y dX7_round_25 (by decide) (by decide) ?_
    have hx : vCi σ p w = wq (rtS (Sx a b c)) (2 * (a + b + c)) := by unfold vCi; rw [on_s hs, if_pos (by omega)]
    exact ⟨congrArg (fun z => some (jv z)) (show _ = (if vCi σ p w = 0 then -1 else vCi σ p w) by rw [hx]; rfl), ⟨_, _, hm2⟩, kp2⟩
abbrev rX7_circle : Room := { frames := 4, cells := 0, slots := 0, locals := 104 }
theorem c_X7_circle {l : Launch} (hl : l.stackTraces = false) (D : va_G) (z0 : Nat) (h : Hp) {y : Nat} {v : Nat → Nat} {σ : Tg} {e1 e2 e3 od : Nat → Int} {lc oc tc hi lo rf sq : Int} (hm : Mz D h y v (fA σ) (fB σ) (fC σ) e1 e2 e3 od lc oc tc hi lo rf sq) (ht : TVs σ) (p : Int) (hp0 : I32 p) (w : Int) (hw : 0 ≤ w ∧ w ≤ 65535) : CC l yX7_circle cX7_circle 4 (some .long) rX7_circle D z0 h [.ref y, iv p, iv w] (MO D y v σ σ e1 e2 e3 od lc oc (cdCi σ p w) (jv (vCi σ p w)) (jv 0) h) NX := by
  refine CC_of RX7 hl (by decide) rfl (Nat.le_of_ble_eq_true rfl) (fun K X Y Z hmn hKl => ?_)
  subst hKl
  show WW K D z0 4 h 0 0 0 [(0, .ref y), (1, iv p), (2, iv w)] []
  refine r_iload_n 2 X dX7_circle_0 rfl ?_
  refine r_bipush X dX7_circle_1 (by decide) ?_
  refine r_icmp_eq 12 X dX7_circle_3 (by decide) ⟨by omega, by omega⟩ ⟨by omega, by omega⟩ (fun c3 => ?_) (fun c3 => ?_)
  · refine r_iconst X dX7_circle_12 ?_
    refine r_goto 17 X dX7_circle_13 (by decide) ?_
    refine r_istore_n (L' := [(3, iv 1), (0, .ref y), (1, iv p), (2, iv w)]) X dX7_circle_17 (by decide) rfl ?_
    refine r_aload_n 1 X dX7_circle_18 rfl ?_
    refine r_iload_n 2 X dX7_circle_19 rfl ?_
    refine r_callS_v X dX7_circle_20 kX7_41 (c_X7_isPlace (CX_l X) D z0 _ p ⟨by omega, by omega⟩) [.ref y] rfl rfl (Nat.le_of_ble_eq_true rfl) (by decide) rfl rfl (by decide) ?_
    refine r_ifb_ne 30 X dX7_circle_23 (by decide) (fun c23 => ?_) (fun c23 => ?_)
    · refine r_iload_n 0 X dX7_circle_30 rfl ?_
      refine r_if_ne 38 X dX7_circle_31 (by decide) ⟨by omega, by omega⟩ (fun c31 => ?_) (fun c31 => ?_)
      · refine r_aload_n 1 X dX7_circle_38 rfl ?_
        refine r_iload_n 2 X dX7_circle_39 rfl ?_
        refine r_callV_v X dX7_circle_40 kX7_45 hm.1 (c_X7_isThere (CX_l X) D z0 _ hm ht p (by omega)) [.ref y] rfl rfl (Nat.le_of_ble_eq_true rfl) (by decide) rfl rfl (by decide) ?_
        refine r_ifb_ne 50 X dX7_circle_43 (by decide) (fun c43 => ?_) (fun c43 => ?_)
        · obtain ⟨a, b, c, hs⟩ := some_of (σ := σ) (i := p.toNat) (by assumption)
          have hv := ht p.toNat (by omega) a b c hs
          have hb := TV_b hv
          have hrf := rS_f hv
          have hvb : 0 ≤ vCi σ p w ∧ vCi σ p w ≤ 562924184010750 := by
            have q1 := wqi_b hv
            have q2 := wqo_b hv
            unfold vCi
            rw [on_s hs]
            split <;> omega
          refine r_aload_n 1 X dX7_circle_50 rfl ?_
          refine r_iload_n 2 X dX7_circle_51 rfl ?_
          refine r_iload_n 3 X dX7_circle_52 rfl ?_
          refine r_callV X dX7_circle_53 kX7_139 hm.1 (c_X7_round (CX_l X) D z0 _ hm ht p (by omega) a b c hs w (by omega)) [.ref y] rfl rfl (Nat.le_of_ble_eq_true rfl) (by decide) (by decide) (fun _ _ z => z.elim) (fun v9 hq53 hv9 => ?_)
          obtain ⟨rfl, ⟨hi53, lo53, hm53⟩, kp53⟩ := hv9
          show WW K D z0 4 hq53 0 0 56 [(3, iv 1), (0, .ref y), (1, iv p), (2, iv w)] [jv (if vCi σ p w = 0 then -1 else vCi σ p w), .ref y]
          refine r_lconst 0 X dX7_circle_56 (by decide) ?_
          refine r_lcmp_ge 65 X dX7_circle_57 dX7_circle_58 (by decide) ⟨by omega, by omega⟩ ⟨by omega, by omega⟩ (fun c57 => ?_) (fun c57 => ?_)
          · refine r_iconst X dX7_circle_65 ?_
            refine r_callV X dX7_circle_66 kX7_57 hm53.1 (c_X7_isWrong (CX_l X) D z0 _ hm53 0 ⟨by omega, by omega⟩) [] rfl rfl (Nat.le_of_ble_eq_true rfl) (by decide) (by decide) (fun _ _ z => z.elim) (fun v9 hq66 hv9 => ?_)
            obtain ⟨rfl, hm66, kp66⟩ := hv9
            show WW K D z0 4 hq66 0 0 69 [(3, iv 1), (0, .ref y), (1, iv p), (2, iv w)] [iv 0]
            refine r_if_eq 74 X dX7_circle_69 (by decide) ⟨by omega, by omega⟩ (fun c69 => ?_) (fun c69 => ?_)
            · refine r_aload_n 1 X dX7_circle_74 rfl ?_
              refine r_iload_n 2 X dX7_circle_75 rfl ?_
              refine r_iload_n 3 X dX7_circle_76 rfl ?_
              refine r_callV X dX7_circle_77 kX7_139 hm66.1 (c_X7_round (CX_l X) D z0 _ hm66 ht p (by omega) a b c hs w (by omega)) [] rfl rfl (Nat.le_of_ble_eq_true rfl) (by decide) (by decide) (fun _ _ z => z.elim) (fun v9 hq77 hv9 => ?_)
              obtain ⟨rfl, ⟨hi77, lo77, hm77⟩, kp77⟩ := hv9
              show WW K D z0 4 hq77 0 0 80 [(3, iv 1), (0, .ref y), (1, iv p), (2, iv w)] [jv (if vCi σ p w = 0 then -1 else vCi σ p w)]
              refine r_lret X Y dX7_circle_80 (by decide) (by decide) ?_
              exact MO_k (by unfold cdCi; (try simp only [on_s hs, hs, isNone_f, isNone_t, true_or, or_true, false_or, or_false]); (repeat' split) <;> first | rfl | omega | contradiction | (exfalso; simp_all; done) | (exfalso; simp_all; omega)) rfl (congrArg jv (if_neg (by omega))) hm77 (Keep_tr (Keep_tr kp53 kp66) kp77)
            · exfalso
              omega
          · refine r_iconst X dX7_circle_61 ?_
            refine r_goto 66 X dX7_circle_62 (by decide) ?_
            refine r_callV X dX7_circle_66 kX7_57 hm53.1 (c_X7_isWrong (CX_l X) D z0 _ hm53 4 ⟨by omega, by omega⟩) [] rfl rfl (Nat.le_of_ble_eq_true rfl) (by decide) (by decide) (fun _ _ z => z.elim) (fun v9 hq66 hv9 => ?_)
            obtain ⟨rfl, hm66, kp66⟩ := hv9
            show WW K D z0 4 hq66 0 0 69 [(3, iv 1), (0, .ref y), (1, iv p), (2, iv w)] [iv 1]
            refine r_if_eq 74 X dX7_circle_69 (by decide) ⟨by omega, by omega⟩ (fun c69 => ?_) (fun c69 => ?_)
            · exfalso
              omega
            · refine r_lconst 0 X dX7_circle_72 (by decide) ?_
              refine r_lret X Y dX7_circle_73 (by decide) (by decide) ?_
              exact MO_w (by unfold cdCi; (try simp only [on_s hs, hs, isNone_f, isNone_t, true_or, or_true, false_or, or_false]); (repeat' split) <;> first | rfl | omega | contradiction | (exfalso; simp_all; done) | (exfalso; simp_all; omega)) (by first | decide | omega) hm66 (Keep_tr kp53 kp66)
        · refine r_iconst X dX7_circle_46 ?_
          refine r_goto 66 X dX7_circle_47 (by decide) ?_
          refine r_callV X dX7_circle_66 kX7_57 hm.1 (c_X7_isWrong (CX_l X) D z0 _ hm 3 ⟨by omega, by omega⟩) [] rfl rfl (Nat.le_of_ble_eq_true rfl) (by decide) (by decide) (fun _ _ z => z.elim) (fun v9 hq66 hv9 => ?_)
          obtain ⟨rfl, hm66, kp66⟩ := hv9
          show WW K D z0 4 hq66 0 0 69 [(3, iv 1), (0, .ref y), (1, iv p), (2, iv w)] [iv 1]
          refine r_if_eq 74 X dX7_circle_69 (by decide) ⟨by omega, by omega⟩ (fun c69 => ?_) (fun c69 => ?_)
          · exfalso
            omega
          · refine r_lconst 0 X dX7_circle_72 (by decide) ?_
            refine r_lret X Y dX7_circle_73 (by decide) (by decide) ?_
            exact MO_w (by unfold cdCi; (try simp only [isNone_f, isNone_t, true_or, or_true, false_or, or_false]); (repeat' split) <;> first | rfl | omega | contradiction | (exfalso; simp_all; done) | (exfalso; simp_all; omega)) (by first | decide | omega) hm66 kp66
      · exfalso
        omega
    · refine r_iconst X dX7_circle_26 ?_
      refine r_goto 66 X dX7_circle_27 (by decide) ?_
      refine r_callV X dX7_circle_66 kX7_57 hm.1 (c_X7_isWrong (CX_l X) D z0 _ hm 1 ⟨by omega, by omega⟩) [] rfl rfl (Nat.le_of_ble_eq_true rfl) (by decide) (by decide) (fun _ _ z => z.elim) (fun v9 hq66 hv9 => ?_)
      obtain ⟨rfl, hm66, kp66⟩ := hv9
      show WW K D z0 4 hq66 0 0 69 [(3, iv 1), (0, .ref y), (1, iv p), (2, iv w)] [iv 1]
      refine r_if_eq 74 X dX7_circle_69 (by decide) ⟨by omega, by omega⟩ (fun c69 => ?_) (fun c69 => ?_)
      · exfalso
        omega
      · refine r_lconst 0 X dX7_circle_72 (by decide) ?_
        refine r_lret X Y dX7_circle_73 (by decide) (by decide) ?_
        exact MO_w (by unfold cdCi; (try simp only [isNone_f, isNone_t, true_or, or_true, false_or, or_false]); (repeat' split) <;> first | rfl | omega | contradiction | (exfalso; simp_all; done) | (exfalso; simp_all; omega)) (by first | decide | omega) hm66 kp66
  · refine r_iload_n 2 X dX7_circle_6 rfl ?_
    refine r_bipush X dX7_circle_7 (by decide) ?_
    refine r_icmp_ne 16 X dX7_circle_9 (by decide) ⟨by omega, by omega⟩ ⟨by omega, by omega⟩ (fun c9 => ?_) (fun c9 => ?_)
    · refine r_iconst X dX7_circle_16 ?_
      refine r_istore_n (L' := [(3, iv 0), (0, .ref y), (1, iv p), (2, iv w)]) X dX7_circle_17 (by decide) rfl ?_
      refine r_aload_n 1 X dX7_circle_18 rfl ?_
      refine r_iload_n 2 X dX7_circle_19 rfl ?_
      refine r_callS_v X dX7_circle_20 kX7_41 (c_X7_isPlace (CX_l X) D z0 _ p ⟨by omega, by omega⟩) [.ref y] rfl rfl (Nat.le_of_ble_eq_true rfl) (by decide) rfl rfl (by decide) ?_
      refine r_ifb_ne 30 X dX7_circle_23 (by decide) (fun c23 => ?_) (fun c23 => ?_)
      · refine r_iload_n 0 X dX7_circle_30 rfl ?_
        refine r_if_ne 38 X dX7_circle_31 (by decide) ⟨by omega, by omega⟩ (fun c31 => ?_) (fun c31 => ?_)
        · exfalso
          omega
        · refine r_iconst X dX7_circle_34 ?_
          refine r_goto 66 X dX7_circle_35 (by decide) ?_
          refine r_callV X dX7_circle_66 kX7_57 hm.1 (c_X7_isWrong (CX_l X) D z0 _ hm 2 ⟨by omega, by omega⟩) [] rfl rfl (Nat.le_of_ble_eq_true rfl) (by decide) (by decide) (fun _ _ z => z.elim) (fun v9 hq66 hv9 => ?_)
          obtain ⟨rfl, hm66, kp66⟩ := hv9
          show WW K D z0 4 hq66 0 0 69 [(3, iv 0), (0, .ref y), (1, iv p), (2, iv w)] [iv 1]
          refine r_if_eq 74 X dX7_circle_69 (by decide) ⟨by omega, by omega⟩ (fun c69 => ?_) (fun c69 => ?_)
          · exfalso
            omega
          · refine r_lconst 0 X dX7_circle_72 (by decide) ?_
            refine r_lret X Y dX7_circle_73 (by decide) (by decide) ?_
            exact MO_w (by unfold cdCi; (try simp only [isNone_f, isNone_t, true_or, or_true, false_or, or_false]); (repeat' split) <;> first | rfl | omega | contradiction | (exfalso; simp_all; done) | (exfalso; simp_all; omega)) (by first | decide | omega) hm66 kp66
      · refine r_iconst X dX7_circle_26 ?_
        refine r_goto 66 X dX7_circle_27 (by decide) ?_
        refine r_callV X dX7_circle_66 kX7_57 hm.1 (c_X7_isWrong (CX_l X) D z0 _ hm 1 ⟨by omega, by omega⟩) [] rfl rfl (Nat.le_of_ble_eq_true rfl) (by decide) (by decide) (fun _ _ z => z.elim) (fun v9 hq66 hv9 => ?_)
        obtain ⟨rfl, hm66, kp66⟩ := hv9
        show WW K D z0 4 hq66 0 0 69 [(3, iv 0), (0, .ref y), (1, iv p), (2, iv w)] [iv 1]
        refine r_if_eq 74 X dX7_circle_69 (by decide) ⟨by omega, by omega⟩ (fun c69 => ?_) (fun c69 => ?_)
        · exfalso
          omega
        · refine r_lconst 0 X dX7_circle_72 (by decide) ?_
          refine r_lret X Y dX7_circle_73 (by decide) (by decide) ?_
          exact MO_w (by unfold cdCi; (try simp only [isNone_f, isNone_t, true_or, or_true, false_or, or_false]); (repeat' split) <;> first | rfl | omega | contradiction | (exfalso; simp_all; done) | (exfalso; simp_all; omega)) (by first | decide | omega) hm66 kp66
    · refine r_iconst X dX7_circle_12 ?_
      refine r_goto 17 X dX7_circle_13 (by decide) ?_
      refine r_istore_n (L' := [(3, iv 1), (0, .ref y), (1, iv p), (2, iv w)]) X dX7_circle_17 (by decide) rfl ?_
      refine r_aload_n 1 X dX7_circle_18 rfl ?_
      refine r_iload_n 2 X dX7_circle_19 rfl ?_
      refine r_callS_v X dX7_circle_20 kX7_41 (c_X7_isPlace (CX_l X) D z0 _ p ⟨by omega, by omega⟩) [.ref y] rfl rfl (Nat.le_of_ble_eq_true rfl) (by decide) rfl rfl (by decide) ?_
      refine r_ifb_ne 30 X dX7_circle_23 (by decide) (fun c23 => ?_) (fun c23 => ?_)
      · refine r_iload_n 0 X dX7_circle_30 rfl ?_
        refine r_if_ne 38 X dX7_circle_31 (by decide) ⟨by omega, by omega⟩ (fun c31 => ?_) (fun c31 => ?_)
        · refine r_aload_n 1 X dX7_circle_38 rfl ?_
          refine r_iload_n 2 X dX7_circle_39 rfl ?_
          refine r_callV_v X dX7_circle_40 kX7_45 hm.1 (c_X7_isThere (CX_l X) D z0 _ hm ht p (by omega)) [.ref y] rfl rfl (Nat.le_of_ble_eq_true rfl) (by decide) rfl rfl (by decide) ?_
          refine r_ifb_ne 50 X dX7_circle_43 (by decide) (fun c43 => ?_) (fun c43 => ?_)
          · obtain ⟨a, b, c, hs⟩ := some_of (σ := σ) (i := p.toNat) (by assumption)
            have hv := ht p.toNat (by omega) a b c hs
            have hb := TV_b hv
            have hrf := rS_f hv
            have hvb : 0 ≤ vCi σ p w ∧ vCi σ p w ≤ 562924184010750 := by
              have q1 := wqi_b hv
              have q2 := wqo_b hv
              unfold vCi
              rw [on_s hs]
              split <;> omega
            refine r_aload_n 1 X dX7_circle_50 rfl ?_
            refine r_iload_n 2 X dX7_circle_51 rfl ?_
            refine r_iload_n 3 X dX7_circle_52 rfl ?_
            refine r_callV X dX7_circle_53 kX7_139 hm.1 (c_X7_round (CX_l X) D z0 _ hm ht p (by omega) a b c hs w (by omega)) [.ref y] rfl rfl (Nat.le_of_ble_eq_true rfl) (by decide) (by decide) (fun _ _ z => z.elim) (fun v9 hq53 hv9 => ?_)
            obtain ⟨rfl, ⟨hi53, lo53, hm53⟩, kp53⟩ := hv9
            show WW K D z0 4 hq53 0 0 56 [(3, iv 1), (0, .ref y), (1, iv p), (2, iv w)] [jv (if vCi σ p w = 0 then -1 else vCi σ p w), .ref y]
            refine r_lconst 0 X dX7_circle_56 (by decide) ?_
            refine r_lcmp_ge 65 X dX7_circle_57 dX7_circle_58 (by decide) ⟨by omega, by omega⟩ ⟨by omega, by omega⟩ (fun c57 => ?_) (fun c57 => ?_)
            · refine r_iconst X dX7_circle_65 ?_
              refine r_callV X dX7_circle_66 kX7_57 hm53.1 (c_X7_isWrong (CX_l X) D z0 _ hm53 0 ⟨by omega, by omega⟩) [] rfl rfl (Nat.le_of_ble_eq_true rfl) (by decide) (by decide) (fun _ _ z => z.elim) (fun v9 hq66 hv9 => ?_)
              obtain ⟨rfl, hm66, kp66⟩ := hv9
              show WW K D z0 4 hq66 0 0 69 [(3, iv 1), (0, .ref y), (1, iv p), (2, iv w)] [iv 0]
              refine r_if_eq 74 X dX7_circle_69 (by decide) ⟨by omega, by omega⟩ (fun c69 => ?_) (fun c69 => ?_)
              · refine r_aload_n 1 X dX7_circle_74 rfl ?_
                refine r_iload_n 2 X dX7_circle_75 rfl ?_
                refine r_iload_n 3 X dX7_circle_76 rfl ?_
                refine r_callV X dX7_circle_77 kX7_139 hm66.1 (c_X7_round (CX_l X) D z0 _ hm66 ht p (by omega) a b c hs w (by omega)) [] rfl rfl (Nat.le_of_ble_eq_true rfl) (by decide) (by decide) (fun _ _ z => z.elim) (fun v9 hq77 hv9 => ?_)
                obtain ⟨rfl, ⟨hi77, lo77, hm77⟩, kp77⟩ := hv9
                show WW K D z0 4 hq77 0 0 80 [(3, iv 1), (0, .ref y), (1, iv p), (2, iv w)] [jv (if vCi σ p w = 0 then -1 else vCi σ p w)]
                refine r_lret X Y dX7_circle_80 (by decide) (by decide) ?_
                exact MO_k (by unfold cdCi; (try simp only [on_s hs, hs, isNone_f, isNone_t, true_or, or_true, false_or, or_false]); (repeat' split) <;> first | rfl | omega | contradiction | (exfalso; simp_all; done) | (exfalso; simp_all; omega)) rfl (congrArg jv (if_neg (by omega))) hm77 (Keep_tr (Keep_tr kp53 kp66) kp77)
              · exfalso
                omega
            · refine r_iconst X dX7_circle_61 ?_
              refine r_goto 66 X dX7_circle_62 (by decide) ?_
              refine r_callV X dX7_circle_66 kX7_57 hm53.1 (c_X7_isWrong (CX_l X) D z0 _ hm53 4 ⟨by omega, by omega⟩) [] rfl rfl (Nat.le_of_ble_eq_true rfl) (by decide) (by decide) (fun _ _ z => z.elim) (fun v9 hq66 hv9 => ?_)
              obtain ⟨rfl, hm66, kp66⟩ := hv9
              show WW K D z0 4 hq66 0 0 69 [(3, iv 1), (0, .ref y), (1, iv p), (2, iv w)] [iv 1]
              refine r_if_eq 74 X dX7_circle_69 (by decide) ⟨by omega, by omega⟩ (fun c69 => ?_) (fun c69 => ?_)
              · exfalso
                omega
              · refine r_lconst 0 X dX7_circle_72 (by decide) ?_
                refine r_lret X Y dX7_circle_73 (by decide) (by decide) ?_
                exact MO_w (by unfold cdCi; (try simp only [on_s hs, hs, isNone_f, isNone_t, true_or, or_true, false_or, or_false]); (repeat' split) <;> first | rfl | omega | contradiction | (exfalso; simp_all; done) | (exfalso; simp_all; omega)) (by first | decide | omega) hm66 (Keep_tr kp53 kp66)
          · refine r_iconst X dX7_circle_46 ?_
            refine r_goto 66 X dX7_circle_47 (by decide) ?_
            refine r_callV X dX7_circle_66 kX7_57 hm.1 (c_X7_isWrong (CX_l X) D z0 _ hm 3 ⟨by omega, by omega⟩) [] rfl rfl (Nat.le_of_ble_eq_true rfl) (by decide) (by decide) (fun _ _ z => z.elim) (fun v9 hq66 hv9 => ?_)
            obtain ⟨rfl, hm66, kp66⟩ := hv9
            show WW K D z0 4 hq66 0 0 69 [(3, iv 1), (0, .ref y), (1, iv p), (2, iv w)] [iv 1]
            refine r_if_eq 74 X dX7_circle_69 (by decide) ⟨by omega, by omega⟩ (fun c69 => ?_) (fun c69 => ?_)
            · exfalso
              omega
            · refine r_lconst 0 X dX7_circle_72 (by decide) ?_
              refine r_lret X Y dX7_circle_73 (by decide) (by decide) ?_
              exact MO_w (by unfold cdCi; (try simp only [isNone_f, isNone_t, true_or, or_true, false_or, or_false]); (repeat' split) <;> first | rfl | omega | contradiction | (exfalso; simp_all; done) | (exfalso; simp_all; omega)) (by first | decide | omega) hm66 kp66
        · exfalso
          omega
      · refine r_iconst X dX7_circle_26 ?_
        refine r_goto 66 X dX7_circle_27 (by decide) ?_
        refine r_callV X dX7_circle_66 kX7_57 hm.1 (c_X7_isWrong (CX_l X) D z0 _ hm 1 ⟨by omega, by omega⟩) [] rfl rfl (Nat.le_of_ble_eq_true rfl) (by decide) (by decide) (fun _ _ z => z.elim) (fun v9 hq66 hv9 => ?_)
        obtain ⟨rfl, hm66, kp66⟩ := hv9
        show WW K D z0 4 hq66 0 0 69 [(3, iv 1), (0, .ref y), (1, iv p), (2, iv w)] [iv 1]
        refine r_if_eq 74 X dX7_circle_69 (by decide) ⟨by omega, by omega⟩ (fun c69 => ?_) (fun c69 => ?_)
        · exfalso
          omega
        · refine r_lconst 0 X dX7_circle_72 (by decide) ?_
          refine r_lret X Y dX7_circle_73 (by decide) (by decide) ?_
          exact MO_w (by unfold cdCi; (try simp only [isNone_f, isNone_t, true_or, or_true, false_or, or_false]); (repeat' split) <;> first | rfl | omega | contradiction | (exfalso; simp_all; done) | (exfalso; simp_all; omega)) (by first | decide | omega) hm66 kp66
abbrev rX7_compared : Room := { frames := 2, cells := 0, slots := 0, locals := 54 }
theorem c_X7_compared {l : Launch} (hl : l.stackTraces = false) (D : va_G) (z0 : Nat) (h : Hp) {y : Nat} {v : Nat → Nat} {σ : Tg} {e1 e2 e3 od : Nat → Int} {lc oc tc hi lo rf sq : Int} (hm : Mz D h y v (fA σ) (fB σ) (fC σ) e1 e2 e3 od lc oc tc hi lo rf sq) (ht : TVs σ) (p q : Int) (hp : pl p) (hq : pl q) (a b c d e f : Int) (hs : σ p.toNat = some (a, b, c)) (hs2 : σ q.toNat = some (d, e, f)) : CC l yX7_compared cX7_compared 7 (some .int) rX7_compared D z0 h [.ref y, iv p, iv q] (fun w h' => w = some (iv (cmpv (Sx a b c) (Sx d e f))) ∧ (∃ hi lo : Int, Mz D h' y v (fA σ) (fB σ) (fC σ) e1 e2 e3 od lc oc tc hi lo rf sq) ∧ Keep (WM y v) h h') NX := by
  refine CC_of RX7 hl (by decide) rfl (Nat.le_of_ble_eq_true rfl) (fun K X Y Z hmn hKl => ?_)
  subst hKl
  have hv := ht p.toNat (by omega) a b c hs
  have hb := TV_b hv
  have hv2 := ht q.toNat (by omega) d e f hs2
  have hb2 := TV_b hv2
  have hl0 : ln a b c 0 = a := rfl
  have hl1 : ln a b c 1 = b := rfl
  have hk0 : ln d e f 0 = d := rfl
  have hk1 : ln d e f 1 = e := rfl
  have hS1 := Sx_b hv
  have hS2 := Sx_b hv2
  show WW K D z0 7 h 0 0 0 [(0, .ref y), (1, iv p), (2, iv q)] []
  refine r_aload_n 0 X dX7_compared_0 rfl ?_
  refine r_iload_n 1 X dX7_compared_1 rfl ?_
  refine r_callV X dX7_compared_2 kX7_112 hm.1 (c_X7_makeS (CX_l X) D z0 _ hm ht p (by omega) a b c hs ) [] rfl rfl (Nat.le_of_ble_eq_true rfl) (by decide) (by decide) (fun _ _ z => z.elim) (fun v9 hq2 hv9 => ?_)
  obtain ⟨rfl, hm2, kp2⟩ := hv9
  show WW K D z0 7 hq2 0 0 5 [(0, .ref y), (1, iv p), (2, iv q)] []
  refine r_aload_n 0 X dX7_compared_5 rfl ?_
  refine r_getf X dX7_compared_6 fX7_109 hm2.1 rfl ?_
  refine r_lstore_n (L' := [(3, jv (Sx a b c / 4294967296)), (0, .ref y), (1, iv p), (2, iv q)]) X dX7_compared_9 (by decide) rfl ?_
  refine r_aload_n 1 X dX7_compared_10 rfl ?_
  refine r_getf X dX7_compared_11 fX7_105 hm2.1 rfl ?_
  refine r_lstore (L' := [(5, jv (Sx a b c % 4294967296)), (3, jv (Sx a b c / 4294967296)), (0, .ref y), (1, iv p), (2, iv q)]) X dX7_compared_14 (by decide) rfl ?_
  refine r_aload_n 2 X dX7_compared_16 rfl ?_
  refine r_iload_n 4 X dX7_compared_17 rfl ?_
  refine r_callV X dX7_compared_18 kX7_112 hm2.1 (c_X7_makeS (CX_l X) D z0 _ hm2 ht q (by omega) d e f hs2 ) [] rfl rfl (Nat.le_of_ble_eq_true rfl) (by decide) (by decide) (fun _ _ z => z.elim) (fun v9 hq18 hv9 => ?_)
  obtain ⟨rfl, hm18, kp18⟩ := hv9
  show WW K D z0 7 hq18 0 0 21 [(5, jv (Sx a b c % 4294967296)), (3, jv (Sx a b c / 4294967296)), (0, .ref y), (1, iv p), (2, iv q)] []
  refine r_lload_n 1 X dX7_compared_21 rfl ?_
  refine r_aload_n 2 X dX7_compared_22 rfl ?_
  refine r_getf X dX7_compared_23 fX7_109 hm18.1 rfl ?_
  refine r_lcmp_eq 47 X dX7_compared_26 dX7_compared_27 (by decide) ⟨by omega, by omega⟩ ⟨by omega, by omega⟩ (fun c26 => ?_) (fun c26 => ?_)
  · refine r_lload 0 X dX7_compared_47 rfl ?_
    refine r_aload_n 2 X dX7_compared_49 rfl ?_
    refine r_getf X dX7_compared_50 fX7_105 hm18.1 rfl ?_
    refine r_lcmp_ge 61 X dX7_compared_53 dX7_compared_54 (by decide) ⟨by omega, by omega⟩ ⟨by omega, by omega⟩ (fun c53 => ?_) (fun c53 => ?_)
    · refine r_lload 0 X dX7_compared_61 rfl ?_
      refine r_aload_n 2 X dX7_compared_63 rfl ?_
      refine r_getf X dX7_compared_64 fX7_105 hm18.1 rfl ?_
      refine r_lcmp_le 75 X dX7_compared_67 dX7_compared_68 (by decide) ⟨by omega, by omega⟩ ⟨by omega, by omega⟩ (fun c67 => ?_) (fun c67 => ?_)
      · refine r_iconst X dX7_compared_75 ?_
        refine r_iret X Y dX7_compared_76 (by decide) (by decide) ?_
        exact ⟨congrArg (fun z => some (iv z)) (show _ = cmpv (Sx a b c) (Sx d e f) by unfold cmpv; split <;> (try split) <;> omega), ⟨_, _, hm18⟩, (Keep_tr kp2 kp18)⟩
      · refine r_iconst X dX7_compared_71 ?_
        refine r_goto 76 X dX7_compared_72 (by decide) ?_
        refine r_iret X Y dX7_compared_76 (by decide) (by decide) ?_
        exact ⟨congrArg (fun z => some (iv z)) (show _ = cmpv (Sx a b c) (Sx d e f) by unfold cmpv; split <;> (try split) <;> omega), ⟨_, _, hm18⟩, (Keep_tr kp2 kp18)⟩
    · refine r_iconst X dX7_compared_57 ?_
      refine r_goto 76 X dX7_compared_58 (by decide) ?_
      refine r_iret X Y dX7_compared_76 (by decide) (by decide) ?_
      exact ⟨congrArg (fun z => some (iv z)) (show _ = cmpv (Sx a b c) (Sx d e f) by unfold cmpv; split <;> (try split) <;> omega), ⟨_, _, hm18⟩, (Keep_tr kp2 kp18)⟩
  · refine r_lload_n 1 X dX7_compared_30 rfl ?_
    refine r_aload_n 2 X dX7_compared_31 rfl ?_
    refine r_getf X dX7_compared_32 fX7_109 hm18.1 rfl ?_
    refine r_lcmp_ge 43 X dX7_compared_35 dX7_compared_36 (by decide) ⟨by omega, by omega⟩ ⟨by omega, by omega⟩ (fun c35 => ?_) (fun c35 => ?_)
    · refine r_iconst X dX7_compared_43 ?_
      refine r_goto 76 X dX7_compared_44 (by decide) ?_
      refine r_iret X Y dX7_compared_76 (by decide) (by decide) ?_
      exact ⟨congrArg (fun z => some (iv z)) (show _ = cmpv (Sx a b c) (Sx d e f) by unfold cmpv; split <;> (try split) <;> omega), ⟨_, _, hm18⟩, (Keep_tr kp2 kp18)⟩
    · refine r_iconst X dX7_compared_39 ?_
      refine r_goto 76 X dX7_compared_40 (by decide) ?_
      refine r_iret X Y dX7_compared_76 (by decide) (by decide) ?_
      exact ⟨congrArg (fun z => some (iv z)) (show _ = cmpv (Sx a b c) (Sx d e f) by unfold cmpv; split <;> (try split) <;> omega), ⟨_, _, hm18⟩, (Keep_tr kp2 kp18)⟩
abbrev rX7_compareAreas : Room := { frames := 3, cells := 0, slots := 0, locals := 80 }
theorem c_X7_compareAreas {l : Launch} (hl : l.stackTraces = false) (D : va_G) (z0 : Nat) (h : Hp) {y : Nat} {v : Nat → Nat} {σ : Tg} {e1 e2 e3 od : Nat → Int} {lc oc tc hi lo rf sq : Int} (hm : Mz D h y v (fA σ) (fB σ) (fC σ) e1 e2 e3 od lc oc tc hi lo rf sq) (ht : TVs σ) (p : Int) (hp0 : I32 p) (q : Int) (hq0 : I32 q) : CC l yX7_compareAreas cX7_compareAreas 3 (some .int) rX7_compareAreas D z0 h [.ref y, iv p, iv q] (MO D y v σ σ e1 e2 e3 od lc oc (cd2 σ p q) (iv (on σ p (fun a b c => on σ q (fun d e f => cmpv (Sx a b c) (Sx d e f))))) (iv 0) h) NX := by
  refine CC_of RX7 hl (by decide) rfl (Nat.le_of_ble_eq_true rfl) (fun K X Y Z hmn hKl => ?_)
  subst hKl
  show WW K D z0 3 h 0 0 0 [(0, .ref y), (1, iv p), (2, iv q)] []
  refine r_aload_n 0 X dX7_compareAreas_0 rfl ?_
  refine r_iload_n 1 X dX7_compareAreas_1 rfl ?_
  refine r_callS_v X dX7_compareAreas_2 kX7_41 (c_X7_isPlace (CX_l X) D z0 _ p ⟨by omega, by omega⟩) [.ref y] rfl rfl (Nat.le_of_ble_eq_true rfl) (by decide) rfl rfl (by decide) ?_
  refine r_ifb_eq 15 X dX7_compareAreas_5 (by decide) (fun c5 => ?_) (fun c5 => ?_)
  · refine r_iconst X dX7_compareAreas_15 ?_
    refine r_goto 40 X dX7_compareAreas_16 (by decide) ?_
    refine r_callV X dX7_compareAreas_40 kX7_57 hm.1 (c_X7_isWrong (CX_l X) D z0 _ hm 1 ⟨by omega, by omega⟩) [] rfl rfl (Nat.le_of_ble_eq_true rfl) (by decide) (by decide) (fun _ _ z => z.elim) (fun v9 hq40 hv9 => ?_)
    obtain ⟨rfl, hm40, kp40⟩ := hv9
    show WW K D z0 3 hq40 0 0 43 [(0, .ref y), (1, iv p), (2, iv q)] [iv 1]
    refine r_if_eq 48 X dX7_compareAreas_43 (by decide) ⟨by omega, by omega⟩ (fun c43 => ?_) (fun c43 => ?_)
    · exfalso
      omega
    · refine r_iconst X dX7_compareAreas_46 ?_
      refine r_iret X Y dX7_compareAreas_47 (by decide) (by decide) ?_
      exact MO_w (by unfold cd2; (try simp only [isNone_f, isNone_t, true_or, or_true, false_or, or_false]); (repeat' split) <;> first | rfl | omega | contradiction | (exfalso; simp_all; done) | (exfalso; simp_all; omega)) (by first | decide | omega) hm40 kp40
  · refine r_iload_n 2 X dX7_compareAreas_8 rfl ?_
    refine r_callS_v X dX7_compareAreas_9 kX7_41 (c_X7_isPlace (CX_l X) D z0 _ q ⟨by omega, by omega⟩) [.ref y] rfl rfl (Nat.le_of_ble_eq_true rfl) (by decide) rfl rfl (by decide) ?_
    refine r_ifb_ne 19 X dX7_compareAreas_12 (by decide) (fun c12 => ?_) (fun c12 => ?_)
    · refine r_aload_n 0 X dX7_compareAreas_19 rfl ?_
      refine r_iload_n 1 X dX7_compareAreas_20 rfl ?_
      refine r_callV_v X dX7_compareAreas_21 kX7_45 hm.1 (c_X7_isThere (CX_l X) D z0 _ hm ht p (by omega)) [.ref y] rfl rfl (Nat.le_of_ble_eq_true rfl) (by decide) rfl rfl (by decide) ?_
      refine r_ifb_eq 35 X dX7_compareAreas_24 (by decide) (fun c24 => ?_) (fun c24 => ?_)
      · refine r_iconst X dX7_compareAreas_35 ?_
        refine r_goto 40 X dX7_compareAreas_36 (by decide) ?_
        refine r_callV X dX7_compareAreas_40 kX7_57 hm.1 (c_X7_isWrong (CX_l X) D z0 _ hm 2 ⟨by omega, by omega⟩) [] rfl rfl (Nat.le_of_ble_eq_true rfl) (by decide) (by decide) (fun _ _ z => z.elim) (fun v9 hq40 hv9 => ?_)
        obtain ⟨rfl, hm40, kp40⟩ := hv9
        show WW K D z0 3 hq40 0 0 43 [(0, .ref y), (1, iv p), (2, iv q)] [iv 1]
        refine r_if_eq 48 X dX7_compareAreas_43 (by decide) ⟨by omega, by omega⟩ (fun c43 => ?_) (fun c43 => ?_)
        · exfalso
          omega
        · refine r_iconst X dX7_compareAreas_46 ?_
          refine r_iret X Y dX7_compareAreas_47 (by decide) (by decide) ?_
          exact MO_w (by unfold cd2; (try simp only [isNone_f, isNone_t, true_or, or_true, false_or, or_false]); (repeat' split) <;> first | rfl | omega | contradiction | (exfalso; simp_all; done) | (exfalso; simp_all; omega)) (by first | decide | omega) hm40 kp40
      · refine r_aload_n 0 X dX7_compareAreas_27 rfl ?_
        refine r_iload_n 2 X dX7_compareAreas_28 rfl ?_
        refine r_callV_v X dX7_compareAreas_29 kX7_45 hm.1 (c_X7_isThere (CX_l X) D z0 _ hm ht q (by omega)) [.ref y] rfl rfl (Nat.le_of_ble_eq_true rfl) (by decide) rfl rfl (by decide) ?_
        refine r_ifb_ne 39 X dX7_compareAreas_32 (by decide) (fun c32 => ?_) (fun c32 => ?_)
        · refine r_iconst X dX7_compareAreas_39 ?_
          refine r_callV X dX7_compareAreas_40 kX7_57 hm.1 (c_X7_isWrong (CX_l X) D z0 _ hm 0 ⟨by omega, by omega⟩) [] rfl rfl (Nat.le_of_ble_eq_true rfl) (by decide) (by decide) (fun _ _ z => z.elim) (fun v9 hq40 hv9 => ?_)
          obtain ⟨rfl, hm40, kp40⟩ := hv9
          show WW K D z0 3 hq40 0 0 43 [(0, .ref y), (1, iv p), (2, iv q)] [iv 0]
          refine r_if_eq 48 X dX7_compareAreas_43 (by decide) ⟨by omega, by omega⟩ (fun c43 => ?_) (fun c43 => ?_)
          · obtain ⟨a, b, c, hs⟩ := some_of (σ := σ) (i := p.toNat) (by assumption)
            have hv := ht p.toNat (by omega) a b c hs
            have hb := TV_b hv
            obtain ⟨d, e, f, hs2⟩ := some_of (σ := σ) (i := q.toNat) (by assumption)
            have hv2 := ht q.toNat (by omega) d e f hs2
            have hb2 := TV_b hv2
            refine r_aload_n 0 X dX7_compareAreas_48 rfl ?_
            refine r_iload_n 1 X dX7_compareAreas_49 rfl ?_
            refine r_iload_n 2 X dX7_compareAreas_50 rfl ?_
            refine r_callV X dX7_compareAreas_51 kX7_143 hm40.1 (c_X7_compared (CX_l X) D z0 _ hm40 ht p q (by omega) (by omega) a b c d e f hs hs2) [] rfl rfl (Nat.le_of_ble_eq_true rfl) (by decide) (by decide) (fun _ _ z => z.elim) (fun v9 hq51 hv9 => ?_)
            obtain ⟨rfl, ⟨hi51, lo51, hm51⟩, kp51⟩ := hv9
            show WW K D z0 3 hq51 0 0 54 [(0, .ref y), (1, iv p), (2, iv q)] [iv (cmpv (Sx a b c) (Sx d e f))]
            refine r_iret X Y dX7_compareAreas_54 (by decide) (by decide) ?_
            exact MO_k (by unfold cd2; (try simp only [on_s hs, on_s hs2, hs, hs2, isNone_f, isNone_t, true_or, or_true, false_or, or_false]); (repeat' split) <;> first | rfl | omega | contradiction | (exfalso; simp_all; done) | (exfalso; simp_all; omega)) rfl (by rw [on_s hs, on_s hs2]) hm51 (Keep_tr kp40 kp51)
          · exfalso
            omega
        · refine r_iconst X dX7_compareAreas_35 ?_
          refine r_goto 40 X dX7_compareAreas_36 (by decide) ?_
          refine r_callV X dX7_compareAreas_40 kX7_57 hm.1 (c_X7_isWrong (CX_l X) D z0 _ hm 2 ⟨by omega, by omega⟩) [] rfl rfl (Nat.le_of_ble_eq_true rfl) (by decide) (by decide) (fun _ _ z => z.elim) (fun v9 hq40 hv9 => ?_)
          obtain ⟨rfl, hm40, kp40⟩ := hv9
          show WW K D z0 3 hq40 0 0 43 [(0, .ref y), (1, iv p), (2, iv q)] [iv 1]
          refine r_if_eq 48 X dX7_compareAreas_43 (by decide) ⟨by omega, by omega⟩ (fun c43 => ?_) (fun c43 => ?_)
          · exfalso
            omega
          · refine r_iconst X dX7_compareAreas_46 ?_
            refine r_iret X Y dX7_compareAreas_47 (by decide) (by decide) ?_
            exact MO_w (by unfold cd2; (try simp only [isNone_f, isNone_t, true_or, or_true, false_or, or_false]); (repeat' split) <;> first | rfl | omega | contradiction | (exfalso; simp_all; done) | (exfalso; simp_all; omega)) (by first | decide | omega) hm40 kp40
    · refine r_iconst X dX7_compareAreas_15 ?_
      refine r_goto 40 X dX7_compareAreas_16 (by decide) ?_
      refine r_callV X dX7_compareAreas_40 kX7_57 hm.1 (c_X7_isWrong (CX_l X) D z0 _ hm 1 ⟨by omega, by omega⟩) [] rfl rfl (Nat.le_of_ble_eq_true rfl) (by decide) (by decide) (fun _ _ z => z.elim) (fun v9 hq40 hv9 => ?_)
      obtain ⟨rfl, hm40, kp40⟩ := hv9
      show WW K D z0 3 hq40 0 0 43 [(0, .ref y), (1, iv p), (2, iv q)] [iv 1]
      refine r_if_eq 48 X dX7_compareAreas_43 (by decide) ⟨by omega, by omega⟩ (fun c43 => ?_) (fun c43 => ?_)
      · exfalso
        omega
      · refine r_iconst X dX7_compareAreas_46 ?_
        refine r_iret X Y dX7_compareAreas_47 (by decide) (by decide) ?_
        exact MO_w (by unfold cd2; (try simp only [isNone_f, isNone_t, true_or, or_true, false_or, or_false]); (repeat' split) <;> first | rfl | omega | contradiction | (exfalso; simp_all; done) | (exfalso; simp_all; omega)) (by first | decide | omega) hm40 kp40
abbrev rX7_product : Room := { frames := 3, cells := 0, slots := 0, locals := 67 }
theorem c_X7_product {l : Launch} (hl : l.stackTraces = false) (D : va_G) (z0 : Nat) (h : Hp) {y : Nat} {v : Nat → Nat} {σ : Tg} {e1 e2 e3 od : Nat → Int} {lc oc tc hi lo rf sq : Int} (hm : Mz D h y v (fA σ) (fB σ) (fC σ) e1 e2 e3 od lc oc tc hi lo rf sq) (ht : TVs σ) (p : Int) (hp0 : I32 p) : CC l yX7_product cX7_product 2 (some .long) rX7_product D z0 h [.ref y, iv p] (MO D y v σ σ e1 e2 e3 od lc oc (ms σ p 2) (jv (on σ p Sx)) (jv 0) h) NX := by
  refine CC_of RX7 hl (by decide) rfl (Nat.le_of_ble_eq_true rfl) (fun K X Y Z hmn hKl => ?_)
  subst hKl
  show WW K D z0 2 h 0 0 0 [(0, .ref y), (1, iv p)] []
  refine r_aload_n 0 X dX7_product_0 rfl ?_
  refine r_aload_n 0 X dX7_product_1 rfl ?_
  refine r_iload_n 1 X dX7_product_2 rfl ?_
  refine r_iconst X dX7_product_3 ?_
  refine r_callV_v X dX7_product_4 kX7_68 hm.1 (c_X7_missing (CX_l X) D z0 _ hm ht p 2 ⟨by omega, by omega⟩) [.ref y] rfl rfl (Nat.le_of_ble_eq_true rfl) (by decide) rfl rfl (by decide) ?_
  refine r_callV X dX7_product_7 kX7_57 hm.1 (c_X7_isWrong (CX_l X) D z0 _ hm (ms σ p 2) (ms_b ⟨by decide, by decide⟩)) [] rfl rfl (Nat.le_of_ble_eq_true rfl) (by decide) (by decide) (fun _ _ z => z.elim) (fun v9 hq7 hv9 => ?_)
  obtain ⟨rfl, hm7, kp7⟩ := hv9
  show WW K D z0 2 hq7 0 0 10 [(0, .ref y), (1, iv p)] [iv (if (ms σ p 2) ≠ 0 then 1 else 0)]
  refine r_ifb_eq 15 X dX7_product_10 (by decide) (fun c10 => ?_) (fun c10 => ?_)
  · have hcd : ms σ p 2 = 0 := by omega
    obtain ⟨hp_p, a, b, c, hs⟩ := ms_0 (by decide) hcd
    have hv := ht p.toNat (by omega) a b c hs
    have hb := TV_b hv
    refine r_aload_n 0 X dX7_product_15 rfl ?_
    refine r_iload_n 1 X dX7_product_16 rfl ?_
    refine r_callV X dX7_product_17 kX7_112 hm7.1 (c_X7_makeS (CX_l X) D z0 _ hm7 ht p (by omega) a b c hs ) [] rfl rfl (Nat.le_of_ble_eq_true rfl) (by decide) (by decide) (fun _ _ z => z.elim) (fun v9 hq17 hv9 => ?_)
    obtain ⟨rfl, hm17, kp17⟩ := hv9
    show WW K D z0 2 hq17 0 0 20 [(0, .ref y), (1, iv p)] []
    refine r_aload_n 0 X dX7_product_20 rfl ?_
    refine r_getf X dX7_product_21 fX7_109 hm17.1 rfl ?_
    refine r_bipush X dX7_product_24 (by decide) ?_
    refine r_lshl X dX7_product_26 32 4294967296 (by decide) (by decide) (by decide) ?_
    refine r_aload_n 0 X dX7_product_27 rfl ?_
    refine r_getf X dX7_product_28 fX7_105 hm17.1 rfl ?_
    refine r_ladd X dX7_product_31 ?_
    refine r_lret X Y dX7_product_32 (by decide) (by decide) ?_
    exact MO_k rfl (by omega) (by rw [on_s hs]; exact congrArg jv (by omega)) hm17 (Keep_tr kp7 kp17)
  · refine r_lconst 0 X dX7_product_13 (by decide) ?_
    refine r_lret X Y dX7_product_14 (by decide) (by decide) ?_
    exact MO_w rfl (by first | decide | omega) hm7 kp7
abbrev rX7_bits : Room := { frames := 3, cells := 0, slots := 0, locals := 67 }
theorem c_X7_bits {l : Launch} (hl : l.stackTraces = false) (D : va_G) (z0 : Nat) (h : Hp) {y : Nat} {v : Nat → Nat} {σ : Tg} {e1 e2 e3 od : Nat → Int} {lc oc tc hi lo rf sq : Int} (hm : Mz D h y v (fA σ) (fB σ) (fC σ) e1 e2 e3 od lc oc tc hi lo rf sq) (ht : TVs σ) (p : Int) (hp0 : I32 p) : CC l yX7_bits cX7_bits 5 (some .int) rX7_bits D z0 h [.ref y, iv p] (MO D y v σ σ e1 e2 e3 od lc oc (ms σ p 2) (iv (on σ p (fun a b c => ((bl (Sx a b c).toNat : Nat) : Int)))) (iv 0) h) NX := by
  refine CC_of RX7 hl (by decide) rfl (Nat.le_of_ble_eq_true rfl) (fun K X Y Z hmn hKl => ?_)
  subst hKl
  show WW K D z0 5 h 0 0 0 [(0, .ref y), (1, iv p)] []
  refine r_aload_n 0 X dX7_bits_0 rfl ?_
  refine r_aload_n 0 X dX7_bits_1 rfl ?_
  refine r_iload_n 1 X dX7_bits_2 rfl ?_
  refine r_iconst X dX7_bits_3 ?_
  refine r_callV_v X dX7_bits_4 kX7_68 hm.1 (c_X7_missing (CX_l X) D z0 _ hm ht p 2 ⟨by omega, by omega⟩) [.ref y] rfl rfl (Nat.le_of_ble_eq_true rfl) (by decide) rfl rfl (by decide) ?_
  refine r_callV X dX7_bits_7 kX7_57 hm.1 (c_X7_isWrong (CX_l X) D z0 _ hm (ms σ p 2) (ms_b ⟨by decide, by decide⟩)) [] rfl rfl (Nat.le_of_ble_eq_true rfl) (by decide) (by decide) (fun _ _ z => z.elim) (fun v9 hq7 hv9 => ?_)
  obtain ⟨rfl, hm7, kp7⟩ := hv9
  show WW K D z0 5 hq7 0 0 10 [(0, .ref y), (1, iv p)] [iv (if (ms σ p 2) ≠ 0 then 1 else 0)]
  refine r_ifb_eq 15 X dX7_bits_10 (by decide) (fun c10 => ?_) (fun c10 => ?_)
  · have hcd : ms σ p 2 = 0 := by omega
    obtain ⟨hp_p, a, b, c, hs⟩ := ms_0 (by decide) hcd
    have hv := ht p.toNat (by omega) a b c hs
    have hb := TV_b hv
    refine r_aload_n 0 X dX7_bits_15 rfl ?_
    refine r_iload_n 1 X dX7_bits_16 rfl ?_
    refine r_callV X dX7_bits_17 kX7_112 hm7.1 (c_X7_makeS (CX_l X) D z0 _ hm7 ht p (by omega) a b c hs ) [] rfl rfl (Nat.le_of_ble_eq_true rfl) (by decide) (by decide) (fun _ _ z => z.elim) (fun v9 hq17 hv9 => ?_)
    obtain ⟨rfl, hm17, kp17⟩ := hv9
    show WW K D z0 5 hq17 0 0 20 [(0, .ref y), (1, iv p)] []
    have hSb := Sx_b hv
    obtain ⟨R, hR0⟩ : ∃ R, R = bl (Sx a b c).toNat := ⟨_, rfl⟩
    have loop : ∀ (q n t : Nat), n < 2 ^ q → t + bl n = R → n < 1099511627776 → WW K D z0 5 hq17 0 0 57 [(2, iv (t : Int)), (3, jv (n : Int)), (0, .ref y), (1, iv p)] [] := by
      intro q
      induction q with
      | zero =>
        intro n t hn hR hn2
        have hn0 : n = 0 := by
          rw [Nat.pow_zero] at hn
          omega
        refine r_lload_n 1 X dX7_bits_57 rfl ?_
        refine r_lconst 0 X dX7_bits_58 (by decide) ?_
        refine r_lcmp_le 73 X dX7_bits_59 dX7_bits_60 (by decide) ⟨by omega, by omega⟩ ⟨by omega, by omega⟩ (fun c59 => ?_) (fun c59 => ?_)
        · refine r_iload_n 0 X dX7_bits_73 rfl ?_
          refine r_iret X Y dX7_bits_74 (by decide) (by decide) ?_
          exact MO_k rfl hcd (by rw [on_s hs]; exact congrArg iv (by rw [show n = 0 by omega, bl_0] at hR; omega)) hm17 (Keep_tr kp7 kp17)
        · exfalso
          omega
      | succ q ih =>
        intro n t hn hR hn2
        rw [Nat.pow_succ] at hn
        refine r_lload_n 1 X dX7_bits_57 rfl ?_
        refine r_lconst 0 X dX7_bits_58 (by decide) ?_
        refine r_lcmp_le 73 X dX7_bits_59 dX7_bits_60 (by decide) ⟨by omega, by omega⟩ ⟨by omega, by omega⟩ (fun c59 => ?_) (fun c59 => ?_)
        · refine r_iload_n 0 X dX7_bits_73 rfl ?_
          refine r_iret X Y dX7_bits_74 (by decide) (by decide) ?_
          exact MO_k rfl hcd (by rw [on_s hs]; exact congrArg iv (by rw [show n = 0 by omega, bl_0] at hR; omega)) hm17 (Keep_tr kp7 kp17)
        · refine r_iinc 0 (L' := [(2, iv ((t : Int) + 1)), (3, jv (n : Int)), (0, .ref y), (1, iv p)]) X dX7_bits_63 rfl (by decide) rfl ?_
          refine r_lload_n 1 X dX7_bits_66 rfl ?_
          refine r_iconst X dX7_bits_67 ?_
          refine r_lshr X dX7_bits_68 1 2 (by decide) (by decide) (by decide) ⟨by omega, by omega⟩ ?_
          refine r_lstore_n (L' := [(3, jv ((n : Int) / 2)), (2, iv ((t : Int) + 1)), (0, .ref y), (1, iv p)]) X dX7_bits_69 (by decide) rfl ?_
          refine r_goto 57 X dX7_bits_70 (by decide) ?_
          refine WW_sub (L' := [(2, iv ((t : Int) + 1)), (3, jv ((n : Int) / 2)), (0, .ref y), (1, iv p)]) [1, 0, 2, 3] rfl ?_
          exact ih (n / 2) (t + 1) (by omega) (by rw [bl_half (by omega)] at hR; omega) (by omega)
    refine r_aload_n 0 X dX7_bits_20 rfl ?_
    refine r_getf X dX7_bits_21 fX7_109 hm17.1 rfl ?_
    refine r_lconst 0 X dX7_bits_24 (by decide) ?_
    refine r_lcmp_le 34 X dX7_bits_25 dX7_bits_26 (by decide) ⟨by omega, by omega⟩ ⟨by omega, by omega⟩ (fun c25 => ?_) (fun c25 => ?_)
    · refine r_iconst X dX7_bits_34 ?_
      refine r_istore_n (L' := [(2, iv 0), (0, .ref y), (1, iv p)]) X dX7_bits_35 (by decide) rfl ?_
      refine r_aload_n 1 X dX7_bits_36 rfl ?_
      refine r_getf X dX7_bits_37 fX7_109 hm17.1 rfl ?_
      refine r_lconst 0 X dX7_bits_40 (by decide) ?_
      refine r_lcmp_le 52 X dX7_bits_41 dX7_bits_42 (by decide) ⟨by omega, by omega⟩ ⟨by omega, by omega⟩ (fun c41 => ?_) (fun c41 => ?_)
      · refine r_aload_n 1 X dX7_bits_52 rfl ?_
        refine r_getf X dX7_bits_53 fX7_105 hm17.1 rfl ?_
        refine r_lstore_n (L' := [(3, jv (Sx a b c % 4294967296)), (2, iv 0), (0, .ref y), (1, iv p)]) X dX7_bits_56 (by decide) rfl ?_
        refine WW_sub (L' := [(2, iv 0), (3, jv (Sx a b c % 4294967296)), (0, .ref y), (1, iv p)]) [1, 0, 2, 3] rfl ?_
        rw [show (Sx a b c % 4294967296 : Int) = ((Sx a b c % 4294967296).toNat : Int) by omega]
        exact loop 40 (Sx a b c % 4294967296).toNat 0 (by rw [show (2 ^ 40 : Nat) = 1099511627776 from by decide +kernel]; omega) (by rw [hR0, show (Sx a b c % 4294967296).toNat = (Sx a b c).toNat by omega, Nat.zero_add]) (by omega)
      · refine r_aload_n 1 X dX7_bits_45 rfl ?_
        refine r_getf X dX7_bits_46 fX7_109 hm17.1 rfl ?_
        refine r_goto 56 X dX7_bits_49 (by decide) ?_
        refine r_lstore_n (L' := [(3, jv (Sx a b c / 4294967296)), (2, iv 0), (0, .ref y), (1, iv p)]) X dX7_bits_56 (by decide) rfl ?_
        exfalso
        omega
    · refine r_bipush X dX7_bits_29 (by decide) ?_
      refine r_goto 35 X dX7_bits_31 (by decide) ?_
      refine r_istore_n (L' := [(2, iv 32), (0, .ref y), (1, iv p)]) X dX7_bits_35 (by decide) rfl ?_
      refine r_aload_n 1 X dX7_bits_36 rfl ?_
      refine r_getf X dX7_bits_37 fX7_109 hm17.1 rfl ?_
      refine r_lconst 0 X dX7_bits_40 (by decide) ?_
      refine r_lcmp_le 52 X dX7_bits_41 dX7_bits_42 (by decide) ⟨by omega, by omega⟩ ⟨by omega, by omega⟩ (fun c41 => ?_) (fun c41 => ?_)
      · refine r_aload_n 1 X dX7_bits_52 rfl ?_
        refine r_getf X dX7_bits_53 fX7_105 hm17.1 rfl ?_
        refine r_lstore_n (L' := [(3, jv (Sx a b c % 4294967296)), (2, iv 32), (0, .ref y), (1, iv p)]) X dX7_bits_56 (by decide) rfl ?_
        exfalso
        omega
      · refine r_aload_n 1 X dX7_bits_45 rfl ?_
        refine r_getf X dX7_bits_46 fX7_109 hm17.1 rfl ?_
        refine r_goto 56 X dX7_bits_49 (by decide) ?_
        refine r_lstore_n (L' := [(3, jv (Sx a b c / 4294967296)), (2, iv 32), (0, .ref y), (1, iv p)]) X dX7_bits_56 (by decide) rfl ?_
        refine WW_sub (L' := [(2, iv 32), (3, jv (Sx a b c / 4294967296)), (0, .ref y), (1, iv p)]) [1, 0, 2, 3] rfl ?_
        rw [show (Sx a b c / 4294967296 : Int) = ((Sx a b c / 4294967296).toNat : Int) by omega]
        exact loop 40 (Sx a b c / 4294967296).toNat 32 (by rw [show (2 ^ 40 : Nat) = 1099511627776 from by decide +kernel]; omega) (by rw [hR0, show (Sx a b c).toNat = (Sx a b c / 4294967296).toNat * 2 ^ 32 + (Sx a b c % 4294967296).toNat by rw [show (2 ^ 32 : Nat) = 4294967296 from by decide +kernel]; omega, bl_cut _ _ 32 (by omega) (by rw [show (2 ^ 32 : Nat) = 4294967296 from by decide +kernel]; omega)]) (by omega)
  · refine r_iconst X dX7_bits_13 ?_
    refine r_iret X Y dX7_bits_14 (by decide) (by decide) ?_
    exact MO_w rfl (by first | decide | omega) hm7 kp7
