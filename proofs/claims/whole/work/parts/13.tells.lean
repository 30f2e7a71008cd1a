/-! the class Trigonyard: what it tells -/
def on (σ : Tg) (p : Int) (f : Int → Int → Int → Int) : Int := match σ p.toNat with
  | some (a, b, c) => f a b c
  | none => 0
theorem on_s {σ : Tg} {p a b c : Int} {f : Int → Int → Int → Int} (h : σ p.toNat = some (a, b, c)) : on σ p f = f a b c := by unfold on; rw [h]
/-- 1: no such place; 2: none is held; 3: not primitive -/
def cdPr (σ : Tg) (p : Int) : Int := if ¬ pl p then 1 else if (σ p.toNat).isNone then 2 else if on σ p (fun a b c => sqb3 a b c 2) = 0 ∧ on σ p gcd3 = 1 then 0 else 3
def cdSd (σ : Tg) (p w : Int) : Int := if ¬ (0 ≤ w ∧ w ≤ 2) then 1 else ms σ p 2
def cdAr (σ : Tg) (p : Int) : Int := if ms σ p 2 ≠ 0 then ms σ p 2 else if on σ p (fun a b c => wq (rtS (Sx a b c)) 4) = 0 then 3 else 0
def vCi (σ : Tg) (p w : Int) : Int := on σ p (fun a b c => if w = 105 then wq (rtS (Sx a b c)) (2 * (a + b + c)) else wq (2 * a * b * c) (rtS (Sx a b c)))
def cdCi (σ : Tg) (p w : Int) : Int := if ¬ pl p then 1 else if ¬ (w = 105 ∨ w = 111) then 2 else if (σ p.toNat).isNone then 3 else if vCi σ p w = 0 then 4 else 0
def cd2 (σ : Tg) (p q : Int) : Int := if ¬ pl p ∨ ¬ pl q then 1 else if (σ p.toNat).isNone ∨ (σ q.toNat).isNone then 2 else 0
def cdGe (σ : Tg) (p w : Int) : Int := if ¬ pl p then 1 else if ¬ (w = 109 ∨ w = 110) then 2 else if (σ p.toNat).isNone then 3 else if on σ p (fun a b c => sqb3 a b c 2) = 0 ∧ on σ p gcd3 = 1 then 0 else 4
def odd2 (a b : Int) : Int := if a % 2 = 1 then a else b
def eve2 (a b : Int) : Int := if a % 2 = 1 then b else a
theorem isNone_f {t : Int × Int × Int} : ((some t).isNone = true) = False := by simp
theorem isNone_t : ((none : Option (Int × Int × Int)).isNone = true) = True := by simp
theorem Xn_pr {σ : Tg} {p : Int} {h h' : Hp} {E : String} (x : Xn [iob, nseN, ise] (cdPr σ p) h E h') : h = h' ∧ ((¬ pl p ∧ E = iob) ∨ (pl p ∧ σ p.toNat = none ∧ E = nseN) ∨ (pl p ∧ ∃ a b c, σ p.toNat = some (a, b, c) ∧ ¬ (sqb3 a b c 2 = 0 ∧ gcd3 a b c = 1) ∧ E = ise)) := by
  obtain ⟨h1, h2, h3⟩ := x
  unfold cdPr at h2 h3
  by_cases q : pl p
  · rw [if_neg (fun z => z q)] at h2 h3
    cases hs : σ p.toNat with
    | none =>
      rw [hs, if_pos (by rfl)] at h3
      exact ⟨h1, Or.inr (Or.inl ⟨q, rfl, (Option.some.inj h3).symm⟩)⟩
    | some t =>
      obtain ⟨a, b, c⟩ := t
      rw [hs, if_neg (by simp), on_s hs, on_s hs] at h2 h3
      by_cases q3 : sqb3 a b c 2 = 0 ∧ gcd3 a b c = 1
      · rw [if_pos q3] at h2
        exact absurd h2 (by decide)
      · rw [if_neg q3] at h3
        exact ⟨h1, Or.inr (Or.inr ⟨q, a, b, c, rfl, q3, (Option.some.inj h3).symm⟩)⟩
  · rw [if_pos q] at h3
    exact ⟨h1, Or.inl ⟨q, (Option.some.inj h3).symm⟩⟩
theorem wqi_b {a b c : Int} (h : TV a b c) : 0 ≤ wq (rtS (Sx a b c)) (2 * (a + b + c)) ∧ wq (rtS (Sx a b c)) (2 * (a + b + c)) ≤ 17179869184 := by
  have h1 := rtS_b h
  have h2 := TV_b h
  unfold wq
  split
  · exact ⟨Int.ediv_nonneg h1.1 (by omega), Int.le_trans (Int.ediv_le_self _ h1.1) h1.2⟩
  · omega
theorem wqo_b {a b c : Int} (h : TV a b c) : 0 ≤ wq (2 * a * b * c) (rtS (Sx a b c)) ∧ wq (2 * a * b * c) (rtS (Sx a b c)) ≤ 131070 * 65535 * 65535 := by
  have h1 := rtS_b h
  have h2 := TV_b h
  have m1 := mlb (a := 2 * a) (x := 131070) (b := b) (y := 65535) (by omega) (by omega) (by omega) (by omega)
  have m2 := mlb (a := 2 * a * b) (x := 131070 * 65535) (b := c) (y := 65535) m1.1 m1.2 (by omega) (by omega)
  unfold wq
  split
  · exact ⟨Int.ediv_nonneg m2.1 h1.1, Int.le_trans (Int.ediv_le_self _ m2.1) m2.2⟩
  · omega
theorem wq4_b {a b c : Int} (h : TV a b c) : 0 ≤ wq (rtS (Sx a b c)) 4 ∧ wq (rtS (Sx a b c)) 4 ≤ 17179869184 := by
  have := rtS_b h
  unfold wq
  split <;> omega
abbrev rX6_primitiveAt : Room := { frames := 8, cells := 3, slots := 18, locals := 132 }
theorem c_X6_primitiveAt {l : Launch} (hl : l.stackTraces = false) (D : va_G) (z0 : Nat) (h : Hp) (x T f u v o : Nat) (n : Int) (g : Nat → Option Nat) (σ : Tg) (hc : Cy D h x T f u v o n g σ) (p : Int) (hp0 : I32 p) : CC l yX6_primitiveAt cX6_primitiveAt 3 (some (.object "Trigonyard$Triangle")) rX6_primitiveAt D z0 h [.ref x, iv p] (fun w h' => h = h' ∧ pl p ∧ ∃ (q : Nat) (a b c : Int), w = some (.ref q) ∧ g p.toNat = some q ∧ σ p.toNat = some (a, b, c) ∧ h q = some (triE a b c) ∧ TV a b c ∧ sqb3 a b c 2 = 0 ∧ gcd3 a b c = 1) (Xn [iob, nseN, ise] (cdPr σ p) h) := by
  refine CC_of RX6 hl (by decide) rfl (Nat.le_of_ble_eq_true rfl) (fun K X Y Z hmn hKl => ?_)
  subst hKl
  show WW K D z0 3 h 0 0 0 [(0, .ref x), (1, iv p)] []
  refine r_aload_n 0 X dX6_primitiveAt_0 rfl ?_
  refine r_iload_n 1 X dX6_primitiveAt_1 rfl ?_
  refine r_callV X dX6_primitiveAt_2 kX6_67 hc.1 (c_X6_heldAt (CX_l X) D z0 h x T f u v o n g σ hc p ⟨by omega, by omega⟩) [] rfl rfl (Nat.le_of_ble_eq_true rfl) (by decide) (by decide) (fun E9 h9 hx9 => by obtain ⟨rfl, ⟨hn2, rfl⟩ | ⟨hn2, hz2, rfl⟩⟩ := Xn_ms hx9; exact WX_out X Y Z (by decide) (by decide) (Xn_mk 1 (by unfold cdPr; (try simp only [isNone_f, isNone_t, true_or, or_true, false_or, or_false]); ((repeat' split) <;> first | rfl | contradiction | omega)) (by decide) rfl); exact WX_out X Y Z (by decide) (by decide) (Xn_mk 2 (by unfold cdPr; (try simp only [hz2, isNone_f, isNone_t, true_or, or_true, false_or, or_false]); ((repeat' split) <;> first | rfl | contradiction | omega)) (by decide) rfl)) (fun v9 h9 hv9 => ?_)
  obtain ⟨rfl, hp2, q2, a2, b2, c02, rfl, hg2, hs2, ht2, hv2⟩ := hv9
  have hb2 := TV_b hv2
  show WW K D z0 3 h 2 12 5 [(0, .ref x), (1, iv p)] [.ref q2]
  refine r_astore_n (L' := [(2, .ref q2), (0, .ref x), (1, iv p)]) X dX6_primitiveAt_5 (by decide) rfl ?_
  refine r_aload_n 0 X dX6_primitiveAt_6 rfl ?_
  refine r_callV_v X dX6_primitiveAt_7 kX6_297 ht2 (c_X5_isPrimitive (CX_l X) D z0 h q2 a2 b2 c02 ht2 hv2) [] rfl rfl (Nat.le_of_ble_eq_true rfl) (by decide) rfl rfl (by decide) ?_
  refine r_ifb_ne 24 X dX6_primitiveAt_10 (by decide) (fun c10 => ?_) (fun c10 => ?_)
  · refine r_aload_n 0 X dX6_primitiveAt_24 rfl ?_
    refine r_aret X Y dX6_primitiveAt_25 (Or.inr ⟨_, rfl⟩) (by decide) (by decide) ?_
    exact ⟨rfl, hp2, q2, a2, b2, c02, rfl, hg2, hs2, ht2, hv2, c10.1, c10.2⟩
  · refine r_throwSW (E := "java/lang/IllegalStateException") (text := "it is not primitive") X Y Z dX6_primitiveAt_13 dX6_primitiveAt_16 dX6_primitiveAt_17 dX6_primitiveAt_20 dX6_primitiveAt_23 (by decide) gX6_51 ini_IllegalStateException (by decide) hX6_55 (Nat.le_of_ble_eq_true rfl) (by decide) (by decide) (by decide) ?_
    exact Xn_mk 3 (by unfold cdPr; (try simp only [on_s hs2, hs2, isNone_f, isNone_t, true_or, or_true, false_or, or_false]); ((repeat' split) <;> first | rfl | contradiction | omega)) (by decide) rfl
abbrev rX6_isHeld : Room := { frames := 7, cells := 1, slots := 6, locals := 110 }
def cdPl (p : Int) : Int := if pl p then 0 else 1
theorem c_X6_isHeld {l : Launch} (hl : l.stackTraces = false) (D : va_G) (z0 : Nat) (h : Hp) (x T f u v o : Nat) (n : Int) (g : Nat → Option Nat) (σ : Tg) (hc : Cy D h x T f u v o n g σ) (p : Int) (hp0 : I32 p) : CC l yX6_isHeld cX6_isHeld 2 (some .boolean) rX6_isHeld D z0 h [.ref x, iv p] (fun v h' => v = some (iv (if (σ p.toNat).isSome then 1 else 0)) ∧ h = h' ∧ cdPl p = 0) (Xn [iob] (cdPl p) h) := by
  refine CC_of RX6 hl (by decide) rfl (Nat.le_of_ble_eq_true rfl) (fun K X Y Z hmn hKl => ?_)
  subst hKl
  show WW K D z0 2 h 0 0 0 [(0, .ref x), (1, iv p)] []
  refine r_iload_n 1 X dX6_isHeld_0 rfl ?_
  refine r_callS X dX6_isHeld_1 kX6_36 (c_X6_requirePlace (CX_l X) D z0 h p ⟨by omega, by omega⟩) [] rfl rfl (Nat.le_of_ble_eq_true rfl) (by decide) (by decide) (fun E9 h9 hx9 => by obtain ⟨rfl, rfl, hn1⟩ := Xn1 hx9; exact WX_out X Y Z (by decide) (by decide) (Xn_mk 1 (if_neg hn1) (by decide) rfl)) (fun v9 h9 hv9 => ?_)
  obtain ⟨rfl, rfl, hp1⟩ := hv9
  show WW K D z0 2 h 1 6 4 [(0, .ref x), (1, iv p)] []
  refine r_aload_n 0 X dX6_isHeld_4 rfl ?_
  refine r_iload_n 1 X dX6_isHeld_5 rfl ?_
  refine r_callV X dX6_isHeld_6 kX6_71 hc.1 (c_X6_triangleAt (CX_l X) D z0 h x T f u v o n g σ hc p ⟨by omega, by omega⟩) [] rfl rfl (Nat.le_of_ble_eq_true rfl) (by decide) (by decide) (fun _ _ z => z.elim) (fun v9 h9 hv9 => ?_)
  obtain ⟨rfl, e9⟩ := hv9
  rw [e9]
  rw [if_pos hp1]
  cases hg : g p.toNat with
  | none =>
    have hσ := Trs_none hc.2.2 (by omega) hg
    show WW K D z0 2 h 1 6 9 [(0, .ref x), (1, iv p)] [.null]
    refine r_ifnullN 16 X dX6_isHeld_9 (by decide) ?_
    refine r_iconst X dX6_isHeld_16 ?_
    refine r_zret X Y dX6_isHeld_17 (Or.inl rfl) (by decide) (by decide) ?_
    exact ⟨congrArg some (by rw [hσ]; rfl), rfl, if_pos hp1⟩
  | some q =>
    obtain ⟨a, b, c, hσ, ht, hv⟩ := Trs_some hc.2.2 (by omega) hg
    show WW K D z0 2 h 1 6 9 [(0, .ref x), (1, iv p)] [.ref q]
    refine r_ifnull X dX6_isHeld_9 ?_
    refine r_iconst X dX6_isHeld_12 ?_
    refine r_goto 17 X dX6_isHeld_13 (by decide) ?_
    refine r_zret X Y dX6_isHeld_17 (Or.inr rfl) (by decide) (by decide) ?_
    exact ⟨congrArg some (by rw [hσ]; rfl), rfl, if_pos hp1⟩
abbrev rX6_side : Room := { frames := 8, cells := 4, slots := 24, locals := 132 }
theorem c_X6_side {l : Launch} (hl : l.stackTraces = false) (D : va_G) (z0 : Nat) (h : Hp) (x T f u v o : Nat) (n : Int) (g : Nat → Option Nat) (σ : Tg) (hc : Cy D h x T f u v o n g σ) (p : Int) (hp0 : I32 p) (w : Int) (hw : I32 w) : CC l yX6_side cX6_side 3 (some .int) rX6_side D z0 h [.ref x, iv p, iv w] (fun v h' => v = some (iv (on σ p (fun a b c => ln a b c w))) ∧ h = h' ∧ cdSd σ p w = 0) (Xn [iob, nseN] (cdSd σ p w) h) := by
  refine CC_of RX6 hl (by decide) rfl (Nat.le_of_ble_eq_true rfl) (fun K X Y Z hmn hKl => ?_)
  subst hKl
  show WW K D z0 3 h 0 0 0 [(0, .ref x), (1, iv p), (2, iv w)] []
  refine r_iload_n 1 X dX6_side_0 rfl ?_
  refine r_callS X dX6_side_1 kX6_36 (c_X6_requirePlace (CX_l X) D z0 h p ⟨by omega, by omega⟩) [] rfl rfl (Nat.le_of_ble_eq_true rfl) (by decide) (by decide) (fun E9 h9 hx9 => by obtain ⟨rfl, rfl, hn1⟩ := Xn1 hx9; exact WX_out X Y Z (by decide) (by decide) (Xn_mk 1 (by unfold cdSd ms; (try simp only [isNone_f, isNone_t, true_or, or_true, false_or, or_false]); ((repeat' split) <;> first | rfl | contradiction | omega)) (by decide) rfl)) (fun v9 h9 hv9 => ?_)
  obtain ⟨rfl, rfl, hp1⟩ := hv9
  show WW K D z0 3 h 1 6 4 [(0, .ref x), (1, iv p), (2, iv w)] []
  refine r_iload_n 2 X dX6_side_4 rfl ?_
  refine r_callS X dX6_side_5 kX6_74 (c_X6_requireSide (CX_l X) D z0 h w ⟨by omega, by omega⟩) [] rfl rfl (Nat.le_of_ble_eq_true rfl) (by decide) (by decide) (fun E9 h9 hx9 => by obtain ⟨rfl, rfl, hn5⟩ := Xn1 hx9; exact WX_out X Y Z (by decide) (by decide) (Xn_mk 1 (by unfold cdSd ms; (try simp only [isNone_f, isNone_t, true_or, or_true, false_or, or_false]); ((repeat' split) <;> first | rfl | contradiction | omega)) (by decide) rfl)) (fun v9 h9 hv9 => ?_)
  obtain ⟨rfl, rfl, hp5⟩ := hv9
  show WW K D z0 3 h 2 12 8 [(0, .ref x), (1, iv p), (2, iv w)] []
  refine r_aload_n 0 X dX6_side_8 rfl ?_
  refine r_iload_n 1 X dX6_side_9 rfl ?_
  refine r_callV X dX6_side_10 kX6_67 hc.1 (c_X6_heldAt (CX_l X) D z0 h x T f u v o n g σ hc p ⟨by omega, by omega⟩) [] rfl rfl (Nat.le_of_ble_eq_true rfl) (by decide) (by decide) (fun E9 h9 hx9 => by obtain ⟨rfl, ⟨hn10, rfl⟩ | ⟨hn10, hz10, rfl⟩⟩ := Xn_ms hx9; exact WX_out X Y Z (by decide) (by decide) (Xn_mk 1 (by unfold cdSd ms; (try simp only [isNone_f, isNone_t, true_or, or_true, false_or, or_false]); ((repeat' split) <;> first | rfl | contradiction | omega)) (by decide) rfl); exact WX_out X Y Z (by decide) (by decide) (Xn_mk 2 (by unfold cdSd ms; (try simp only [hz10, isNone_f, isNone_t, true_or, or_true, false_or, or_false]); ((repeat' split) <;> first | rfl | contradiction | omega)) (by decide) rfl)) (fun v9 h9 hv9 => ?_)
  obtain ⟨rfl, hp10, q10, a10, b10, c010, rfl, hg10, hs10, ht10, hv10⟩ := hv9
  have hb10 := TV_b hv10
  show WW K D z0 3 h 4 24 13 [(0, .ref x), (1, iv p), (2, iv w)] [.ref q10]
  refine r_iload_n 2 X dX6_side_13 rfl ?_
  refine r_callV_v X dX6_side_14 kX6_77 ht10 (c_X5_length (CX_l X) D z0 h q10 a10 b10 c010 ht10 hv10 w ⟨by omega, by omega⟩) [] rfl rfl (Nat.le_of_ble_eq_true rfl) (by decide) rfl rfl (by decide) ?_
  refine r_iret X Y dX6_side_17 (by decide) (by decide) ?_
  exact ⟨congrArg some (by show iv (ln a10 b10 c010 w) = iv (on σ p (fun a b c => ln a b c w)); (try simp only [on_s hs10]); (first | done | rfl)), rfl, (by unfold cdSd ms; (try simp only [on_s hs10, hs10, isNone_f, isNone_t, true_or, or_true, false_or, or_false]); ((repeat' split) <;> first | rfl | contradiction | omega))⟩
abbrev rX6_kind : Room := { frames := 8, cells := 2, slots := 12, locals := 132 }
theorem c_X6_kind {l : Launch} (hl : l.stackTraces = false) (D : va_G) (z0 : Nat) (h : Hp) (x T f u v o : Nat) (n : Int) (g : Nat → Option Nat) (σ : Tg) (hc : Cy D h x T f u v o n g σ) (p : Int) (hp0 : I32 p) : CC l yX6_kind cX6_kind 2 (some .int) rX6_kind D z0 h [.ref x, iv p] (fun v h' => v = some (iv (on σ p (fun a b c => cmpv (sqb3 a b c 2) 0))) ∧ h = h' ∧ ms σ p 2 = 0) (Xn [iob, nseN] (ms σ p 2) h) := by
  refine CC_of RX6 hl (by decide) rfl (Nat.le_of_ble_eq_true rfl) (fun K X Y Z hmn hKl => ?_)
  subst hKl
  show WW K D z0 2 h 0 0 0 [(0, .ref x), (1, iv p)] []
  refine r_aload_n 0 X dX6_kind_0 rfl ?_
  refine r_iload_n 1 X dX6_kind_1 rfl ?_
  refine r_callV X dX6_kind_2 kX6_67 hc.1 (c_X6_heldAt (CX_l X) D z0 h x T f u v o n g σ hc p ⟨by omega, by omega⟩) [] rfl rfl (Nat.le_of_ble_eq_true rfl) (by decide) (by decide) (fun E9 h9 hx9 => by obtain ⟨rfl, ⟨hn2, rfl⟩ | ⟨hn2, hz2, rfl⟩⟩ := Xn_ms hx9; exact WX_out X Y Z (by decide) (by decide) (Xn_mk 1 (by unfold ms; (try simp only [isNone_f, isNone_t, true_or, or_true, false_or, or_false]); ((repeat' split) <;> first | rfl | contradiction | omega)) (by decide) rfl); exact WX_out X Y Z (by decide) (by decide) (Xn_mk 2 (by unfold ms; (try simp only [hz2, isNone_f, isNone_t, true_or, or_true, false_or, or_false]); ((repeat' split) <;> first | rfl | contradiction | omega)) (by decide) rfl)) (fun v9 h9 hv9 => ?_)
  obtain ⟨rfl, hp2, q2, a2, b2, c02, rfl, hg2, hs2, ht2, hv2⟩ := hv9
  have hb2 := TV_b hv2
  show WW K D z0 2 h 2 12 5 [(0, .ref x), (1, iv p)] [.ref q2]
  refine r_callV_v X dX6_kind_5 kX6_99 ht2 (c_X5_sharpness (CX_l X) D z0 h q2 a2 b2 c02 ht2 hv2) [] rfl rfl (Nat.le_of_ble_eq_true rfl) (by decide) rfl rfl (by decide) ?_
  refine r_iret X Y dX6_kind_8 (by decide) (by decide) ?_
  exact ⟨congrArg some (by show iv (cmpv (sqb3 a2 b2 c02 2) 0) = iv (on σ p (fun a b c => cmpv (sqb3 a b c 2) 0)); (try simp only [on_s hs2]); (first | done | rfl)), rfl, (by unfold ms; (try simp only [on_s hs2, hs2, isNone_f, isNone_t, true_or, or_true, false_or, or_false]); ((repeat' split) <;> first | rfl | contradiction | omega))⟩
abbrev rX6_angle : Room := { frames := 8, cells := 4, slots := 24, locals := 132 }
theorem c_X6_angle {l : Launch} (hl : l.stackTraces = false) (D : va_G) (z0 : Nat) (h : Hp) (x T f u v o : Nat) (n : Int) (g : Nat → Option Nat) (σ : Tg) (hc : Cy D h x T f u v o n g σ) (p : Int) (hp0 : I32 p) (w : Int) (hw : I32 w) : CC l yX6_angle cX6_angle 3 (some .int) rX6_angle D z0 h [.ref x, iv p, iv w] (fun v h' => v = some (iv (on σ p (fun a b c => deg a b c w))) ∧ h = h' ∧ cdSd σ p w = 0) (Xn [iob, nseN] (cdSd σ p w) h) := by
  refine CC_of RX6 hl (by decide) rfl (Nat.le_of_ble_eq_true rfl) (fun K X Y Z hmn hKl => ?_)
  subst hKl
  show WW K D z0 3 h 0 0 0 [(0, .ref x), (1, iv p), (2, iv w)] []
  refine r_iload_n 1 X dX6_angle_0 rfl ?_
  refine r_callS X dX6_angle_1 kX6_36 (c_X6_requirePlace (CX_l X) D z0 h p ⟨by omega, by omega⟩) [] rfl rfl (Nat.le_of_ble_eq_true rfl) (by decide) (by decide) (fun E9 h9 hx9 => by obtain ⟨rfl, rfl, hn1⟩ := Xn1 hx9; exact WX_out X Y Z (by decide) (by decide) (Xn_mk 1 (by unfold cdSd ms; (try simp only [isNone_f, isNone_t, true_or, or_true, false_or, or_false]); ((repeat' split) <;> first | rfl | contradiction | omega)) (by decide) rfl)) (fun v9 h9 hv9 => ?_)
  obtain ⟨rfl, rfl, hp1⟩ := hv9
  show WW K D z0 3 h 1 6 4 [(0, .ref x), (1, iv p), (2, iv w)] []
  refine r_iload_n 2 X dX6_angle_4 rfl ?_
  refine r_callS X dX6_angle_5 kX6_74 (c_X6_requireSide (CX_l X) D z0 h w ⟨by omega, by omega⟩) [] rfl rfl (Nat.le_of_ble_eq_true rfl) (by decide) (by decide) (fun E9 h9 hx9 => by obtain ⟨rfl, rfl, hn5⟩ := Xn1 hx9; exact WX_out X Y Z (by decide) (by decide) (Xn_mk 1 (by unfold cdSd ms; (try simp only [isNone_f, isNone_t, true_or, or_true, false_or, or_false]); ((repeat' split) <;> first | rfl | contradiction | omega)) (by decide) rfl)) (fun v9 h9 hv9 => ?_)
  obtain ⟨rfl, rfl, hp5⟩ := hv9
  show WW K D z0 3 h 2 12 8 [(0, .ref x), (1, iv p), (2, iv w)] []
  refine r_aload_n 0 X dX6_angle_8 rfl ?_
  refine r_iload_n 1 X dX6_angle_9 rfl ?_
  refine r_callV X dX6_angle_10 kX6_67 hc.1 (c_X6_heldAt (CX_l X) D z0 h x T f u v o n g σ hc p ⟨by omega, by omega⟩) [] rfl rfl (Nat.le_of_ble_eq_true rfl) (by decide) (by decide) (fun E9 h9 hx9 => by obtain ⟨rfl, ⟨hn10, rfl⟩ | ⟨hn10, hz10, rfl⟩⟩ := Xn_ms hx9; exact WX_out X Y Z (by decide) (by decide) (Xn_mk 1 (by unfold cdSd ms; (try simp only [isNone_f, isNone_t, true_or, or_true, false_or, or_false]); ((repeat' split) <;> first | rfl | contradiction | omega)) (by decide) rfl); exact WX_out X Y Z (by decide) (by decide) (Xn_mk 2 (by unfold cdSd ms; (try simp only [hz10, isNone_f, isNone_t, true_or, or_true, false_or, or_false]); ((repeat' split) <;> first | rfl | contradiction | omega)) (by decide) rfl)) (fun v9 h9 hv9 => ?_)
  obtain ⟨rfl, hp10, q10, a10, b10, c010, rfl, hg10, hs10, ht10, hv10⟩ := hv9
  have hb10 := TV_b hv10
  show WW K D z0 3 h 4 24 13 [(0, .ref x), (1, iv p), (2, iv w)] [.ref q10]
  refine r_iload_n 2 X dX6_angle_13 rfl ?_
  refine r_callV_v X dX6_angle_14 kX6_112 ht10 (c_X5_degreesOpposite (CX_l X) D z0 h q10 a10 b10 c010 ht10 hv10 w ⟨by omega, by omega⟩) [] rfl rfl (Nat.le_of_ble_eq_true rfl) (by decide) rfl rfl (by decide) ?_
  refine r_iret X Y dX6_angle_17 (by decide) (by decide) ?_
  exact ⟨congrArg some (by show iv (deg a10 b10 c010 w) = iv (on σ p (fun a b c => deg a b c w)); (try simp only [on_s hs10]); (first | done | rfl)), rfl, (by unfold cdSd ms; (try simp only [on_s hs10, hs10, isNone_f, isNone_t, true_or, or_true, false_or, or_false]); ((repeat' split) <;> first | rfl | contradiction | omega))⟩
abbrev rX6_areaIsWhole : Room := { frames := 8, cells := 2, slots := 12, locals := 132 }
theorem c_X6_areaIsWhole {l : Launch} (hl : l.stackTraces = false) (D : va_G) (z0 : Nat) (h : Hp) (x T f u v o : Nat) (n : Int) (g : Nat → Option Nat) (σ : Tg) (hc : Cy D h x T f u v o n g σ) (p : Int) (hp0 : I32 p) : CC l yX6_areaIsWhole cX6_areaIsWhole 2 (some .boolean) rX6_areaIsWhole D z0 h [.ref x, iv p] (fun v h' => v = some (iv (if 0 < on σ p (fun a b c => wq (rtS (Sx a b c)) 4) then 1 else 0)) ∧ h = h' ∧ ms σ p 2 = 0) (Xn [iob, nseN] (ms σ p 2) h) := by
  refine CC_of RX6 hl (by decide) rfl (Nat.le_of_ble_eq_true rfl) (fun K X Y Z hmn hKl => ?_)
  subst hKl
  show WW K D z0 2 h 0 0 0 [(0, .ref x), (1, iv p)] []
  refine r_aload_n 0 X dX6_areaIsWhole_0 rfl ?_
  refine r_iload_n 1 X dX6_areaIsWhole_1 rfl ?_
  refine r_callV X dX6_areaIsWhole_2 kX6_67 hc.1 (c_X6_heldAt (CX_l X) D z0 h x T f u v o n g σ hc p ⟨by omega, by omega⟩) [] rfl rfl (Nat.le_of_ble_eq_true rfl) (by decide) (by decide) (fun E9 h9 hx9 => by obtain ⟨rfl, ⟨hn2, rfl⟩ | ⟨hn2, hz2, rfl⟩⟩ := Xn_ms hx9; exact WX_out X Y Z (by decide) (by decide) (Xn_mk 1 (by unfold ms; (try simp only [isNone_f, isNone_t, true_or, or_true, false_or, or_false]); ((repeat' split) <;> first | rfl | contradiction | omega)) (by decide) rfl); exact WX_out X Y Z (by decide) (by decide) (Xn_mk 2 (by unfold ms; (try simp only [hz2, isNone_f, isNone_t, true_or, or_true, false_or, or_false]); ((repeat' split) <;> first | rfl | contradiction | omega)) (by decide) rfl)) (fun v9 h9 hv9 => ?_)
  obtain ⟨rfl, hp2, q2, a2, b2, c02, rfl, hg2, hs2, ht2, hv2⟩ := hv9
  have hb2 := TV_b hv2
  show WW K D z0 2 h 2 12 5 [(0, .ref x), (1, iv p)] [.ref q2]
  refine r_callV_v X dX6_areaIsWhole_5 kX6_115 ht2 (c_X5_wholeArea (CX_l X) D z0 h q2 a2 b2 c02 ht2 hv2) [] rfl rfl (Nat.le_of_ble_eq_true rfl) (by decide) rfl rfl (by decide) ?_
  refine r_lconst 0 X dX6_areaIsWhole_8 (by decide) ?_
  refine r_lcmp_le 17 X dX6_areaIsWhole_9 dX6_areaIsWhole_10 (by decide) ⟨by have := wq4_b hv2; omega, by have := wq4_b hv2; omega⟩ ⟨by have := wq4_b hv2; omega, by have := wq4_b hv2; omega⟩ (fun c9 => ?_) (fun c9 => ?_)
  · refine r_iconst X dX6_areaIsWhole_17 ?_
    refine r_zret X Y dX6_areaIsWhole_18 (Or.inl rfl) (by decide) (by decide) ?_
    exact ⟨congrArg some (by show iv 0 = iv (if 0 < on σ p (fun a b c => wq (rtS (Sx a b c)) 4) then 1 else 0); (try simp only [on_s hs2]); (first | done | (rw [if_pos (by omega)]; done) | (rw [if_neg (by omega)]; done))), rfl, (by unfold ms; (try simp only [on_s hs2, hs2, isNone_f, isNone_t, true_or, or_true, false_or, or_false]); ((repeat' split) <;> first | rfl | contradiction | omega))⟩
  · refine r_iconst X dX6_areaIsWhole_13 ?_
    refine r_goto 18 X dX6_areaIsWhole_14 (by decide) ?_
    refine r_zret X Y dX6_areaIsWhole_18 (Or.inr rfl) (by decide) (by decide) ?_
    exact ⟨congrArg some (by show iv 1 = iv (if 0 < on σ p (fun a b c => wq (rtS (Sx a b c)) 4) then 1 else 0); (try simp only [on_s hs2]); (first | done | (rw [if_pos (by omega)]; done) | (rw [if_neg (by omega)]; done))), rfl, (by unfold ms; (try simp only [on_s hs2, hs2, isNone_f, isNone_t, true_or, or_true, false_or, or_false]); ((repeat' split) <;> first | rfl | contradiction | omega))⟩
abbrev rX6_area : Room := { frames := 8, cells := 3, slots := 18, locals := 132 }
theorem c_X6_area {l : Launch} (hl : l.stackTraces = false) (D : va_G) (z0 : Nat) (h : Hp) (x T f u v o : Nat) (n : Int) (g : Nat → Option Nat) (σ : Tg) (hc : Cy D h x T f u v o n g σ) (p : Int) (hp0 : I32 p) : CC l yX6_area cX6_area 4 (some .long) rX6_area D z0 h [.ref x, iv p] (fun v h' => v = some (jv (on σ p (fun a b c => wq (rtS (Sx a b c)) 4))) ∧ h = h' ∧ cdAr σ p = 0) (Xn [iob, nseN, ise] (cdAr σ p) h) := by
  refine CC_of RX6 hl (by decide) rfl (Nat.le_of_ble_eq_true rfl) (fun K X Y Z hmn hKl => ?_)
  subst hKl
  show WW K D z0 4 h 0 0 0 [(0, .ref x), (1, iv p)] []
  refine r_aload_n 0 X dX6_area_0 rfl ?_
  refine r_iload_n 1 X dX6_area_1 rfl ?_
  refine r_callV X dX6_area_2 kX6_67 hc.1 (c_X6_heldAt (CX_l X) D z0 h x T f u v o n g σ hc p ⟨by omega, by omega⟩) [] rfl rfl (Nat.le_of_ble_eq_true rfl) (by decide) (by decide) (fun E9 h9 hx9 => by obtain ⟨rfl, ⟨hn2, rfl⟩ | ⟨hn2, hz2, rfl⟩⟩ := Xn_ms hx9; exact WX_out X Y Z (by decide) (by decide) (Xn_mk 1 (by unfold cdAr ms; (try simp only [isNone_f, isNone_t, true_or, or_true, false_or, or_false]); ((repeat' split) <;> first | rfl | contradiction | omega)) (by decide) rfl); exact WX_out X Y Z (by decide) (by decide) (Xn_mk 2 (by unfold cdAr ms; (try simp only [hz2, isNone_f, isNone_t, true_or, or_true, false_or, or_false]); ((repeat' split) <;> first | rfl | contradiction | omega)) (by decide) rfl)) (fun v9 h9 hv9 => ?_)
  obtain ⟨rfl, hp2, q2, a2, b2, c02, rfl, hg2, hs2, ht2, hv2⟩ := hv9
  have hb2 := TV_b hv2
  show WW K D z0 4 h 2 12 5 [(0, .ref x), (1, iv p)] [.ref q2]
  refine r_callV_v X dX6_area_5 kX6_115 ht2 (c_X5_wholeArea (CX_l X) D z0 h q2 a2 b2 c02 ht2 hv2) [] rfl rfl (Nat.le_of_ble_eq_true rfl) (by decide) rfl rfl (by decide) ?_
  refine r_lstore_n (L' := [(2, jv (wq (rtS (Sx a2 b2 c02)) 4)), (0, .ref x), (1, iv p)]) X dX6_area_8 (by decide) rfl ?_
  refine r_lload_n 0 X dX6_area_9 rfl ?_
  refine r_lconst 0 X dX6_area_10 (by decide) ?_
  refine r_lcmp_ne 25 X dX6_area_11 dX6_area_12 (by decide) ⟨by have := wq4_b hv2; omega, by have := wq4_b hv2; omega⟩ ⟨by have := wq4_b hv2; omega, by have := wq4_b hv2; omega⟩ (fun c11 => ?_) (fun c11 => ?_)
  · refine r_lload_n 0 X dX6_area_25 rfl ?_
    refine r_lret X Y dX6_area_26 (by decide) (by decide) ?_
    exact ⟨congrArg some (by show jv (wq (rtS (Sx a2 b2 c02)) 4) = jv (on σ p (fun a b c => wq (rtS (Sx a b c)) 4)); (try simp only [on_s hs2]); (first | done | rfl)), rfl, (by unfold cdAr ms; (try simp only [on_s hs2, hs2, isNone_f, isNone_t, true_or, or_true, false_or, or_false]); ((repeat' split) <;> first | rfl | contradiction | omega))⟩
  · refine r_throwS (E := "java/lang/IllegalStateException") (text := "the area is no whole number") X Y Z dX6_area_15 dX6_area_18 dX6_area_19 dX6_area_21 dX6_area_24 (by decide) gX6_51 ini_IllegalStateException (by decide) hX6_55 (Nat.le_of_ble_eq_true rfl) (by decide) (by decide) (by decide) ?_
    exact Xn_mk 3 (by unfold cdAr ms; (try simp only [on_s hs2, hs2, isNone_f, isNone_t, true_or, or_true, false_or, or_false]); ((repeat' split) <;> first | rfl | contradiction | omega)) (by decide) rfl
abbrev rX6_circle : Room := { frames := 8, cells := 5, slots := 30, locals := 132 }
theorem c_X6_circle {l : Launch} (hl : l.stackTraces = false) (D : va_G) (z0 : Nat) (h : Hp) (x T f u v o : Nat) (n : Int) (g : Nat → Option Nat) (σ : Tg) (hc : Cy D h x T f u v o n g σ) (p : Int) (hp0 : I32 p) (w : Int) (hw : 0 ≤ w ∧ w ≤ 65535) : CC l yX6_circle cX6_circle 6 (some .long) rX6_circle D z0 h [.ref x, iv p, iv w] (fun v h' => v = some (jv (vCi σ p w)) ∧ h = h' ∧ cdCi σ p w = 0) (Xn [iob, iae, nseN, ise] (cdCi σ p w) h) := by
  refine CC_of RX6 hl (by decide) rfl (Nat.le_of_ble_eq_true rfl) (fun K X Y Z hmn hKl => ?_)
  subst hKl
  show WW K D z0 6 h 0 0 0 [(0, .ref x), (1, iv p), (2, iv w)] []
  refine r_iload_n 1 X dX6_circle_0 rfl ?_
  refine r_callS X dX6_circle_1 kX6_36 (c_X6_requirePlace (CX_l X) D z0 h p ⟨by omega, by omega⟩) [] rfl rfl (Nat.le_of_ble_eq_true rfl) (by decide) (by decide) (fun E9 h9 hx9 => by obtain ⟨rfl, rfl, hn1⟩ := Xn1 hx9; exact WX_out X Y Z (by decide) (by decide) (Xn_mk 1 (by unfold cdCi vCi; (try simp only [isNone_f, isNone_t, true_or, or_true, false_or, or_false]); ((repeat' split) <;> first | rfl | contradiction | omega)) (by decide) rfl)) (fun v9 h9 hv9 => ?_)
  obtain ⟨rfl, rfl, hp1⟩ := hv9
  show WW K D z0 6 h 1 6 4 [(0, .ref x), (1, iv p), (2, iv w)] []
  refine r_iload_n 2 X dX6_circle_4 rfl ?_
  refine r_bipush X dX6_circle_5 (by decide) ?_
  refine r_icmp_eq 26 X dX6_circle_7 (by decide) ⟨by omega, by omega⟩ ⟨by omega, by omega⟩ (fun c7 => ?_) (fun c7 => ?_)
  · refine r_aload_n 0 X dX6_circle_26 rfl ?_
    refine r_iload_n 1 X dX6_circle_27 rfl ?_
    refine r_callV X dX6_circle_28 kX6_67 hc.1 (c_X6_heldAt (CX_l X) D z0 h x T f u v o n g σ hc p ⟨by omega, by omega⟩) [] rfl rfl (Nat.le_of_ble_eq_true rfl) (by decide) (by decide) (fun E9 h9 hx9 => by obtain ⟨rfl, ⟨hn28, rfl⟩ | ⟨hn28, hz28, rfl⟩⟩ := Xn_ms hx9; exact WX_out X Y Z (by decide) (by decide) (Xn_mk 1 (by unfold cdCi vCi; (try simp only [isNone_f, isNone_t, true_or, or_true, false_or, or_false]); ((repeat' split) <;> first | rfl | contradiction | omega)) (by decide) rfl); exact WX_out X Y Z (by decide) (by decide) (Xn_mk 3 (by unfold cdCi vCi; (try simp only [hz28, isNone_f, isNone_t, true_or, or_true, false_or, or_false]); ((repeat' split) <;> first | rfl | contradiction | omega)) (by decide) rfl)) (fun v9 h9 hv9 => ?_)
    obtain ⟨rfl, hp28, q28, a28, b28, c028, rfl, hg28, hs28, ht28, hv28⟩ := hv9
    have hb28 := TV_b hv28
    show WW K D z0 6 h 3 18 31 [(0, .ref x), (1, iv p), (2, iv w)] [.ref q28]
    refine r_astore_n (L' := [(3, .ref q28), (0, .ref x), (1, iv p), (2, iv w)]) X dX6_circle_31 (by decide) rfl ?_
    refine r_iload_n 3 X dX6_circle_32 rfl ?_
    refine r_bipush X dX6_circle_33 (by decide) ?_
    refine r_icmp_ne 45 X dX6_circle_35 (by decide) ⟨by omega, by omega⟩ ⟨by omega, by omega⟩ (fun c35 => ?_) (fun c35 => ?_)
    · refine r_aload_n 0 X dX6_circle_45 rfl ?_
      refine r_callV_v X dX6_circle_46 kX6_126 ht28 (c_X5_outerDiameter (CX_l X) D z0 h q28 a28 b28 c028 ht28 hv28) [] rfl rfl (Nat.le_of_ble_eq_true rfl) (by decide) rfl rfl (by decide) ?_
      refine r_lstore (L' := [(4, jv (wq (2 * a28 * b28 * c028) (rtS (Sx a28 b28 c028)))), (3, .ref q28), (0, .ref x), (1, iv p), (2, iv w)]) X dX6_circle_49 (by decide) rfl ?_
      refine r_lload 0 X dX6_circle_51 rfl ?_
      refine r_lconst 0 X dX6_circle_53 (by decide) ?_
      refine r_lcmp_ne 68 X dX6_circle_54 dX6_circle_55 (by decide) ⟨by have := wqi_b hv28; have := wqo_b hv28; omega, by have := wqi_b hv28; have := wqo_b hv28; omega⟩ ⟨by have := wqi_b hv28; have := wqo_b hv28; omega, by have := wqi_b hv28; have := wqo_b hv28; omega⟩ (fun c54 => ?_) (fun c54 => ?_)
      · refine r_lload 0 X dX6_circle_68 rfl ?_
        refine r_lret X Y dX6_circle_70 (by decide) (by decide) ?_
        exact ⟨congrArg some (by show jv (wq (2 * a28 * b28 * c028) (rtS (Sx a28 b28 c028))) = jv (vCi σ p w); unfold vCi; (try simp only [on_s hs28]); (first | done | (rw [if_pos (by omega)]; done) | (rw [if_neg (by omega)]; done))), rfl, (by unfold cdCi vCi; (try simp only [on_s hs28, hs28, isNone_f, isNone_t, true_or, or_true, false_or, or_false]); ((repeat' split) <;> first | rfl | contradiction | omega))⟩
      · refine r_throwS (E := "java/lang/IllegalStateException") (text := "the length is no whole number") X Y Z dX6_circle_58 dX6_circle_61 dX6_circle_62 dX6_circle_64 dX6_circle_67 (by decide) gX6_51 ini_IllegalStateException (by decide) hX6_55 (Nat.le_of_ble_eq_true rfl) (by decide) (by decide) (by decide) ?_
        exact Xn_mk 4 (by unfold cdCi vCi; (try simp only [on_s hs28, hs28, isNone_f, isNone_t, true_or, or_true, false_or, or_false]); ((repeat' split) <;> first | rfl | contradiction | omega)) (by decide) rfl
    · refine r_aload_n 0 X dX6_circle_38 rfl ?_
      refine r_callV_v X dX6_circle_39 kX6_123 ht28 (c_X5_innerRadius (CX_l X) D z0 h q28 a28 b28 c028 ht28 hv28) [] rfl rfl (Nat.le_of_ble_eq_true rfl) (by decide) rfl rfl (by decide) ?_
      refine r_goto 49 X dX6_circle_42 (by decide) ?_
      refine r_lstore (L' := [(4, jv (wq (rtS (Sx a28 b28 c028)) (2 * (a28 + b28 + c028)))), (3, .ref q28), (0, .ref x), (1, iv p), (2, iv w)]) X dX6_circle_49 (by decide) rfl ?_
      refine r_lload 0 X dX6_circle_51 rfl ?_
      refine r_lconst 0 X dX6_circle_53 (by decide) ?_
      refine r_lcmp_ne 68 X dX6_circle_54 dX6_circle_55 (by decide) ⟨by have := wqi_b hv28; have := wqo_b hv28; omega, by have := wqi_b hv28; have := wqo_b hv28; omega⟩ ⟨by have := wqi_b hv28; have := wqo_b hv28; omega, by have := wqi_b hv28; have := wqo_b hv28; omega⟩ (fun c54 => ?_) (fun c54 => ?_)
      · refine r_lload 0 X dX6_circle_68 rfl ?_
        refine r_lret X Y dX6_circle_70 (by decide) (by decide) ?_
        exact ⟨congrArg some (by show jv (wq (rtS (Sx a28 b28 c028)) (2 * (a28 + b28 + c028))) = jv (vCi σ p w); unfold vCi; (try simp only [on_s hs28]); (first | done | (rw [if_pos (by omega)]; done) | (rw [if_neg (by omega)]; done))), rfl, (by unfold cdCi vCi; (try simp only [on_s hs28, hs28, isNone_f, isNone_t, true_or, or_true, false_or, or_false]); ((repeat' split) <;> first | rfl | contradiction | omega))⟩
      · refine r_throwS (E := "java/lang/IllegalStateException") (text := "the length is no whole number") X Y Z dX6_circle_58 dX6_circle_61 dX6_circle_62 dX6_circle_64 dX6_circle_67 (by decide) gX6_51 ini_IllegalStateException (by decide) hX6_55 (Nat.le_of_ble_eq_true rfl) (by decide) (by decide) (by decide) ?_
        exact Xn_mk 4 (by unfold cdCi vCi; (try simp only [on_s hs28, hs28, isNone_f, isNone_t, true_or, or_true, false_or, or_false]); ((repeat' split) <;> first | rfl | contradiction | omega)) (by decide) rfl
  · refine r_iload_n 2 X dX6_circle_10 rfl ?_
    refine r_bipush X dX6_circle_11 (by decide) ?_
    refine r_icmp_eq 26 X dX6_circle_13 (by decide) ⟨by omega, by omega⟩ ⟨by omega, by omega⟩ (fun c13 => ?_) (fun c13 => ?_)
    · refine r_aload_n 0 X dX6_circle_26 rfl ?_
      refine r_iload_n 1 X dX6_circle_27 rfl ?_
      refine r_callV X dX6_circle_28 kX6_67 hc.1 (c_X6_heldAt (CX_l X) D z0 h x T f u v o n g σ hc p ⟨by omega, by omega⟩) [] rfl rfl (Nat.le_of_ble_eq_true rfl) (by decide) (by decide) (fun E9 h9 hx9 => by obtain ⟨rfl, ⟨hn28, rfl⟩ | ⟨hn28, hz28, rfl⟩⟩ := Xn_ms hx9; exact WX_out X Y Z (by decide) (by decide) (Xn_mk 1 (by unfold cdCi vCi; (try simp only [isNone_f, isNone_t, true_or, or_true, false_or, or_false]); ((repeat' split) <;> first | rfl | contradiction | omega)) (by decide) rfl); exact WX_out X Y Z (by decide) (by decide) (Xn_mk 3 (by unfold cdCi vCi; (try simp only [hz28, isNone_f, isNone_t, true_or, or_true, false_or, or_false]); ((repeat' split) <;> first | rfl | contradiction | omega)) (by decide) rfl)) (fun v9 h9 hv9 => ?_)
      obtain ⟨rfl, hp28, q28, a28, b28, c028, rfl, hg28, hs28, ht28, hv28⟩ := hv9
      have hb28 := TV_b hv28
      show WW K D z0 6 h 3 18 31 [(0, .ref x), (1, iv p), (2, iv w)] [.ref q28]
      refine r_astore_n (L' := [(3, .ref q28), (0, .ref x), (1, iv p), (2, iv w)]) X dX6_circle_31 (by decide) rfl ?_
      refine r_iload_n 3 X dX6_circle_32 rfl ?_
      refine r_bipush X dX6_circle_33 (by decide) ?_
      refine r_icmp_ne 45 X dX6_circle_35 (by decide) ⟨by omega, by omega⟩ ⟨by omega, by omega⟩ (fun c35 => ?_) (fun c35 => ?_)
      · refine r_aload_n 0 X dX6_circle_45 rfl ?_
        refine r_callV_v X dX6_circle_46 kX6_126 ht28 (c_X5_outerDiameter (CX_l X) D z0 h q28 a28 b28 c028 ht28 hv28) [] rfl rfl (Nat.le_of_ble_eq_true rfl) (by decide) rfl rfl (by decide) ?_
        refine r_lstore (L' := [(4, jv (wq (2 * a28 * b28 * c028) (rtS (Sx a28 b28 c028)))), (3, .ref q28), (0, .ref x), (1, iv p), (2, iv w)]) X dX6_circle_49 (by decide) rfl ?_
        refine r_lload 0 X dX6_circle_51 rfl ?_
        refine r_lconst 0 X dX6_circle_53 (by decide) ?_
        refine r_lcmp_ne 68 X dX6_circle_54 dX6_circle_55 (by decide) ⟨by have := wqi_b hv28; have := wqo_b hv28; omega, by have := wqi_b hv28; have := wqo_b hv28; omega⟩ ⟨by have := wqi_b hv28; have := wqo_b hv28; omega, by have := wqi_b hv28; have := wqo_b hv28; omega⟩ (fun c54 => ?_) (fun c54 => ?_)
        · refine r_lload 0 X dX6_circle_68 rfl ?_
          refine r_lret X Y dX6_circle_70 (by decide) (by decide) ?_
          exact ⟨congrArg some (by show jv (wq (2 * a28 * b28 * c028) (rtS (Sx a28 b28 c028))) = jv (vCi σ p w); unfold vCi; (try simp only [on_s hs28]); (first | done | (rw [if_pos (by omega)]; done) | (rw [if_neg (by omega)]; done))), rfl, (by unfold cdCi vCi; (try simp only [on_s hs28, hs28, isNone_f, isNone_t, true_or, or_true, false_or, or_false]); ((repeat' split) <;> first | rfl | contradiction | omega))⟩
        · refine r_throwS (E := "java/lang/IllegalStateException") (text := "the length is no whole number") X Y Z dX6_circle_58 dX6_circle_61 dX6_circle_62 dX6_circle_64 dX6_circle_67 (by decide) gX6_51 ini_IllegalStateException (by decide) hX6_55 (Nat.le_of_ble_eq_true rfl) (by decide) (by decide) (by decide) ?_
          exact Xn_mk 4 (by unfold cdCi vCi; (try simp only [on_s hs28, hs28, isNone_f, isNone_t, true_or, or_true, false_or, or_false]); ((repeat' split) <;> first | rfl | contradiction | omega)) (by decide) rfl
      · refine r_aload_n 0 X dX6_circle_38 rfl ?_
        refine r_callV_v X dX6_circle_39 kX6_123 ht28 (c_X5_innerRadius (CX_l X) D z0 h q28 a28 b28 c028 ht28 hv28) [] rfl rfl (Nat.le_of_ble_eq_true rfl) (by decide) rfl rfl (by decide) ?_
        refine r_goto 49 X dX6_circle_42 (by decide) ?_
        refine r_lstore (L' := [(4, jv (wq (rtS (Sx a28 b28 c028)) (2 * (a28 + b28 + c028)))), (3, .ref q28), (0, .ref x), (1, iv p), (2, iv w)]) X dX6_circle_49 (by decide) rfl ?_
        refine r_lload 0 X dX6_circle_51 rfl ?_
        refine r_lconst 0 X dX6_circle_53 (by decide) ?_
        refine r_lcmp_ne 68 X dX6_circle_54 dX6_circle_55 (by decide) ⟨by have := wqi_b hv28; have := wqo_b hv28; omega, by have := wqi_b hv28; have := wqo_b hv28; omega⟩ ⟨by have := wqi_b hv28; have := wqo_b hv28; omega, by have := wqi_b hv28; have := wqo_b hv28; omega⟩ (fun c54 => ?_) (fun c54 => ?_)
        · refine r_lload 0 X dX6_circle_68 rfl ?_
          refine r_lret X Y dX6_circle_70 (by decide) (by decide) ?_
          exact ⟨congrArg some (by show jv (wq (rtS (Sx a28 b28 c028)) (2 * (a28 + b28 + c028))) = jv (vCi σ p w); unfold vCi; (try simp only [on_s hs28]); (first | done | (rw [if_pos (by omega)]; done) | (rw [if_neg (by omega)]; done))), rfl, (by unfold cdCi vCi; (try simp only [on_s hs28, hs28, isNone_f, isNone_t, true_or, or_true, false_or, or_false]); ((repeat' split) <;> first | rfl | contradiction | omega))⟩
        · refine r_throwS (E := "java/lang/IllegalStateException") (text := "the length is no whole number") X Y Z dX6_circle_58 dX6_circle_61 dX6_circle_62 dX6_circle_64 dX6_circle_67 (by decide) gX6_51 ini_IllegalStateException (by decide) hX6_55 (Nat.le_of_ble_eq_true rfl) (by decide) (by decide) (by decide) ?_
          exact Xn_mk 4 (by unfold cdCi vCi; (try simp only [on_s hs28, hs28, isNone_f, isNone_t, true_or, or_true, false_or, or_false]); ((repeat' split) <;> first | rfl | contradiction | omega)) (by decide) rfl
    · refine r_throwS (E := "java/lang/IllegalArgumentException") (text := "there is nothing such") X Y Z dX6_circle_16 dX6_circle_19 dX6_circle_20 dX6_circle_22 dX6_circle_25 (by decide) gX6_44 ini_IllegalArgumentException (by decide) hX6_48 (Nat.le_of_ble_eq_true rfl) (by decide) (by decide) (by decide) ?_
      exact Xn_mk 2 (by unfold cdCi vCi; (try simp only [isNone_f, isNone_t, true_or, or_true, false_or, or_false]); ((repeat' split) <;> first | rfl | contradiction | omega)) (by decide) rfl
abbrev rX6_compareAreas : Room := { frames := 8, cells := 6, slots := 36, locals := 132 }
theorem c_X6_compareAreas {l : Launch} (hl : l.stackTraces = false) (D : va_G) (z0 : Nat) (h : Hp) (x T f u v o : Nat) (n : Int) (g : Nat → Option Nat) (σ : Tg) (hc : Cy D h x T f u v o n g σ) (p : Int) (hp0 : I32 p) (q : Int) (hq0 : I32 q) : CC l yX6_compareAreas cX6_compareAreas 4 (some .int) rX6_compareAreas D z0 h [.ref x, iv p, iv q] (fun v h' => v = some (iv (on σ p (fun a b c => on σ q (fun d e f => cmpv (Sx a b c) (Sx d e f))))) ∧ h = h' ∧ cd2 σ p q = 0) (Xn [iob, nseN] (cd2 σ p q) h) := by
  refine CC_of RX6 hl (by decide) rfl (Nat.le_of_ble_eq_true rfl) (fun K X Y Z hmn hKl => ?_)
  subst hKl
  show WW K D z0 4 h 0 0 0 [(0, .ref x), (1, iv p), (2, iv q)] []
  refine r_iload_n 1 X dX6_compareAreas_0 rfl ?_
  refine r_callS X dX6_compareAreas_1 kX6_36 (c_X6_requirePlace (CX_l X) D z0 h p ⟨by omega, by omega⟩) [] rfl rfl (Nat.le_of_ble_eq_true rfl) (by decide) (by decide) (fun E9 h9 hx9 => by obtain ⟨rfl, rfl, hn1⟩ := Xn1 hx9; exact WX_out X Y Z (by decide) (by decide) (Xn_mk 1 (by unfold cd2; (try simp only [isNone_f, isNone_t, true_or, or_true, false_or, or_false]); ((repeat' split) <;> first | rfl | contradiction | omega)) (by decide) rfl)) (fun v9 h9 hv9 => ?_)
  obtain ⟨rfl, rfl, hp1⟩ := hv9
  show WW K D z0 4 h 1 6 4 [(0, .ref x), (1, iv p), (2, iv q)] []
  refine r_iload_n 2 X dX6_compareAreas_4 rfl ?_
  refine r_callS X dX6_compareAreas_5 kX6_36 (c_X6_requirePlace (CX_l X) D z0 h q ⟨by omega, by omega⟩) [] rfl rfl (Nat.le_of_ble_eq_true rfl) (by decide) (by decide) (fun E9 h9 hx9 => by obtain ⟨rfl, rfl, hn5⟩ := Xn1 hx9; exact WX_out X Y Z (by decide) (by decide) (Xn_mk 1 (by unfold cd2; (try simp only [isNone_f, isNone_t, true_or, or_true, false_or, or_false]); ((repeat' split) <;> first | rfl | contradiction | omega)) (by decide) rfl)) (fun v9 h9 hv9 => ?_)
  obtain ⟨rfl, rfl, hp5⟩ := hv9
  show WW K D z0 4 h 2 12 8 [(0, .ref x), (1, iv p), (2, iv q)] []
  refine r_aload_n 0 X dX6_compareAreas_8 rfl ?_
  refine r_iload_n 1 X dX6_compareAreas_9 rfl ?_
  refine r_callV X dX6_compareAreas_10 kX6_67 hc.1 (c_X6_heldAt (CX_l X) D z0 h x T f u v o n g σ hc p ⟨by omega, by omega⟩) [] rfl rfl (Nat.le_of_ble_eq_true rfl) (by decide) (by decide) (fun E9 h9 hx9 => by obtain ⟨rfl, ⟨hn10, rfl⟩ | ⟨hn10, hz10, rfl⟩⟩ := Xn_ms hx9; exact WX_out X Y Z (by decide) (by decide) (Xn_mk 1 (by unfold cd2; (try simp only [isNone_f, isNone_t, true_or, or_true, false_or, or_false]); ((repeat' split) <;> first | rfl | contradiction | omega)) (by decide) rfl); exact WX_out X Y Z (by decide) (by decide) (Xn_mk 2 (by unfold cd2; (try simp only [hz10, isNone_f, isNone_t, true_or, or_true, false_or, or_false]); ((repeat' split) <;> first | rfl | contradiction | omega)) (by decide) rfl)) (fun v9 h9 hv9 => ?_)
  obtain ⟨rfl, hp10, q10, a10, b10, c010, rfl, hg10, hs10, ht10, hv10⟩ := hv9
  have hb10 := TV_b hv10
  show WW K D z0 4 h 4 24 13 [(0, .ref x), (1, iv p), (2, iv q)] [.ref q10]
  refine r_astore_n (L' := [(3, .ref q10), (0, .ref x), (1, iv p), (2, iv q)]) X dX6_compareAreas_13 (by decide) rfl ?_
  refine r_aload_n 0 X dX6_compareAreas_14 rfl ?_
  refine r_aload_n 1 X dX6_compareAreas_15 rfl ?_
  refine r_iload_n 3 X dX6_compareAreas_16 rfl ?_
  refine r_callV X dX6_compareAreas_17 kX6_67 hc.1 (c_X6_heldAt (CX_l X) D z0 h x T f u v o n g σ hc q ⟨by omega, by omega⟩) [.ref q10] rfl rfl (Nat.le_of_ble_eq_true rfl) (by decide) (by decide) (fun E9 h9 hx9 => by obtain ⟨rfl, ⟨hn17, rfl⟩ | ⟨hn17, hz17, rfl⟩⟩ := Xn_ms hx9; exact WX_out X Y Z (by decide) (by decide) (Xn_mk 1 (by unfold cd2; (try simp only [on_s hs10, hs10, isNone_f, isNone_t, true_or, or_true, false_or, or_false]); ((repeat' split) <;> first | rfl | contradiction | omega)) (by decide) rfl); exact WX_out X Y Z (by decide) (by decide) (Xn_mk 2 (by unfold cd2; (try simp only [on_s hs10, hs10, hz17, isNone_f, isNone_t, true_or, or_true, false_or, or_false]); ((repeat' split) <;> first | rfl | contradiction | omega)) (by decide) rfl)) (fun v9 h9 hv9 => ?_)
  obtain ⟨rfl, hp17, q17, a17, b17, c017, rfl, hg17, hs17, ht17, hv17⟩ := hv9
  have hb17 := TV_b hv17
  show WW K D z0 4 h 6 36 20 [(3, .ref q10), (0, .ref x), (1, iv p), (2, iv q)] [.ref q17, .ref q10]
  refine r_callV_v X dX6_compareAreas_20 kX6_131 ht10 (c_X5_comparedByArea (CX_l X) D z0 h q10 a10 b10 c010 ht10 hv10 q17 a17 b17 c017 ht17 hv17) [] rfl rfl (Nat.le_of_ble_eq_true rfl) (by decide) rfl rfl (by decide) ?_
  refine r_iret X Y dX6_compareAreas_23 (by decide) (by decide) ?_
  exact ⟨congrArg some (by show iv (cmpv (Sx a10 b10 c010) (Sx a17 b17 c017)) = iv (on σ p (fun a b c => on σ q (fun d e f => cmpv (Sx a b c) (Sx d e f)))); (try simp only [on_s hs10, on_s hs17]); (first | done | rfl)), rfl, (by unfold cd2; (try simp only [on_s hs10, on_s hs17, hs10, hs17, isNone_f, isNone_t, true_or, or_true, false_or, or_false]); ((repeat' split) <;> first | rfl | contradiction | omega))⟩
abbrev rX6_product : Room := { frames := 8, cells := 2, slots := 12, locals := 132 }
theorem c_X6_product {l : Launch} (hl : l.stackTraces = false) (D : va_G) (z0 : Nat) (h : Hp) (x T f u v o : Nat) (n : Int) (g : Nat → Option Nat) (σ : Tg) (hc : Cy D h x T f u v o n g σ) (p : Int) (hp0 : I32 p) : CC l yX6_product cX6_product 2 (some .long) rX6_product D z0 h [.ref x, iv p] (fun v h' => v = some (jv (on σ p Sx)) ∧ h = h' ∧ ms σ p 2 = 0) (Xn [iob, nseN] (ms σ p 2) h) := by
  refine CC_of RX6 hl (by decide) rfl (Nat.le_of_ble_eq_true rfl) (fun K X Y Z hmn hKl => ?_)
  subst hKl
  show WW K D z0 2 h 0 0 0 [(0, .ref x), (1, iv p)] []
  refine r_aload_n 0 X dX6_product_0 rfl ?_
  refine r_iload_n 1 X dX6_product_1 rfl ?_
  refine r_callV X dX6_product_2 kX6_67 hc.1 (c_X6_heldAt (CX_l X) D z0 h x T f u v o n g σ hc p ⟨by omega, by omega⟩) [] rfl rfl (Nat.le_of_ble_eq_true rfl) (by decide) (by decide) (fun E9 h9 hx9 => by obtain ⟨rfl, ⟨hn2, rfl⟩ | ⟨hn2, hz2, rfl⟩⟩ := Xn_ms hx9; exact WX_out X Y Z (by decide) (by decide) (Xn_mk 1 (by unfold ms; (try simp only [isNone_f, isNone_t, true_or, or_true, false_or, or_false]); ((repeat' split) <;> first | rfl | contradiction | omega)) (by decide) rfl); exact WX_out X Y Z (by decide) (by decide) (Xn_mk 2 (by unfold ms; (try simp only [hz2, isNone_f, isNone_t, true_or, or_true, false_or, or_false]); ((repeat' split) <;> first | rfl | contradiction | omega)) (by decide) rfl)) (fun v9 h9 hv9 => ?_)
  obtain ⟨rfl, hp2, q2, a2, b2, c02, rfl, hg2, hs2, ht2, hv2⟩ := hv9
  have hb2 := TV_b hv2
  show WW K D z0 2 h 2 12 5 [(0, .ref x), (1, iv p)] [.ref q2]
  refine r_callV_v X dX6_product_5 kX6_135 ht2 (c_X5_wrappedS (CX_l X) D z0 h q2 a2 b2 c02 ht2 hv2) [] rfl rfl (Nat.le_of_ble_eq_true rfl) (by decide) rfl rfl (by decide) ?_
  refine r_lret X Y dX6_product_8 (by decide) (by decide) ?_
  exact ⟨congrArg some (by show jv (Sx a2 b2 c02) = jv (on σ p Sx); (try simp only [on_s hs2]); (first | done | rfl)), rfl, (by unfold ms; (try simp only [on_s hs2, hs2, isNone_f, isNone_t, true_or, or_true, false_or, or_false]); ((repeat' split) <;> first | rfl | contradiction | omega))⟩
abbrev rX6_bits : Room := { frames := 8, cells := 2, slots := 12, locals := 132 }
theorem c_X6_bits {l : Launch} (hl : l.stackTraces = false) (D : va_G) (z0 : Nat) (h : Hp) (x T f u v o : Nat) (n : Int) (g : Nat → Option Nat) (σ : Tg) (hc : Cy D h x T f u v o n g σ) (p : Int) (hp0 : I32 p) : CC l yX6_bits cX6_bits 2 (some .int) rX6_bits D z0 h [.ref x, iv p] (fun v h' => v = some (iv (on σ p (fun a b c => ((bl (Sx a b c).toNat : Nat) : Int)))) ∧ h = h' ∧ ms σ p 2 = 0) (Xn [iob, nseN] (ms σ p 2) h) := by
  refine CC_of RX6 hl (by decide) rfl (Nat.le_of_ble_eq_true rfl) (fun K X Y Z hmn hKl => ?_)
  subst hKl
  show WW K D z0 2 h 0 0 0 [(0, .ref x), (1, iv p)] []
  refine r_aload_n 0 X dX6_bits_0 rfl ?_
  refine r_iload_n 1 X dX6_bits_1 rfl ?_
  refine r_callV X dX6_bits_2 kX6_67 hc.1 (c_X6_heldAt (CX_l X) D z0 h x T f u v o n g σ hc p ⟨by omega, by omega⟩) [] rfl rfl (Nat.le_of_ble_eq_true rfl) (by decide) (by decide) (fun E9 h9 hx9 => by obtain ⟨rfl, ⟨hn2, rfl⟩ | ⟨hn2, hz2, rfl⟩⟩ := Xn_ms hx9; exact WX_out X Y Z (by decide) (by decide) (Xn_mk 1 (by unfold ms; (try simp only [isNone_f, isNone_t, true_or, or_true, false_or, or_false]); ((repeat' split) <;> first | rfl | contradiction | omega)) (by decide) rfl); exact WX_out X Y Z (by decide) (by decide) (Xn_mk 2 (by unfold ms; (try simp only [hz2, isNone_f, isNone_t, true_or, or_true, false_or, or_false]); ((repeat' split) <;> first | rfl | contradiction | omega)) (by decide) rfl)) (fun v9 h9 hv9 => ?_)
  obtain ⟨rfl, hp2, q2, a2, b2, c02, rfl, hg2, hs2, ht2, hv2⟩ := hv9
  have hb2 := TV_b hv2
  show WW K D z0 2 h 2 12 5 [(0, .ref x), (1, iv p)] [.ref q2]
  refine r_callV_v X dX6_bits_5 kX6_138 ht2 (c_X5_digitsOfS (CX_l X) D z0 h q2 a2 b2 c02 ht2 hv2) [] rfl rfl (Nat.le_of_ble_eq_true rfl) (by decide) rfl rfl (by decide) ?_
  refine r_iret X Y dX6_bits_8 (by decide) (by decide) ?_
  exact ⟨congrArg some (by show iv ((bl (Sx a2 b2 c02).toNat : Nat) : Int) = iv (on σ p (fun a b c => ((bl (Sx a b c).toNat : Nat) : Int))); (try simp only [on_s hs2]); (first | done | rfl)), rfl, (by unfold ms; (try simp only [on_s hs2, hs2, isNone_f, isNone_t, true_or, or_true, false_or, or_false]); ((repeat' split) <;> first | rfl | contradiction | omega))⟩
