/-! list, listIsTrue -/
theorem Pm_keep {D : va_G} {h h' : Hp} {W : Nat → Prop} {f k : Nat} {r : List Nat} (hk : Keep W h h') (hm : Pm D h f k r) (n1 : ¬ W f) (n2 : ¬ W k) : Pm D h' f k r := by
  obtain ⟨h1, ks, h2, h3⟩ := hm
  exact ⟨hk _ _ h1 n1, ks, hk _ _ h2 n2, h3⟩
/-- an object of one class is no list, and no list's row -/
theorem ob0_ne {D : va_G} {h : Hp} {x f k : Nat} {fs : List Value} {r : List Nat} (hx : h x = some (ob 0 fs)) (hm : Pm D h f k r) : x ≠ f ∧ x ≠ k := by
  obtain ⟨h1, ks, h2, h3⟩ := hm
  constructor
  · intro z
    rw [z, h1] at hx
    unfold ob at hx
    injection hx with hx
    injection hx with hx
    injection hx with hx hx2
    cases hx
  · intro z
    rw [z, h2] at hx
    cases hx
theorem ob1_ne {D : va_G} {h : Hp} {f k f2 k2 : Nat} {r r2 : List Nat} (hm : Pm D h f k r) (hm2 : Pm D h f2 k2 r2) : f ≠ k2 := by
  obtain ⟨h1, -⟩ := hm
  obtain ⟨-, ks, h2, -⟩ := hm2
  intro z
  rw [z, h2] at h1
  cases h1
theorem asc_nth : ∀ {r : List Nat}, ascB r = true → ∀ i, i + 1 < r.length → nthR r i < nthR r (i + 1)
  | [], _, i, hi => absurd hi (by simp)
  | [a], _, i, hi => absurd hi (by simp)
  | a :: b :: r, h, i, hi => by
    unfold ascB at h
    simp only [Bool.and_eq_true, decide_eq_true_eq] at h
    have hl : (a :: b :: r).length = r.length + 2 := rfl
    have hl2 : (b :: r).length = r.length + 1 := rfl
    have e : ∀ j, j < r.length + 1 → nthR (a :: b :: r) j = nthR (b :: r) j := by
      intro j hj
      unfold nthR
      rw [hl, hl2, show r.length + 2 - 1 - j = (r.length + 1 - 1 - j) + 1 by omega]
      rfl
    by_cases z : i + 1 = r.length + 1
    · rw [e i (by omega)]
      have e1 : nthR (a :: b :: r) (i + 1) = a := by
        unfold nthR
        rw [hl, show r.length + 2 - 1 - (i + 1) = 0 by omega]
        rfl
      have e2 : nthR (b :: r) i = b := by
        unfold nthR
        rw [hl2, show r.length + 1 - 1 - i = 0 by omega]
        rfl
      rw [e1, e2]
      exact h.1
    · rw [e i (by omega), e (i + 1) (by omega)]
      exact asc_nth h.2 i (by rw [hl2]; omega)
def cdLi (w b : Int) : Int := if (w = 101 ∨ w = 116 ∨ w = 104) ∧ 0 ≤ b ∧ b ≤ 400 then 0 else 1
def cdLt (b : Int) : Int := if 0 ≤ b ∧ b ≤ 400 then 0 else 1
abbrev rX6_list : Room := { frames := 7, cells := 2, slots := 12, locals := 147 }
theorem c_X6_list {l : Launch} (hl : l.stackTraces = false) (D : va_G) (z0 : Nat) (h : Hp) (x T f u v o : Nat) (n : Int) (g : Nat → Option Nat) (σ : Tg) (hc : Cy D h x T f u v o n g σ) (k : Nat) (r : List Nat) (hm : Pm D h f k r) (w b : Int) (hw : 0 ≤ w ∧ w ≤ 65535) (hb0 : I32 b) : CC l yX6_list cX6_list 3 (some .int) rX6_list D z0 h [.ref x, iv w, iv b] (fun w0 h' => w0 = some (iv ((eR b.toNat).length : Int)) ∧ Pm D h' f k (eR b.toNat) ∧ Keep (fun y => y = f ∨ y = k) h h' ∧ cdLi w b = 0) (Xn [iae] (cdLi w b) h) := by
  refine CC_of RX6 hl (by decide) rfl (Nat.le_of_ble_eq_true rfl) (fun K X Y Z hmn hKl => ?_)
  subst hKl
  show WW K D z0 3 h 0 0 0 [(0, .ref x), (1, iv w), (2, iv b)] []
  refine r_iload_n 1 X dX6_list_0 rfl ?_
  refine r_bipush X dX6_list_1 (by decide) ?_
  refine r_icmp_eq 28 X dX6_list_3 (by decide) ⟨by omega, by omega⟩ ⟨by omega, by omega⟩ (fun c3 => ?_) (fun c3 => ?_)
  · refine r_iload_n 2 X dX6_list_28 rfl ?_
    refine r_callS X dX6_list_29 kX6_209 (c_X6_requireBound (CX_l X) D z0 h b ⟨by omega, by omega⟩) [] rfl rfl (Nat.le_of_ble_eq_true rfl) (by decide) (by decide) (fun E9 h9 hx9 => by obtain ⟨rfl, rfl, hn29⟩ := Xn1 hx9; exact WX_out X Y Z (by decide) (by decide) (Xn_mk 1 (if_neg (by omega)) (by decide) rfl)) (fun v9 h9 hv9 => ?_)
    obtain ⟨rfl, rfl, hp29⟩ := hv9
    show WW K D z0 3 h 1 6 32 [(0, .ref x), (1, iv w), (2, iv b)] []
    refine r_aload_n 0 X dX6_list_32 rfl ?_
    refine r_getf X dX6_list_33 fX6_18 hc.1 rfl ?_
    refine r_iload_n 1 X dX6_list_36 rfl ?_
    refine r_iload_n 2 X dX6_list_37 rfl ?_
    refine WW_e (congrArg (fun z => iv z :: [iv w, .ref f]) (show b = (b.toNat : Int) by omega)) ?_
    show WW K D z0 3 h 1 6 38 [(0, .ref x), (1, iv w), (2, iv b)] [iv (b.toNat : Int), iv w, .ref f]
    refine r_callV X dX6_list_38 kX6_212 hm.1 (c_X2_fill (CX_l X) D z0 h f k r hm w hw b.toNat (by omega)) [] rfl rfl (Nat.le_of_ble_eq_true rfl) (by decide) (by decide) (fun _ _ z => z.elim) (fun v9 h9 hv9 => ?_)
    obtain ⟨rfl, hm8, hk8⟩ := hv9
    show WW K D z0 3 h9 1 6 41 [(0, .ref x), (1, iv w), (2, iv b)] []
    refine r_aload_n 0 X dX6_list_41 rfl ?_
    refine r_getf X dX6_list_42 fX6_18 (hk8 _ _ hc.1 (fun z => z.elim (ob0_ne hc.1 hm).1 (ob0_ne hc.1 hm).2)) rfl ?_
    refine r_getf X dX6_list_45 fX6_216 hm8.1 rfl ?_
    refine r_iret X Y dX6_list_48 (by decide) (by decide) ?_
    exact ⟨rfl, hm8, hk8, if_pos (by omega)⟩
  · refine r_iload_n 1 X dX6_list_6 rfl ?_
    refine r_bipush X dX6_list_7 (by decide) ?_
    refine r_icmp_eq 28 X dX6_list_9 (by decide) ⟨by omega, by omega⟩ ⟨by omega, by omega⟩ (fun c9 => ?_) (fun c9 => ?_)
    · refine r_iload_n 2 X dX6_list_28 rfl ?_
      refine r_callS X dX6_list_29 kX6_209 (c_X6_requireBound (CX_l X) D z0 h b ⟨by omega, by omega⟩) [] rfl rfl (Nat.le_of_ble_eq_true rfl) (by decide) (by decide) (fun E9 h9 hx9 => by obtain ⟨rfl, rfl, hn29⟩ := Xn1 hx9; exact WX_out X Y Z (by decide) (by decide) (Xn_mk 1 (if_neg (by omega)) (by decide) rfl)) (fun v9 h9 hv9 => ?_)
      obtain ⟨rfl, rfl, hp29⟩ := hv9
      show WW K D z0 3 h 1 6 32 [(0, .ref x), (1, iv w), (2, iv b)] []
      refine r_aload_n 0 X dX6_list_32 rfl ?_
      refine r_getf X dX6_list_33 fX6_18 hc.1 rfl ?_
      refine r_iload_n 1 X dX6_list_36 rfl ?_
      refine r_iload_n 2 X dX6_list_37 rfl ?_
      refine WW_e (congrArg (fun z => iv z :: [iv w, .ref f]) (show b = (b.toNat : Int) by omega)) ?_
      show WW K D z0 3 h 1 6 38 [(0, .ref x), (1, iv w), (2, iv b)] [iv (b.toNat : Int), iv w, .ref f]
      refine r_callV X dX6_list_38 kX6_212 hm.1 (c_X2_fill (CX_l X) D z0 h f k r hm w hw b.toNat (by omega)) [] rfl rfl (Nat.le_of_ble_eq_true rfl) (by decide) (by decide) (fun _ _ z => z.elim) (fun v9 h9 hv9 => ?_)
      obtain ⟨rfl, hm8, hk8⟩ := hv9
      show WW K D z0 3 h9 1 6 41 [(0, .ref x), (1, iv w), (2, iv b)] []
      refine r_aload_n 0 X dX6_list_41 rfl ?_
      refine r_getf X dX6_list_42 fX6_18 (hk8 _ _ hc.1 (fun z => z.elim (ob0_ne hc.1 hm).1 (ob0_ne hc.1 hm).2)) rfl ?_
      refine r_getf X dX6_list_45 fX6_216 hm8.1 rfl ?_
      refine r_iret X Y dX6_list_48 (by decide) (by decide) ?_
      exact ⟨rfl, hm8, hk8, if_pos (by omega)⟩
    · refine r_iload_n 1 X dX6_list_12 rfl ?_
      refine r_bipush X dX6_list_13 (by decide) ?_
      refine r_icmp_eq 28 X dX6_list_15 (by decide) ⟨by omega, by omega⟩ ⟨by omega, by omega⟩ (fun c15 => ?_) (fun c15 => ?_)
      · refine r_iload_n 2 X dX6_list_28 rfl ?_
        refine r_callS X dX6_list_29 kX6_209 (c_X6_requireBound (CX_l X) D z0 h b ⟨by omega, by omega⟩) [] rfl rfl (Nat.le_of_ble_eq_true rfl) (by decide) (by decide) (fun E9 h9 hx9 => by obtain ⟨rfl, rfl, hn29⟩ := Xn1 hx9; exact WX_out X Y Z (by decide) (by decide) (Xn_mk 1 (if_neg (by omega)) (by decide) rfl)) (fun v9 h9 hv9 => ?_)
        obtain ⟨rfl, rfl, hp29⟩ := hv9
        show WW K D z0 3 h 1 6 32 [(0, .ref x), (1, iv w), (2, iv b)] []
        refine r_aload_n 0 X dX6_list_32 rfl ?_
        refine r_getf X dX6_list_33 fX6_18 hc.1 rfl ?_
        refine r_iload_n 1 X dX6_list_36 rfl ?_
        refine r_iload_n 2 X dX6_list_37 rfl ?_
        refine WW_e (congrArg (fun z => iv z :: [iv w, .ref f]) (show b = (b.toNat : Int) by omega)) ?_
        show WW K D z0 3 h 1 6 38 [(0, .ref x), (1, iv w), (2, iv b)] [iv (b.toNat : Int), iv w, .ref f]
        refine r_callV X dX6_list_38 kX6_212 hm.1 (c_X2_fill (CX_l X) D z0 h f k r hm w hw b.toNat (by omega)) [] rfl rfl (Nat.le_of_ble_eq_true rfl) (by decide) (by decide) (fun _ _ z => z.elim) (fun v9 h9 hv9 => ?_)
        obtain ⟨rfl, hm8, hk8⟩ := hv9
        show WW K D z0 3 h9 1 6 41 [(0, .ref x), (1, iv w), (2, iv b)] []
        refine r_aload_n 0 X dX6_list_41 rfl ?_
        refine r_getf X dX6_list_42 fX6_18 (hk8 _ _ hc.1 (fun z => z.elim (ob0_ne hc.1 hm).1 (ob0_ne hc.1 hm).2)) rfl ?_
        refine r_getf X dX6_list_45 fX6_216 hm8.1 rfl ?_
        refine r_iret X Y dX6_list_48 (by decide) (by decide) ?_
        exact ⟨rfl, hm8, hk8, if_pos (by omega)⟩
      · refine r_throwS (E := "java/lang/IllegalArgumentException") (text := "there is no such way") X Y Z dX6_list_18 dX6_list_21 dX6_list_22 dX6_list_24 dX6_list_27 (by decide) gX6_44 ini_IllegalArgumentException (by decide) hX6_48 (Nat.le_of_ble_eq_true rfl) (by decide) (by decide) (by decide) ?_
        exact Xn_mk 1 (if_neg (by omega)) (by decide) rfl
