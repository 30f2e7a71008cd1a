/-! listed, checksum -/
def cdLd (m : Nat) (i w : Int) : Int := if (0 ≤ i ∧ i < (m : Int)) ∧ 0 ≤ w ∧ w ≤ 2 then 0 else 1
abbrev rX6_listed : Room := { frames := 7, cells := 2, slots := 12, locals := 110 }
theorem c_X6_listed {l : Launch} (hl : l.stackTraces = false) (D : va_G) (z0 : Nat) (h : Hp) (x T f u v o : Nat) (n : Int) (g : Nat → Option Nat) (σ : Tg) (hc : Cy D h x T f u v o n g σ) (k : Nat) (r : List Nat) (hm : Pm D h f k r) (hr : r.length ≤ 63) (hb : ∀ a ∈ r, a < 134217728) (i w : Int) (hi0 : I32 i) (hw0 : I32 w) : CC l yX6_listed cX6_listed 3 (some .int) rX6_listed D z0 h [.ref x, iv i, iv w] (fun w0 h' => w0 = some (iv (lnK ((nthR r i.toNat : Nat) : Int) w)) ∧ h = h' ∧ cdLd r.length i w = 0) (Xn [iob] (cdLd r.length i w) h) := by
  refine CC_of RX6 hl (by decide) rfl (Nat.le_of_ble_eq_true rfl) (fun K X Y Z hmn hKl => ?_)
  subst hKl
  show WW K D z0 3 h 0 0 0 [(0, .ref x), (1, iv i), (2, iv w)] []
  refine r_iload_n 1 X dX6_listed_0 rfl ?_
  refine r_if_lt 15 X dX6_listed_1 (by decide) ⟨by omega, by omega⟩ (fun c1 => ?_) (fun c1 => ?_)
  · refine r_throwS (E := "java/lang/IndexOutOfBoundsException") (text := "there is no such number") X Y Z dX6_listed_15 dX6_listed_18 dX6_listed_19 dX6_listed_21 dX6_listed_24 (by decide) gX6_219 ini_IndexOutOfBoundsException (by decide) hX6_223 (Nat.le_of_ble_eq_true rfl) (by decide) (by decide) (by decide) ?_
    exact Xn_mk 1 (if_neg (by omega)) (by decide) rfl
  · refine r_iload_n 1 X dX6_listed_4 rfl ?_
    refine r_aload_n 0 X dX6_listed_5 rfl ?_
    refine r_getf X dX6_listed_6 fX6_18 hc.1 rfl ?_
    refine r_getf X dX6_listed_9 fX6_216 hm.1 rfl ?_
    refine r_icmp_lt 25 X dX6_listed_12 (by decide) ⟨by omega, by omega⟩ ⟨by omega, by omega⟩ (fun c12 => ?_) (fun c12 => ?_)
    · refine r_iload_n 2 X dX6_listed_25 rfl ?_
      refine r_callS X dX6_listed_26 kX6_74 (c_X6_requireSide (CX_l X) D z0 h w ⟨by omega, by omega⟩) [] rfl rfl (Nat.le_of_ble_eq_true rfl) (by decide) (by decide) (fun E9 h9 hx9 => by obtain ⟨rfl, rfl, hn26⟩ := Xn1 hx9; exact WX_out X Y Z (by decide) (by decide) (Xn_mk 1 (if_neg (by omega)) (by decide) rfl)) (fun v9 h9 hv9 => ?_)
      obtain ⟨rfl, rfl, hp26⟩ := hv9
      show WW K D z0 3 h 1 6 29 [(0, .ref x), (1, iv i), (2, iv w)] []
      refine r_aload_n 0 X dX6_listed_29 rfl ?_
      refine r_getf X dX6_listed_30 fX6_18 hc.1 rfl ?_
      refine r_iload_n 1 X dX6_listed_33 rfl ?_
      refine r_iload_n 2 X dX6_listed_34 rfl ?_
      refine r_callV_v X dX6_listed_35 kX6_224 hm.1 (c_X2_length (CX_l X) D z0 h f k r hm (by omega) hb i w ⟨by omega, by omega⟩ ⟨by omega, by omega⟩) [] rfl rfl (Nat.le_of_ble_eq_true rfl) (by decide) rfl rfl (by decide) ?_
      refine r_iret X Y dX6_listed_38 (by decide) (by decide) ?_
      exact ⟨rfl, rfl, if_pos (by omega)⟩
    · refine r_throwS (E := "java/lang/IndexOutOfBoundsException") (text := "there is no such number") X Y Z dX6_listed_15 dX6_listed_18 dX6_listed_19 dX6_listed_21 dX6_listed_24 (by decide) gX6_219 ini_IndexOutOfBoundsException (by decide) hX6_223 (Nat.le_of_ble_eq_true rfl) (by decide) (by decide) (by decide) ?_
      exact Xn_mk 1 (if_neg (by omega)) (by decide) rfl
