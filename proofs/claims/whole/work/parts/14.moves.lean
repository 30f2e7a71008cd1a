/-! the class Trigonyard: what changes the places -/
theorem TV_of {a b c : Int} (ha : sd a) (hb : sd b) (hc : sd c) (h1 : a < b + c) (h2 : b < a + c) (h3 : c < a + b) : TV (mn3 a b c) (md3 a b c) (mx3 a b c) := by
  unfold TV md3 mn3 mx3
  omega
theorem st_TV {a b c : Int} (h : TV a b c) : mn3 a b c = a ∧ md3 a b c = b ∧ mx3 a b c = c := by
  unfold TV at h
  unfold md3 mn3 mx3
  omega
theorem dft5 : ∀ j, j < 5 → defaultValue (tyc 2 j) = vp_V [iv 0, iv 0, iv 0, jv 0, jv 0] j
  | 0, _ => rfl
  | 1, _ => rfl
  | 2, _ => rfl
  | 3, _ => rfl
  | 4, _ => rfl
  | k + 5, h => absurd h (by omega)
section
variable {D : va_G} {h : Hp} {x T f u v o : Nat} {n : Int} {g : Nat → Option Nat} {σ : Tg}
theorem Cy_xT (hc : Cy D h x T f u v o n g σ) : x ≠ T := by
  intro z
  have h1 := hc.1
  rw [z, hc.2.1] at h1
  cases h1
theorem Cy_up (hc : Cy D h x T f u v o n g σ) {p : Int} (hp : pl p) {q : Nat} {a b c : Int} (hq : h q = some (triE a b c)) (hv : TV a b c) : Cy D (hu h T (aR D 16 (up g p.toNat (some q)))) x T f u v o n (up g p.toNat (some q)) (up σ p.toNat (some (a, b, c))) := by
  refine ⟨by rw [hu_n _ _ (Cy_xT hc)]; exact hc.1, hu_s _ _ _, Trs_hold hc.2.1 hc.2.2 _ _ _ (fun i hi => ?_)⟩
  by_cases e : i = p.toNat
  · subst e
    exact Or.inr (Or.inr ⟨q, a, b, c, up_s _ _ _, up_s _ _ _, hq, hv⟩)
  · exact Or.inl ⟨up_n _ _ e, up_n _ _ e⟩
theorem Cy_un (hc : Cy D h x T f u v o n g σ) {p : Int} (hp : pl p) : Cy D (hu h T (aR D 16 (up g p.toNat none))) x T f u v o n (up g p.toNat none) (up σ p.toNat none) := by
  refine ⟨by rw [hu_n _ _ (Cy_xT hc)]; exact hc.1, hu_s _ _ _, Trs_hold hc.2.1 hc.2.2 _ _ _ (fun i hi => ?_)⟩
  by_cases e : i = p.toNat
  · subst e
    exact Or.inr (Or.inl ⟨up_s _ _ _, up_s _ _ _⟩)
  · exact Or.inl ⟨up_n _ _ e, up_n _ _ e⟩
theorem hu_new {q y : Nat} {e e' : va_E} (hq : h q = none) (hy : h y = some e') : hu h q e y = some e' := by
  rw [hu_n]
  · exact hy
  · intro z
    rw [z, hq] at hy
    cases hy
theorem Cy_new (hc : Cy D h x T f u v o n g σ) {q : Nat} (e : va_E) (hq : h q = none) : Cy D (hu h q e) x T f u v o n g σ := by
  refine ⟨hu_new hq hc.1, hu_new hq hc.2.1, fun i hi => ?_⟩
  rcases hc.2.2 i hi with z | ⟨q', a, b, c, z1, z2, z3, z4⟩
  · exact Or.inl z
  · exact Or.inr ⟨q', a, b, c, z1, z2, hu_new hq z3, z4⟩
end
def onT (σ : Tg) (p : Int) (k : Int → Int → Int → Option (Int × Int × Int)) : Option (Int × Int × Int) := match σ p.toNat with
  | some (a, b, c) => k a b c
  | none => none
theorem onT_s {σ : Tg} {p a b c : Int} {k : Int → Int → Int → Option (Int × Int × Int)} (h : σ p.toNat = some (a, b, c)) : onT σ p k = k a b c := by unfold onT; rw [h]
/-- the triangle of three sides -/
def st3 (a b c : Int) : Option (Int × Int × Int) := some (mn3 a b c, md3 a b c, mx3 a b c)
theorem up_same {α : Type} {g : Nat → α} {k : Nat} {e : α} (h : g k = e) : up g k e = g := by
  funext j
  by_cases z : j = k
  · rw [z, up_s, h]
  · exact up_n _ _ z
abbrev rX6_take : Room := { frames := 8, cells := 2, slots := 12, locals := 132 }
theorem c_X6_take {l : Launch} (hl : l.stackTraces = false) (D : va_G) (z0 : Nat) (h : Hp) (x T f u v o : Nat) (n : Int) (g : Nat → Option Nat) (σ : Tg) (hc : Cy D h x T f u v o n g σ) (p : Int) (hp0 : I32 p) : CC l yX6_take cX6_take 2 (some .int) rX6_take D z0 h [.ref x, iv p] (fun w0 h' => ∃ g', w0 = some (iv (cntT (up σ p.toNat none) 16)) ∧ Cy D h' x T f u v o n g' (up σ p.toNat none) ∧ Keep (fun y => y = T) h h' ∧ ms σ p 2 = 0) (Xn [iob, nseN] (ms σ p 2) h) := by
  refine CC_of RX6 hl (by decide) rfl (Nat.le_of_ble_eq_true rfl) (fun K X Y Z hmn hKl => ?_)
  subst hKl
  show WW K D z0 2 h 0 0 0 [(0, .ref x), (1, iv p)] []
  refine r_aload_n 0 X dX6_take_0 rfl ?_
  refine r_iload_n 1 X dX6_take_1 rfl ?_
  refine r_callV X dX6_take_2 kX6_67 hc.1 (c_X6_heldAt (CX_l X) D z0 h x T f u v o n g σ hc p ⟨by omega, by omega⟩) [] rfl rfl (Nat.le_of_ble_eq_true rfl) (by decide) (by decide) (fun E9 h9 hx9 => by obtain ⟨rfl, ⟨hn2, rfl⟩ | ⟨hn2, hz2, rfl⟩⟩ := Xn_ms hx9; exact WX_out X Y Z (by decide) (by decide) (Xn_mk 1 (by unfold ms; (try simp only [isNone_f, isNone_t, true_or, or_true, false_or, or_false]); ((repeat' split) <;> first | rfl | contradiction | omega)) (by decide) rfl); exact WX_out X Y Z (by decide) (by decide) (Xn_mk 2 (by unfold ms; (try simp only [hz2, isNone_f, isNone_t, true_or, or_true, false_or, or_false]); ((repeat' split) <;> first | rfl | contradiction | omega)) (by decide) rfl)) (fun v9 h9 hv9 => ?_)
  obtain ⟨rfl, hp2, q2, a2, b2, c02, rfl, hg2, hs2, ht2, hv2⟩ := hv9
  have hb2 := TV_b hv2
  show WW K D z0 2 h 2 12 5 [(0, .ref x), (1, iv p)] [.ref q2]
  refine r_pop X dX6_take_5 rfl ?_
  refine r_aload_n 0 X dX6_take_6 rfl ?_
  refine r_iload_n 1 X dX6_take_7 rfl ?_
  refine r_null X dX6_take_8 ?_
  refine r_callV X dX6_take_9 kX6_59 hc.1 (c_X6_hold_n (CX_l X) D z0 h x T f u v o n g σ hc p hp2) [] rfl rfl (Nat.le_of_ble_eq_true rfl) (by decide) (by decide) (fun _ _ z => z.elim) (fun v9 h9 hv9 => ?_)
  obtain ⟨rfl, rfl⟩ := hv9
  have hc7 := Cy_un hc hp2
  show WW K D z0 2 (hu h T (aR D 16 (up g p.toNat none))) 2 12 12 [(0, .ref x), (1, iv p)] []
  refine r_aload_n 0 X dX6_take_12 rfl ?_
  refine r_callV_v X dX6_take_13 kX6_63 hc7.1 (c_X6_countHeld (CX_l X) D z0 (hu h T (aR D 16 (up g p.toNat none))) x T f u v o n (up g p.toNat none) (up σ p.toNat none) hc7) [] rfl rfl (Nat.le_of_ble_eq_true rfl) (by decide) rfl rfl (by decide) ?_
  refine r_iret X Y dX6_take_16 (by decide) (by decide) ?_
  exact ⟨_, rfl, hc7, Keep_hu, (by unfold ms; (try simp only [on_s hs2, hs2, isNone_f, isNone_t, true_or, or_true, false_or, or_false]); ((repeat' split) <;> first | rfl | contradiction | omega))⟩
def cdPu (p a b c : Int) : Int := if ¬ pl p then 1 else if ¬ (sd a ∧ sd b ∧ sd c) then 2 else if b + c ≤ a ∨ a + c ≤ b ∨ a + b ≤ c then 3 else 0
abbrev rX6_put : Room := { frames := 7, cells := 4, slots := 23, locals := 110 }
theorem c_X6_put {l : Launch} (hl : l.stackTraces = false) (D : va_G) (z0 : Nat) (h : Hp) (x T f u v o : Nat) (n : Int) (g : Nat → Option Nat) (σ : Tg) (hc : Cy D h x T f u v o n g σ) (p : Int) (hp0 : I32 p) (a b c : Int) (ha : I32 a) (hb : I32 b) (hcc : I32 c) : CC l yX6_put cX6_put 5 (some .int) rX6_put D z0 h [.ref x, iv p, iv a, iv b, iv c] (fun w0 h' => ∃ g', w0 = some (iv (cntT (up σ p.toNat (st3 a b c)) 16)) ∧ Cy D h' x T f u v o n g' (up σ p.toNat (st3 a b c)) ∧ Keep (fun y => y = T) h h' ∧ cdPu p a b c = 0) (Xn [iob, iae, ise] (cdPu p a b c) h) := by
  refine CC_of RX6 hl (by decide) rfl (Nat.le_of_ble_eq_true rfl) (fun K X Y Z hmn hKl => ?_)
  subst hKl
  show WW K D z0 5 h 0 0 0 [(0, .ref x), (1, iv p), (2, iv a), (3, iv b), (4, iv c)] []
  refine r_iload_n 1 X dX6_put_0 rfl ?_
  refine r_callS X dX6_put_1 kX6_36 (c_X6_requirePlace (CX_l X) D z0 h p ⟨by omega, by omega⟩) [] rfl rfl (Nat.le_of_ble_eq_true rfl) (by decide) (by decide) (fun E9 h9 hx9 => by obtain ⟨rfl, rfl, hn1⟩ := Xn1 hx9; exact WX_out X Y Z (by decide) (by decide) (Xn_mk 1 (by unfold cdPu; (try simp only [isNone_f, isNone_t, true_or, or_true, false_or, or_false]); ((repeat' split) <;> first | rfl | contradiction | omega)) (by decide) rfl)) (fun v9 h9 hv9 => ?_)
  obtain ⟨rfl, rfl, hp1⟩ := hv9
  show WW K D z0 5 h 1 6 4 [(0, .ref x), (1, iv p), (2, iv a), (3, iv b), (4, iv c)] []
  refine r_iload_n 2 X dX6_put_4 rfl ?_
  refine r_callS_v X dX6_put_5 kX6_40 (c_X6_isSide (CX_l X) D z0 h a ⟨by omega, by omega⟩) [] rfl rfl (Nat.le_of_ble_eq_true rfl) (by decide) rfl rfl (by decide) ?_
  refine r_ifb_eq 26 X dX6_put_8 (by decide) (fun c8 => ?_) (fun c8 => ?_)
  · refine r_throwS (E := "java/lang/IllegalArgumentException") (text := "a side is out of range") X Y Z dX6_put_26 dX6_put_29 dX6_put_30 dX6_put_32 dX6_put_35 (by decide) gX6_44 ini_IllegalArgumentException (by decide) hX6_48 (Nat.le_of_ble_eq_true rfl) (by decide) (by decide) (by decide) ?_
    exact Xn_mk 2 (by unfold cdPu; (try simp only [isNone_f, isNone_t, true_or, or_true, false_or, or_false]); ((repeat' split) <;> first | rfl | contradiction | omega)) (by decide) rfl
  · refine r_iload_n 3 X dX6_put_11 rfl ?_
    refine r_callS_v X dX6_put_12 kX6_40 (c_X6_isSide (CX_l X) D z0 h b ⟨by omega, by omega⟩) [] rfl rfl (Nat.le_of_ble_eq_true rfl) (by decide) rfl rfl (by decide) ?_
    refine r_ifb_eq 26 X dX6_put_15 (by decide) (fun c15 => ?_) (fun c15 => ?_)
    · refine r_throwS (E := "java/lang/IllegalArgumentException") (text := "a side is out of range") X Y Z dX6_put_26 dX6_put_29 dX6_put_30 dX6_put_32 dX6_put_35 (by decide) gX6_44 ini_IllegalArgumentException (by decide) hX6_48 (Nat.le_of_ble_eq_true rfl) (by decide) (by decide) (by decide) ?_
      exact Xn_mk 2 (by unfold cdPu; (try simp only [isNone_f, isNone_t, true_or, or_true, false_or, or_false]); ((repeat' split) <;> first | rfl | contradiction | omega)) (by decide) rfl
    · refine r_iload 4 X dX6_put_18 rfl ?_
      refine r_callS_v X dX6_put_20 kX6_40 (c_X6_isSide (CX_l X) D z0 h c ⟨by omega, by omega⟩) [] rfl rfl (Nat.le_of_ble_eq_true rfl) (by decide) rfl rfl (by decide) ?_
      refine r_ifb_ne 36 X dX6_put_23 (by decide) (fun c23 => ?_) (fun c23 => ?_)
      · refine r_iload_n 2 X dX6_put_36 rfl ?_
        refine r_iload_n 3 X dX6_put_37 rfl ?_
        refine r_iload 4 X dX6_put_38 rfl ?_
        refine r_iadd X dX6_put_40 ?_
        refine r_icmp_ge 60 X dX6_put_41 (by decide) ⟨by omega, by omega⟩ ⟨by omega, by omega⟩ (fun c41 => ?_) (fun c41 => ?_)
        · refine r_throwS (E := "java/lang/IllegalStateException") (text := "a side is not less than the sum of the two others") X Y Z dX6_put_60 dX6_put_63 dX6_put_64 dX6_put_66 dX6_put_69 (by decide) gX6_51 ini_IllegalStateException (by decide) hX6_55 (Nat.le_of_ble_eq_true rfl) (by decide) (by decide) (by decide) ?_
          exact Xn_mk 3 (by unfold cdPu; (try simp only [isNone_f, isNone_t, true_or, or_true, false_or, or_false]); ((repeat' split) <;> first | rfl | contradiction | omega)) (by decide) rfl
        · refine r_iload_n 3 X dX6_put_44 rfl ?_
          refine r_iload_n 2 X dX6_put_45 rfl ?_
          refine r_iload 4 X dX6_put_46 rfl ?_
          refine r_iadd X dX6_put_48 ?_
          refine r_icmp_ge 60 X dX6_put_49 (by decide) ⟨by omega, by omega⟩ ⟨by omega, by omega⟩ (fun c49 => ?_) (fun c49 => ?_)
          · refine r_throwS (E := "java/lang/IllegalStateException") (text := "a side is not less than the sum of the two others") X Y Z dX6_put_60 dX6_put_63 dX6_put_64 dX6_put_66 dX6_put_69 (by decide) gX6_51 ini_IllegalStateException (by decide) hX6_55 (Nat.le_of_ble_eq_true rfl) (by decide) (by decide) (by decide) ?_
            exact Xn_mk 3 (by unfold cdPu; (try simp only [isNone_f, isNone_t, true_or, or_true, false_or, or_false]); ((repeat' split) <;> first | rfl | contradiction | omega)) (by decide) rfl
          · refine r_iload 4 X dX6_put_52 rfl ?_
            refine r_iload_n 2 X dX6_put_54 rfl ?_
            refine r_iload_n 3 X dX6_put_55 rfl ?_
            refine r_iadd X dX6_put_56 ?_
            refine r_icmp_lt 70 X dX6_put_57 (by decide) ⟨by omega, by omega⟩ ⟨by omega, by omega⟩ (fun c57 => ?_) (fun c57 => ?_)
            · refine r_aload_n 0 X dX6_put_70 rfl ?_
              refine r_iload_n 1 X dX6_put_71 rfl ?_
              refine r_new (ci := 2) (fs := [iv 0, iv 0, iv 0, jv 0, jv 0]) X dX6_put_72 _ rfl gX6_9 inst_X5 init_X5 dft5 (Nat.le_of_ble_eq_true rfl) (Nat.le_of_ble_eq_true rfl) (fun q8 hq8 _ => ?_)
              show WW K D z0 5 (hu h q8 (ob 2 [iv 0, iv 0, iv 0, jv 0, jv 0])) 2 11 75 [(0, .ref x), (1, iv p), (2, iv a), (3, iv b), (4, iv c)] [.ref q8, iv p, .ref x]
              refine r_dup X dX6_put_75 rfl ?_
              refine r_iload_n 2 X dX6_put_76 rfl ?_
              refine r_iload_n 3 X dX6_put_77 rfl ?_
              refine r_iload 4 X dX6_put_78 rfl ?_
              refine r_callI X dX6_put_80 kX6_56 (c_X5_init (CX_l X) D z0 (hu h q8 (ob 2 [iv 0, iv 0, iv 0, jv 0, jv 0])) q8 a b c ⟨c8, c15, c23⟩ (TV_of c8 c15 c23 (by omega) (by omega) (by omega)) (hu_s _ _ _)) [.ref q8, iv p, .ref x] rfl rfl (Nat.le_of_ble_eq_true rfl) (by decide) (by decide) (fun v9 h9 hv9 => ?_)
              obtain ⟨rfl, rfl⟩ := hv9
              refine WW_h (hu_hu _ _ _ _) ?_
              have hc8 := Cy_new hc (triE (mn3 a b c) (md3 a b c) (mx3 a b c)) hq8
              have ht8 := hu_s h q8 (triE (mn3 a b c) (md3 a b c) (mx3 a b c))
              show WW K D z0 5 (hu h q8 (triE (mn3 a b c) (md3 a b c) (mx3 a b c))) 2 11 83 [(0, .ref x), (1, iv p), (2, iv a), (3, iv b), (4, iv c)] [.ref q8, iv p, .ref x]
              refine r_callV X dX6_put_83 kX6_59 hc8.1 (c_X6_hold_q (CX_l X) D z0 (hu h q8 (triE (mn3 a b c) (md3 a b c) (mx3 a b c))) x T f u v o n g σ hc8 p hp1 q8 _ ht8) [] rfl rfl (Nat.le_of_ble_eq_true rfl) (by decide) (by decide) (fun _ _ z => z.elim) (fun v9 h9 hv9 => ?_)
              obtain ⟨rfl, rfl⟩ := hv9
              have hc7 := Cy_up hc8 hp1 ht8 (TV_of c8 c15 c23 (by omega) (by omega) (by omega))
              show WW K D z0 5 (hu (hu h q8 (triE (mn3 a b c) (md3 a b c) (mx3 a b c))) T (aR D 16 (up g p.toNat (some q8)))) 2 11 86 [(0, .ref x), (1, iv p), (2, iv a), (3, iv b), (4, iv c)] []
              refine r_aload_n 0 X dX6_put_86 rfl ?_
              refine r_callV_v X dX6_put_87 kX6_63 hc7.1 (c_X6_countHeld (CX_l X) D z0 (hu (hu h q8 (triE (mn3 a b c) (md3 a b c) (mx3 a b c))) T (aR D 16 (up g p.toNat (some q8)))) x T f u v o n (up g p.toNat (some q8)) (up σ p.toNat (some ((mn3 a b c), (md3 a b c), (mx3 a b c)))) hc7) [] rfl rfl (Nat.le_of_ble_eq_true rfl) (by decide) rfl rfl (by decide) ?_
              refine r_iret X Y dX6_put_90 (by decide) (by decide) ?_
              exact ⟨_, rfl, hc7, Keep_new hq8 Keep_hu, (by unfold cdPu; (try simp only [isNone_f, isNone_t, true_or, or_true, false_or, or_false]); ((repeat' split) <;> first | rfl | contradiction | omega))⟩
            · refine r_throwS (E := "java/lang/IllegalStateException") (text := "a side is not less than the sum of the two others") X Y Z dX6_put_60 dX6_put_63 dX6_put_64 dX6_put_66 dX6_put_69 (by decide) gX6_51 ini_IllegalStateException (by decide) hX6_55 (Nat.le_of_ble_eq_true rfl) (by decide) (by decide) (by decide) ?_
              exact Xn_mk 3 (by unfold cdPu; (try simp only [isNone_f, isNone_t, true_or, or_true, false_or, or_false]); ((repeat' split) <;> first | rfl | contradiction | omega)) (by decide) rfl
      · refine r_throwS (E := "java/lang/IllegalArgumentException") (text := "a side is out of range") X Y Z dX6_put_26 dX6_put_29 dX6_put_30 dX6_put_32 dX6_put_35 (by decide) gX6_44 ini_IllegalArgumentException (by decide) hX6_48 (Nat.le_of_ble_eq_true rfl) (by decide) (by decide) (by decide) ?_
        exact Xn_mk 2 (by unfold cdPu; (try simp only [isNone_f, isNone_t, true_or, or_true, false_or, or_false]); ((repeat' split) <;> first | rfl | contradiction | omega)) (by decide) rfl
def cdCo (σ : Tg) (p q : Int) : Int := if ¬ pl q then 1 else ms σ p 2
abbrev rX6_copy : Room := { frames := 8, cells := 4, slots := 24, locals := 132 }
theorem c_X6_copy {l : Launch} (hl : l.stackTraces = false) (D : va_G) (z0 : Nat) (h : Hp) (x T f u v o : Nat) (n : Int) (g : Nat → Option Nat) (σ : Tg) (hc : Cy D h x T f u v o n g σ) (p : Int) (hp0 : I32 p) (q : Int) (hq0 : I32 q) : CC l yX6_copy cX6_copy 3 (some .int) rX6_copy D z0 h [.ref x, iv p, iv q] (fun w0 h' => ∃ g', w0 = some (iv (cntT (up σ q.toNat (σ p.toNat)) 16)) ∧ Cy D h' x T f u v o n g' (up σ q.toNat (σ p.toNat)) ∧ Keep (fun y => y = T) h h' ∧ cdCo σ p q = 0) (Xn [iob, nseN] (cdCo σ p q) h) := by
  refine CC_of RX6 hl (by decide) rfl (Nat.le_of_ble_eq_true rfl) (fun K X Y Z hmn hKl => ?_)
  subst hKl
  show WW K D z0 3 h 0 0 0 [(0, .ref x), (1, iv p), (2, iv q)] []
  refine r_iload_n 1 X dX6_copy_0 rfl ?_
  refine r_callS X dX6_copy_1 kX6_36 (c_X6_requirePlace (CX_l X) D z0 h p ⟨by omega, by omega⟩) [] rfl rfl (Nat.le_of_ble_eq_true rfl) (by decide) (by decide) (fun E9 h9 hx9 => by obtain ⟨rfl, rfl, hn1⟩ := Xn1 hx9; exact WX_out X Y Z (by decide) (by decide) (Xn_mk 1 (by unfold cdCo ms; (try simp only [isNone_f, isNone_t, true_or, or_true, false_or, or_false]); ((repeat' split) <;> first | rfl | contradiction | omega)) (by decide) rfl)) (fun v9 h9 hv9 => ?_)
  obtain ⟨rfl, rfl, hp1⟩ := hv9
  show WW K D z0 3 h 1 6 4 [(0, .ref x), (1, iv p), (2, iv q)] []
  refine r_iload_n 2 X dX6_copy_4 rfl ?_
  refine r_callS X dX6_copy_5 kX6_36 (c_X6_requirePlace (CX_l X) D z0 h q ⟨by omega, by omega⟩) [] rfl rfl (Nat.le_of_ble_eq_true rfl) (by decide) (by decide) (fun E9 h9 hx9 => by obtain ⟨rfl, rfl, hn5⟩ := Xn1 hx9; exact WX_out X Y Z (by decide) (by decide) (Xn_mk 1 (by unfold cdCo ms; (try simp only [isNone_f, isNone_t, true_or, or_true, false_or, or_false]); ((repeat' split) <;> first | rfl | contradiction | omega)) (by decide) rfl)) (fun v9 h9 hv9 => ?_)
  obtain ⟨rfl, rfl, hp5⟩ := hv9
  show WW K D z0 3 h 2 12 8 [(0, .ref x), (1, iv p), (2, iv q)] []
  refine r_aload_n 0 X dX6_copy_8 rfl ?_
  refine r_iload_n 2 X dX6_copy_9 rfl ?_
  refine r_aload_n 0 X dX6_copy_10 rfl ?_
  refine r_iload_n 1 X dX6_copy_11 rfl ?_
  refine r_callV X dX6_copy_12 kX6_67 hc.1 (c_X6_heldAt (CX_l X) D z0 h x T f u v o n g σ hc p ⟨by omega, by omega⟩) [iv q, .ref x] rfl rfl (Nat.le_of_ble_eq_true rfl) (by decide) (by decide) (fun E9 h9 hx9 => by obtain ⟨rfl, ⟨hn12, rfl⟩ | ⟨hn12, hz12, rfl⟩⟩ := Xn_ms hx9; exact WX_out X Y Z (by decide) (by decide) (Xn_mk 1 (by unfold cdCo ms; (try simp only [isNone_f, isNone_t, true_or, or_true, false_or, or_false]); ((repeat' split) <;> first | rfl | contradiction | omega)) (by decide) rfl); exact WX_out X Y Z (by decide) (by decide) (Xn_mk 2 (by unfold cdCo ms; (try simp only [hz12, isNone_f, isNone_t, true_or, or_true, false_or, or_false]); ((repeat' split) <;> first | rfl | contradiction | omega)) (by decide) rfl)) (fun v9 h9 hv9 => ?_)
  obtain ⟨rfl, hp12, q12, a12, b12, c012, rfl, hg12, hs12, ht12, hv12⟩ := hv9
  have hb12 := TV_b hv12
  show WW K D z0 3 h 4 24 15 [(0, .ref x), (1, iv p), (2, iv q)] [.ref q12, iv q, .ref x]
  refine r_callV X dX6_copy_15 kX6_59 hc.1 (c_X6_hold_q (CX_l X) D z0 h x T f u v o n g σ hc q hp5 q12 _ ht12) [] rfl rfl (Nat.le_of_ble_eq_true rfl) (by decide) (by decide) (fun _ _ z => z.elim) (fun v9 h9 hv9 => ?_)
  obtain ⟨rfl, rfl⟩ := hv9
  have hc7 := Cy_up hc hp5 ht12 hv12
  show WW K D z0 3 (hu h T (aR D 16 (up g q.toNat (some q12)))) 4 24 18 [(0, .ref x), (1, iv p), (2, iv q)] []
  refine r_aload_n 0 X dX6_copy_18 rfl ?_
  refine r_callV_v X dX6_copy_19 kX6_63 hc7.1 (c_X6_countHeld (CX_l X) D z0 (hu h T (aR D 16 (up g q.toNat (some q12)))) x T f u v o n (up g q.toNat (some q12)) (up σ q.toNat (some (a12, b12, c012))) hc7) [] rfl rfl (Nat.le_of_ble_eq_true rfl) (by decide) rfl rfl (by decide) ?_
  refine r_iret X Y dX6_copy_22 (by decide) (by decide) ?_
  exact ⟨_, by rw [hs12], by rw [hs12]; exact hc7, Keep_hu, (by unfold cdCo ms; (try simp only [on_s hs12, hs12, isNone_f, isNone_t, true_or, or_true, false_or, or_false]); ((repeat' split) <;> first | rfl | contradiction | omega))⟩
abbrev rX6_holdIfShortEnough : Room := { frames := 6, cells := 2, slots := 11, locals := 90 }
theorem c_X6_holdIfShortEnough {l : Launch} (hl : l.stackTraces = false) (D : va_G) (z0 : Nat) (h : Hp) (x T f u v o : Nat) (n : Int) (g : Nat → Option Nat) (σ : Tg) (hc : Cy D h x T f u v o n g σ) (p : Int) (hp1 : pl p) (a b c : Int) (ha : I32 a) (hb : I32 b) (hcc : I32 c) (hv : sd a ∧ sd b ∧ sd c → TV (mn3 a b c) (md3 a b c) (mx3 a b c)) : CC l yX6_holdIfShortEnough cX6_holdIfShortEnough 6 (some .int) rX6_holdIfShortEnough D z0 h [.ref x, iv p, iv a, iv b, iv c] (fun w0 h' => ∃ g', w0 = some (iv (mx3 a b c)) ∧ Cy D h' x T f u v o n g' (up σ p.toNat (st3 a b c)) ∧ Keep (fun y => y = T) h h' ∧ (if sd a ∧ sd b ∧ sd c then (0 : Int) else 1) = 0) (Xn [ise] ((if sd a ∧ sd b ∧ sd c then (0 : Int) else 1)) h) := by
  refine CC_of RX6 hl (by decide) rfl (Nat.le_of_ble_eq_true rfl) (fun K X Y Z hmn hKl => ?_)
  subst hKl
  show WW K D z0 6 h 0 0 0 [(0, .ref x), (1, iv p), (2, iv a), (3, iv b), (4, iv c)] []
  refine r_iload_n 2 X dX6_holdIfShortEnough_0 rfl ?_
  refine r_callS_v X dX6_holdIfShortEnough_1 kX6_40 (c_X6_isSide (CX_l X) D z0 h a ⟨by omega, by omega⟩) [] rfl rfl (Nat.le_of_ble_eq_true rfl) (by decide) rfl rfl (by decide) ?_
  refine r_ifb_eq 22 X dX6_holdIfShortEnough_4 (by decide) (fun c4 => ?_) (fun c4 => ?_)
  · refine r_throwSW (E := "java/lang/IllegalStateException") (text := "a side would be above 65535") X Y Z dX6_holdIfShortEnough_22 dX6_holdIfShortEnough_25 dX6_holdIfShortEnough_26 dX6_holdIfShortEnough_29 dX6_holdIfShortEnough_32 (by decide) gX6_51 ini_IllegalStateException (by decide) hX6_55 (Nat.le_of_ble_eq_true rfl) (by decide) (by decide) (by decide) ?_
    exact Xn_mk 1 (by unfold sd; (try simp only [isNone_f, isNone_t, true_or, or_true, false_or, or_false]); ((repeat' split) <;> first | rfl | contradiction | omega)) (by decide) rfl
  · refine r_iload_n 3 X dX6_holdIfShortEnough_7 rfl ?_
    refine r_callS_v X dX6_holdIfShortEnough_8 kX6_40 (c_X6_isSide (CX_l X) D z0 h b ⟨by omega, by omega⟩) [] rfl rfl (Nat.le_of_ble_eq_true rfl) (by decide) rfl rfl (by decide) ?_
    refine r_ifb_eq 22 X dX6_holdIfShortEnough_11 (by decide) (fun c11 => ?_) (fun c11 => ?_)
    · refine r_throwSW (E := "java/lang/IllegalStateException") (text := "a side would be above 65535") X Y Z dX6_holdIfShortEnough_22 dX6_holdIfShortEnough_25 dX6_holdIfShortEnough_26 dX6_holdIfShortEnough_29 dX6_holdIfShortEnough_32 (by decide) gX6_51 ini_IllegalStateException (by decide) hX6_55 (Nat.le_of_ble_eq_true rfl) (by decide) (by decide) (by decide) ?_
      exact Xn_mk 1 (by unfold sd; (try simp only [isNone_f, isNone_t, true_or, or_true, false_or, or_false]); ((repeat' split) <;> first | rfl | contradiction | omega)) (by decide) rfl
    · refine r_iload 4 X dX6_holdIfShortEnough_14 rfl ?_
      refine r_callS_v X dX6_holdIfShortEnough_16 kX6_40 (c_X6_isSide (CX_l X) D z0 h c ⟨by omega, by omega⟩) [] rfl rfl (Nat.le_of_ble_eq_true rfl) (by decide) rfl rfl (by decide) ?_
      refine r_ifb_ne 33 X dX6_holdIfShortEnough_19 (by decide) (fun c19 => ?_) (fun c19 => ?_)
      · refine r_new (ci := 2) (fs := [iv 0, iv 0, iv 0, jv 0, jv 0]) X dX6_holdIfShortEnough_33 _ rfl gX6_9 inst_X5 init_X5 dft5 (Nat.le_of_ble_eq_true rfl) (Nat.le_of_ble_eq_true rfl) (fun q8 hq8 _ => ?_)
        show WW K D z0 6 (hu h q8 (ob 2 [iv 0, iv 0, iv 0, jv 0, jv 0])) 1 5 36 [(0, .ref x), (1, iv p), (2, iv a), (3, iv b), (4, iv c)] [.ref q8]
        refine r_dup X dX6_holdIfShortEnough_36 rfl ?_
        refine r_iload_n 2 X dX6_holdIfShortEnough_37 rfl ?_
        refine r_iload_n 3 X dX6_holdIfShortEnough_38 rfl ?_
        refine r_iload 4 X dX6_holdIfShortEnough_39 rfl ?_
        refine r_callI X dX6_holdIfShortEnough_41 kX6_56 (c_X5_init (CX_l X) D z0 (hu h q8 (ob 2 [iv 0, iv 0, iv 0, jv 0, jv 0])) q8 a b c ⟨c4, c11, c19⟩ (hv ⟨c4, c11, c19⟩) (hu_s _ _ _)) [.ref q8] rfl rfl (Nat.le_of_ble_eq_true rfl) (by decide) (by decide) (fun v9 h9 hv9 => ?_)
        obtain ⟨rfl, rfl⟩ := hv9
        refine WW_h (hu_hu _ _ _ _) ?_
        have hc8 := Cy_new hc (triE (mn3 a b c) (md3 a b c) (mx3 a b c)) hq8
        have ht8 := hu_s h q8 (triE (mn3 a b c) (md3 a b c) (mx3 a b c))
        show WW K D z0 6 (hu h q8 (triE (mn3 a b c) (md3 a b c) (mx3 a b c))) 1 5 44 [(0, .ref x), (1, iv p), (2, iv a), (3, iv b), (4, iv c)] [.ref q8]
        refine r_astore (L' := [(5, .ref q8), (0, .ref x), (1, iv p), (2, iv a), (3, iv b), (4, iv c)]) X dX6_holdIfShortEnough_44 (by decide) rfl ?_
        refine r_aload_n 1 X dX6_holdIfShortEnough_46 rfl ?_
        refine r_iload_n 2 X dX6_holdIfShortEnough_47 rfl ?_
        refine r_aload 0 X dX6_holdIfShortEnough_48 rfl ?_
        refine r_callV X dX6_holdIfShortEnough_50 kX6_59 hc8.1 (c_X6_hold_q (CX_l X) D z0 (hu h q8 (triE (mn3 a b c) (md3 a b c) (mx3 a b c))) x T f u v o n g σ hc8 p hp1 q8 _ ht8) [] rfl rfl (Nat.le_of_ble_eq_true rfl) (by decide) (by decide) (fun _ _ z => z.elim) (fun v9 h9 hv9 => ?_)
        obtain ⟨rfl, rfl⟩ := hv9
        have hc7 := Cy_up hc8 hp1 ht8 (hv ⟨c4, c11, c19⟩)
        show WW K D z0 6 (hu (hu h q8 (triE (mn3 a b c) (md3 a b c) (mx3 a b c))) T (aR D 16 (up g p.toNat (some q8)))) 1 5 53 [(5, .ref q8), (0, .ref x), (1, iv p), (2, iv a), (3, iv b), (4, iv c)] []
        refine r_aload 0 X dX6_holdIfShortEnough_53 rfl ?_
        refine r_getf X dX6_holdIfShortEnough_55 fX6_89 ((hu_n _ _ (fun z => by have := hc.2.1; rw [← z, hq8] at this; cases this)).trans ht8) rfl ?_
        refine r_iret X Y dX6_holdIfShortEnough_58 (by decide) (by decide) ?_
        exact ⟨_, rfl, hc7, Keep_new hq8 Keep_hu, if_pos ⟨c4, c11, c19⟩⟩
      · refine r_throwSW (E := "java/lang/IllegalStateException") (text := "a side would be above 65535") X Y Z dX6_holdIfShortEnough_22 dX6_holdIfShortEnough_25 dX6_holdIfShortEnough_26 dX6_holdIfShortEnough_29 dX6_holdIfShortEnough_32 (by decide) gX6_51 ini_IllegalStateException (by decide) hX6_55 (Nat.le_of_ble_eq_true rfl) (by decide) (by decide) (by decide) ?_
        exact Xn_mk 1 (by unfold sd; (try simp only [isNone_f, isNone_t, true_or, or_true, false_or, or_false]); ((repeat' split) <;> first | rfl | contradiction | omega)) (by decide) rfl
