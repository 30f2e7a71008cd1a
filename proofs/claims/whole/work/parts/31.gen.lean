/-! generator -/
def vGe (σ : Tg) (p w : Int) : Int := on σ p (fun a b c => ((isq ((if w = 109 then c + odd2 a b else c - odd2 a b) / 2).toNat : Nat) : Int))
abbrev rX6_generator : Room := { frames := 9, cells := 5, slots := 30, locals := 154 }
theorem c_X6_generator {l : Launch} (hl : l.stackTraces = false) (D : va_G) (z0 : Nat) (h : Hp) (x T f u v o : Nat) (n : Int) (g : Nat → Option Nat) (σ : Tg) (hc : Cy D h x T f u v o n g σ) (p : Int) (hp0 : I32 p) (w : Int) (hw : 0 ≤ w ∧ w ≤ 65535) : CC l yX6_generator cX6_generator 5 (some .int) rX6_generator D z0 h [.ref x, iv p, iv w] (fun v h' => v = some (iv (vGe σ p w)) ∧ h = h' ∧ cdGe σ p w = 0) (Xn [iob, iae, nseN, ise] (cdGe σ p w) h) := by
  refine CC_of RX6 hl (by decide) rfl (Nat.le_of_ble_eq_true rfl) (fun K X Y Z hmn hKl => ?_)
  subst hKl
  show WW K D z0 5 h 0 0 0 [(0, .ref x), (1, iv p), (2, iv w)] []
  refine r_iload_n 1 X dX6_generator_0 rfl ?_
  refine r_callS X dX6_generator_1 kX6_36 (c_X6_requirePlace (CX_l X) D z0 h p ⟨by omega, by omega⟩) [] rfl rfl (Nat.le_of_ble_eq_true rfl) (by decide) (by decide) (fun E9 h9 hx9 => by obtain ⟨rfl, rfl, hn1⟩ := Xn1 hx9; exact WX_out X Y Z (by decide) (by decide) (Xn_mk 1 (by unfold cdGe; (try simp only [isNone_f, isNone_t, true_or, or_true, false_or, or_false]); ((repeat' split) <;> first | rfl | contradiction | omega)) (by decide) rfl)) (fun v9 h9 hv9 => ?_)
  obtain ⟨rfl, rfl, hp1⟩ := hv9
  show WW K D z0 5 h 1 6 4 [(0, .ref x), (1, iv p), (2, iv w)] []
  refine r_iload_n 2 X dX6_generator_4 rfl ?_
  refine r_bipush X dX6_generator_5 (by decide) ?_
  refine r_icmp_eq 26 X dX6_generator_7 (by decide) ⟨by omega, by omega⟩ ⟨by omega, by omega⟩ (fun c7 => ?_) (fun c7 => ?_)
  · refine r_aload_n 0 X dX6_generator_26 rfl ?_
    refine r_iload_n 1 X dX6_generator_27 rfl ?_
    refine r_callV X dX6_generator_28 kX6_162 hc.1 (c_X6_primitiveAt (CX_l X) D z0 h x T f u v o n g σ hc p ⟨by omega, by omega⟩) [] rfl rfl (Nat.le_of_ble_eq_true rfl) (by decide) (by decide) (fun E9 h9 hx9 => by obtain ⟨rfl, ⟨hn28, rfl⟩ | ⟨hn28, hz28, rfl⟩ | ⟨hn28, a28, b28, c028, hs28, hq28, rfl⟩⟩ := Xn_pr hx9; exact WX_out X Y Z (by decide) (by decide) (Xn_mk 1 (by unfold cdGe; (try simp only [isNone_f, isNone_t, true_or, or_true, false_or, or_false]); ((repeat' split) <;> first | rfl | contradiction | omega)) (by decide) rfl); exact WX_out X Y Z (by decide) (by decide) (Xn_mk 3 (by unfold cdGe; (try simp only [hz28, isNone_f, isNone_t, true_or, or_true, false_or, or_false]); ((repeat' split) <;> first | rfl | contradiction | omega)) (by decide) rfl); exact WX_out X Y Z (by decide) (by decide) (Xn_mk 4 (by unfold cdGe; (try simp only [on_s hs28, hs28, isNone_f, isNone_t, true_or, or_true, false_or, or_false]); ((repeat' split) <;> first | rfl | contradiction | omega)) (by decide) rfl)) (fun v9 h9 hv9 => ?_)
    obtain ⟨rfl, hp28, q28, a28, b28, c028, rfl, hg28, hs28, ht28, hv28, hq28, hr28⟩ := hv9
    have hb28 := TV_b hv28
    show WW K D z0 5 h 4 24 31 [(0, .ref x), (1, iv p), (2, iv w)] [.ref q28]
    refine r_astore_n (L' := [(3, .ref q28), (0, .ref x), (1, iv p), (2, iv w)]) X dX6_generator_31 (by decide) rfl ?_
    refine r_iload_n 3 X dX6_generator_32 rfl ?_
    refine r_bipush X dX6_generator_33 (by decide) ?_
    refine r_icmp_ne 52 X dX6_generator_35 (by decide) ⟨by omega, by omega⟩ ⟨by omega, by omega⟩ (fun c35 => ?_) (fun c35 => ?_)
    · refine r_aload_n 0 X dX6_generator_52 rfl ?_
      refine r_getf X dX6_generator_53 fX6_89 ht28 rfl ?_
      refine r_aload_n 0 X dX6_generator_56 rfl ?_
      refine r_callV_v X dX6_generator_57 kX6_165 ht28 (c_X5_oddLeg (CX_l X) D z0 h q28 a28 b28 c028 ht28 hv28) [iv c028] rfl rfl (Nat.le_of_ble_eq_true rfl) (by decide) rfl rfl (by decide) ?_
      have hod : 1 ≤ (if a28 % 2 = 1 then a28 else b28) ∧ (if a28 % 2 = 1 then a28 else b28) ≤ c028 := by split <;> omega
      refine r_isub X dX6_generator_60 ?_
      refine r_iconst X dX6_generator_61 ?_
      refine r_idiv X dX6_generator_62 ⟨by omega, by omega⟩ ⟨by omega, by omega⟩ ?_
      refine r_istore (L' := [(4, iv ((c028 - (if a28 % 2 = 1 then a28 else b28)) / 2)), (3, .ref q28), (0, .ref x), (1, iv p), (2, iv w)]) X dX6_generator_63 (by decide) rfl ?_
      refine r_iload 0 X dX6_generator_65 rfl ?_
      refine r_i2l X dX6_generator_67 ⟨by omega, by omega⟩ ?_
      refine r_callS_v X dX6_generator_68 kX6_203 (c_X1_wholeRoot (CX_l X) D z0 h ((c028 - (if a28 % 2 = 1 then a28 else b28)) / 2) ⟨by omega, by omega⟩) [] rfl rfl (Nat.le_of_ble_eq_true rfl) (by decide) rfl rfl (by decide) ?_
      refine r_l2i X dX6_generator_71 ?_
      refine r_iret X Y dX6_generator_72 (by decide) (by decide) ?_
      exact ⟨congrArg some (by show iv ((isq ((c028 - (if a28 % 2 = 1 then a28 else b28)) / 2).toNat : Nat) : Int) = iv (vGe σ p w); unfold vGe; (try simp only [on_s hs28]); (first | done | (unfold odd2; simp only [c35]; done) | (unfold odd2; simp only [c35, if_true, if_false]; done))), rfl, (by unfold cdGe; (try simp only [on_s hs28, hs28, isNone_f, isNone_t, true_or, or_true, false_or, or_false]); ((repeat' split) <;> first | rfl | contradiction | omega))⟩
    · refine r_aload_n 0 X dX6_generator_38 rfl ?_
      refine r_getf X dX6_generator_39 fX6_89 ht28 rfl ?_
      refine r_aload_n 0 X dX6_generator_42 rfl ?_
      refine r_callV_v X dX6_generator_43 kX6_165 ht28 (c_X5_oddLeg (CX_l X) D z0 h q28 a28 b28 c028 ht28 hv28) [iv c028] rfl rfl (Nat.le_of_ble_eq_true rfl) (by decide) rfl rfl (by decide) ?_
      have hod : 1 ≤ (if a28 % 2 = 1 then a28 else b28) ∧ (if a28 % 2 = 1 then a28 else b28) ≤ c028 := by split <;> omega
      refine r_iadd X dX6_generator_46 ?_
      refine r_iconst X dX6_generator_47 ?_
      refine r_idiv X dX6_generator_48 ⟨by omega, by omega⟩ ⟨by omega, by omega⟩ ?_
      refine r_goto 63 X dX6_generator_49 (by decide) ?_
      refine r_istore (L' := [(4, iv ((c028 + (if a28 % 2 = 1 then a28 else b28)) / 2)), (3, .ref q28), (0, .ref x), (1, iv p), (2, iv w)]) X dX6_generator_63 (by decide) rfl ?_
      refine r_iload 0 X dX6_generator_65 rfl ?_
      refine r_i2l X dX6_generator_67 ⟨by omega, by omega⟩ ?_
      refine r_callS_v X dX6_generator_68 kX6_203 (c_X1_wholeRoot (CX_l X) D z0 h ((c028 + (if a28 % 2 = 1 then a28 else b28)) / 2) ⟨by omega, by omega⟩) [] rfl rfl (Nat.le_of_ble_eq_true rfl) (by decide) rfl rfl (by decide) ?_
      refine r_l2i X dX6_generator_71 ?_
      refine r_iret X Y dX6_generator_72 (by decide) (by decide) ?_
      exact ⟨congrArg some (by show iv ((isq ((c028 + (if a28 % 2 = 1 then a28 else b28)) / 2).toNat : Nat) : Int) = iv (vGe σ p w); unfold vGe; (try simp only [on_s hs28]); (first | done | (unfold odd2; simp only [c35]; done) | (unfold odd2; simp only [c35, if_true, if_false]; done))), rfl, (by unfold cdGe; (try simp only [on_s hs28, hs28, isNone_f, isNone_t, true_or, or_true, false_or, or_false]); ((repeat' split) <;> first | rfl | contradiction | omega))⟩
  · refine r_iload_n 2 X dX6_generator_10 rfl ?_
    refine r_bipush X dX6_generator_11 (by decide) ?_
    refine r_icmp_eq 26 X dX6_generator_13 (by decide) ⟨by omega, by omega⟩ ⟨by omega, by omega⟩ (fun c13 => ?_) (fun c13 => ?_)
    · refine r_aload_n 0 X dX6_generator_26 rfl ?_
      refine r_iload_n 1 X dX6_generator_27 rfl ?_
      refine r_callV X dX6_generator_28 kX6_162 hc.1 (c_X6_primitiveAt (CX_l X) D z0 h x T f u v o n g σ hc p ⟨by omega, by omega⟩) [] rfl rfl (Nat.le_of_ble_eq_true rfl) (by decide) (by decide) (fun E9 h9 hx9 => by obtain ⟨rfl, ⟨hn28, rfl⟩ | ⟨hn28, hz28, rfl⟩ | ⟨hn28, a28, b28, c028, hs28, hq28, rfl⟩⟩ := Xn_pr hx9; exact WX_out X Y Z (by decide) (by decide) (Xn_mk 1 (by unfold cdGe; (try simp only [isNone_f, isNone_t, true_or, or_true, false_or, or_false]); ((repeat' split) <;> first | rfl | contradiction | omega)) (by decide) rfl); exact WX_out X Y Z (by decide) (by decide) (Xn_mk 3 (by unfold cdGe; (try simp only [hz28, isNone_f, isNone_t, true_or, or_true, false_or, or_false]); ((repeat' split) <;> first | rfl | contradiction | omega)) (by decide) rfl); exact WX_out X Y Z (by decide) (by decide) (Xn_mk 4 (by unfold cdGe; (try simp only [on_s hs28, hs28, isNone_f, isNone_t, true_or, or_true, false_or, or_false]); ((repeat' split) <;> first | rfl | contradiction | omega)) (by decide) rfl)) (fun v9 h9 hv9 => ?_)
      obtain ⟨rfl, hp28, q28, a28, b28, c028, rfl, hg28, hs28, ht28, hv28, hq28, hr28⟩ := hv9
      have hb28 := TV_b hv28
      show WW K D z0 5 h 4 24 31 [(0, .ref x), (1, iv p), (2, iv w)] [.ref q28]
      refine r_astore_n (L' := [(3, .ref q28), (0, .ref x), (1, iv p), (2, iv w)]) X dX6_generator_31 (by decide) rfl ?_
      refine r_iload_n 3 X dX6_generator_32 rfl ?_
      refine r_bipush X dX6_generator_33 (by decide) ?_
      refine r_icmp_ne 52 X dX6_generator_35 (by decide) ⟨by omega, by omega⟩ ⟨by omega, by omega⟩ (fun c35 => ?_) (fun c35 => ?_)
      · refine r_aload_n 0 X dX6_generator_52 rfl ?_
        refine r_getf X dX6_generator_53 fX6_89 ht28 rfl ?_
        refine r_aload_n 0 X dX6_generator_56 rfl ?_
        refine r_callV_v X dX6_generator_57 kX6_165 ht28 (c_X5_oddLeg (CX_l X) D z0 h q28 a28 b28 c028 ht28 hv28) [iv c028] rfl rfl (Nat.le_of_ble_eq_true rfl) (by decide) rfl rfl (by decide) ?_
        have hod : 1 ≤ (if a28 % 2 = 1 then a28 else b28) ∧ (if a28 % 2 = 1 then a28 else b28) ≤ c028 := by split <;> omega
        refine r_isub X dX6_generator_60 ?_
        refine r_iconst X dX6_generator_61 ?_
        refine r_idiv X dX6_generator_62 ⟨by omega, by omega⟩ ⟨by omega, by omega⟩ ?_
        refine r_istore (L' := [(4, iv ((c028 - (if a28 % 2 = 1 then a28 else b28)) / 2)), (3, .ref q28), (0, .ref x), (1, iv p), (2, iv w)]) X dX6_generator_63 (by decide) rfl ?_
        refine r_iload 0 X dX6_generator_65 rfl ?_
        refine r_i2l X dX6_generator_67 ⟨by omega, by omega⟩ ?_
        refine r_callS_v X dX6_generator_68 kX6_203 (c_X1_wholeRoot (CX_l X) D z0 h ((c028 - (if a28 % 2 = 1 then a28 else b28)) / 2) ⟨by omega, by omega⟩) [] rfl rfl (Nat.le_of_ble_eq_true rfl) (by decide) rfl rfl (by decide) ?_
        refine r_l2i X dX6_generator_71 ?_
        refine r_iret X Y dX6_generator_72 (by decide) (by decide) ?_
        exact ⟨congrArg some (by show iv ((isq ((c028 - (if a28 % 2 = 1 then a28 else b28)) / 2).toNat : Nat) : Int) = iv (vGe σ p w); unfold vGe; (try simp only [on_s hs28]); (first | done | (unfold odd2; simp only [c35]; done) | (unfold odd2; simp only [c35, if_true, if_false]; done))), rfl, (by unfold cdGe; (try simp only [on_s hs28, hs28, isNone_f, isNone_t, true_or, or_true, false_or, or_false]); ((repeat' split) <;> first | rfl | contradiction | omega))⟩
      · refine r_aload_n 0 X dX6_generator_38 rfl ?_
        refine r_getf X dX6_generator_39 fX6_89 ht28 rfl ?_
        refine r_aload_n 0 X dX6_generator_42 rfl ?_
        refine r_callV_v X dX6_generator_43 kX6_165 ht28 (c_X5_oddLeg (CX_l X) D z0 h q28 a28 b28 c028 ht28 hv28) [iv c028] rfl rfl (Nat.le_of_ble_eq_true rfl) (by decide) rfl rfl (by decide) ?_
        have hod : 1 ≤ (if a28 % 2 = 1 then a28 else b28) ∧ (if a28 % 2 = 1 then a28 else b28) ≤ c028 := by split <;> omega
        refine r_iadd X dX6_generator_46 ?_
        refine r_iconst X dX6_generator_47 ?_
        refine r_idiv X dX6_generator_48 ⟨by omega, by omega⟩ ⟨by omega, by omega⟩ ?_
        refine r_goto 63 X dX6_generator_49 (by decide) ?_
        refine r_istore (L' := [(4, iv ((c028 + (if a28 % 2 = 1 then a28 else b28)) / 2)), (3, .ref q28), (0, .ref x), (1, iv p), (2, iv w)]) X dX6_generator_63 (by decide) rfl ?_
        refine r_iload 0 X dX6_generator_65 rfl ?_
        refine r_i2l X dX6_generator_67 ⟨by omega, by omega⟩ ?_
        refine r_callS_v X dX6_generator_68 kX6_203 (c_X1_wholeRoot (CX_l X) D z0 h ((c028 + (if a28 % 2 = 1 then a28 else b28)) / 2) ⟨by omega, by omega⟩) [] rfl rfl (Nat.le_of_ble_eq_true rfl) (by decide) rfl rfl (by decide) ?_
        refine r_l2i X dX6_generator_71 ?_
        refine r_iret X Y dX6_generator_72 (by decide) (by decide) ?_
        exact ⟨congrArg some (by show iv ((isq ((c028 + (if a28 % 2 = 1 then a28 else b28)) / 2).toNat : Nat) : Int) = iv (vGe σ p w); unfold vGe; (try simp only [on_s hs28]); (first | done | (unfold odd2; simp only [c35]; done) | (unfold odd2; simp only [c35, if_true, if_false]; done))), rfl, (by unfold cdGe; (try simp only [on_s hs28, hs28, isNone_f, isNone_t, true_or, or_true, false_or, or_false]); ((repeat' split) <;> first | rfl | contradiction | omega))⟩
    · refine r_throwS (E := "java/lang/IllegalArgumentException") (text := "there is no such which") X Y Z dX6_generator_16 dX6_generator_19 dX6_generator_20 dX6_generator_22 dX6_generator_25 (by decide) gX6_44 ini_IllegalArgumentException (by decide) hX6_48 (Nat.le_of_ble_eq_true rfl) (by decide) (by decide) (by decide) ?_
      exact Xn_mk 2 (by unfold cdGe; (try simp only [isNone_f, isNone_t, true_or, or_true, false_or, or_false]); ((repeat' split) <;> first | rfl | contradiction | omega)) (by decide) rfl
