/-! steps -/
abbrev rX3_stepsFromFirst : Room := { frames := 1, cells := 0, slots := 0, locals := 24 }
theorem c_X3_stepsFromFirst {l : Launch} (hl : l.stackTraces = false) (D : va_G) (z0 : Nat) (h : Hp) (x0 y0 zz : Int) (hp : PT x0 y0 zz) (hz : zz ≤ 65535) : CC l yX3_stepsFromFirst cX3_stepsFromFirst 9 (some .int) rX3_stepsFromFirst D z0 h [iv x0, iv y0, iv zz] (PV (iv ((dpN 256 x0 y0 zz : Nat) : Int)) h) NX := by
  refine CC_of RX3 hl (by decide) rfl (Nat.le_of_ble_eq_true rfl) (fun K X Y Z hmn hKl => ?_)
  subst hKl
  show WW K D z0 9 h 0 0 0 [(0, iv x0), (1, iv y0), (2, iv zz)] []
  obtain ⟨R, hR0⟩ : ∃ R, dpN 256 x0 y0 zz = R := ⟨_, rfl⟩
  have loop : ∀ (m : Nat) (x y z : Int) (t : Nat), t + m = 256 → PT x y z → z + x ≤ 2 * ((m : Int) * (m : Int)) → z ≤ 65535 → t + dpN m x y z = R → WW K D z0 9 h 0 0 11 [(6, iv (t : Int)), (5, iv z), (4, iv y), (3, iv x)] [] := by
    intro m
    induction m with
    | zero =>
      intro x y z t ht hp hu hz hR
      have := hp.1
      have := hp.2.2.1
      rw [show ((0 : Nat) : Int) * ((0 : Nat) : Int) = 0 from rfl] at hu
      omega
    | succ m ih =>
      intro x y z t ht hp hu hz hR
      have hpl := pt_lt hp
      have hp1 := hp.1
      have hp2 := hp.2.1
      have hp3 := hp.2.2.1
      refine r_iload 0 X dX3_stepsFromFirst_11 rfl ?_
      refine r_sipush X dX3_stepsFromFirst_13 (by decide) ?_
      refine r_icmp_ge 96 X dX3_stepsFromFirst_16 (by decide) ⟨by omega, by omega⟩ ⟨by omega, by omega⟩ (fun c16 => ?_) (fun c16 => ?_)
      · exfalso
        omega
      · refine r_iload 1 X dX3_stepsFromFirst_19 rfl ?_
        refine r_iconst X dX3_stepsFromFirst_21 ?_
        refine r_icmp_le 96 X dX3_stepsFromFirst_22 (by decide) ⟨by omega, by omega⟩ ⟨by omega, by omega⟩ (fun c22 => ?_) (fun c22 => ?_)
        · have h5 := pt_5 hp (by omega)
          refine r_iload_n 3 X dX3_stepsFromFirst_96 rfl ?_
          refine r_iconst X dX3_stepsFromFirst_97 ?_
          refine r_icmp_ne 118 X dX3_stepsFromFirst_98 (by decide) ⟨by omega, by omega⟩ ⟨by omega, by omega⟩ (fun c98 => ?_) (fun c98 => ?_)
          · refine r_iconst X dX3_stepsFromFirst_118 ?_
            refine r_iret X Y dX3_stepsFromFirst_119 (by decide) (by decide) ?_
            exfalso
            omega
          · refine r_iload 2 X dX3_stepsFromFirst_101 rfl ?_
            refine r_iconst X dX3_stepsFromFirst_103 ?_
            refine r_icmp_ne 118 X dX3_stepsFromFirst_104 (by decide) ⟨by omega, by omega⟩ ⟨by omega, by omega⟩ (fun c104 => ?_) (fun c104 => ?_)
            · refine r_iconst X dX3_stepsFromFirst_118 ?_
              refine r_iret X Y dX3_stepsFromFirst_119 (by decide) (by decide) ?_
              exfalso
              omega
            · refine r_iload 1 X dX3_stepsFromFirst_107 rfl ?_
              refine r_iconst X dX3_stepsFromFirst_109 ?_
              refine r_icmp_ne 118 X dX3_stepsFromFirst_110 (by decide) ⟨by omega, by omega⟩ ⟨by omega, by omega⟩ (fun c110 => ?_) (fun c110 => ?_)
              · refine r_iconst X dX3_stepsFromFirst_118 ?_
                refine r_iret X Y dX3_stepsFromFirst_119 (by decide) (by decide) ?_
                exfalso
                omega
              · refine r_iload 0 X dX3_stepsFromFirst_113 rfl ?_
                refine r_goto 119 X dX3_stepsFromFirst_115 (by decide) ?_
                refine r_iret X Y dX3_stepsFromFirst_119 (by decide) (by decide) ?_
                rw [dpN_s, if_neg (show ¬ 5 < z by omega)] at hR
                exact pv_i (by omega)
        · have hbk := pt_back hp (by omega)
          refine r_iload_n 3 X dX3_stepsFromFirst_25 rfl ?_
          refine r_iload 2 X dX3_stepsFromFirst_26 rfl ?_
          refine r_iload 1 X dX3_stepsFromFirst_28 rfl ?_
          refine r_callS_v X dX3_stepsFromFirst_30 kX3_16 (c_X3_backOdd (CX_l X) D z0 h x y z) [] rfl rfl (Nat.le_of_ble_eq_true rfl) (by decide) rfl rfl (by decide) ?_
          refine r_istore (L' := [(7, iv (x + 2 * y - 2 * z)), (6, iv (t : Int)), (5, iv z), (4, iv y), (3, iv x)]) X dX3_stepsFromFirst_33 (by decide) rfl ?_
          refine r_iload_n 4 X dX3_stepsFromFirst_35 rfl ?_
          refine r_iload 3 X dX3_stepsFromFirst_36 rfl ?_
          refine r_iload 2 X dX3_stepsFromFirst_38 rfl ?_
          refine r_callS_v X dX3_stepsFromFirst_40 kX3_20 (c_X3_backEven (CX_l X) D z0 h x y z) [] rfl rfl (Nat.le_of_ble_eq_true rfl) (by decide) rfl rfl (by decide) ?_
          refine r_istore (L' := [(8, iv (2 * x + y - 2 * z)), (7, iv (x + 2 * y - 2 * z)), (6, iv (t : Int)), (5, iv z), (4, iv y), (3, iv x)]) X dX3_stepsFromFirst_43 (by decide) rfl ?_
          refine r_iload 1 X dX3_stepsFromFirst_45 rfl ?_
          refine r_if_eq 65 X dX3_stepsFromFirst_47 (by decide) ⟨by omega, by omega⟩ (fun c47 => ?_) (fun c47 => ?_)
          · refine r_iconst X dX3_stepsFromFirst_65 ?_
            refine r_iret X Y dX3_stepsFromFirst_66 (by decide) (by decide) ?_
            exfalso
            omega
          · refine r_iload 0 X dX3_stepsFromFirst_50 rfl ?_
            refine r_if_eq 65 X dX3_stepsFromFirst_52 (by decide) ⟨by omega, by omega⟩ (fun c52 => ?_) (fun c52 => ?_)
            · refine r_iconst X dX3_stepsFromFirst_65 ?_
              refine r_iret X Y dX3_stepsFromFirst_66 (by decide) (by decide) ?_
              exfalso
              omega
            · refine r_iload 1 X dX3_stepsFromFirst_55 rfl ?_
              refine r_if_ge 67 X dX3_stepsFromFirst_57 (by decide) ⟨by omega, by omega⟩ (fun c57 => ?_) (fun c57 => ?_)
              · refine r_iload_n 5 X dX3_stepsFromFirst_67 rfl ?_
                refine r_iload 4 X dX3_stepsFromFirst_68 rfl ?_
                refine r_iload 3 X dX3_stepsFromFirst_70 rfl ?_
                refine r_callS_v X dX3_stepsFromFirst_72 kX3_23 (c_X3_backLongest (CX_l X) D z0 h x y z) [] rfl rfl (Nat.le_of_ble_eq_true rfl) (by decide) rfl rfl (by decide) ?_
                refine r_istore (L' := [(5, iv (3 * z - 2 * x - 2 * y)), (8, iv (2 * x + y - 2 * z)), (7, iv (x + 2 * y - 2 * z)), (6, iv (t : Int)), (4, iv y), (3, iv x)]) X dX3_stepsFromFirst_75 (by decide) rfl ?_
                refine r_iload 2 X dX3_stepsFromFirst_77 rfl ?_
                refine r_mabs X dX3_stepsFromFirst_79 kX3_26 ⟨by omega, by omega⟩ (Nat.le_of_ble_eq_true rfl) (by decide) ?_
                refine r_istore_n (L' := [(3, iv ((x + 2 * y - 2 * z).natAbs : Int)), (5, iv (3 * z - 2 * x - 2 * y)), (8, iv (2 * x + y - 2 * z)), (7, iv (x + 2 * y - 2 * z)), (6, iv (t : Int)), (4, iv y)]) X dX3_stepsFromFirst_82 (by decide) rfl ?_
                refine r_iload 2 X dX3_stepsFromFirst_83 rfl ?_
                refine r_mabs X dX3_stepsFromFirst_85 kX3_26 ⟨by omega, by omega⟩ (Nat.le_of_ble_eq_true rfl) (by decide) ?_
                refine r_istore (L' := [(4, iv ((2 * x + y - 2 * z).natAbs : Int)), (3, iv ((x + 2 * y - 2 * z).natAbs : Int)), (5, iv (3 * z - 2 * x - 2 * y)), (8, iv (2 * x + y - 2 * z)), (7, iv (x + 2 * y - 2 * z)), (6, iv (t : Int))]) X dX3_stepsFromFirst_88 (by decide) rfl ?_
                refine r_iinc 5 (L' := [(6, iv ((t : Int) + 1)), (4, iv ((2 * x + y - 2 * z).natAbs : Int)), (3, iv ((x + 2 * y - 2 * z).natAbs : Int)), (5, iv (3 * z - 2 * x - 2 * y)), (8, iv (2 * x + y - 2 * z)), (7, iv (x + 2 * y - 2 * z))]) X dX3_stepsFromFirst_90 rfl (by decide) rfl ?_
                refine r_goto 11 X dX3_stepsFromFirst_93 (by decide) ?_
                refine WW_sub (L' := [(6, iv ((t : Int) + 1)), (5, iv (3 * z - 2 * x - 2 * y)), (4, iv ((2 * x + y - 2 * z).natAbs : Int)), (3, iv ((x + 2 * y - 2 * z).natAbs : Int))]) [0, 3, 1, 2] rfl ?_
                have hb := pt_back hp (by omega)
                have hpo := pt_pot (k := ((m + 1 : Nat) : Int)) hp (by omega) hu
                rw [dpN_s, if_pos (show 5 < z by omega)] at hR
                exact ih (((x + 2 * y - 2 * z).natAbs : Nat) : Int) (((2 * x + y - 2 * z).natAbs : Nat) : Int) (3 * z - 2 * x - 2 * y) (t + 1) (by omega) hb.1 (by rw [show (m : Int) = ((m + 1 : Nat) : Int) - 1 by omega]; exact hpo) (by omega) (by omega)
              · refine r_iload 0 X dX3_stepsFromFirst_60 rfl ?_
                refine r_if_ge 67 X dX3_stepsFromFirst_62 (by decide) ⟨by omega, by omega⟩ (fun c62 => ?_) (fun c62 => ?_)
                · refine r_iload_n 5 X dX3_stepsFromFirst_67 rfl ?_
                  refine r_iload 4 X dX3_stepsFromFirst_68 rfl ?_
                  refine r_iload 3 X dX3_stepsFromFirst_70 rfl ?_
                  refine r_callS_v X dX3_stepsFromFirst_72 kX3_23 (c_X3_backLongest (CX_l X) D z0 h x y z) [] rfl rfl (Nat.le_of_ble_eq_true rfl) (by decide) rfl rfl (by decide) ?_
                  refine r_istore (L' := [(5, iv (3 * z - 2 * x - 2 * y)), (8, iv (2 * x + y - 2 * z)), (7, iv (x + 2 * y - 2 * z)), (6, iv (t : Int)), (4, iv y), (3, iv x)]) X dX3_stepsFromFirst_75 (by decide) rfl ?_
                  refine r_iload 2 X dX3_stepsFromFirst_77 rfl ?_
                  refine r_mabs X dX3_stepsFromFirst_79 kX3_26 ⟨by omega, by omega⟩ (Nat.le_of_ble_eq_true rfl) (by decide) ?_
                  refine r_istore_n (L' := [(3, iv ((x + 2 * y - 2 * z).natAbs : Int)), (5, iv (3 * z - 2 * x - 2 * y)), (8, iv (2 * x + y - 2 * z)), (7, iv (x + 2 * y - 2 * z)), (6, iv (t : Int)), (4, iv y)]) X dX3_stepsFromFirst_82 (by decide) rfl ?_
                  refine r_iload 2 X dX3_stepsFromFirst_83 rfl ?_
                  refine r_mabs X dX3_stepsFromFirst_85 kX3_26 ⟨by omega, by omega⟩ (Nat.le_of_ble_eq_true rfl) (by decide) ?_
                  refine r_istore (L' := [(4, iv ((2 * x + y - 2 * z).natAbs : Int)), (3, iv ((x + 2 * y - 2 * z).natAbs : Int)), (5, iv (3 * z - 2 * x - 2 * y)), (8, iv (2 * x + y - 2 * z)), (7, iv (x + 2 * y - 2 * z)), (6, iv (t : Int))]) X dX3_stepsFromFirst_88 (by decide) rfl ?_
                  refine r_iinc 5 (L' := [(6, iv ((t : Int) + 1)), (4, iv ((2 * x + y - 2 * z).natAbs : Int)), (3, iv ((x + 2 * y - 2 * z).natAbs : Int)), (5, iv (3 * z - 2 * x - 2 * y)), (8, iv (2 * x + y - 2 * z)), (7, iv (x + 2 * y - 2 * z))]) X dX3_stepsFromFirst_90 rfl (by decide) rfl ?_
                  refine r_goto 11 X dX3_stepsFromFirst_93 (by decide) ?_
                  refine WW_sub (L' := [(6, iv ((t : Int) + 1)), (5, iv (3 * z - 2 * x - 2 * y)), (4, iv ((2 * x + y - 2 * z).natAbs : Int)), (3, iv ((x + 2 * y - 2 * z).natAbs : Int))]) [0, 3, 1, 2] rfl ?_
                  have hb := pt_back hp (by omega)
                  have hpo := pt_pot (k := ((m + 1 : Nat) : Int)) hp (by omega) hu
                  rw [dpN_s, if_pos (show 5 < z by omega)] at hR
                  exact ih (((x + 2 * y - 2 * z).natAbs : Nat) : Int) (((2 * x + y - 2 * z).natAbs : Nat) : Int) (3 * z - 2 * x - 2 * y) (t + 1) (by omega) hb.1 (by rw [show (m : Int) = ((m + 1 : Nat) : Int) - 1 by omega]; exact hpo) (by omega) (by omega)
                · refine r_iconst X dX3_stepsFromFirst_65 ?_
                  refine r_iret X Y dX3_stepsFromFirst_66 (by decide) (by decide) ?_
                  exfalso
                  omega
  refine r_iload_n 0 X dX3_stepsFromFirst_0 rfl ?_
  refine r_istore_n (L' := [(3, iv x0), (0, iv x0), (1, iv y0), (2, iv zz)]) X dX3_stepsFromFirst_1 (by decide) rfl ?_
  refine r_iload_n 2 X dX3_stepsFromFirst_2 rfl ?_
  refine r_istore (L' := [(4, iv y0), (3, iv x0), (0, iv x0), (1, iv y0), (2, iv zz)]) X dX3_stepsFromFirst_3 (by decide) rfl ?_
  refine r_iload_n 4 X dX3_stepsFromFirst_5 rfl ?_
  refine r_istore (L' := [(5, iv zz), (4, iv y0), (3, iv x0), (0, iv x0), (1, iv y0), (2, iv zz)]) X dX3_stepsFromFirst_6 (by decide) rfl ?_
  refine r_iconst X dX3_stepsFromFirst_8 ?_
  refine r_istore (L' := [(6, iv 0), (5, iv zz), (4, iv y0), (3, iv x0), (0, iv x0), (1, iv y0), (2, iv zz)]) X dX3_stepsFromFirst_9 (by decide) rfl ?_
  refine WW_sub (L' := [(6, iv 0), (5, iv zz), (4, iv y0), (3, iv x0)]) [0, 1, 2, 3] rfl ?_
  exact loop 256 x0 y0 zz 0 rfl hp (by have := pt_lt hp; omega) hz (by omega)
def vDe (σ : Tg) (p : Int) : Int := on σ p (fun a b c => ((dpN 256 (odd2 a b) (eve2 a b) c : Nat) : Int))
abbrev rX6_depth : Room := { frames := 9, cells := 3, slots := 18, locals := 154 }
theorem c_X6_depth {l : Launch} (hl : l.stackTraces = false) (D : va_G) (z0 : Nat) (h : Hp) (x T f u v o : Nat) (n : Int) (g : Nat → Option Nat) (σ : Tg) (hc : Cy D h x T f u v o n g σ) (p : Int) (hp0 : I32 p) : CC l yX6_depth cX6_depth 3 (some .int) rX6_depth D z0 h [.ref x, iv p] (fun v h' => v = some (iv (vDe σ p)) ∧ h = h' ∧ cdPr σ p = 0) (Xn [iob, nseN, ise] (cdPr σ p) h) := by
  refine CC_of RX6 hl (by decide) rfl (Nat.le_of_ble_eq_true rfl) (fun K X Y Z hmn hKl => ?_)
  subst hKl
  show WW K D z0 3 h 0 0 0 [(0, .ref x), (1, iv p)] []
  refine r_aload_n 0 X dX6_depth_0 rfl ?_
  refine r_iload_n 1 X dX6_depth_1 rfl ?_
  refine r_callV X dX6_depth_2 kX6_162 hc.1 (c_X6_primitiveAt (CX_l X) D z0 h x T f u v o n g σ hc p ⟨by omega, by omega⟩) [] rfl rfl (Nat.le_of_ble_eq_true rfl) (by decide) (by decide) (fun E9 h9 hx9 => by obtain ⟨rfl, ⟨hn2, rfl⟩ | ⟨hn2, hz2, rfl⟩ | ⟨hn2, a2, b2, c02, hs2, hq2, rfl⟩⟩ := Xn_pr hx9; exact WX_out X Y Z (by decide) (by decide) (Xn_mk 1 (by unfold cdPr; (try simp only [isNone_f, isNone_t, true_or, or_true, false_or, or_false]); ((repeat' split) <;> first | rfl | contradiction | omega)) (by decide) rfl); exact WX_out X Y Z (by decide) (by decide) (Xn_mk 2 (by unfold cdPr; (try simp only [hz2, isNone_f, isNone_t, true_or, or_true, false_or, or_false]); ((repeat' split) <;> first | rfl | contradiction | omega)) (by decide) rfl); exact WX_out X Y Z (by decide) (by decide) (Xn_mk 3 (by unfold cdPr; (try simp only [on_s hs2, hs2, isNone_f, isNone_t, true_or, or_true, false_or, or_false]); ((repeat' split) <;> first | rfl | contradiction | omega)) (by decide) rfl)) (fun v9 h9 hv9 => ?_)
  obtain ⟨rfl, hp2, q2, a2, b2, c02, rfl, hg2, hs2, ht2, hv2, hq2, hr2⟩ := hv9
  have hb2 := TV_b hv2
  show WW K D z0 3 h 3 18 5 [(0, .ref x), (1, iv p)] [.ref q2]
  refine r_astore_n (L' := [(2, .ref q2), (0, .ref x), (1, iv p)]) X dX6_depth_5 (by decide) rfl ?_
  refine r_aload_n 0 X dX6_depth_6 rfl ?_
  refine r_callV_v X dX6_depth_7 kX6_165 ht2 (c_X5_oddLeg (CX_l X) D z0 h q2 a2 b2 c02 ht2 hv2) [] rfl rfl (Nat.le_of_ble_eq_true rfl) (by decide) rfl rfl (by decide) ?_
  refine r_aload_n 0 X dX6_depth_10 rfl ?_
  refine r_callV_v X dX6_depth_11 kX6_168 ht2 (c_X5_evenLeg (CX_l X) D z0 h q2 a2 b2 c02 ht2 hv2) [iv (if a2 % 2 = 1 then a2 else b2)] rfl rfl (Nat.le_of_ble_eq_true rfl) (by decide) rfl rfl (by decide) ?_
  refine r_aload_n 0 X dX6_depth_14 rfl ?_
  refine r_getf X dX6_depth_15 fX6_89 ht2 rfl ?_
  refine r_callS_v X dX6_depth_18 kX6_198 (c_X3_stepsFromFirst (CX_l X) D z0 h (odd2 a2 b2) (eve2 a2 b2) c02 (PT_of hv2 hq2 hr2) (by omega)) [] rfl rfl (Nat.le_of_ble_eq_true rfl) (by decide) rfl rfl (by decide) ?_
  refine r_iret X Y dX6_depth_21 (by decide) (by decide) ?_
  exact ⟨congrArg (fun z => some (iv z)) (show _ = vDe σ p by unfold vDe; rw [on_s hs2]), rfl, by unfold cdPr; rw [if_neg (fun z => z hp2), hs2, if_neg (by simp), on_s hs2, on_s hs2, if_pos ⟨hq2, hr2⟩]⟩
/-- a leg (0 the odd, 1 the even one) or the longest side (2) behind a step -/
def stX (w x y z : Int) : Int := if w = 112 then ((x + 2 * y - 2 * z).natAbs : Int) else so w x + 2 * se w y + 2 * z
def stY (w x y z : Int) : Int := if w = 112 then ((2 * x + y - 2 * z).natAbs : Int) else 2 * so w x + se w y + 2 * z
def stZ (w x y z : Int) : Int := if w = 112 then 3 * z - 2 * x - 2 * y else 2 * so w x + 2 * se w y + 3 * z
/-- whether the step is possible -/
abbrev stK (w x y z : Int) : Prop := (w = 112 ∧ z ≠ 5) ∨ (w ≠ 112 ∧ stZ w x y z ≤ 65535)

def cdSt (σ : Tg) (p w : Int) : Int := if ¬ pl p then 1 else if ¬ (w = 97 ∨ w = 98 ∨ w = 99 ∨ w = 112) then 2 else if (σ p.toNat).isNone then 3 else if on σ p (fun a b c => if sqb3 a b c 2 = 0 ∧ gcd3 a b c = 1 ∧ stK w (odd2 a b) (eve2 a b) c then 0 else 1) = 0 then 0 else 4
theorem cdSt_k {σ : Tg} {p w a b c : Int} (h1 : pl p) (h2 : w = 97 ∨ w = 98 ∨ w = 99 ∨ w = 112) (h4 : σ p.toNat = some (a, b, c)) : cdSt σ p w = if sqb3 a b c 2 = 0 ∧ gcd3 a b c = 1 ∧ stK w (odd2 a b) (eve2 a b) c then 0 else 4 := by
  unfold cdSt
  rw [if_neg (fun z => z h1), if_neg (fun z => z h2), on_s h4, h4, if_neg (by simp)]
  by_cases z : sqb3 a b c 2 = 0 ∧ gcd3 a b c = 1 ∧ stK w (odd2 a b) (eve2 a b) c
  · rw [if_pos z, if_pos z, if_pos rfl]
  · rw [if_neg z, if_neg z, if_neg (by decide)]
theorem st_TV3 {w x y z : Int} (h : PT x y z) (hk : w ≠ 112) (hs : sd (stX w x y z) ∧ sd (stY w x y z) ∧ sd (stZ w x y z)) : TV (mn3 (stX w x y z) (stY w x y z) (stZ w x y z)) (md3 (stX w x y z) (stY w x y z) (stZ w x y z)) (mx3 (stX w x y z) (stY w x y z) (stZ w x y z)) := by
  refine TV_rt hs.1 hs.2.1 hs.2.2 ?_
  unfold stX stY stZ
  rw [if_neg hk, if_neg hk, if_neg hk]
  exact st_sq w x y z h.2.2.2.2.2.1
theorem st_sd {w x y z : Int} (h : PT x y z) (hk : w ≠ 112) : (sd (stX w x y z) ∧ sd (stY w x y z) ∧ sd (stZ w x y z)) ↔ stZ w x y z ≤ 65535 := by
  have := st_pos w h
  unfold stX stY stZ
  rw [if_neg hk, if_neg hk, if_neg hk]
  omega
theorem bk_TV {x y z : Int} (h : PT x y z) (hz : 5 < z) (hz2 : z ≤ 65535) : (sd (stX 112 x y z) ∧ sd (stY 112 x y z) ∧ sd (stZ 112 x y z)) ∧ TV (mn3 (stX 112 x y z) (stY 112 x y z) (stZ 112 x y z)) (md3 (stX 112 x y z) (stY 112 x y z) (stZ 112 x y z)) (mx3 (stX 112 x y z) (stY 112 x y z) (stZ 112 x y z)) := by
  obtain ⟨hb, h1, h2, h3, -⟩ := pt_back h hz
  have hl := pt_lt hb
  have hs : sd (stX 112 x y z) ∧ sd (stY 112 x y z) ∧ sd (stZ 112 x y z) := by
    unfold stX stY stZ
    rw [if_pos rfl, if_pos rfl, if_pos rfl]
    have b1 := hb.1
    have b2 := hb.2.1
    have b3 := hb.2.2.1
    omega
  refine ⟨hs, TV_rt hs.1 hs.2.1 hs.2.2 ?_⟩
  unfold stX stY stZ
  rw [if_pos rfl, if_pos rfl, if_pos rfl]
  exact hb.2.2.2.2.2.1
abbrev rX6_step : Room := { frames := 9, cells := 10, slots := 58, locals := 154 }
theorem c_X6_step {l : Launch} (hl : l.stackTraces = false) (D : va_G) (z0 : Nat) (h : Hp) (x T f u v o : Nat) (n : Int) (g : Nat → Option Nat) (σ : Tg) (hc : Cy D h x T f u v o n g σ) (p : Int) (hp0 : I32 p) (w : Int) (hw : 0 ≤ w ∧ w ≤ 65535) : CC l yX6_step cX6_step 6 (some .int) rX6_step D z0 h [.ref x, iv p, iv w] (fun w0 h' => ∃ g', w0 = some (iv (on σ p (fun a b c => mx3 (stX w (odd2 a b) (eve2 a b) c) (stY w (odd2 a b) (eve2 a b) c) (stZ w (odd2 a b) (eve2 a b) c)))) ∧ Cy D h' x T f u v o n g' (up σ p.toNat (onT σ p (fun a b c => st3 (stX w (odd2 a b) (eve2 a b) c) (stY w (odd2 a b) (eve2 a b) c) (stZ w (odd2 a b) (eve2 a b) c)))) ∧ Keep (fun y => y = T) h h' ∧ cdSt σ p w = 0) (Xn [iob, iae, nseN, ise] (cdSt σ p w) h) := by
  refine CC_of RX6 hl (by decide) rfl (Nat.le_of_ble_eq_true rfl) (fun K X Y Z hmn hKl => ?_)
  subst hKl
  show WW K D z0 6 h 0 0 0 [(0, .ref x), (1, iv p), (2, iv w)] []
  refine r_iload_n 1 X dX6_step_0 rfl ?_
  refine r_callS X dX6_step_1 kX6_36 (c_X6_requirePlace (CX_l X) D z0 h p ⟨by omega, by omega⟩) [] rfl rfl (Nat.le_of_ble_eq_true rfl) (by decide) (by decide) (fun E9 h9 hx9 => by obtain ⟨rfl, rfl, hn1⟩ := Xn1 hx9; exact WX_out X Y Z (by decide) (by decide) (Xn_mk 1 (by unfold cdSt; (try simp only [isNone_f, isNone_t, true_or, or_true, false_or, or_false]); ((repeat' split) <;> first | rfl | contradiction | omega)) (by decide) rfl)) (fun v9 h9 hv9 => ?_)
  obtain ⟨rfl, rfl, hp1⟩ := hv9
  show WW K D z0 6 h 1 6 4 [(0, .ref x), (1, iv p), (2, iv w)] []
  refine r_iload_n 2 X dX6_step_4 rfl ?_
  refine r_bipush X dX6_step_5 (by decide) ?_
  refine r_icmp_eq 38 X dX6_step_7 (by decide) ⟨by omega, by omega⟩ ⟨by omega, by omega⟩ (fun c7 => ?_) (fun c7 => ?_)
  · refine r_aload_n 0 X dX6_step_38 rfl ?_
    refine r_iload_n 1 X dX6_step_39 rfl ?_
    refine r_callV X dX6_step_40 kX6_162 hc.1 (c_X6_primitiveAt (CX_l X) D z0 h x T f u v o n g σ hc p ⟨by omega, by omega⟩) [] rfl rfl (Nat.le_of_ble_eq_true rfl) (by decide) (by decide) (fun E9 h9 hx9 => by obtain ⟨rfl, ⟨hn40, rfl⟩ | ⟨hn40, hz40, rfl⟩ | ⟨hn40, a40, b40, c040, hs40, hq40, rfl⟩⟩ := Xn_pr hx9; exact WX_out X Y Z (by decide) (by decide) (Xn_mk 1 (by unfold cdSt; (try simp only [isNone_f, isNone_t, true_or, or_true, false_or, or_false]); ((repeat' split) <;> first | rfl | contradiction | omega)) (by decide) rfl); exact WX_out X Y Z (by decide) (by decide) (Xn_mk 3 (by unfold cdSt; (try simp only [hz40, isNone_f, isNone_t, true_or, or_true, false_or, or_false]); ((repeat' split) <;> first | rfl | contradiction | omega)) (by decide) rfl); exact WX_out X Y Z (by decide) (by decide) (Xn_mk 4 (by unfold cdSt; (try simp only [on_s hs40, hs40, isNone_f, isNone_t, true_or, or_true, false_or, or_false]); ((repeat' split) <;> first | rfl | contradiction | omega)) (by decide) rfl)) (fun v9 h9 hv9 => ?_)
    obtain ⟨rfl, hp40, q40, a40, b40, c040, rfl, hg40, hs40, ht40, hv40, hq40, hr40⟩ := hv9
    have hb40 := TV_b hv40
    show WW K D z0 6 h 4 24 43 [(0, .ref x), (1, iv p), (2, iv w)] [.ref q40]
    refine r_astore_n (L' := [(3, .ref q40), (0, .ref x), (1, iv p), (2, iv w)]) X dX6_step_43 (by decide) rfl ?_
    refine r_aload_n 0 X dX6_step_44 rfl ?_
    refine r_callV_v X dX6_step_45 kX6_165 ht40 (c_X5_oddLeg (CX_l X) D z0 h q40 a40 b40 c040 ht40 hv40) [] rfl rfl (Nat.le_of_ble_eq_true rfl) (by decide) rfl rfl (by decide) ?_
    refine r_istore (L' := [(4, iv (if a40 % 2 = 1 then a40 else b40)), (3, .ref q40), (0, .ref x), (1, iv p), (2, iv w)]) X dX6_step_48 (by decide) rfl ?_
    refine r_aload_n 1 X dX6_step_50 rfl ?_
    refine r_callV_v X dX6_step_51 kX6_168 ht40 (c_X5_evenLeg (CX_l X) D z0 h q40 a40 b40 c040 ht40 hv40) [] rfl rfl (Nat.le_of_ble_eq_true rfl) (by decide) rfl rfl (by decide) ?_
    refine r_istore (L' := [(5, iv (if a40 % 2 = 1 then b40 else a40)), (4, iv (if a40 % 2 = 1 then a40 else b40)), (3, .ref q40), (0, .ref x), (1, iv p), (2, iv w)]) X dX6_step_54 (by decide) rfl ?_
    refine r_iload_n 5 X dX6_step_56 rfl ?_
    refine r_bipush X dX6_step_57 (by decide) ?_
    refine r_icmp_eq 104 X dX6_step_59 (by decide) ⟨by omega, by omega⟩ ⟨by omega, by omega⟩ (fun c59 => ?_) (fun c59 => ?_)
    · refine r_aload_n 2 X dX6_step_104 rfl ?_
      refine r_getf X dX6_step_105 fX6_89 ht40 rfl ?_
      refine r_iconst X dX6_step_108 ?_
      refine r_icmp_ne 122 X dX6_step_109 (by decide) ⟨by omega, by omega⟩ ⟨by omega, by omega⟩ (fun c109 => ?_) (fun c109 => ?_)
      · have hpt0 := PT_of hv40 hq40 hr40
        have hpl0 := pt_lt hpt0
        have hq10 : 0 < (if a40 % 2 = 1 then a40 else b40) ∧ 0 < (if a40 % 2 = 1 then b40 else a40) ∧ (if a40 % 2 = 1 then a40 else b40) < c040 ∧ (if a40 % 2 = 1 then b40 else a40) < c040 := ⟨hpt0.1, hpt0.2.1, hpl0.1, hpl0.2.1⟩
        refine r_aload_n 3 X dX6_step_122 rfl ?_
        refine r_iload_n 4 X dX6_step_123 rfl ?_
        refine r_iload 1 X dX6_step_124 rfl ?_
        refine r_iload 0 X dX6_step_126 rfl ?_
        refine r_aload_n 2 X dX6_step_128 rfl ?_
        refine r_getf X dX6_step_129 fX6_89 ht40 rfl ?_
        refine r_callS_v X dX6_step_132 kX6_183 (c_X3_backOdd (CX_l X) D z0 h (if a40 % 2 = 1 then a40 else b40) (if a40 % 2 = 1 then b40 else a40) c040) [iv p, .ref x] rfl rfl (Nat.le_of_ble_eq_true rfl) (by decide) rfl rfl (by decide) ?_
        refine r_mabs X dX6_step_135 kX6_187 ⟨by omega, by omega⟩ (Nat.le_of_ble_eq_true rfl) (by decide) ?_
        refine r_iload 1 X dX6_step_138 rfl ?_
        refine r_iload 0 X dX6_step_140 rfl ?_
        refine r_aload_n 2 X dX6_step_142 rfl ?_
        refine r_getf X dX6_step_143 fX6_89 ht40 rfl ?_
        refine r_callS_v X dX6_step_146 kX6_192 (c_X3_backEven (CX_l X) D z0 h (if a40 % 2 = 1 then a40 else b40) (if a40 % 2 = 1 then b40 else a40) c040) [iv (((if a40 % 2 = 1 then a40 else b40) + 2 * (if a40 % 2 = 1 then b40 else a40) - 2 * c040).natAbs : Int), iv p, .ref x] rfl rfl (Nat.le_of_ble_eq_true rfl) (by decide) rfl rfl (by decide) ?_
        refine r_mabs X dX6_step_149 kX6_187 ⟨by omega, by omega⟩ (Nat.le_of_ble_eq_true rfl) (by decide) ?_
        refine r_iload 1 X dX6_step_152 rfl ?_
        refine r_iload 0 X dX6_step_154 rfl ?_
        refine r_aload_n 2 X dX6_step_156 rfl ?_
        refine r_getf X dX6_step_157 fX6_89 ht40 rfl ?_
        refine r_callS_v X dX6_step_160 kX6_195 (c_X3_backLongest (CX_l X) D z0 h (if a40 % 2 = 1 then a40 else b40) (if a40 % 2 = 1 then b40 else a40) c040) [iv ((2 * (if a40 % 2 = 1 then a40 else b40) + (if a40 % 2 = 1 then b40 else a40) - 2 * c040).natAbs : Int), iv (((if a40 % 2 = 1 then a40 else b40) + 2 * (if a40 % 2 = 1 then b40 else a40) - 2 * c040).natAbs : Int), iv p, .ref x] rfl rfl (Nat.le_of_ble_eq_true rfl) (by decide) rfl rfl (by decide) ?_
        have hpt := PT_of hv40 hq40 hr40
        have hc5 : 5 < c040 := by
          apply Int.not_le.mp
          intro z5
          have := pt_5 hpt z5
          omega
        have hbt := bk_TV hpt hc5 (by omega)
        have hw1 : w = 112 := by omega
        rw [← hw1] at hbt
        refine WW_e (show [iv (3 * c040 - 2 * (if a40 % 2 = 1 then a40 else b40) - 2 * (if a40 % 2 = 1 then b40 else a40)), iv ((2 * (if a40 % 2 = 1 then a40 else b40) + (if a40 % 2 = 1 then b40 else a40) - 2 * c040).natAbs : Int), iv (((if a40 % 2 = 1 then a40 else b40) + 2 * (if a40 % 2 = 1 then b40 else a40) - 2 * c040).natAbs : Int), iv p, .ref x] = [iv (stZ w (odd2 a40 b40) (eve2 a40 b40) c040), iv (stY w (odd2 a40 b40) (eve2 a40 b40) c040), iv (stX w (odd2 a40 b40) (eve2 a40 b40) c040), iv p, .ref x] by unfold stX stY stZ; rw [if_pos hw1, if_pos hw1, if_pos hw1]; rfl) ?_
        show WW K D z0 6 h 4 24 163 [(5, iv (if a40 % 2 = 1 then b40 else a40)), (4, iv (if a40 % 2 = 1 then a40 else b40)), (3, .ref q40), (0, .ref x), (1, iv p), (2, iv w)] [iv (stZ w (odd2 a40 b40) (eve2 a40 b40) c040), iv (stY w (odd2 a40 b40) (eve2 a40 b40) c040), iv (stX w (odd2 a40 b40) (eve2 a40 b40) c040), iv p, .ref x]
        refine r_callV X dX6_step_163 kX6_92 hc.1 (c_X6_holdIfShortEnough (CX_l X) D z0 h x T f u v o n g σ hc p hp1 (stX w (odd2 a40 b40) (eve2 a40 b40) c040) (stY w (odd2 a40 b40) (eve2 a40 b40) c040) (stZ w (odd2 a40 b40) (eve2 a40 b40) c040) ⟨by omega, by omega⟩ ⟨by omega, by omega⟩ ⟨by omega, by omega⟩ (fun _ => hbt.2)) [] rfl rfl (Nat.le_of_ble_eq_true rfl) (by decide) (by decide) (fun E9 h9 hx9 => by obtain ⟨rfl, rfl, hn163⟩ := Xn1 hx9; exact WX_out X Y Z (by decide) (by decide) ((hn163 hbt.1).elim)) (fun v9 h9 hv9 => ?_)
        obtain ⟨g9, rfl, hc9, hk9, hp163⟩ := hv9
        have hp163 := if01 hp163
        show WW K D z0 6 h9 6 35 166 [(5, iv (if a40 % 2 = 1 then b40 else a40)), (4, iv (if a40 % 2 = 1 then a40 else b40)), (3, .ref q40), (0, .ref x), (1, iv p), (2, iv w)] [iv (mx3 (stX w (odd2 a40 b40) (eve2 a40 b40) c040) (stY w (odd2 a40 b40) (eve2 a40 b40) c040) (stZ w (odd2 a40 b40) (eve2 a40 b40) c040))]
        refine r_iret X Y dX6_step_166 (by decide) (by decide) ?_
        exact ⟨g9, by rw [on_s hs40], by rw [onT_s hs40]; exact hc9, hk9, by rw [cdSt_k hp1 (by omega) hs40, if_pos ⟨hq40, hr40, Or.inl ⟨hw1, by omega⟩⟩]⟩
      · refine r_throwS (E := "java/lang/IllegalStateException") (text := "3, 4, 5 comes of none") X Y Z dX6_step_112 dX6_step_115 dX6_step_116 dX6_step_118 dX6_step_121 (by decide) gX6_51 ini_IllegalStateException (by decide) hX6_55 (Nat.le_of_ble_eq_true rfl) (by decide) (by decide) (by decide) ?_
        exact Xn_mk 4 (by unfold cdSt; (try simp only [on_s hs40, hs40, isNone_f, isNone_t, true_or, or_true, false_or, or_false]); ((repeat' split) <;> first | rfl | contradiction | omega)) (by decide) rfl
    · refine r_aload_n 3 X dX6_step_62 rfl ?_
      refine r_iload_n 4 X dX6_step_63 rfl ?_
      refine r_iload_n 5 X dX6_step_64 rfl ?_
      refine r_iload 1 X dX6_step_65 rfl ?_
      refine r_iload 0 X dX6_step_67 rfl ?_
      refine r_aload_n 2 X dX6_step_69 rfl ?_
      refine r_getf X dX6_step_70 fX6_89 ht40 rfl ?_
      refine r_callS_v X dX6_step_73 kX6_171 (c_X3_oddLeg (CX_l X) D z0 h w (if a40 % 2 = 1 then a40 else b40) (if a40 % 2 = 1 then b40 else a40) c040 ⟨by omega, by omega⟩) [iv p, .ref x] rfl rfl (Nat.le_of_ble_eq_true rfl) (by decide) rfl rfl (by decide) ?_
      refine r_iload_n 5 X dX6_step_76 rfl ?_
      refine r_iload 1 X dX6_step_77 rfl ?_
      refine r_iload 0 X dX6_step_79 rfl ?_
      refine r_aload_n 2 X dX6_step_81 rfl ?_
      refine r_getf X dX6_step_82 fX6_89 ht40 rfl ?_
      refine r_callS_v X dX6_step_85 kX6_176 (c_X3_evenLeg (CX_l X) D z0 h w (if a40 % 2 = 1 then a40 else b40) (if a40 % 2 = 1 then b40 else a40) c040 ⟨by omega, by omega⟩) [iv (so w (if a40 % 2 = 1 then a40 else b40) + 2 * se w (if a40 % 2 = 1 then b40 else a40) + 2 * c040), iv p, .ref x] rfl rfl (Nat.le_of_ble_eq_true rfl) (by decide) rfl rfl (by decide) ?_
      refine r_iload_n 5 X dX6_step_88 rfl ?_
      refine r_iload 1 X dX6_step_89 rfl ?_
      refine r_iload 0 X dX6_step_91 rfl ?_
      refine r_aload_n 2 X dX6_step_93 rfl ?_
      refine r_getf X dX6_step_94 fX6_89 ht40 rfl ?_
      refine r_callS_v X dX6_step_97 kX6_178 (c_X3_longest (CX_l X) D z0 h w (if a40 % 2 = 1 then a40 else b40) (if a40 % 2 = 1 then b40 else a40) c040 ⟨by omega, by omega⟩) [iv (2 * so w (if a40 % 2 = 1 then a40 else b40) + se w (if a40 % 2 = 1 then b40 else a40) + 2 * c040), iv (so w (if a40 % 2 = 1 then a40 else b40) + 2 * se w (if a40 % 2 = 1 then b40 else a40) + 2 * c040), iv p, .ref x] rfl rfl (Nat.le_of_ble_eq_true rfl) (by decide) rfl rfl (by decide) ?_
      have hpt := PT_of hv40 hq40 hr40
      have hw1 : w ≠ 112 := c59
      refine WW_e (show [iv (2 * so w (if a40 % 2 = 1 then a40 else b40) + 2 * se w (if a40 % 2 = 1 then b40 else a40) + 3 * c040), iv (2 * so w (if a40 % 2 = 1 then a40 else b40) + se w (if a40 % 2 = 1 then b40 else a40) + 2 * c040), iv (so w (if a40 % 2 = 1 then a40 else b40) + 2 * se w (if a40 % 2 = 1 then b40 else a40) + 2 * c040), iv p, .ref x] = [iv (stZ w (odd2 a40 b40) (eve2 a40 b40) c040), iv (stY w (odd2 a40 b40) (eve2 a40 b40) c040), iv (stX w (odd2 a40 b40) (eve2 a40 b40) c040), iv p, .ref x] by unfold stX stY stZ; rw [if_neg hw1, if_neg hw1, if_neg hw1]; rfl) ?_
      have hsp := st_pos w hpt
      have hss := st_sd (w := w) hpt hw1
      have hrx : I32 (stX w (odd2 a40 b40) (eve2 a40 b40) c040) ∧ I32 (stY w (odd2 a40 b40) (eve2 a40 b40) c040) ∧ I32 (stZ w (odd2 a40 b40) (eve2 a40 b40) c040) := by
        have hl := pt_lt hpt
        have q1 := hpt.1
        have q2 := hpt.2.1
        unfold stX stY stZ
        rw [if_neg hw1, if_neg hw1, if_neg hw1]
        unfold so se at hsp ⊢
        revert hsp
        (repeat' split) <;> omega
      show WW K D z0 6 h 4 24 100 [(5, iv (if a40 % 2 = 1 then b40 else a40)), (4, iv (if a40 % 2 = 1 then a40 else b40)), (3, .ref q40), (0, .ref x), (1, iv p), (2, iv w)] [iv (stZ w (odd2 a40 b40) (eve2 a40 b40) c040), iv (stY w (odd2 a40 b40) (eve2 a40 b40) c040), iv (stX w (odd2 a40 b40) (eve2 a40 b40) c040), iv p, .ref x]
      refine r_callV X dX6_step_100 kX6_92 hc.1 (c_X6_holdIfShortEnough (CX_l X) D z0 h x T f u v o n g σ hc p hp1 (stX w (odd2 a40 b40) (eve2 a40 b40) c040) (stY w (odd2 a40 b40) (eve2 a40 b40) c040) (stZ w (odd2 a40 b40) (eve2 a40 b40) c040) hrx.1 hrx.2.1 hrx.2.2 (st_TV3 hpt hw1)) [] rfl rfl (Nat.le_of_ble_eq_true rfl) (by decide) (by decide) (fun E9 h9 hx9 => by obtain ⟨rfl, rfl, hn100⟩ := Xn1 hx9; exact WX_out X Y Z (by decide) (by decide) (Xn_mk 4 (by rw [cdSt_k hp1 (by omega) hs40, if_neg (fun z => hn100 (hss.mpr (by have := z.2.2; omega)))]) (by decide) rfl)) (fun v9 h9 hv9 => ?_)
      obtain ⟨g9, rfl, hc9, hk9, hp100⟩ := hv9
      have hp100 := if01 hp100
      show WW K D z0 6 h9 6 35 103 [(5, iv (if a40 % 2 = 1 then b40 else a40)), (4, iv (if a40 % 2 = 1 then a40 else b40)), (3, .ref q40), (0, .ref x), (1, iv p), (2, iv w)] [iv (mx3 (stX w (odd2 a40 b40) (eve2 a40 b40) c040) (stY w (odd2 a40 b40) (eve2 a40 b40) c040) (stZ w (odd2 a40 b40) (eve2 a40 b40) c040))]
      refine r_iret X Y dX6_step_103 (by decide) (by decide) ?_
      exact ⟨g9, by rw [on_s hs40], by rw [onT_s hs40]; exact hc9, hk9, by rw [cdSt_k hp1 (by omega) hs40, if_pos ⟨hq40, hr40, Or.inr ⟨hw1, hss.mp hp100⟩⟩]⟩
  · refine r_iload_n 2 X dX6_step_10 rfl ?_
    refine r_bipush X dX6_step_11 (by decide) ?_
    refine r_icmp_eq 38 X dX6_step_13 (by decide) ⟨by omega, by omega⟩ ⟨by omega, by omega⟩ (fun c13 => ?_) (fun c13 => ?_)
    · refine r_aload_n 0 X dX6_step_38 rfl ?_
      refine r_iload_n 1 X dX6_step_39 rfl ?_
      refine r_callV X dX6_step_40 kX6_162 hc.1 (c_X6_primitiveAt (CX_l X) D z0 h x T f u v o n g σ hc p ⟨by omega, by omega⟩) [] rfl rfl (Nat.le_of_ble_eq_true rfl) (by decide) (by decide) (fun E9 h9 hx9 => by obtain ⟨rfl, ⟨hn40, rfl⟩ | ⟨hn40, hz40, rfl⟩ | ⟨hn40, a40, b40, c040, hs40, hq40, rfl⟩⟩ := Xn_pr hx9; exact WX_out X Y Z (by decide) (by decide) (Xn_mk 1 (by unfold cdSt; (try simp only [isNone_f, isNone_t, true_or, or_true, false_or, or_false]); ((repeat' split) <;> first | rfl | contradiction | omega)) (by decide) rfl); exact WX_out X Y Z (by decide) (by decide) (Xn_mk 3 (by unfold cdSt; (try simp only [hz40, isNone_f, isNone_t, true_or, or_true, false_or, or_false]); ((repeat' split) <;> first | rfl | contradiction | omega)) (by decide) rfl); exact WX_out X Y Z (by decide) (by decide) (Xn_mk 4 (by unfold cdSt; (try simp only [on_s hs40, hs40, isNone_f, isNone_t, true_or, or_true, false_or, or_false]); ((repeat' split) <;> first | rfl | contradiction | omega)) (by decide) rfl)) (fun v9 h9 hv9 => ?_)
      obtain ⟨rfl, hp40, q40, a40, b40, c040, rfl, hg40, hs40, ht40, hv40, hq40, hr40⟩ := hv9
      have hb40 := TV_b hv40
      show WW K D z0 6 h 4 24 43 [(0, .ref x), (1, iv p), (2, iv w)] [.ref q40]
      refine r_astore_n (L' := [(3, .ref q40), (0, .ref x), (1, iv p), (2, iv w)]) X dX6_step_43 (by decide) rfl ?_
      refine r_aload_n 0 X dX6_step_44 rfl ?_
      refine r_callV_v X dX6_step_45 kX6_165 ht40 (c_X5_oddLeg (CX_l X) D z0 h q40 a40 b40 c040 ht40 hv40) [] rfl rfl (Nat.le_of_ble_eq_true rfl) (by decide) rfl rfl (by decide) ?_
      refine r_istore (L' := [(4, iv (if a40 % 2 = 1 then a40 else b40)), (3, .ref q40), (0, .ref x), (1, iv p), (2, iv w)]) X dX6_step_48 (by decide) rfl ?_
      refine r_aload_n 1 X dX6_step_50 rfl ?_
      refine r_callV_v X dX6_step_51 kX6_168 ht40 (c_X5_evenLeg (CX_l X) D z0 h q40 a40 b40 c040 ht40 hv40) [] rfl rfl (Nat.le_of_ble_eq_true rfl) (by decide) rfl rfl (by decide) ?_
      refine r_istore (L' := [(5, iv (if a40 % 2 = 1 then b40 else a40)), (4, iv (if a40 % 2 = 1 then a40 else b40)), (3, .ref q40), (0, .ref x), (1, iv p), (2, iv w)]) X dX6_step_54 (by decide) rfl ?_
      refine r_iload_n 5 X dX6_step_56 rfl ?_
      refine r_bipush X dX6_step_57 (by decide) ?_
      refine r_icmp_eq 104 X dX6_step_59 (by decide) ⟨by omega, by omega⟩ ⟨by omega, by omega⟩ (fun c59 => ?_) (fun c59 => ?_)
      · refine r_aload_n 2 X dX6_step_104 rfl ?_
        refine r_getf X dX6_step_105 fX6_89 ht40 rfl ?_
        refine r_iconst X dX6_step_108 ?_
        refine r_icmp_ne 122 X dX6_step_109 (by decide) ⟨by omega, by omega⟩ ⟨by omega, by omega⟩ (fun c109 => ?_) (fun c109 => ?_)
        · have hpt0 := PT_of hv40 hq40 hr40
          have hpl0 := pt_lt hpt0
          have hq10 : 0 < (if a40 % 2 = 1 then a40 else b40) ∧ 0 < (if a40 % 2 = 1 then b40 else a40) ∧ (if a40 % 2 = 1 then a40 else b40) < c040 ∧ (if a40 % 2 = 1 then b40 else a40) < c040 := ⟨hpt0.1, hpt0.2.1, hpl0.1, hpl0.2.1⟩
          refine r_aload_n 3 X dX6_step_122 rfl ?_
          refine r_iload_n 4 X dX6_step_123 rfl ?_
          refine r_iload 1 X dX6_step_124 rfl ?_
          refine r_iload 0 X dX6_step_126 rfl ?_
          refine r_aload_n 2 X dX6_step_128 rfl ?_
          refine r_getf X dX6_step_129 fX6_89 ht40 rfl ?_
          refine r_callS_v X dX6_step_132 kX6_183 (c_X3_backOdd (CX_l X) D z0 h (if a40 % 2 = 1 then a40 else b40) (if a40 % 2 = 1 then b40 else a40) c040) [iv p, .ref x] rfl rfl (Nat.le_of_ble_eq_true rfl) (by decide) rfl rfl (by decide) ?_
          refine r_mabs X dX6_step_135 kX6_187 ⟨by omega, by omega⟩ (Nat.le_of_ble_eq_true rfl) (by decide) ?_
          refine r_iload 1 X dX6_step_138 rfl ?_
          refine r_iload 0 X dX6_step_140 rfl ?_
          refine r_aload_n 2 X dX6_step_142 rfl ?_
          refine r_getf X dX6_step_143 fX6_89 ht40 rfl ?_
          refine r_callS_v X dX6_step_146 kX6_192 (c_X3_backEven (CX_l X) D z0 h (if a40 % 2 = 1 then a40 else b40) (if a40 % 2 = 1 then b40 else a40) c040) [iv (((if a40 % 2 = 1 then a40 else b40) + 2 * (if a40 % 2 = 1 then b40 else a40) - 2 * c040).natAbs : Int), iv p, .ref x] rfl rfl (Nat.le_of_ble_eq_true rfl) (by decide) rfl rfl (by decide) ?_
          refine r_mabs X dX6_step_149 kX6_187 ⟨by omega, by omega⟩ (Nat.le_of_ble_eq_true rfl) (by decide) ?_
          refine r_iload 1 X dX6_step_152 rfl ?_
          refine r_iload 0 X dX6_step_154 rfl ?_
          refine r_aload_n 2 X dX6_step_156 rfl ?_
          refine r_getf X dX6_step_157 fX6_89 ht40 rfl ?_
          refine r_callS_v X dX6_step_160 kX6_195 (c_X3_backLongest (CX_l X) D z0 h (if a40 % 2 = 1 then a40 else b40) (if a40 % 2 = 1 then b40 else a40) c040) [iv ((2 * (if a40 % 2 = 1 then a40 else b40) + (if a40 % 2 = 1 then b40 else a40) - 2 * c040).natAbs : Int), iv (((if a40 % 2 = 1 then a40 else b40) + 2 * (if a40 % 2 = 1 then b40 else a40) - 2 * c040).natAbs : Int), iv p, .ref x] rfl rfl (Nat.le_of_ble_eq_true rfl) (by decide) rfl rfl (by decide) ?_
          have hpt := PT_of hv40 hq40 hr40
          have hc5 : 5 < c040 := by
            apply Int.not_le.mp
            intro z5
            have := pt_5 hpt z5
            omega
          have hbt := bk_TV hpt hc5 (by omega)
          have hw1 : w = 112 := by omega
          rw [← hw1] at hbt
          refine WW_e (show [iv (3 * c040 - 2 * (if a40 % 2 = 1 then a40 else b40) - 2 * (if a40 % 2 = 1 then b40 else a40)), iv ((2 * (if a40 % 2 = 1 then a40 else b40) + (if a40 % 2 = 1 then b40 else a40) - 2 * c040).natAbs : Int), iv (((if a40 % 2 = 1 then a40 else b40) + 2 * (if a40 % 2 = 1 then b40 else a40) - 2 * c040).natAbs : Int), iv p, .ref x] = [iv (stZ w (odd2 a40 b40) (eve2 a40 b40) c040), iv (stY w (odd2 a40 b40) (eve2 a40 b40) c040), iv (stX w (odd2 a40 b40) (eve2 a40 b40) c040), iv p, .ref x] by unfold stX stY stZ; rw [if_pos hw1, if_pos hw1, if_pos hw1]; rfl) ?_
          show WW K D z0 6 h 4 24 163 [(5, iv (if a40 % 2 = 1 then b40 else a40)), (4, iv (if a40 % 2 = 1 then a40 else b40)), (3, .ref q40), (0, .ref x), (1, iv p), (2, iv w)] [iv (stZ w (odd2 a40 b40) (eve2 a40 b40) c040), iv (stY w (odd2 a40 b40) (eve2 a40 b40) c040), iv (stX w (odd2 a40 b40) (eve2 a40 b40) c040), iv p, .ref x]
          refine r_callV X dX6_step_163 kX6_92 hc.1 (c_X6_holdIfShortEnough (CX_l X) D z0 h x T f u v o n g σ hc p hp1 (stX w (odd2 a40 b40) (eve2 a40 b40) c040) (stY w (odd2 a40 b40) (eve2 a40 b40) c040) (stZ w (odd2 a40 b40) (eve2 a40 b40) c040) ⟨by omega, by omega⟩ ⟨by omega, by omega⟩ ⟨by omega, by omega⟩ (fun _ => hbt.2)) [] rfl rfl (Nat.le_of_ble_eq_true rfl) (by decide) (by decide) (fun E9 h9 hx9 => by obtain ⟨rfl, rfl, hn163⟩ := Xn1 hx9; exact WX_out X Y Z (by decide) (by decide) ((hn163 hbt.1).elim)) (fun v9 h9 hv9 => ?_)
          obtain ⟨g9, rfl, hc9, hk9, hp163⟩ := hv9
          have hp163 := if01 hp163
          show WW K D z0 6 h9 6 35 166 [(5, iv (if a40 % 2 = 1 then b40 else a40)), (4, iv (if a40 % 2 = 1 then a40 else b40)), (3, .ref q40), (0, .ref x), (1, iv p), (2, iv w)] [iv (mx3 (stX w (odd2 a40 b40) (eve2 a40 b40) c040) (stY w (odd2 a40 b40) (eve2 a40 b40) c040) (stZ w (odd2 a40 b40) (eve2 a40 b40) c040))]
          refine r_iret X Y dX6_step_166 (by decide) (by decide) ?_
          exact ⟨g9, by rw [on_s hs40], by rw [onT_s hs40]; exact hc9, hk9, by rw [cdSt_k hp1 (by omega) hs40, if_pos ⟨hq40, hr40, Or.inl ⟨hw1, by omega⟩⟩]⟩
        · refine r_throwS (E := "java/lang/IllegalStateException") (text := "3, 4, 5 comes of none") X Y Z dX6_step_112 dX6_step_115 dX6_step_116 dX6_step_118 dX6_step_121 (by decide) gX6_51 ini_IllegalStateException (by decide) hX6_55 (Nat.le_of_ble_eq_true rfl) (by decide) (by decide) (by decide) ?_
          exact Xn_mk 4 (by unfold cdSt; (try simp only [on_s hs40, hs40, isNone_f, isNone_t, true_or, or_true, false_or, or_false]); ((repeat' split) <;> first | rfl | contradiction | omega)) (by decide) rfl
      · refine r_aload_n 3 X dX6_step_62 rfl ?_
        refine r_iload_n 4 X dX6_step_63 rfl ?_
        refine r_iload_n 5 X dX6_step_64 rfl ?_
        refine r_iload 1 X dX6_step_65 rfl ?_
        refine r_iload 0 X dX6_step_67 rfl ?_
        refine r_aload_n 2 X dX6_step_69 rfl ?_
        refine r_getf X dX6_step_70 fX6_89 ht40 rfl ?_
        refine r_callS_v X dX6_step_73 kX6_171 (c_X3_oddLeg (CX_l X) D z0 h w (if a40 % 2 = 1 then a40 else b40) (if a40 % 2 = 1 then b40 else a40) c040 ⟨by omega, by omega⟩) [iv p, .ref x] rfl rfl (Nat.le_of_ble_eq_true rfl) (by decide) rfl rfl (by decide) ?_
        refine r_iload_n 5 X dX6_step_76 rfl ?_
        refine r_iload 1 X dX6_step_77 rfl ?_
        refine r_iload 0 X dX6_step_79 rfl ?_
        refine r_aload_n 2 X dX6_step_81 rfl ?_
        refine r_getf X dX6_step_82 fX6_89 ht40 rfl ?_
        refine r_callS_v X dX6_step_85 kX6_176 (c_X3_evenLeg (CX_l X) D z0 h w (if a40 % 2 = 1 then a40 else b40) (if a40 % 2 = 1 then b40 else a40) c040 ⟨by omega, by omega⟩) [iv (so w (if a40 % 2 = 1 then a40 else b40) + 2 * se w (if a40 % 2 = 1 then b40 else a40) + 2 * c040), iv p, .ref x] rfl rfl (Nat.le_of_ble_eq_true rfl) (by decide) rfl rfl (by decide) ?_
        refine r_iload_n 5 X dX6_step_88 rfl ?_
        refine r_iload 1 X dX6_step_89 rfl ?_
        refine r_iload 0 X dX6_step_91 rfl ?_
        refine r_aload_n 2 X dX6_step_93 rfl ?_
        refine r_getf X dX6_step_94 fX6_89 ht40 rfl ?_
        refine r_callS_v X dX6_step_97 kX6_178 (c_X3_longest (CX_l X) D z0 h w (if a40 % 2 = 1 then a40 else b40) (if a40 % 2 = 1 then b40 else a40) c040 ⟨by omega, by omega⟩) [iv (2 * so w (if a40 % 2 = 1 then a40 else b40) + se w (if a40 % 2 = 1 then b40 else a40) + 2 * c040), iv (so w (if a40 % 2 = 1 then a40 else b40) + 2 * se w (if a40 % 2 = 1 then b40 else a40) + 2 * c040), iv p, .ref x] rfl rfl (Nat.le_of_ble_eq_true rfl) (by decide) rfl rfl (by decide) ?_
        have hpt := PT_of hv40 hq40 hr40
        have hw1 : w ≠ 112 := c59
        refine WW_e (show [iv (2 * so w (if a40 % 2 = 1 then a40 else b40) + 2 * se w (if a40 % 2 = 1 then b40 else a40) + 3 * c040), iv (2 * so w (if a40 % 2 = 1 then a40 else b40) + se w (if a40 % 2 = 1 then b40 else a40) + 2 * c040), iv (so w (if a40 % 2 = 1 then a40 else b40) + 2 * se w (if a40 % 2 = 1 then b40 else a40) + 2 * c040), iv p, .ref x] = [iv (stZ w (odd2 a40 b40) (eve2 a40 b40) c040), iv (stY w (odd2 a40 b40) (eve2 a40 b40) c040), iv (stX w (odd2 a40 b40) (eve2 a40 b40) c040), iv p, .ref x] by unfold stX stY stZ; rw [if_neg hw1, if_neg hw1, if_neg hw1]; rfl) ?_
        have hsp := st_pos w hpt
        have hss := st_sd (w := w) hpt hw1
        have hrx : I32 (stX w (odd2 a40 b40) (eve2 a40 b40) c040) ∧ I32 (stY w (odd2 a40 b40) (eve2 a40 b40) c040) ∧ I32 (stZ w (odd2 a40 b40) (eve2 a40 b40) c040) := by
          have hl := pt_lt hpt
          have q1 := hpt.1
          have q2 := hpt.2.1
          unfold stX stY stZ
          rw [if_neg hw1, if_neg hw1, if_neg hw1]
          unfold so se at hsp ⊢
          revert hsp
          (repeat' split) <;> omega
        show WW K D z0 6 h 4 24 100 [(5, iv (if a40 % 2 = 1 then b40 else a40)), (4, iv (if a40 % 2 = 1 then a40 else b40)), (3, .ref q40), (0, .ref x), (1, iv p), (2, iv w)] [iv (stZ w (odd2 a40 b40) (eve2 a40 b40) c040), iv (stY w (odd2 a40 b40) (eve2 a40 b40) c040), iv (stX w (odd2 a40 b40) (eve2 a40 b40) c040), iv p, .ref x]
        refine r_callV X dX6_step_100 kX6_92 hc.1 (c_X6_holdIfShortEnough (CX_l X) D z0 h x T f u v o n g σ hc p hp1 (stX w (odd2 a40 b40) (eve2 a40 b40) c040) (stY w (odd2 a40 b40) (eve2 a40 b40) c040) (stZ w (odd2 a40 b40) (eve2 a40 b40) c040) hrx.1 hrx.2.1 hrx.2.2 (st_TV3 hpt hw1)) [] rfl rfl (Nat.le_of_ble_eq_true rfl) (by decide) (by decide) (fun E9 h9 hx9 => by obtain ⟨rfl, rfl, hn100⟩ := Xn1 hx9; exact WX_out X Y Z (by decide) (by decide) (Xn_mk 4 (by rw [cdSt_k hp1 (by omega) hs40, if_neg (fun z => hn100 (hss.mpr (by have := z.2.2; omega)))]) (by decide) rfl)) (fun v9 h9 hv9 => ?_)
        obtain ⟨g9, rfl, hc9, hk9, hp100⟩ := hv9
        have hp100 := if01 hp100
        show WW K D z0 6 h9 6 35 103 [(5, iv (if a40 % 2 = 1 then b40 else a40)), (4, iv (if a40 % 2 = 1 then a40 else b40)), (3, .ref q40), (0, .ref x), (1, iv p), (2, iv w)] [iv (mx3 (stX w (odd2 a40 b40) (eve2 a40 b40) c040) (stY w (odd2 a40 b40) (eve2 a40 b40) c040) (stZ w (odd2 a40 b40) (eve2 a40 b40) c040))]
        refine r_iret X Y dX6_step_103 (by decide) (by decide) ?_
        exact ⟨g9, by rw [on_s hs40], by rw [onT_s hs40]; exact hc9, hk9, by rw [cdSt_k hp1 (by omega) hs40, if_pos ⟨hq40, hr40, Or.inr ⟨hw1, hss.mp hp100⟩⟩]⟩
    · refine r_iload_n 2 X dX6_step_16 rfl ?_
      refine r_bipush X dX6_step_17 (by decide) ?_
      refine r_icmp_eq 38 X dX6_step_19 (by decide) ⟨by omega, by omega⟩ ⟨by omega, by omega⟩ (fun c19 => ?_) (fun c19 => ?_)
      · refine r_aload_n 0 X dX6_step_38 rfl ?_
        refine r_iload_n 1 X dX6_step_39 rfl ?_
        refine r_callV X dX6_step_40 kX6_162 hc.1 (c_X6_primitiveAt (CX_l X) D z0 h x T f u v o n g σ hc p ⟨by omega, by omega⟩) [] rfl rfl (Nat.le_of_ble_eq_true rfl) (by decide) (by decide) (fun E9 h9 hx9 => by obtain ⟨rfl, ⟨hn40, rfl⟩ | ⟨hn40, hz40, rfl⟩ | ⟨hn40, a40, b40, c040, hs40, hq40, rfl⟩⟩ := Xn_pr hx9; exact WX_out X Y Z (by decide) (by decide) (Xn_mk 1 (by unfold cdSt; (try simp only [isNone_f, isNone_t, true_or, or_true, false_or, or_false]); ((repeat' split) <;> first | rfl | contradiction | omega)) (by decide) rfl); exact WX_out X Y Z (by decide) (by decide) (Xn_mk 3 (by unfold cdSt; (try simp only [hz40, isNone_f, isNone_t, true_or, or_true, false_or, or_false]); ((repeat' split) <;> first | rfl | contradiction | omega)) (by decide) rfl); exact WX_out X Y Z (by decide) (by decide) (Xn_mk 4 (by unfold cdSt; (try simp only [on_s hs40, hs40, isNone_f, isNone_t, true_or, or_true, false_or, or_false]); ((repeat' split) <;> first | rfl | contradiction | omega)) (by decide) rfl)) (fun v9 h9 hv9 => ?_)
        obtain ⟨rfl, hp40, q40, a40, b40, c040, rfl, hg40, hs40, ht40, hv40, hq40, hr40⟩ := hv9
        have hb40 := TV_b hv40
        show WW K D z0 6 h 4 24 43 [(0, .ref x), (1, iv p), (2, iv w)] [.ref q40]
        refine r_astore_n (L' := [(3, .ref q40), (0, .ref x), (1, iv p), (2, iv w)]) X dX6_step_43 (by decide) rfl ?_
        refine r_aload_n 0 X dX6_step_44 rfl ?_
        refine r_callV_v X dX6_step_45 kX6_165 ht40 (c_X5_oddLeg (CX_l X) D z0 h q40 a40 b40 c040 ht40 hv40) [] rfl rfl (Nat.le_of_ble_eq_true rfl) (by decide) rfl rfl (by decide) ?_
        refine r_istore (L' := [(4, iv (if a40 % 2 = 1 then a40 else b40)), (3, .ref q40), (0, .ref x), (1, iv p), (2, iv w)]) X dX6_step_48 (by decide) rfl ?_
        refine r_aload_n 1 X dX6_step_50 rfl ?_
        refine r_callV_v X dX6_step_51 kX6_168 ht40 (c_X5_evenLeg (CX_l X) D z0 h q40 a40 b40 c040 ht40 hv40) [] rfl rfl (Nat.le_of_ble_eq_true rfl) (by decide) rfl rfl (by decide) ?_
        refine r_istore (L' := [(5, iv (if a40 % 2 = 1 then b40 else a40)), (4, iv (if a40 % 2 = 1 then a40 else b40)), (3, .ref q40), (0, .ref x), (1, iv p), (2, iv w)]) X dX6_step_54 (by decide) rfl ?_
        refine r_iload_n 5 X dX6_step_56 rfl ?_
        refine r_bipush X dX6_step_57 (by decide) ?_
        refine r_icmp_eq 104 X dX6_step_59 (by decide) ⟨by omega, by omega⟩ ⟨by omega, by omega⟩ (fun c59 => ?_) (fun c59 => ?_)
        · refine r_aload_n 2 X dX6_step_104 rfl ?_
          refine r_getf X dX6_step_105 fX6_89 ht40 rfl ?_
          refine r_iconst X dX6_step_108 ?_
          refine r_icmp_ne 122 X dX6_step_109 (by decide) ⟨by omega, by omega⟩ ⟨by omega, by omega⟩ (fun c109 => ?_) (fun c109 => ?_)
          · have hpt0 := PT_of hv40 hq40 hr40
            have hpl0 := pt_lt hpt0
            have hq10 : 0 < (if a40 % 2 = 1 then a40 else b40) ∧ 0 < (if a40 % 2 = 1 then b40 else a40) ∧ (if a40 % 2 = 1 then a40 else b40) < c040 ∧ (if a40 % 2 = 1 then b40 else a40) < c040 := ⟨hpt0.1, hpt0.2.1, hpl0.1, hpl0.2.1⟩
            refine r_aload_n 3 X dX6_step_122 rfl ?_
            refine r_iload_n 4 X dX6_step_123 rfl ?_
            refine r_iload 1 X dX6_step_124 rfl ?_
            refine r_iload 0 X dX6_step_126 rfl ?_
            refine r_aload_n 2 X dX6_step_128 rfl ?_
            refine r_getf X dX6_step_129 fX6_89 ht40 rfl ?_
            refine r_callS_v X dX6_step_132 kX6_183 (c_X3_backOdd (CX_l X) D z0 h (if a40 % 2 = 1 then a40 else b40) (if a40 % 2 = 1 then b40 else a40) c040) [iv p, .ref x] rfl rfl (Nat.le_of_ble_eq_true rfl) (by decide) rfl rfl (by decide) ?_
            refine r_mabs X dX6_step_135 kX6_187 ⟨by omega, by omega⟩ (Nat.le_of_ble_eq_true rfl) (by decide) ?_
            refine r_iload 1 X dX6_step_138 rfl ?_
            refine r_iload 0 X dX6_step_140 rfl ?_
            refine r_aload_n 2 X dX6_step_142 rfl ?_
            refine r_getf X dX6_step_143 fX6_89 ht40 rfl ?_
            refine r_callS_v X dX6_step_146 kX6_192 (c_X3_backEven (CX_l X) D z0 h (if a40 % 2 = 1 then a40 else b40) (if a40 % 2 = 1 then b40 else a40) c040) [iv (((if a40 % 2 = 1 then a40 else b40) + 2 * (if a40 % 2 = 1 then b40 else a40) - 2 * c040).natAbs : Int), iv p, .ref x] rfl rfl (Nat.le_of_ble_eq_true rfl) (by decide) rfl rfl (by decide) ?_
            refine r_mabs X dX6_step_149 kX6_187 ⟨by omega, by omega⟩ (Nat.le_of_ble_eq_true rfl) (by decide) ?_
            refine r_iload 1 X dX6_step_152 rfl ?_
            refine r_iload 0 X dX6_step_154 rfl ?_
            refine r_aload_n 2 X dX6_step_156 rfl ?_
            refine r_getf X dX6_step_157 fX6_89 ht40 rfl ?_
            refine r_callS_v X dX6_step_160 kX6_195 (c_X3_backLongest (CX_l X) D z0 h (if a40 % 2 = 1 then a40 else b40) (if a40 % 2 = 1 then b40 else a40) c040) [iv ((2 * (if a40 % 2 = 1 then a40 else b40) + (if a40 % 2 = 1 then b40 else a40) - 2 * c040).natAbs : Int), iv (((if a40 % 2 = 1 then a40 else b40) + 2 * (if a40 % 2 = 1 then b40 else a40) - 2 * c040).natAbs : Int), iv p, .ref x] rfl rfl (Nat.le_of_ble_eq_true rfl) (by decide) rfl rfl (by decide) ?_
            have hpt := PT_of hv40 hq40 hr40
            have hc5 : 5 < c040 := by
              apply Int.not_le.mp
              intro z5
              have := pt_5 hpt z5
              omega
            have hbt := bk_TV hpt hc5 (by omega)
            have hw1 : w = 112 := by omega
            rw [← hw1] at hbt
            refine WW_e (show [iv (3 * c040 - 2 * (if a40 % 2 = 1 then a40 else b40) - 2 * (if a40 % 2 = 1 then b40 else a40)), iv ((2 * (if a40 % 2 = 1 then a40 else b40) + (if a40 % 2 = 1 then b40 else a40) - 2 * c040).natAbs : Int), iv (((if a40 % 2 = 1 then a40 else b40) + 2 * (if a40 % 2 = 1 then b40 else a40) - 2 * c040).natAbs : Int), iv p, .ref x] = [iv (stZ w (odd2 a40 b40) (eve2 a40 b40) c040), iv (stY w (odd2 a40 b40) (eve2 a40 b40) c040), iv (stX w (odd2 a40 b40) (eve2 a40 b40) c040), iv p, .ref x] by unfold stX stY stZ; rw [if_pos hw1, if_pos hw1, if_pos hw1]; rfl) ?_
            show WW K D z0 6 h 4 24 163 [(5, iv (if a40 % 2 = 1 then b40 else a40)), (4, iv (if a40 % 2 = 1 then a40 else b40)), (3, .ref q40), (0, .ref x), (1, iv p), (2, iv w)] [iv (stZ w (odd2 a40 b40) (eve2 a40 b40) c040), iv (stY w (odd2 a40 b40) (eve2 a40 b40) c040), iv (stX w (odd2 a40 b40) (eve2 a40 b40) c040), iv p, .ref x]
            refine r_callV X dX6_step_163 kX6_92 hc.1 (c_X6_holdIfShortEnough (CX_l X) D z0 h x T f u v o n g σ hc p hp1 (stX w (odd2 a40 b40) (eve2 a40 b40) c040) (stY w (odd2 a40 b40) (eve2 a40 b40) c040) (stZ w (odd2 a40 b40) (eve2 a40 b40) c040) ⟨by omega, by omega⟩ ⟨by omega, by omega⟩ ⟨by omega, by omega⟩ (fun _ => hbt.2)) [] rfl rfl (Nat.le_of_ble_eq_true rfl) (by decide) (by decide) (fun E9 h9 hx9 => by obtain ⟨rfl, rfl, hn163⟩ := Xn1 hx9; exact WX_out X Y Z (by decide) (by decide) ((hn163 hbt.1).elim)) (fun v9 h9 hv9 => ?_)
            obtain ⟨g9, rfl, hc9, hk9, hp163⟩ := hv9
            have hp163 := if01 hp163
            show WW K D z0 6 h9 6 35 166 [(5, iv (if a40 % 2 = 1 then b40 else a40)), (4, iv (if a40 % 2 = 1 then a40 else b40)), (3, .ref q40), (0, .ref x), (1, iv p), (2, iv w)] [iv (mx3 (stX w (odd2 a40 b40) (eve2 a40 b40) c040) (stY w (odd2 a40 b40) (eve2 a40 b40) c040) (stZ w (odd2 a40 b40) (eve2 a40 b40) c040))]
            refine r_iret X Y dX6_step_166 (by decide) (by decide) ?_
            exact ⟨g9, by rw [on_s hs40], by rw [onT_s hs40]; exact hc9, hk9, by rw [cdSt_k hp1 (by omega) hs40, if_pos ⟨hq40, hr40, Or.inl ⟨hw1, by omega⟩⟩]⟩
          · refine r_throwS (E := "java/lang/IllegalStateException") (text := "3, 4, 5 comes of none") X Y Z dX6_step_112 dX6_step_115 dX6_step_116 dX6_step_118 dX6_step_121 (by decide) gX6_51 ini_IllegalStateException (by decide) hX6_55 (Nat.le_of_ble_eq_true rfl) (by decide) (by decide) (by decide) ?_
            exact Xn_mk 4 (by unfold cdSt; (try simp only [on_s hs40, hs40, isNone_f, isNone_t, true_or, or_true, false_or, or_false]); ((repeat' split) <;> first | rfl | contradiction | omega)) (by decide) rfl
        · refine r_aload_n 3 X dX6_step_62 rfl ?_
          refine r_iload_n 4 X dX6_step_63 rfl ?_
          refine r_iload_n 5 X dX6_step_64 rfl ?_
          refine r_iload 1 X dX6_step_65 rfl ?_
          refine r_iload 0 X dX6_step_67 rfl ?_
          refine r_aload_n 2 X dX6_step_69 rfl ?_
          refine r_getf X dX6_step_70 fX6_89 ht40 rfl ?_
          refine r_callS_v X dX6_step_73 kX6_171 (c_X3_oddLeg (CX_l X) D z0 h w (if a40 % 2 = 1 then a40 else b40) (if a40 % 2 = 1 then b40 else a40) c040 ⟨by omega, by omega⟩) [iv p, .ref x] rfl rfl (Nat.le_of_ble_eq_true rfl) (by decide) rfl rfl (by decide) ?_
          refine r_iload_n 5 X dX6_step_76 rfl ?_
          refine r_iload 1 X dX6_step_77 rfl ?_
          refine r_iload 0 X dX6_step_79 rfl ?_
          refine r_aload_n 2 X dX6_step_81 rfl ?_
          refine r_getf X dX6_step_82 fX6_89 ht40 rfl ?_
          refine r_callS_v X dX6_step_85 kX6_176 (c_X3_evenLeg (CX_l X) D z0 h w (if a40 % 2 = 1 then a40 else b40) (if a40 % 2 = 1 then b40 else a40) c040 ⟨by omega, by omega⟩) [iv (so w (if a40 % 2 = 1 then a40 else b40) + 2 * se w (if a40 % 2 = 1 then b40 else a40) + 2 * c040), iv p, .ref x] rfl rfl (Nat.le_of_ble_eq_true rfl) (by decide) rfl rfl (by decide) ?_
          refine r_iload_n 5 X dX6_step_88 rfl ?_
          refine r_iload 1 X dX6_step_89 rfl ?_
          refine r_iload 0 X dX6_step_91 rfl ?_
          refine r_aload_n 2 X dX6_step_93 rfl ?_
          refine r_getf X dX6_step_94 fX6_89 ht40 rfl ?_
          refine r_callS_v X dX6_step_97 kX6_178 (c_X3_longest (CX_l X) D z0 h w (if a40 % 2 = 1 then a40 else b40) (if a40 % 2 = 1 then b40 else a40) c040 ⟨by omega, by omega⟩) [iv (2 * so w (if a40 % 2 = 1 then a40 else b40) + se w (if a40 % 2 = 1 then b40 else a40) + 2 * c040), iv (so w (if a40 % 2 = 1 then a40 else b40) + 2 * se w (if a40 % 2 = 1 then b40 else a40) + 2 * c040), iv p, .ref x] rfl rfl (Nat.le_of_ble_eq_true rfl) (by decide) rfl rfl (by decide) ?_
          have hpt := PT_of hv40 hq40 hr40
          have hw1 : w ≠ 112 := c59
          refine WW_e (show [iv (2 * so w (if a40 % 2 = 1 then a40 else b40) + 2 * se w (if a40 % 2 = 1 then b40 else a40) + 3 * c040), iv (2 * so w (if a40 % 2 = 1 then a40 else b40) + se w (if a40 % 2 = 1 then b40 else a40) + 2 * c040), iv (so w (if a40 % 2 = 1 then a40 else b40) + 2 * se w (if a40 % 2 = 1 then b40 else a40) + 2 * c040), iv p, .ref x] = [iv (stZ w (odd2 a40 b40) (eve2 a40 b40) c040), iv (stY w (odd2 a40 b40) (eve2 a40 b40) c040), iv (stX w (odd2 a40 b40) (eve2 a40 b40) c040), iv p, .ref x] by unfold stX stY stZ; rw [if_neg hw1, if_neg hw1, if_neg hw1]; rfl) ?_
          have hsp := st_pos w hpt
          have hss := st_sd (w := w) hpt hw1
          have hrx : I32 (stX w (odd2 a40 b40) (eve2 a40 b40) c040) ∧ I32 (stY w (odd2 a40 b40) (eve2 a40 b40) c040) ∧ I32 (stZ w (odd2 a40 b40) (eve2 a40 b40) c040) := by
            have hl := pt_lt hpt
            have q1 := hpt.1
            have q2 := hpt.2.1
            unfold stX stY stZ
            rw [if_neg hw1, if_neg hw1, if_neg hw1]
            unfold so se at hsp ⊢
            revert hsp
            (repeat' split) <;> omega
          show WW K D z0 6 h 4 24 100 [(5, iv (if a40 % 2 = 1 then b40 else a40)), (4, iv (if a40 % 2 = 1 then a40 else b40)), (3, .ref q40), (0, .ref x), (1, iv p), (2, iv w)] [iv (stZ w (odd2 a40 b40) (eve2 a40 b40) c040), iv (stY w (odd2 a40 b40) (eve2 a40 b40) c040), iv (stX w (odd2 a40 b40) (eve2 a40 b40) c040), iv p, .ref x]
          refine r_callV X dX6_step_100 kX6_92 hc.1 (c_X6_holdIfShortEnough (CX_l X) D z0 h x T f u v o n g σ hc p hp1 (stX w (odd2 a40 b40) (eve2 a40 b40) c040) (stY w (odd2 a40 b40) (eve2 a40 b40) c040) (stZ w (odd2 a40 b40) (eve2 a40 b40) c040) hrx.1 hrx.2.1 hrx.2.2 (st_TV3 hpt hw1)) [] rfl rfl (Nat.le_of_ble_eq_true rfl) (by decide) (by decide) (fun E9 h9 hx9 => by obtain ⟨rfl, rfl, hn100⟩ := Xn1 hx9; exact WX_out X Y Z (by decide) (by decide) (Xn_mk 4 (by rw [cdSt_k hp1 (by omega) hs40, if_neg (fun z => hn100 (hss.mpr (by have := z.2.2; omega)))]) (by decide) rfl)) (fun v9 h9 hv9 => ?_)
          obtain ⟨g9, rfl, hc9, hk9, hp100⟩ := hv9
          have hp100 := if01 hp100
          show WW K D z0 6 h9 6 35 103 [(5, iv (if a40 % 2 = 1 then b40 else a40)), (4, iv (if a40 % 2 = 1 then a40 else b40)), (3, .ref q40), (0, .ref x), (1, iv p), (2, iv w)] [iv (mx3 (stX w (odd2 a40 b40) (eve2 a40 b40) c040) (stY w (odd2 a40 b40) (eve2 a40 b40) c040) (stZ w (odd2 a40 b40) (eve2 a40 b40) c040))]
          refine r_iret X Y dX6_step_103 (by decide) (by decide) ?_
          exact ⟨g9, by rw [on_s hs40], by rw [onT_s hs40]; exact hc9, hk9, by rw [cdSt_k hp1 (by omega) hs40, if_pos ⟨hq40, hr40, Or.inr ⟨hw1, hss.mp hp100⟩⟩]⟩
      · refine r_iload_n 2 X dX6_step_22 rfl ?_
        refine r_bipush X dX6_step_23 (by decide) ?_
        refine r_icmp_eq 38 X dX6_step_25 (by decide) ⟨by omega, by omega⟩ ⟨by omega, by omega⟩ (fun c25 => ?_) (fun c25 => ?_)
        · refine r_aload_n 0 X dX6_step_38 rfl ?_
          refine r_iload_n 1 X dX6_step_39 rfl ?_
          refine r_callV X dX6_step_40 kX6_162 hc.1 (c_X6_primitiveAt (CX_l X) D z0 h x T f u v o n g σ hc p ⟨by omega, by omega⟩) [] rfl rfl (Nat.le_of_ble_eq_true rfl) (by decide) (by decide) (fun E9 h9 hx9 => by obtain ⟨rfl, ⟨hn40, rfl⟩ | ⟨hn40, hz40, rfl⟩ | ⟨hn40, a40, b40, c040, hs40, hq40, rfl⟩⟩ := Xn_pr hx9; exact WX_out X Y Z (by decide) (by decide) (Xn_mk 1 (by unfold cdSt; (try simp only [isNone_f, isNone_t, true_or, or_true, false_or, or_false]); ((repeat' split) <;> first | rfl | contradiction | omega)) (by decide) rfl); exact WX_out X Y Z (by decide) (by decide) (Xn_mk 3 (by unfold cdSt; (try simp only [hz40, isNone_f, isNone_t, true_or, or_true, false_or, or_false]); ((repeat' split) <;> first | rfl | contradiction | omega)) (by decide) rfl); exact WX_out X Y Z (by decide) (by decide) (Xn_mk 4 (by unfold cdSt; (try simp only [on_s hs40, hs40, isNone_f, isNone_t, true_or, or_true, false_or, or_false]); ((repeat' split) <;> first | rfl | contradiction | omega)) (by decide) rfl)) (fun v9 h9 hv9 => ?_)
          obtain ⟨rfl, hp40, q40, a40, b40, c040, rfl, hg40, hs40, ht40, hv40, hq40, hr40⟩ := hv9
          have hb40 := TV_b hv40
          show WW K D z0 6 h 4 24 43 [(0, .ref x), (1, iv p), (2, iv w)] [.ref q40]
          refine r_astore_n (L' := [(3, .ref q40), (0, .ref x), (1, iv p), (2, iv w)]) X dX6_step_43 (by decide) rfl ?_
          refine r_aload_n 0 X dX6_step_44 rfl ?_
          refine r_callV_v X dX6_step_45 kX6_165 ht40 (c_X5_oddLeg (CX_l X) D z0 h q40 a40 b40 c040 ht40 hv40) [] rfl rfl (Nat.le_of_ble_eq_true rfl) (by decide) rfl rfl (by decide) ?_
          refine r_istore (L' := [(4, iv (if a40 % 2 = 1 then a40 else b40)), (3, .ref q40), (0, .ref x), (1, iv p), (2, iv w)]) X dX6_step_48 (by decide) rfl ?_
          refine r_aload_n 1 X dX6_step_50 rfl ?_
          refine r_callV_v X dX6_step_51 kX6_168 ht40 (c_X5_evenLeg (CX_l X) D z0 h q40 a40 b40 c040 ht40 hv40) [] rfl rfl (Nat.le_of_ble_eq_true rfl) (by decide) rfl rfl (by decide) ?_
          refine r_istore (L' := [(5, iv (if a40 % 2 = 1 then b40 else a40)), (4, iv (if a40 % 2 = 1 then a40 else b40)), (3, .ref q40), (0, .ref x), (1, iv p), (2, iv w)]) X dX6_step_54 (by decide) rfl ?_
          refine r_iload_n 5 X dX6_step_56 rfl ?_
          refine r_bipush X dX6_step_57 (by decide) ?_
          refine r_icmp_eq 104 X dX6_step_59 (by decide) ⟨by omega, by omega⟩ ⟨by omega, by omega⟩ (fun c59 => ?_) (fun c59 => ?_)
          · refine r_aload_n 2 X dX6_step_104 rfl ?_
            refine r_getf X dX6_step_105 fX6_89 ht40 rfl ?_
            refine r_iconst X dX6_step_108 ?_
            refine r_icmp_ne 122 X dX6_step_109 (by decide) ⟨by omega, by omega⟩ ⟨by omega, by omega⟩ (fun c109 => ?_) (fun c109 => ?_)
            · have hpt0 := PT_of hv40 hq40 hr40
              have hpl0 := pt_lt hpt0
              have hq10 : 0 < (if a40 % 2 = 1 then a40 else b40) ∧ 0 < (if a40 % 2 = 1 then b40 else a40) ∧ (if a40 % 2 = 1 then a40 else b40) < c040 ∧ (if a40 % 2 = 1 then b40 else a40) < c040 := ⟨hpt0.1, hpt0.2.1, hpl0.1, hpl0.2.1⟩
              refine r_aload_n 3 X dX6_step_122 rfl ?_
              refine r_iload_n 4 X dX6_step_123 rfl ?_
              refine r_iload 1 X dX6_step_124 rfl ?_
              refine r_iload 0 X dX6_step_126 rfl ?_
              refine r_aload_n 2 X dX6_step_128 rfl ?_
              refine r_getf X dX6_step_129 fX6_89 ht40 rfl ?_
              refine r_callS_v X dX6_step_132 kX6_183 (c_X3_backOdd (CX_l X) D z0 h (if a40 % 2 = 1 then a40 else b40) (if a40 % 2 = 1 then b40 else a40) c040) [iv p, .ref x] rfl rfl (Nat.le_of_ble_eq_true rfl) (by decide) rfl rfl (by decide) ?_
              refine r_mabs X dX6_step_135 kX6_187 ⟨by omega, by omega⟩ (Nat.le_of_ble_eq_true rfl) (by decide) ?_
              refine r_iload 1 X dX6_step_138 rfl ?_
              refine r_iload 0 X dX6_step_140 rfl ?_
              refine r_aload_n 2 X dX6_step_142 rfl ?_
              refine r_getf X dX6_step_143 fX6_89 ht40 rfl ?_
              refine r_callS_v X dX6_step_146 kX6_192 (c_X3_backEven (CX_l X) D z0 h (if a40 % 2 = 1 then a40 else b40) (if a40 % 2 = 1 then b40 else a40) c040) [iv (((if a40 % 2 = 1 then a40 else b40) + 2 * (if a40 % 2 = 1 then b40 else a40) - 2 * c040).natAbs : Int), iv p, .ref x] rfl rfl (Nat.le_of_ble_eq_true rfl) (by decide) rfl rfl (by decide) ?_
              refine r_mabs X dX6_step_149 kX6_187 ⟨by omega, by omega⟩ (Nat.le_of_ble_eq_true rfl) (by decide) ?_
              refine r_iload 1 X dX6_step_152 rfl ?_
              refine r_iload 0 X dX6_step_154 rfl ?_
              refine r_aload_n 2 X dX6_step_156 rfl ?_
              refine r_getf X dX6_step_157 fX6_89 ht40 rfl ?_
              refine r_callS_v X dX6_step_160 kX6_195 (c_X3_backLongest (CX_l X) D z0 h (if a40 % 2 = 1 then a40 else b40) (if a40 % 2 = 1 then b40 else a40) c040) [iv ((2 * (if a40 % 2 = 1 then a40 else b40) + (if a40 % 2 = 1 then b40 else a40) - 2 * c040).natAbs : Int), iv (((if a40 % 2 = 1 then a40 else b40) + 2 * (if a40 % 2 = 1 then b40 else a40) - 2 * c040).natAbs : Int), iv p, .ref x] rfl rfl (Nat.le_of_ble_eq_true rfl) (by decide) rfl rfl (by decide) ?_
              have hpt := PT_of hv40 hq40 hr40
              have hc5 : 5 < c040 := by
                apply Int.not_le.mp
                intro z5
                have := pt_5 hpt z5
                omega
              have hbt := bk_TV hpt hc5 (by omega)
              have hw1 : w = 112 := by omega
              rw [← hw1] at hbt
              refine WW_e (show [iv (3 * c040 - 2 * (if a40 % 2 = 1 then a40 else b40) - 2 * (if a40 % 2 = 1 then b40 else a40)), iv ((2 * (if a40 % 2 = 1 then a40 else b40) + (if a40 % 2 = 1 then b40 else a40) - 2 * c040).natAbs : Int), iv (((if a40 % 2 = 1 then a40 else b40) + 2 * (if a40 % 2 = 1 then b40 else a40) - 2 * c040).natAbs : Int), iv p, .ref x] = [iv (stZ w (odd2 a40 b40) (eve2 a40 b40) c040), iv (stY w (odd2 a40 b40) (eve2 a40 b40) c040), iv (stX w (odd2 a40 b40) (eve2 a40 b40) c040), iv p, .ref x] by unfold stX stY stZ; rw [if_pos hw1, if_pos hw1, if_pos hw1]; rfl) ?_
              show WW K D z0 6 h 4 24 163 [(5, iv (if a40 % 2 = 1 then b40 else a40)), (4, iv (if a40 % 2 = 1 then a40 else b40)), (3, .ref q40), (0, .ref x), (1, iv p), (2, iv w)] [iv (stZ w (odd2 a40 b40) (eve2 a40 b40) c040), iv (stY w (odd2 a40 b40) (eve2 a40 b40) c040), iv (stX w (odd2 a40 b40) (eve2 a40 b40) c040), iv p, .ref x]
              refine r_callV X dX6_step_163 kX6_92 hc.1 (c_X6_holdIfShortEnough (CX_l X) D z0 h x T f u v o n g σ hc p hp1 (stX w (odd2 a40 b40) (eve2 a40 b40) c040) (stY w (odd2 a40 b40) (eve2 a40 b40) c040) (stZ w (odd2 a40 b40) (eve2 a40 b40) c040) ⟨by omega, by omega⟩ ⟨by omega, by omega⟩ ⟨by omega, by omega⟩ (fun _ => hbt.2)) [] rfl rfl (Nat.le_of_ble_eq_true rfl) (by decide) (by decide) (fun E9 h9 hx9 => by obtain ⟨rfl, rfl, hn163⟩ := Xn1 hx9; exact WX_out X Y Z (by decide) (by decide) ((hn163 hbt.1).elim)) (fun v9 h9 hv9 => ?_)
              obtain ⟨g9, rfl, hc9, hk9, hp163⟩ := hv9
              have hp163 := if01 hp163
              show WW K D z0 6 h9 6 35 166 [(5, iv (if a40 % 2 = 1 then b40 else a40)), (4, iv (if a40 % 2 = 1 then a40 else b40)), (3, .ref q40), (0, .ref x), (1, iv p), (2, iv w)] [iv (mx3 (stX w (odd2 a40 b40) (eve2 a40 b40) c040) (stY w (odd2 a40 b40) (eve2 a40 b40) c040) (stZ w (odd2 a40 b40) (eve2 a40 b40) c040))]
              refine r_iret X Y dX6_step_166 (by decide) (by decide) ?_
              exact ⟨g9, by rw [on_s hs40], by rw [onT_s hs40]; exact hc9, hk9, by rw [cdSt_k hp1 (by omega) hs40, if_pos ⟨hq40, hr40, Or.inl ⟨hw1, by omega⟩⟩]⟩
            · refine r_throwS (E := "java/lang/IllegalStateException") (text := "3, 4, 5 comes of none") X Y Z dX6_step_112 dX6_step_115 dX6_step_116 dX6_step_118 dX6_step_121 (by decide) gX6_51 ini_IllegalStateException (by decide) hX6_55 (Nat.le_of_ble_eq_true rfl) (by decide) (by decide) (by decide) ?_
              exact Xn_mk 4 (by unfold cdSt; (try simp only [on_s hs40, hs40, isNone_f, isNone_t, true_or, or_true, false_or, or_false]); ((repeat' split) <;> first | rfl | contradiction | omega)) (by decide) rfl
          · refine r_aload_n 3 X dX6_step_62 rfl ?_
            refine r_iload_n 4 X dX6_step_63 rfl ?_
            refine r_iload_n 5 X dX6_step_64 rfl ?_
            refine r_iload 1 X dX6_step_65 rfl ?_
            refine r_iload 0 X dX6_step_67 rfl ?_
            refine r_aload_n 2 X dX6_step_69 rfl ?_
            refine r_getf X dX6_step_70 fX6_89 ht40 rfl ?_
            refine r_callS_v X dX6_step_73 kX6_171 (c_X3_oddLeg (CX_l X) D z0 h w (if a40 % 2 = 1 then a40 else b40) (if a40 % 2 = 1 then b40 else a40) c040 ⟨by omega, by omega⟩) [iv p, .ref x] rfl rfl (Nat.le_of_ble_eq_true rfl) (by decide) rfl rfl (by decide) ?_
            refine r_iload_n 5 X dX6_step_76 rfl ?_
            refine r_iload 1 X dX6_step_77 rfl ?_
            refine r_iload 0 X dX6_step_79 rfl ?_
            refine r_aload_n 2 X dX6_step_81 rfl ?_
            refine r_getf X dX6_step_82 fX6_89 ht40 rfl ?_
            refine r_callS_v X dX6_step_85 kX6_176 (c_X3_evenLeg (CX_l X) D z0 h w (if a40 % 2 = 1 then a40 else b40) (if a40 % 2 = 1 then b40 else a40) c040 ⟨by omega, by omega⟩) [iv (so w (if a40 % 2 = 1 then a40 else b40) + 2 * se w (if a40 % 2 = 1 then b40 else a40) + 2 * c040), iv p, .ref x] rfl rfl (Nat.le_of_ble_eq_true rfl) (by decide) rfl rfl (by decide) ?_
            refine r_iload_n 5 X dX6_step_88 rfl ?_
            refine r_iload 1 X dX6_step_89 rfl ?_
            refine r_iload 0 X dX6_step_91 rfl ?_
            refine r_aload_n 2 X dX6_step_93 rfl ?_
            refine r_getf X dX6_step_94 fX6_89 ht40 rfl ?_
            refine r_callS_v X dX6_step_97 kX6_178 (c_X3_longest (CX_l X) D z0 h w (if a40 % 2 = 1 then a40 else b40) (if a40 % 2 = 1 then b40 else a40) c040 ⟨by omega, by omega⟩) [iv (2 * so w (if a40 % 2 = 1 then a40 else b40) + se w (if a40 % 2 = 1 then b40 else a40) + 2 * c040), iv (so w (if a40 % 2 = 1 then a40 else b40) + 2 * se w (if a40 % 2 = 1 then b40 else a40) + 2 * c040), iv p, .ref x] rfl rfl (Nat.le_of_ble_eq_true rfl) (by decide) rfl rfl (by decide) ?_
            have hpt := PT_of hv40 hq40 hr40
            have hw1 : w ≠ 112 := c59
            refine WW_e (show [iv (2 * so w (if a40 % 2 = 1 then a40 else b40) + 2 * se w (if a40 % 2 = 1 then b40 else a40) + 3 * c040), iv (2 * so w (if a40 % 2 = 1 then a40 else b40) + se w (if a40 % 2 = 1 then b40 else a40) + 2 * c040), iv (so w (if a40 % 2 = 1 then a40 else b40) + 2 * se w (if a40 % 2 = 1 then b40 else a40) + 2 * c040), iv p, .ref x] = [iv (stZ w (odd2 a40 b40) (eve2 a40 b40) c040), iv (stY w (odd2 a40 b40) (eve2 a40 b40) c040), iv (stX w (odd2 a40 b40) (eve2 a40 b40) c040), iv p, .ref x] by unfold stX stY stZ; rw [if_neg hw1, if_neg hw1, if_neg hw1]; rfl) ?_
            have hsp := st_pos w hpt
            have hss := st_sd (w := w) hpt hw1
            have hrx : I32 (stX w (odd2 a40 b40) (eve2 a40 b40) c040) ∧ I32 (stY w (odd2 a40 b40) (eve2 a40 b40) c040) ∧ I32 (stZ w (odd2 a40 b40) (eve2 a40 b40) c040) := by
              have hl := pt_lt hpt
              have q1 := hpt.1
              have q2 := hpt.2.1
              unfold stX stY stZ
              rw [if_neg hw1, if_neg hw1, if_neg hw1]
              unfold so se at hsp ⊢
              revert hsp
              (repeat' split) <;> omega
            show WW K D z0 6 h 4 24 100 [(5, iv (if a40 % 2 = 1 then b40 else a40)), (4, iv (if a40 % 2 = 1 then a40 else b40)), (3, .ref q40), (0, .ref x), (1, iv p), (2, iv w)] [iv (stZ w (odd2 a40 b40) (eve2 a40 b40) c040), iv (stY w (odd2 a40 b40) (eve2 a40 b40) c040), iv (stX w (odd2 a40 b40) (eve2 a40 b40) c040), iv p, .ref x]
            refine r_callV X dX6_step_100 kX6_92 hc.1 (c_X6_holdIfShortEnough (CX_l X) D z0 h x T f u v o n g σ hc p hp1 (stX w (odd2 a40 b40) (eve2 a40 b40) c040) (stY w (odd2 a40 b40) (eve2 a40 b40) c040) (stZ w (odd2 a40 b40) (eve2 a40 b40) c040) hrx.1 hrx.2.1 hrx.2.2 (st_TV3 hpt hw1)) [] rfl rfl (Nat.le_of_ble_eq_true rfl) (by decide) (by decide) (fun E9 h9 hx9 => by obtain ⟨rfl, rfl, hn100⟩ := Xn1 hx9; exact WX_out X Y Z (by decide) (by decide) (Xn_mk 4 (by rw [cdSt_k hp1 (by omega) hs40, if_neg (fun z => hn100 (hss.mpr (by have := z.2.2; omega)))]) (by decide) rfl)) (fun v9 h9 hv9 => ?_)
            obtain ⟨g9, rfl, hc9, hk9, hp100⟩ := hv9
            have hp100 := if01 hp100
            show WW K D z0 6 h9 6 35 103 [(5, iv (if a40 % 2 = 1 then b40 else a40)), (4, iv (if a40 % 2 = 1 then a40 else b40)), (3, .ref q40), (0, .ref x), (1, iv p), (2, iv w)] [iv (mx3 (stX w (odd2 a40 b40) (eve2 a40 b40) c040) (stY w (odd2 a40 b40) (eve2 a40 b40) c040) (stZ w (odd2 a40 b40) (eve2 a40 b40) c040))]
            refine r_iret X Y dX6_step_103 (by decide) (by decide) ?_
            exact ⟨g9, by rw [on_s hs40], by rw [onT_s hs40]; exact hc9, hk9, by rw [cdSt_k hp1 (by omega) hs40, if_pos ⟨hq40, hr40, Or.inr ⟨hw1, hss.mp hp100⟩⟩]⟩
        · refine r_throwS (E := "java/lang/IllegalArgumentException") (text := "there is no such how") X Y Z dX6_step_28 dX6_step_31 dX6_step_32 dX6_step_34 dX6_step_37 (by decide) gX6_44 ini_IllegalArgumentException (by decide) hX6_48 (Nat.le_of_ble_eq_true rfl) (by decide) (by decide) (by decide) ?_
          exact Xn_mk 2 (by unfold cdSt; (try simp only [isNone_f, isNone_t, true_or, or_true, false_or, or_false]); ((repeat' split) <;> first | rfl | contradiction | omega)) (by decide) rfl
