/-! the model: what changes the places, what it tells -/
abbrev rX7_put : Room := { frames := 2, cells := 0, slots := 0, locals := 48 }
theorem c_X7_put {l : Launch} (hl : l.stackTraces = false) (D : va_G) (z0 : Nat) (h : Hp) {y : Nat} {v : Nat → Nat} {σ : Tg} {e1 e2 e3 od : Nat → Int} {lc oc tc hi lo rf sq : Int} (hm : Mz D h y v (fA σ) (fB σ) (fC σ) e1 e2 e3 od lc oc tc hi lo rf sq) (ht : TVs σ) (p : Int) (hp0 : I32 p) (a b c : Int) (ha : I32 a) (hb0 : I32 b) (hcc : I32 c) : CC l yX7_put cX7_put 6 (some .int) rX7_put D z0 h [.ref y, iv p, iv a, iv b, iv c] (MO D y v σ (up σ p.toNat (st3 a b c)) e1 e2 e3 od lc oc (cdPu p a b c) (iv (cntT (up σ p.toNat (st3 a b c)) 16)) (iv 0) h) NX := by
  refine CC_of RX7 hl (by decide) rfl (Nat.le_of_ble_eq_true rfl) (fun K X Y Z hmn hKl => ?_)
  subst hKl
  show WW K D z0 6 h 0 0 0 [(0, .ref y), (1, iv p), (2, iv a), (3, iv b), (4, iv c)] []
  refine r_iload_n 2 X dX7_put_0 rfl ?_
  refine r_i2l X dX7_put_1 ⟨by omega, by omega⟩ ?_
  refine r_lconst 1 X dX7_put_2 (by decide) ?_
  refine r_ldc2 65535 X dX7_put_3 nX7_55 (by decide) ?_
  refine r_callS_v X dX7_put_6 kX7_37 (c_X7_isBetween (CX_l X) D z0 _ a 1 65535 ⟨by omega, by omega⟩ ⟨by omega, by omega⟩ ⟨by omega, by omega⟩) [] rfl rfl (Nat.le_of_ble_eq_true rfl) (by decide) rfl rfl (by decide) ?_
  refine r_ifb_eq 41 X dX7_put_9 (by decide) (fun c9 => ?_) (fun c9 => ?_)
  · refine r_iconst X dX7_put_41 ?_
    refine r_istore (L' := [(5, iv 0), (0, .ref y), (1, iv p), (2, iv a), (3, iv b), (4, iv c)]) X dX7_put_42 (by decide) rfl ?_
    refine r_aload_n 1 X dX7_put_44 rfl ?_
    refine r_iload_n 2 X dX7_put_45 rfl ?_
    refine r_callS_v X dX7_put_46 kX7_41 (c_X7_isPlace (CX_l X) D z0 _ p ⟨by omega, by omega⟩) [.ref y] rfl rfl (Nat.le_of_ble_eq_true rfl) (by decide) rfl rfl (by decide) ?_
    refine r_ifb_ne 56 X dX7_put_49 (by decide) (fun c49 => ?_) (fun c49 => ?_)
    · refine r_iload 0 X dX7_put_56 rfl ?_
      refine r_if_ne 65 X dX7_put_58 (by decide) ⟨by omega, by omega⟩ (fun c58 => ?_) (fun c58 => ?_)
      · exfalso
        omega
      · refine r_iconst X dX7_put_61 ?_
        refine r_goto 94 X dX7_put_62 (by decide) ?_
        refine r_callV X dX7_put_94 kX7_57 hm.1 (c_X7_isWrong (CX_l X) D z0 _ hm 2 ⟨by omega, by omega⟩) [] rfl rfl (Nat.le_of_ble_eq_true rfl) (by decide) (by decide) (fun _ _ z => z.elim) (fun v9 hq94 hv9 => ?_)
        obtain ⟨rfl, hm94, kp94⟩ := hv9
        show WW K D z0 6 hq94 0 0 97 [(5, iv 0), (0, .ref y), (1, iv p), (2, iv a), (3, iv b), (4, iv c)] [iv 1]
        refine r_if_eq 102 X dX7_put_97 (by decide) ⟨by omega, by omega⟩ (fun c97 => ?_) (fun c97 => ?_)
        · exfalso
          omega
        · refine r_iconst X dX7_put_100 ?_
          refine r_iret X Y dX7_put_101 (by decide) (by decide) ?_
          exact MO_w (by unfold cdPu; (try simp only [isNone_f, isNone_t, true_or, or_true, false_or, or_false]); (repeat' split) <;> first | rfl | omega | contradiction | (exfalso; simp_all; done) | (exfalso; simp_all; omega)) (by first | decide | omega) hm94 kp94
    · refine r_iconst X dX7_put_52 ?_
      refine r_goto 94 X dX7_put_53 (by decide) ?_
      refine r_callV X dX7_put_94 kX7_57 hm.1 (c_X7_isWrong (CX_l X) D z0 _ hm 1 ⟨by omega, by omega⟩) [] rfl rfl (Nat.le_of_ble_eq_true rfl) (by decide) (by decide) (fun _ _ z => z.elim) (fun v9 hq94 hv9 => ?_)
      obtain ⟨rfl, hm94, kp94⟩ := hv9
      show WW K D z0 6 hq94 0 0 97 [(5, iv 0), (0, .ref y), (1, iv p), (2, iv a), (3, iv b), (4, iv c)] [iv 1]
      refine r_if_eq 102 X dX7_put_97 (by decide) ⟨by omega, by omega⟩ (fun c97 => ?_) (fun c97 => ?_)
      · exfalso
        omega
      · refine r_iconst X dX7_put_100 ?_
        refine r_iret X Y dX7_put_101 (by decide) (by decide) ?_
        exact MO_w (by unfold cdPu; (try simp only [isNone_f, isNone_t, true_or, or_true, false_or, or_false]); (repeat' split) <;> first | rfl | omega | contradiction | (exfalso; simp_all; done) | (exfalso; simp_all; omega)) (by first | decide | omega) hm94 kp94
  · refine r_iload_n 3 X dX7_put_12 rfl ?_
    refine r_i2l X dX7_put_13 ⟨by omega, by omega⟩ ?_
    refine r_lconst 1 X dX7_put_14 (by decide) ?_
    refine r_ldc2 65535 X dX7_put_15 nX7_55 (by decide) ?_
    refine r_callS_v X dX7_put_18 kX7_37 (c_X7_isBetween (CX_l X) D z0 _ b 1 65535 ⟨by omega, by omega⟩ ⟨by omega, by omega⟩ ⟨by omega, by omega⟩) [] rfl rfl (Nat.le_of_ble_eq_true rfl) (by decide) rfl rfl (by decide) ?_
    refine r_ifb_eq 41 X dX7_put_21 (by decide) (fun c21 => ?_) (fun c21 => ?_)
    · refine r_iconst X dX7_put_41 ?_
      refine r_istore (L' := [(5, iv 0), (0, .ref y), (1, iv p), (2, iv a), (3, iv b), (4, iv c)]) X dX7_put_42 (by decide) rfl ?_
      refine r_aload_n 1 X dX7_put_44 rfl ?_
      refine r_iload_n 2 X dX7_put_45 rfl ?_
      refine r_callS_v X dX7_put_46 kX7_41 (c_X7_isPlace (CX_l X) D z0 _ p ⟨by omega, by omega⟩) [.ref y] rfl rfl (Nat.le_of_ble_eq_true rfl) (by decide) rfl rfl (by decide) ?_
      refine r_ifb_ne 56 X dX7_put_49 (by decide) (fun c49 => ?_) (fun c49 => ?_)
      · refine r_iload 0 X dX7_put_56 rfl ?_
        refine r_if_ne 65 X dX7_put_58 (by decide) ⟨by omega, by omega⟩ (fun c58 => ?_) (fun c58 => ?_)
        · exfalso
          omega
        · refine r_iconst X dX7_put_61 ?_
          refine r_goto 94 X dX7_put_62 (by decide) ?_
          refine r_callV X dX7_put_94 kX7_57 hm.1 (c_X7_isWrong (CX_l X) D z0 _ hm 2 ⟨by omega, by omega⟩) [] rfl rfl (Nat.le_of_ble_eq_true rfl) (by decide) (by decide) (fun _ _ z => z.elim) (fun v9 hq94 hv9 => ?_)
          obtain ⟨rfl, hm94, kp94⟩ := hv9
          show WW K D z0 6 hq94 0 0 97 [(5, iv 0), (0, .ref y), (1, iv p), (2, iv a), (3, iv b), (4, iv c)] [iv 1]
          refine r_if_eq 102 X dX7_put_97 (by decide) ⟨by omega, by omega⟩ (fun c97 => ?_) (fun c97 => ?_)
          · exfalso
            omega
          · refine r_iconst X dX7_put_100 ?_
            refine r_iret X Y dX7_put_101 (by decide) (by decide) ?_
            exact MO_w (by unfold cdPu; (try simp only [isNone_f, isNone_t, true_or, or_true, false_or, or_false]); (repeat' split) <;> first | rfl | omega | contradiction | (exfalso; simp_all; done) | (exfalso; simp_all; omega)) (by first | decide | omega) hm94 kp94
      · refine r_iconst X dX7_put_52 ?_
        refine r_goto 94 X dX7_put_53 (by decide) ?_
        refine r_callV X dX7_put_94 kX7_57 hm.1 (c_X7_isWrong (CX_l X) D z0 _ hm 1 ⟨by omega, by omega⟩) [] rfl rfl (Nat.le_of_ble_eq_true rfl) (by decide) (by decide) (fun _ _ z => z.elim) (fun v9 hq94 hv9 => ?_)
        obtain ⟨rfl, hm94, kp94⟩ := hv9
        show WW K D z0 6 hq94 0 0 97 [(5, iv 0), (0, .ref y), (1, iv p), (2, iv a), (3, iv b), (4, iv c)] [iv 1]
        refine r_if_eq 102 X dX7_put_97 (by decide) ⟨by omega, by omega⟩ (fun c97 => ?_) (fun c97 => ?_)
        · exfalso
          omega
        · refine r_iconst X dX7_put_100 ?_
          refine r_iret X Y dX7_put_101 (by decide) (by decide) ?_
          exact MO_w (by unfold cdPu; (try simp only [isNone_f, isNone_t, true_or, or_true, false_or, or_false]); (repeat' split) <;> first | rfl | omega | contradiction | (exfalso; simp_all; done) | (exfalso; simp_all; omega)) (by first | decide | omega) hm94 kp94
    · refine r_iload 4 X dX7_put_24 rfl ?_
      refine r_i2l X dX7_put_26 ⟨by omega, by omega⟩ ?_
      refine r_lconst 1 X dX7_put_27 (by decide) ?_
      refine r_ldc2 65535 X dX7_put_28 nX7_55 (by decide) ?_
      refine r_callS_v X dX7_put_31 kX7_37 (c_X7_isBetween (CX_l X) D z0 _ c 1 65535 ⟨by omega, by omega⟩ ⟨by omega, by omega⟩ ⟨by omega, by omega⟩) [] rfl rfl (Nat.le_of_ble_eq_true rfl) (by decide) rfl rfl (by decide) ?_
      refine r_ifb_eq 41 X dX7_put_34 (by decide) (fun c34 => ?_) (fun c34 => ?_)
      · refine r_iconst X dX7_put_41 ?_
        refine r_istore (L' := [(5, iv 0), (0, .ref y), (1, iv p), (2, iv a), (3, iv b), (4, iv c)]) X dX7_put_42 (by decide) rfl ?_
        refine r_aload_n 1 X dX7_put_44 rfl ?_
        refine r_iload_n 2 X dX7_put_45 rfl ?_
        refine r_callS_v X dX7_put_46 kX7_41 (c_X7_isPlace (CX_l X) D z0 _ p ⟨by omega, by omega⟩) [.ref y] rfl rfl (Nat.le_of_ble_eq_true rfl) (by decide) rfl rfl (by decide) ?_
        refine r_ifb_ne 56 X dX7_put_49 (by decide) (fun c49 => ?_) (fun c49 => ?_)
        · refine r_iload 0 X dX7_put_56 rfl ?_
          refine r_if_ne 65 X dX7_put_58 (by decide) ⟨by omega, by omega⟩ (fun c58 => ?_) (fun c58 => ?_)
          · exfalso
            omega
          · refine r_iconst X dX7_put_61 ?_
            refine r_goto 94 X dX7_put_62 (by decide) ?_
            refine r_callV X dX7_put_94 kX7_57 hm.1 (c_X7_isWrong (CX_l X) D z0 _ hm 2 ⟨by omega, by omega⟩) [] rfl rfl (Nat.le_of_ble_eq_true rfl) (by decide) (by decide) (fun _ _ z => z.elim) (fun v9 hq94 hv9 => ?_)
            obtain ⟨rfl, hm94, kp94⟩ := hv9
            show WW K D z0 6 hq94 0 0 97 [(5, iv 0), (0, .ref y), (1, iv p), (2, iv a), (3, iv b), (4, iv c)] [iv 1]
            refine r_if_eq 102 X dX7_put_97 (by decide) ⟨by omega, by omega⟩ (fun c97 => ?_) (fun c97 => ?_)
            · exfalso
              omega
            · refine r_iconst X dX7_put_100 ?_
              refine r_iret X Y dX7_put_101 (by decide) (by decide) ?_
              exact MO_w (by unfold cdPu; (try simp only [isNone_f, isNone_t, true_or, or_true, false_or, or_false]); (repeat' split) <;> first | rfl | omega | contradiction | (exfalso; simp_all; done) | (exfalso; simp_all; omega)) (by first | decide | omega) hm94 kp94
        · refine r_iconst X dX7_put_52 ?_
          refine r_goto 94 X dX7_put_53 (by decide) ?_
          refine r_callV X dX7_put_94 kX7_57 hm.1 (c_X7_isWrong (CX_l X) D z0 _ hm 1 ⟨by omega, by omega⟩) [] rfl rfl (Nat.le_of_ble_eq_true rfl) (by decide) (by decide) (fun _ _ z => z.elim) (fun v9 hq94 hv9 => ?_)
          obtain ⟨rfl, hm94, kp94⟩ := hv9
          show WW K D z0 6 hq94 0 0 97 [(5, iv 0), (0, .ref y), (1, iv p), (2, iv a), (3, iv b), (4, iv c)] [iv 1]
          refine r_if_eq 102 X dX7_put_97 (by decide) ⟨by omega, by omega⟩ (fun c97 => ?_) (fun c97 => ?_)
          · exfalso
            omega
          · refine r_iconst X dX7_put_100 ?_
            refine r_iret X Y dX7_put_101 (by decide) (by decide) ?_
            exact MO_w (by unfold cdPu; (try simp only [isNone_f, isNone_t, true_or, or_true, false_or, or_false]); (repeat' split) <;> first | rfl | omega | contradiction | (exfalso; simp_all; done) | (exfalso; simp_all; omega)) (by first | decide | omega) hm94 kp94
      · refine r_iconst X dX7_put_37 ?_
        refine r_goto 42 X dX7_put_38 (by decide) ?_
        refine r_istore (L' := [(5, iv 1), (0, .ref y), (1, iv p), (2, iv a), (3, iv b), (4, iv c)]) X dX7_put_42 (by decide) rfl ?_
        refine r_aload_n 1 X dX7_put_44 rfl ?_
        refine r_iload_n 2 X dX7_put_45 rfl ?_
        refine r_callS_v X dX7_put_46 kX7_41 (c_X7_isPlace (CX_l X) D z0 _ p ⟨by omega, by omega⟩) [.ref y] rfl rfl (Nat.le_of_ble_eq_true rfl) (by decide) rfl rfl (by decide) ?_
        refine r_ifb_ne 56 X dX7_put_49 (by decide) (fun c49 => ?_) (fun c49 => ?_)
        · refine r_iload 0 X dX7_put_56 rfl ?_
          refine r_if_ne 65 X dX7_put_58 (by decide) ⟨by omega, by omega⟩ (fun c58 => ?_) (fun c58 => ?_)
          · refine r_iload_n 3 X dX7_put_65 rfl ?_
            refine r_iload_n 4 X dX7_put_66 rfl ?_
            refine r_iload 5 X dX7_put_67 rfl ?_
            refine r_iadd X dX7_put_69 ?_
            refine r_icmp_ge 89 X dX7_put_70 (by decide) ⟨by omega, by omega⟩ ⟨by omega, by omega⟩ (fun c70 => ?_) (fun c70 => ?_)
            · refine r_iconst X dX7_put_89 ?_
              refine r_goto 94 X dX7_put_90 (by decide) ?_
              refine r_callV X dX7_put_94 kX7_57 hm.1 (c_X7_isWrong (CX_l X) D z0 _ hm 3 ⟨by omega, by omega⟩) [] rfl rfl (Nat.le_of_ble_eq_true rfl) (by decide) (by decide) (fun _ _ z => z.elim) (fun v9 hq94 hv9 => ?_)
              obtain ⟨rfl, hm94, kp94⟩ := hv9
              show WW K D z0 6 hq94 0 0 97 [(5, iv 1), (0, .ref y), (1, iv p), (2, iv a), (3, iv b), (4, iv c)] [iv 1]
              refine r_if_eq 102 X dX7_put_97 (by decide) ⟨by omega, by omega⟩ (fun c97 => ?_) (fun c97 => ?_)
              · exfalso
                omega
              · refine r_iconst X dX7_put_100 ?_
                refine r_iret X Y dX7_put_101 (by decide) (by decide) ?_
                exact MO_w (by unfold cdPu; (try simp only [isNone_f, isNone_t, true_or, or_true, false_or, or_false]); (repeat' split) <;> first | rfl | omega | contradiction | (exfalso; simp_all; done) | (exfalso; simp_all; omega)) (by first | decide | omega) hm94 kp94
            · refine r_iload_n 4 X dX7_put_73 rfl ?_
              refine r_iload_n 3 X dX7_put_74 rfl ?_
              refine r_iload 5 X dX7_put_75 rfl ?_
              refine r_iadd X dX7_put_77 ?_
              refine r_icmp_ge 89 X dX7_put_78 (by decide) ⟨by omega, by omega⟩ ⟨by omega, by omega⟩ (fun c78 => ?_) (fun c78 => ?_)
              · refine r_iconst X dX7_put_89 ?_
                refine r_goto 94 X dX7_put_90 (by decide) ?_
                refine r_callV X dX7_put_94 kX7_57 hm.1 (c_X7_isWrong (CX_l X) D z0 _ hm 3 ⟨by omega, by omega⟩) [] rfl rfl (Nat.le_of_ble_eq_true rfl) (by decide) (by decide) (fun _ _ z => z.elim) (fun v9 hq94 hv9 => ?_)
                obtain ⟨rfl, hm94, kp94⟩ := hv9
                show WW K D z0 6 hq94 0 0 97 [(5, iv 1), (0, .ref y), (1, iv p), (2, iv a), (3, iv b), (4, iv c)] [iv 1]
                refine r_if_eq 102 X dX7_put_97 (by decide) ⟨by omega, by omega⟩ (fun c97 => ?_) (fun c97 => ?_)
                · exfalso
                  omega
                · refine r_iconst X dX7_put_100 ?_
                  refine r_iret X Y dX7_put_101 (by decide) (by decide) ?_
                  exact MO_w (by unfold cdPu; (try simp only [isNone_f, isNone_t, true_or, or_true, false_or, or_false]); (repeat' split) <;> first | rfl | omega | contradiction | (exfalso; simp_all; done) | (exfalso; simp_all; omega)) (by first | decide | omega) hm94 kp94
              · refine r_iload 5 X dX7_put_81 rfl ?_
                refine r_iload_n 3 X dX7_put_83 rfl ?_
                refine r_iload_n 4 X dX7_put_84 rfl ?_
                refine r_iadd X dX7_put_85 ?_
                refine r_icmp_lt 93 X dX7_put_86 (by decide) ⟨by omega, by omega⟩ ⟨by omega, by omega⟩ (fun c86 => ?_) (fun c86 => ?_)
                · refine r_iconst X dX7_put_93 ?_
                  refine r_callV X dX7_put_94 kX7_57 hm.1 (c_X7_isWrong (CX_l X) D z0 _ hm 0 ⟨by omega, by omega⟩) [] rfl rfl (Nat.le_of_ble_eq_true rfl) (by decide) (by decide) (fun _ _ z => z.elim) (fun v9 hq94 hv9 => ?_)
                  obtain ⟨rfl, hm94, kp94⟩ := hv9
                  show WW K D z0 6 hq94 0 0 97 [(5, iv 1), (0, .ref y), (1, iv p), (2, iv a), (3, iv b), (4, iv c)] [iv 0]
                  refine r_if_eq 102 X dX7_put_97 (by decide) ⟨by omega, by omega⟩ (fun c97 => ?_) (fun c97 => ?_)
                  · have hv8 := TV_of (a := a) (b := b) (c := c) (by omega) (by omega) (by omega) (by omega) (by omega) (by omega)
                    refine r_aload_n 1 X dX7_put_102 rfl ?_
                    refine r_iload_n 2 X dX7_put_103 rfl ?_
                    refine r_iload_n 3 X dX7_put_104 rfl ?_
                    refine r_iload_n 4 X dX7_put_105 rfl ?_
                    refine r_iload 5 X dX7_put_106 rfl ?_
                    refine r_callV X dX7_put_108 kX7_60 hm94.1 (c_X7_hold (CX_l X) D z0 _ hm94 ht p a b c (by omega) ⟨by omega, by omega⟩ ⟨by omega, by omega⟩ ⟨by omega, by omega⟩) [] rfl rfl (Nat.le_of_ble_eq_true rfl) (by decide) (by decide) (fun _ _ z => z.elim) (fun v9 hq108 hv9 => ?_)
                    obtain ⟨rfl, hm108, kp108⟩ := hv9
                    have ht108 : TVs (up σ p.toNat (st3 a b c)) := TVs_up (x := mn3 a b c) (y := md3 a b c) (z := mx3 a b c) ht p.toNat hv8
                    show WW K D z0 6 hq108 0 0 111 [(5, iv 1), (0, .ref y), (1, iv p), (2, iv a), (3, iv b), (4, iv c)] []
                    refine r_aload_n 1 X dX7_put_111 rfl ?_
                    refine r_callV_v X dX7_put_112 kX7_64 hm108.1 (c_X7_many (CX_l X) D z0 _ hm108 ht108  ) [] rfl rfl (Nat.le_of_ble_eq_true rfl) (by decide) rfl rfl (by decide) ?_
                    refine r_iret X Y dX7_put_115 (by decide) (by decide) ?_
                    exact MO_k (by unfold cdPu; (try simp only [isNone_f, isNone_t, true_or, or_true, false_or, or_false]); (repeat' split) <;> first | rfl | omega | contradiction | (exfalso; simp_all; done) | (exfalso; simp_all; omega)) rfl rfl hm108 (Keep_tr kp94 kp108)
                  · exfalso
                    omega
                · refine r_iconst X dX7_put_89 ?_
                  refine r_goto 94 X dX7_put_90 (by decide) ?_
                  refine r_callV X dX7_put_94 kX7_57 hm.1 (c_X7_isWrong (CX_l X) D z0 _ hm 3 ⟨by omega, by omega⟩) [] rfl rfl (Nat.le_of_ble_eq_true rfl) (by decide) (by decide) (fun _ _ z => z.elim) (fun v9 hq94 hv9 => ?_)
                  obtain ⟨rfl, hm94, kp94⟩ := hv9
                  show WW K D z0 6 hq94 0 0 97 [(5, iv 1), (0, .ref y), (1, iv p), (2, iv a), (3, iv b), (4, iv c)] [iv 1]
                  refine r_if_eq 102 X dX7_put_97 (by decide) ⟨by omega, by omega⟩ (fun c97 => ?_) (fun c97 => ?_)
                  · exfalso
                    omega
                  · refine r_iconst X dX7_put_100 ?_
                    refine r_iret X Y dX7_put_101 (by decide) (by decide) ?_
                    exact MO_w (by unfold cdPu; (try simp only [isNone_f, isNone_t, true_or, or_true, false_or, or_false]); (repeat' split) <;> first | rfl | omega | contradiction | (exfalso; simp_all; done) | (exfalso; simp_all; omega)) (by first | decide | omega) hm94 kp94
          · exfalso
            omega
        · refine r_iconst X dX7_put_52 ?_
          refine r_goto 94 X dX7_put_53 (by decide) ?_
          refine r_callV X dX7_put_94 kX7_57 hm.1 (c_X7_isWrong (CX_l X) D z0 _ hm 1 ⟨by omega, by omega⟩) [] rfl rfl (Nat.le_of_ble_eq_true rfl) (by decide) (by decide) (fun _ _ z => z.elim) (fun v9 hq94 hv9 => ?_)
          obtain ⟨rfl, hm94, kp94⟩ := hv9
          show WW K D z0 6 hq94 0 0 97 [(5, iv 1), (0, .ref y), (1, iv p), (2, iv a), (3, iv b), (4, iv c)] [iv 1]
          refine r_if_eq 102 X dX7_put_97 (by decide) ⟨by omega, by omega⟩ (fun c97 => ?_) (fun c97 => ?_)
          · exfalso
            omega
          · refine r_iconst X dX7_put_100 ?_
            refine r_iret X Y dX7_put_101 (by decide) (by decide) ?_
            exact MO_w (by unfold cdPu; (try simp only [isNone_f, isNone_t, true_or, or_true, false_or, or_false]); (repeat' split) <;> first | rfl | omega | contradiction | (exfalso; simp_all; done) | (exfalso; simp_all; omega)) (by first | decide | omega) hm94 kp94
abbrev rX7_take : Room := { frames := 3, cells := 0, slots := 0, locals := 67 }
theorem c_X7_take {l : Launch} (hl : l.stackTraces = false) (D : va_G) (z0 : Nat) (h : Hp) {y : Nat} {v : Nat → Nat} {σ : Tg} {e1 e2 e3 od : Nat → Int} {lc oc tc hi lo rf sq : Int} (hm : Mz D h y v (fA σ) (fB σ) (fC σ) e1 e2 e3 od lc oc tc hi lo rf sq) (ht : TVs σ) (p : Int) (hp0 : I32 p) : CC l yX7_take cX7_take 2 (some .int) rX7_take D z0 h [.ref y, iv p] (MO D y v σ (up σ p.toNat none) e1 e2 e3 od lc oc (ms σ p 2) (iv (cntT (up σ p.toNat none) 16)) (iv 0) h) NX := by
  refine CC_of RX7 hl (by decide) rfl (Nat.le_of_ble_eq_true rfl) (fun K X Y Z hmn hKl => ?_)
  subst hKl
  show WW K D z0 2 h 0 0 0 [(0, .ref y), (1, iv p)] []
  refine r_aload_n 0 X dX7_take_0 rfl ?_
  refine r_aload_n 0 X dX7_take_1 rfl ?_
  refine r_iload_n 1 X dX7_take_2 rfl ?_
  refine r_iconst X dX7_take_3 ?_
  refine r_callV_v X dX7_take_4 kX7_68 hm.1 (c_X7_missing (CX_l X) D z0 _ hm ht p 2 ⟨by omega, by omega⟩) [.ref y] rfl rfl (Nat.le_of_ble_eq_true rfl) (by decide) rfl rfl (by decide) ?_
  refine r_callV X dX7_take_7 kX7_57 hm.1 (c_X7_isWrong (CX_l X) D z0 _ hm (ms σ p 2) (ms_b ⟨by decide, by decide⟩)) [] rfl rfl (Nat.le_of_ble_eq_true rfl) (by decide) (by decide) (fun _ _ z => z.elim) (fun v9 hq7 hv9 => ?_)
  obtain ⟨rfl, hm7, kp7⟩ := hv9
  show WW K D z0 2 hq7 0 0 10 [(0, .ref y), (1, iv p)] [iv (if (ms σ p 2) ≠ 0 then 1 else 0)]
  refine r_ifb_eq 15 X dX7_take_10 (by decide) (fun c10 => ?_) (fun c10 => ?_)
  · have hcd : ms σ p 2 = 0 := by omega
    obtain ⟨hp_p, a, b, c, hs⟩ := ms_0 (by decide) hcd
    have hv := ht p.toNat (by omega) a b c hs
    have hb := TV_b hv
    refine r_aload_n 0 X dX7_take_15 rfl ?_
    refine r_getf X dX7_take_16 fX7_7 hm7.1 rfl ?_
    refine r_iload_n 1 X dX7_take_19 rfl ?_
    refine r_iconst X dX7_take_20 ?_
    refine r_mst0 X dX7_take_21 hm7 ⟨by omega, by omega⟩ (fun hp21 hm21 kp21 => ?_)
    refine r_aload_n 0 X dX7_take_22 rfl ?_
    refine r_getf X dX7_take_23 fX7_13 hm21.1 rfl ?_
    refine r_iload_n 1 X dX7_take_26 rfl ?_
    refine r_iconst X dX7_take_27 ?_
    refine r_mst1 X dX7_take_28 hm21 ⟨by omega, by omega⟩ (fun hp28 hm28 kp28 => ?_)
    refine r_aload_n 0 X dX7_take_29 rfl ?_
    refine r_getf X dX7_take_30 fX7_16 hm28.1 rfl ?_
    refine r_iload_n 1 X dX7_take_33 rfl ?_
    refine r_iconst X dX7_take_34 ?_
    refine r_mst2 X dX7_take_35 hm28 ⟨by omega, by omega⟩ (fun hp35 hm35 kp35 => ?_)
    have hu9 := f_un σ p.toNat
    rw [hu9.1, hu9.2.1, hu9.2.2] at hm35
    have ht9 := TVs_un ht p.toNat
    refine r_aload_n 0 X dX7_take_36 rfl ?_
    refine r_callV_v X dX7_take_37 kX7_64 hm35.1 (c_X7_many (CX_l X) D z0 _ hm35 ht9  ) [] rfl rfl (Nat.le_of_ble_eq_true rfl) (by decide) rfl rfl (by decide) ?_
    refine r_iret X Y dX7_take_40 (by decide) (by decide) ?_
    exact MO_k rfl (by omega) rfl hm35 (Keep_tr (Keep_tr (Keep_tr kp7 kp21) kp28) kp35)
  · refine r_iconst X dX7_take_13 ?_
    refine r_iret X Y dX7_take_14 (by decide) (by decide) ?_
    exact MO_w rfl (by first | decide | omega) hm7 kp7
abbrev rX7_isHeld : Room := { frames := 2, cells := 0, slots := 0, locals := 45 }
theorem c_X7_isHeld {l : Launch} (hl : l.stackTraces = false) (D : va_G) (z0 : Nat) (h : Hp) {y : Nat} {v : Nat → Nat} {σ : Tg} {e1 e2 e3 od : Nat → Int} {lc oc tc hi lo rf sq : Int} (hm : Mz D h y v (fA σ) (fB σ) (fC σ) e1 e2 e3 od lc oc tc hi lo rf sq) (ht : TVs σ) (p : Int) (hp0 : I32 p) : CC l yX7_isHeld cX7_isHeld 2 (some .boolean) rX7_isHeld D z0 h [.ref y, iv p] (MO D y v σ σ e1 e2 e3 od lc oc (cdPl p) (iv (if (σ p.toNat).isSome then 1 else 0)) (iv 0) h) NX := by
  refine CC_of RX7 hl (by decide) rfl (Nat.le_of_ble_eq_true rfl) (fun K X Y Z hmn hKl => ?_)
  subst hKl
  show WW K D z0 2 h 0 0 0 [(0, .ref y), (1, iv p)] []
  refine r_aload_n 0 X dX7_isHeld_0 rfl ?_
  refine r_iload_n 1 X dX7_isHeld_1 rfl ?_
  refine r_callS_v X dX7_isHeld_2 kX7_41 (c_X7_isPlace (CX_l X) D z0 _ p ⟨by omega, by omega⟩) [.ref y] rfl rfl (Nat.le_of_ble_eq_true rfl) (by decide) rfl rfl (by decide) ?_
  refine r_ifb_eq 12 X dX7_isHeld_5 (by decide) (fun c5 => ?_) (fun c5 => ?_)
  · refine r_iconst X dX7_isHeld_12 ?_
    refine r_callV X dX7_isHeld_13 kX7_57 hm.1 (c_X7_isWrong (CX_l X) D z0 _ hm 1 ⟨by omega, by omega⟩) [] rfl rfl (Nat.le_of_ble_eq_true rfl) (by decide) (by decide) (fun _ _ z => z.elim) (fun v9 hq13 hv9 => ?_)
    obtain ⟨rfl, hm13, kp13⟩ := hv9
    show WW K D z0 2 hq13 0 0 16 [(0, .ref y), (1, iv p)] [iv 1]
    refine r_if_ne 31 X dX7_isHeld_16 (by decide) ⟨by omega, by omega⟩ (fun c16 => ?_) (fun c16 => ?_)
    · refine r_iconst X dX7_isHeld_31 ?_
      refine r_zret X Y dX7_isHeld_32 (Or.inl rfl) (by decide) (by decide) ?_
      exact MO_w (by unfold cdPl; (try simp only [isNone_f, isNone_t, true_or, or_true, false_or, or_false]); (repeat' split) <;> first | rfl | omega | contradiction | (exfalso; simp_all; done) | (exfalso; simp_all; omega)) (by first | decide | omega) hm13 kp13
    · exfalso
      omega
  · refine r_iconst X dX7_isHeld_8 ?_
    refine r_goto 13 X dX7_isHeld_9 (by decide) ?_
    refine r_callV X dX7_isHeld_13 kX7_57 hm.1 (c_X7_isWrong (CX_l X) D z0 _ hm 0 ⟨by omega, by omega⟩) [] rfl rfl (Nat.le_of_ble_eq_true rfl) (by decide) (by decide) (fun _ _ z => z.elim) (fun v9 hq13 hv9 => ?_)
    obtain ⟨rfl, hm13, kp13⟩ := hv9
    show WW K D z0 2 hq13 0 0 16 [(0, .ref y), (1, iv p)] [iv 0]
    refine r_if_ne 31 X dX7_isHeld_16 (by decide) ⟨by omega, by omega⟩ (fun c16 => ?_) (fun c16 => ?_)
    · exfalso
      omega
    · refine r_aload_n 0 X dX7_isHeld_19 rfl ?_
      refine r_iload_n 1 X dX7_isHeld_20 rfl ?_
      refine r_callV_v X dX7_isHeld_21 kX7_45 hm13.1 (c_X7_isThere (CX_l X) D z0 _ hm13 ht p (by omega)) [] rfl rfl (Nat.le_of_ble_eq_true rfl) (by decide) rfl rfl (by decide) ?_
      refine r_ifb_eq 31 X dX7_isHeld_24 (by decide) (fun c24 => ?_) (fun c24 => ?_)
      · refine r_iconst X dX7_isHeld_31 ?_
        refine r_zret X Y dX7_isHeld_32 (Or.inl rfl) (by decide) (by decide) ?_
        exact MO_k (by unfold cdPl; (try simp only [isNone_f, isNone_t, true_or, or_true, false_or, or_false]); (repeat' split) <;> first | rfl | omega | contradiction | (exfalso; simp_all; done) | (exfalso; simp_all; omega)) rfl (congrArg iv (if_neg (by assumption)).symm) hm13 kp13
      · refine r_iconst X dX7_isHeld_27 ?_
        refine r_goto 32 X dX7_isHeld_28 (by decide) ?_
        refine r_zret X Y dX7_isHeld_32 (Or.inr rfl) (by decide) (by decide) ?_
        exact MO_k (by unfold cdPl; (try simp only [isNone_f, isNone_t, true_or, or_true, false_or, or_false]); (repeat' split) <;> first | rfl | omega | contradiction | (exfalso; simp_all; done) | (exfalso; simp_all; omega)) rfl (congrArg iv (if_pos (by assumption)).symm) hm13 kp13
abbrev rX7_side : Room := { frames := 3, cells := 0, slots := 0, locals := 67 }
theorem c_X7_side {l : Launch} (hl : l.stackTraces = false) (D : va_G) (z0 : Nat) (h : Hp) {y : Nat} {v : Nat → Nat} {σ : Tg} {e1 e2 e3 od : Nat → Int} {lc oc tc hi lo rf sq : Int} (hm : Mz D h y v (fA σ) (fB σ) (fC σ) e1 e2 e3 od lc oc tc hi lo rf sq) (ht : TVs σ) (p : Int) (hp0 : I32 p) (w : Int) (hw : I32 w) : CC l yX7_side cX7_side 3 (some .int) rX7_side D z0 h [.ref y, iv p, iv w] (MO D y v σ σ e1 e2 e3 od lc oc (cdSd σ p w) (iv (on σ p (fun a b c => ln a b c w))) (iv 0) h) NX := by
  refine CC_of RX7 hl (by decide) rfl (Nat.le_of_ble_eq_true rfl) (fun K X Y Z hmn hKl => ?_)
  subst hKl
  show WW K D z0 3 h 0 0 0 [(0, .ref y), (1, iv p), (2, iv w)] []
  refine r_aload_n 0 X dX7_side_0 rfl ?_
  refine r_iload_n 2 X dX7_side_1 rfl ?_
  refine r_i2l X dX7_side_2 ⟨by omega, by omega⟩ ?_
  refine r_lconst 0 X dX7_side_3 (by decide) ?_
  refine r_ldc2 2 X dX7_side_4 nX7_71 (by decide) ?_
  refine r_callS_v X dX7_side_7 kX7_37 (c_X7_isBetween (CX_l X) D z0 _ w 0 2 ⟨by omega, by omega⟩ ⟨by omega, by omega⟩ ⟨by omega, by omega⟩) [.ref y] rfl rfl (Nat.le_of_ble_eq_true rfl) (by decide) rfl rfl (by decide) ?_
  refine r_ifb_ne 17 X dX7_side_10 (by decide) (fun c10 => ?_) (fun c10 => ?_)
  · refine r_aload_n 0 X dX7_side_17 rfl ?_
    refine r_iload_n 1 X dX7_side_18 rfl ?_
    refine r_iconst X dX7_side_19 ?_
    refine r_callV_v X dX7_side_20 kX7_68 hm.1 (c_X7_missing (CX_l X) D z0 _ hm ht p 2 ⟨by omega, by omega⟩) [.ref y] rfl rfl (Nat.le_of_ble_eq_true rfl) (by decide) rfl rfl (by decide) ?_
    refine r_callV X dX7_side_23 kX7_57 hm.1 (c_X7_isWrong (CX_l X) D z0 _ hm (ms σ p 2) (ms_b ⟨by decide, by decide⟩)) [] rfl rfl (Nat.le_of_ble_eq_true rfl) (by decide) (by decide) (fun _ _ z => z.elim) (fun v9 hq23 hv9 => ?_)
    obtain ⟨rfl, hm23, kp23⟩ := hv9
    show WW K D z0 3 hq23 0 0 26 [(0, .ref y), (1, iv p), (2, iv w)] [iv (if (ms σ p 2) ≠ 0 then 1 else 0)]
    refine r_ifb_eq 31 X dX7_side_26 (by decide) (fun c26 => ?_) (fun c26 => ?_)
    · have hcd : ms σ p 2 = 0 := by omega
      obtain ⟨hp_p, a, b, c, hs⟩ := ms_0 (by decide) hcd
      have hv := ht p.toNat (by omega) a b c hs
      have hb := TV_b hv
      refine r_aload_n 0 X dX7_side_31 rfl ?_
      refine r_iload_n 1 X dX7_side_32 rfl ?_
      refine r_iload_n 2 X dX7_side_33 rfl ?_
      refine r_callV_v X dX7_side_34 kX7_73 hm23.1 (c_X7_sideOf (CX_l X) D z0 _ hm23 ht p (by omega) a b c hs w) [] rfl rfl (Nat.le_of_ble_eq_true rfl) (by decide) rfl rfl (by decide) ?_
      refine r_iret X Y dX7_side_37 (by decide) (by decide) ?_
      exact MO_k (by unfold cdSd ms; (try simp only [on_s hs, hs, isNone_f, isNone_t, true_or, or_true, false_or, or_false]); (repeat' split) <;> first | rfl | omega | contradiction | (exfalso; simp_all; done) | (exfalso; simp_all; omega)) (by omega) (by rw [on_s hs]) hm23 kp23
    · refine r_iconst X dX7_side_29 ?_
      refine r_iret X Y dX7_side_30 (by decide) (by decide) ?_
      exact MO_w (by unfold cdSd ms; (try simp only [isNone_f, isNone_t, true_or, or_true, false_or, or_false]); (repeat' split) <;> first | rfl | omega | contradiction | (exfalso; simp_all; done) | (exfalso; simp_all; omega)) (by first | decide | omega) hm23 kp23
  · refine r_iconst X dX7_side_13 ?_
    refine r_goto 23 X dX7_side_14 (by decide) ?_
    refine r_callV X dX7_side_23 kX7_57 hm.1 (c_X7_isWrong (CX_l X) D z0 _ hm 1 ⟨by omega, by omega⟩) [] rfl rfl (Nat.le_of_ble_eq_true rfl) (by decide) (by decide) (fun _ _ z => z.elim) (fun v9 hq23 hv9 => ?_)
    obtain ⟨rfl, hm23, kp23⟩ := hv9
    show WW K D z0 3 hq23 0 0 26 [(0, .ref y), (1, iv p), (2, iv w)] [iv 1]
    refine r_if_eq 31 X dX7_side_26 (by decide) ⟨by omega, by omega⟩ (fun c26 => ?_) (fun c26 => ?_)
    · exfalso
      omega
    · refine r_iconst X dX7_side_29 ?_
      refine r_iret X Y dX7_side_30 (by decide) (by decide) ?_
      exact MO_w (by unfold cdSd ms; (try simp only [isNone_f, isNone_t, true_or, or_true, false_or, or_false]); (repeat' split) <;> first | rfl | omega | contradiction | (exfalso; simp_all; done) | (exfalso; simp_all; omega)) (by first | decide | omega) hm23 kp23
abbrev rX7_copy : Room := { frames := 3, cells := 0, slots := 0, locals := 67 }
theorem c_X7_copy {l : Launch} (hl : l.stackTraces = false) (D : va_G) (z0 : Nat) (h : Hp) {y : Nat} {v : Nat → Nat} {σ : Tg} {e1 e2 e3 od : Nat → Int} {lc oc tc hi lo rf sq : Int} (hm : Mz D h y v (fA σ) (fB σ) (fC σ) e1 e2 e3 od lc oc tc hi lo rf sq) (ht : TVs σ) (p : Int) (hp0 : I32 p) (q : Int) (hq0 : I32 q) : CC l yX7_copy cX7_copy 3 (some .int) rX7_copy D z0 h [.ref y, iv p, iv q] (MO D y v σ (up σ q.toNat (σ p.toNat)) e1 e2 e3 od lc oc (cdCo σ p q) (iv (cntT (up σ q.toNat (σ p.toNat)) 16)) (iv 0) h) NX := by
  refine CC_of RX7 hl (by decide) rfl (Nat.le_of_ble_eq_true rfl) (fun K X Y Z hmn hKl => ?_)
  subst hKl
  show WW K D z0 3 h 0 0 0 [(0, .ref y), (1, iv p), (2, iv q)] []
  refine r_aload_n 0 X dX7_copy_0 rfl ?_
  refine r_iload_n 2 X dX7_copy_1 rfl ?_
  refine r_callS_v X dX7_copy_2 kX7_41 (c_X7_isPlace (CX_l X) D z0 _ q ⟨by omega, by omega⟩) [.ref y] rfl rfl (Nat.le_of_ble_eq_true rfl) (by decide) rfl rfl (by decide) ?_
  refine r_ifb_ne 12 X dX7_copy_5 (by decide) (fun c5 => ?_) (fun c5 => ?_)
  · refine r_aload_n 0 X dX7_copy_12 rfl ?_
    refine r_iload_n 1 X dX7_copy_13 rfl ?_
    refine r_iconst X dX7_copy_14 ?_
    refine r_callV_v X dX7_copy_15 kX7_68 hm.1 (c_X7_missing (CX_l X) D z0 _ hm ht p 2 ⟨by omega, by omega⟩) [.ref y] rfl rfl (Nat.le_of_ble_eq_true rfl) (by decide) rfl rfl (by decide) ?_
    refine r_callV X dX7_copy_18 kX7_57 hm.1 (c_X7_isWrong (CX_l X) D z0 _ hm (ms σ p 2) (ms_b ⟨by decide, by decide⟩)) [] rfl rfl (Nat.le_of_ble_eq_true rfl) (by decide) (by decide) (fun _ _ z => z.elim) (fun v9 hq18 hv9 => ?_)
    obtain ⟨rfl, hm18, kp18⟩ := hv9
    show WW K D z0 3 hq18 0 0 21 [(0, .ref y), (1, iv p), (2, iv q)] [iv (if (ms σ p 2) ≠ 0 then 1 else 0)]
    refine r_ifb_eq 26 X dX7_copy_21 (by decide) (fun c21 => ?_) (fun c21 => ?_)
    · have hcd : ms σ p 2 = 0 := by omega
      obtain ⟨hp_p, a, b, c, hs⟩ := ms_0 (by decide) hcd
      have hv := ht p.toNat (by omega) a b c hs
      have hb := TV_b hv
      refine r_aload_n 0 X dX7_copy_26 rfl ?_
      refine r_iload_n 2 X dX7_copy_27 rfl ?_
      refine r_aload_n 0 X dX7_copy_28 rfl ?_
      refine r_getf X dX7_copy_29 fX7_7 hm18.1 rfl ?_
      refine r_iload_n 1 X dX7_copy_32 rfl ?_
      refine r_ialoadE X dX7_copy_33 hm18.2.1 ⟨by omega, by omega⟩ (by decide) (fA_s hs) ?_
      refine r_aload_n 0 X dX7_copy_34 rfl ?_
      refine r_getf X dX7_copy_35 fX7_13 hm18.1 rfl ?_
      refine r_iload_n 1 X dX7_copy_38 rfl ?_
      refine r_ialoadE X dX7_copy_39 hm18.2.2.1 ⟨by omega, by omega⟩ (by decide) (fB_s hs) ?_
      refine r_aload_n 0 X dX7_copy_40 rfl ?_
      refine r_getf X dX7_copy_41 fX7_16 hm18.1 rfl ?_
      refine r_iload_n 1 X dX7_copy_44 rfl ?_
      refine r_ialoadE X dX7_copy_45 hm18.2.2.2.1 ⟨by omega, by omega⟩ (by decide) (fC_s hs) ?_
      refine r_callV X dX7_copy_46 kX7_60 hm18.1 (c_X7_hold (CX_l X) D z0 _ hm18 ht q a b c (by omega) ⟨by omega, by omega⟩ ⟨by omega, by omega⟩ ⟨by omega, by omega⟩) [] rfl rfl (Nat.le_of_ble_eq_true rfl) (by decide) (by decide) (fun _ _ z => z.elim) (fun v9 hq46 hv9 => ?_)
      obtain ⟨rfl, hm46, kp46⟩ := hv9
      have ht46 : TVs (up σ q.toNat (st3 a b c)) := TVs_up (x := mn3 a b c) (y := md3 a b c) (z := mx3 a b c) ht q.toNat (by rw [(st_TV hv).1, (st_TV hv).2.1, (st_TV hv).2.2]; exact hv)
      show WW K D z0 3 hq46 0 0 49 [(0, .ref y), (1, iv p), (2, iv q)] []
      have e3 : st3 a b c = σ p.toNat := by rw [hs]; unfold st3; rw [(st_TV hv).1, (st_TV hv).2.1, (st_TV hv).2.2]
      refine r_aload_n 0 X dX7_copy_49 rfl ?_
      refine r_callV_v X dX7_copy_50 kX7_64 hm46.1 (c_X7_many (CX_l X) D z0 _ hm46 ht46  ) [] rfl rfl (Nat.le_of_ble_eq_true rfl) (by decide) rfl rfl (by decide) ?_
      refine r_iret X Y dX7_copy_53 (by decide) (by decide) ?_
      rw [e3] at hm46
      exact MO_k (by unfold cdCo ms; (try simp only [on_s hs, hs, isNone_f, isNone_t, true_or, or_true, false_or, or_false]); (repeat' split) <;> first | rfl | omega | contradiction | (exfalso; simp_all; done) | (exfalso; simp_all; omega)) (by omega) (by rw [e3]) hm46 (Keep_tr kp18 kp46)
    · refine r_iconst X dX7_copy_24 ?_
      refine r_iret X Y dX7_copy_25 (by decide) (by decide) ?_
      exact MO_w (by unfold cdCo ms; (try simp only [isNone_f, isNone_t, true_or, or_true, false_or, or_false]); (repeat' split) <;> first | rfl | omega | contradiction | (exfalso; simp_all; done) | (exfalso; simp_all; omega)) (by first | decide | omega) hm18 kp18
  · refine r_iconst X dX7_copy_8 ?_
    refine r_goto 18 X dX7_copy_9 (by decide) ?_
    refine r_callV X dX7_copy_18 kX7_57 hm.1 (c_X7_isWrong (CX_l X) D z0 _ hm 1 ⟨by omega, by omega⟩) [] rfl rfl (Nat.le_of_ble_eq_true rfl) (by decide) (by decide) (fun _ _ z => z.elim) (fun v9 hq18 hv9 => ?_)
    obtain ⟨rfl, hm18, kp18⟩ := hv9
    show WW K D z0 3 hq18 0 0 21 [(0, .ref y), (1, iv p), (2, iv q)] [iv 1]
    refine r_if_eq 26 X dX7_copy_21 (by decide) ⟨by omega, by omega⟩ (fun c21 => ?_) (fun c21 => ?_)
    · exfalso
      omega
    · refine r_iconst X dX7_copy_24 ?_
      refine r_iret X Y dX7_copy_25 (by decide) (by decide) ?_
      exact MO_w (by unfold cdCo ms; (try simp only [isNone_f, isNone_t, true_or, or_true, false_or, or_false]); (repeat' split) <;> first | rfl | omega | contradiction | (exfalso; simp_all; done) | (exfalso; simp_all; omega)) (by first | decide | omega) hm18 kp18
abbrev rX7_kind : Room := { frames := 3, cells := 0, slots := 0, locals := 67 }
theorem c_X7_kind {l : Launch} (hl : l.stackTraces = false) (D : va_G) (z0 : Nat) (h : Hp) {y : Nat} {v : Nat → Nat} {σ : Tg} {e1 e2 e3 od : Nat → Int} {lc oc tc hi lo rf sq : Int} (hm : Mz D h y v (fA σ) (fB σ) (fC σ) e1 e2 e3 od lc oc tc hi lo rf sq) (ht : TVs σ) (p : Int) (hp0 : I32 p) : CC l yX7_kind cX7_kind 2 (some .int) rX7_kind D z0 h [.ref y, iv p] (MO D y v σ σ e1 e2 e3 od lc oc (ms σ p 2) (iv (on σ p (fun a b c => cmpv (sqb3 a b c 2) 0))) (iv 0) h) NX := by
  refine CC_of RX7 hl (by decide) rfl (Nat.le_of_ble_eq_true rfl) (fun K X Y Z hmn hKl => ?_)
  subst hKl
  show WW K D z0 2 h 0 0 0 [(0, .ref y), (1, iv p)] []
  refine r_aload_n 0 X dX7_kind_0 rfl ?_
  refine r_aload_n 0 X dX7_kind_1 rfl ?_
  refine r_iload_n 1 X dX7_kind_2 rfl ?_
  refine r_iconst X dX7_kind_3 ?_
  refine r_callV_v X dX7_kind_4 kX7_68 hm.1 (c_X7_missing (CX_l X) D z0 _ hm ht p 2 ⟨by omega, by omega⟩) [.ref y] rfl rfl (Nat.le_of_ble_eq_true rfl) (by decide) rfl rfl (by decide) ?_
  refine r_callV X dX7_kind_7 kX7_57 hm.1 (c_X7_isWrong (CX_l X) D z0 _ hm (ms σ p 2) (ms_b ⟨by decide, by decide⟩)) [] rfl rfl (Nat.le_of_ble_eq_true rfl) (by decide) (by decide) (fun _ _ z => z.elim) (fun v9 hq7 hv9 => ?_)
  obtain ⟨rfl, hm7, kp7⟩ := hv9
  show WW K D z0 2 hq7 0 0 10 [(0, .ref y), (1, iv p)] [iv (if (ms σ p 2) ≠ 0 then 1 else 0)]
  refine r_ifb_eq 17 X dX7_kind_10 (by decide) (fun c10 => ?_) (fun c10 => ?_)
  · have hcd : ms σ p 2 = 0 := by omega
    obtain ⟨hp_p, a, b, c, hs⟩ := ms_0 (by decide) hcd
    have hv := ht p.toNat (by omega) a b c hs
    have hb := TV_b hv
    refine r_aload_n 0 X dX7_kind_17 rfl ?_
    refine r_iload_n 1 X dX7_kind_18 rfl ?_
    refine r_callV_v X dX7_kind_19 kX7_85 hm7.1 (c_X7_kindOf (CX_l X) D z0 _ hm7 ht p (by omega) a b c hs ) [] rfl rfl (Nat.le_of_ble_eq_true rfl) (by decide) rfl rfl (by decide) ?_
    refine r_iret X Y dX7_kind_22 (by decide) (by decide) ?_
    exact MO_k rfl (by omega) (by rw [on_s hs]) hm7 kp7
  · refine r_iconst X dX7_kind_13 ?_
    refine r_goto 22 X dX7_kind_14 (by decide) ?_
    refine r_iret X Y dX7_kind_22 (by decide) (by decide) ?_
    exact MO_w rfl (by first | decide | omega) hm7 kp7
abbrev rX7_scale : Room := { frames := 2, cells := 0, slots := 0, locals := 48 }
theorem c_X7_scale {l : Launch} (hl : l.stackTraces = false) (D : va_G) (z0 : Nat) (h : Hp) {y : Nat} {v : Nat → Nat} {σ : Tg} {e1 e2 e3 od : Nat → Int} {lc oc tc hi lo rf sq : Int} (hm : Mz D h y v (fA σ) (fB σ) (fC σ) e1 e2 e3 od lc oc tc hi lo rf sq) (ht : TVs σ) (p : Int) (hp0 : I32 p) (w : Int) (hw : I32 w) : CC l yX7_scale cX7_scale 4 (some .int) rX7_scale D z0 h [.ref y, iv p, iv w] (MO D y v σ (up σ p.toNat (onT σ p (fun a b c => st3 (w * a) (w * b) (w * c)))) e1 e2 e3 od lc oc (cdSc σ p w) (iv (on σ p (fun _ _ c => w * c))) (iv 0) h) NX := by
  refine CC_of RX7 hl (by decide) rfl (Nat.le_of_ble_eq_true rfl) (fun K X Y Z hmn hKl => ?_)
  subst hKl
  show WW K D z0 4 h 0 0 0 [(0, .ref y), (1, iv p), (2, iv w)] []
  refine r_iload_n 2 X dX7_scale_0 rfl ?_
  refine r_i2l X dX7_scale_1 ⟨by omega, by omega⟩ ?_
  refine r_lconst 1 X dX7_scale_2 (by decide) ?_
  refine r_ldc2 64 X dX7_scale_3 nX7_76 (by decide) ?_
  refine r_callS_v X dX7_scale_6 kX7_37 (c_X7_isBetween (CX_l X) D z0 _ w 1 64 ⟨by omega, by omega⟩ ⟨by omega, by omega⟩ ⟨by omega, by omega⟩) [] rfl rfl (Nat.le_of_ble_eq_true rfl) (by decide) rfl rfl (by decide) ?_
  refine r_istore_n (L' := [(3, iv (if 1 ≤ w ∧ w ≤ 64 then 1 else 0)), (0, .ref y), (1, iv p), (2, iv w)]) X dX7_scale_9 (by decide) rfl ?_
  refine r_aload_n 1 X dX7_scale_10 rfl ?_
  refine r_iload_n 2 X dX7_scale_11 rfl ?_
  refine r_callS_v X dX7_scale_12 kX7_41 (c_X7_isPlace (CX_l X) D z0 _ p ⟨by omega, by omega⟩) [.ref y] rfl rfl (Nat.le_of_ble_eq_true rfl) (by decide) rfl rfl (by decide) ?_
  refine r_ifb_ne 22 X dX7_scale_15 (by decide) (fun c15 => ?_) (fun c15 => ?_)
  · refine r_iload_n 0 X dX7_scale_22 rfl ?_
    refine r_ifb_ne 30 X dX7_scale_23 (by decide) (fun c23 => ?_) (fun c23 => ?_)
    · refine r_aload_n 1 X dX7_scale_30 rfl ?_
      refine r_iload_n 2 X dX7_scale_31 rfl ?_
      refine r_callV_v X dX7_scale_32 kX7_45 hm.1 (c_X7_isThere (CX_l X) D z0 _ hm ht p (by omega)) [.ref y] rfl rfl (Nat.le_of_ble_eq_true rfl) (by decide) rfl rfl (by decide) ?_
      refine r_ifb_ne 42 X dX7_scale_35 (by decide) (fun c35 => ?_) (fun c35 => ?_)
      · obtain ⟨a, b, c, hs⟩ := some_of (σ := σ) (i := p.toNat) (by assumption)
        have hv := ht p.toNat (by omega) a b c hs
        have hb := TV_b hv
        have hsf0 := sc_f (w := w) hv ⟨by omega, by omega⟩
        rw [Int.mul_comm w c] at hsf0
        have hcw := Int.mul_comm w c
        refine r_aload_n 1 X dX7_scale_42 rfl ?_
        refine r_getf X dX7_scale_43 fX7_16 hm.1 rfl ?_
        refine r_iload_n 2 X dX7_scale_46 rfl ?_
        refine r_ialoadE X dX7_scale_47 hm.2.2.2.1 ⟨by omega, by omega⟩ (by decide) (fC_s hs) ?_
        refine r_iload_n 3 X dX7_scale_48 rfl ?_
        refine r_imul X dX7_scale_49 ?_
        refine r_ldc 65535 X dX7_scale_50 nX7_78 (by decide) ?_
        refine r_icmp_le 59 X dX7_scale_52 (by decide) ⟨by omega, by omega⟩ ⟨by omega, by omega⟩ (fun c52 => ?_) (fun c52 => ?_)
        · refine r_iconst X dX7_scale_59 ?_
          refine r_callV X dX7_scale_60 kX7_57 hm.1 (c_X7_isWrong (CX_l X) D z0 _ hm 0 ⟨by omega, by omega⟩) [] rfl rfl (Nat.le_of_ble_eq_true rfl) (by decide) (by decide) (fun _ _ z => z.elim) (fun v9 hq60 hv9 => ?_)
          obtain ⟨rfl, hm60, kp60⟩ := hv9
          show WW K D z0 4 hq60 0 0 63 [(3, iv (if 1 ≤ w ∧ w ≤ 64 then 1 else 0)), (0, .ref y), (1, iv p), (2, iv w)] [iv 0]
          refine r_if_eq 68 X dX7_scale_63 (by decide) ⟨by omega, by omega⟩ (fun c63 => ?_) (fun c63 => ?_)
          · have hsf := sc_f (w := w) hv ⟨by omega, by omega⟩
            rw [Int.mul_comm w a, Int.mul_comm w b, Int.mul_comm w c] at hsf
            have hv8 := TV_of (a := a * w) (b := b * w) (c := c * w) (by omega) (by omega) (by omega) (by omega) (by omega) (by omega)
            refine r_aload_n 1 X dX7_scale_68 rfl ?_
            refine r_iload_n 2 X dX7_scale_69 rfl ?_
            refine r_aload_n 1 X dX7_scale_70 rfl ?_
            refine r_getf X dX7_scale_71 fX7_7 hm60.1 rfl ?_
            refine r_iload_n 2 X dX7_scale_74 rfl ?_
            refine r_ialoadE X dX7_scale_75 hm60.2.1 ⟨by omega, by omega⟩ (by decide) (fA_s hs) ?_
            refine r_iload_n 3 X dX7_scale_76 rfl ?_
            refine r_imul X dX7_scale_77 ?_
            refine r_aload_n 1 X dX7_scale_78 rfl ?_
            refine r_getf X dX7_scale_79 fX7_13 hm60.1 rfl ?_
            refine r_iload_n 2 X dX7_scale_82 rfl ?_
            refine r_ialoadE X dX7_scale_83 hm60.2.2.1 ⟨by omega, by omega⟩ (by decide) (fB_s hs) ?_
            refine r_iload_n 3 X dX7_scale_84 rfl ?_
            refine r_imul X dX7_scale_85 ?_
            refine r_aload_n 1 X dX7_scale_86 rfl ?_
            refine r_getf X dX7_scale_87 fX7_16 hm60.1 rfl ?_
            refine r_iload_n 2 X dX7_scale_90 rfl ?_
            refine r_ialoadE X dX7_scale_91 hm60.2.2.2.1 ⟨by omega, by omega⟩ (by decide) (fC_s hs) ?_
            refine r_iload_n 3 X dX7_scale_92 rfl ?_
            refine r_imul X dX7_scale_93 ?_
            refine r_callV X dX7_scale_94 kX7_60 hm60.1 (c_X7_hold (CX_l X) D z0 _ hm60 ht p (a * w) (b * w) (c * w) (by omega) ⟨by omega, by omega⟩ ⟨by omega, by omega⟩ ⟨by omega, by omega⟩) [] rfl rfl (Nat.le_of_ble_eq_true rfl) (by decide) (by decide) (fun _ _ z => z.elim) (fun v9 hq94 hv9 => ?_)
            obtain ⟨rfl, hm94, kp94⟩ := hv9
            have ht94 : TVs (up σ p.toNat (st3 (a * w) (b * w) (c * w))) := TVs_up (x := mn3 (a * w) (b * w) (c * w)) (y := md3 (a * w) (b * w) (c * w)) (z := mx3 (a * w) (b * w) (c * w)) ht p.toNat hv8
            show WW K D z0 4 hq94 0 0 97 [(3, iv (if 1 ≤ w ∧ w ≤ 64 then 1 else 0)), (0, .ref y), (1, iv p), (2, iv w)] []
            refine r_aload_n 1 X dX7_scale_97 rfl ?_
            refine r_getf X dX7_scale_98 fX7_16 hm94.1 rfl ?_
            refine r_iload_n 2 X dX7_scale_101 rfl ?_
            refine r_ialoadE X dX7_scale_102 hm94.2.2.2.1 ⟨by omega, by omega⟩ (by decide) (fC_s (up_s _ _ _)) ?_
            refine r_iret X Y dX7_scale_103 (by decide) (by decide) ?_
            have e3 : (onT σ p (fun a b c => st3 (w * a) (w * b) (w * c))) = st3 (a * w) (b * w) (c * w) := by rw [onT_s hs, Int.mul_comm w a, Int.mul_comm w b, Int.mul_comm w c]
            rw [← e3] at hm94
            exact MO_k (by unfold cdSc; (try simp only [on_s hs, hs, isNone_f, isNone_t, true_or, or_true, false_or, or_false]); (repeat' split) <;> first | rfl | omega | contradiction | (exfalso; simp_all; done) | (exfalso; simp_all; omega)) rfl (by rw [on_s hs]; exact congrArg iv (by unfold mx3; rw [Int.mul_comm w c]; omega)) hm94 (Keep_tr kp60 kp94)
          · exfalso
            omega
        · refine r_iconst X dX7_scale_55 ?_
          refine r_goto 60 X dX7_scale_56 (by decide) ?_
          refine r_callV X dX7_scale_60 kX7_57 hm.1 (c_X7_isWrong (CX_l X) D z0 _ hm 4 ⟨by omega, by omega⟩) [] rfl rfl (Nat.le_of_ble_eq_true rfl) (by decide) (by decide) (fun _ _ z => z.elim) (fun v9 hq60 hv9 => ?_)
          obtain ⟨rfl, hm60, kp60⟩ := hv9
          show WW K D z0 4 hq60 0 0 63 [(3, iv (if 1 ≤ w ∧ w ≤ 64 then 1 else 0)), (0, .ref y), (1, iv p), (2, iv w)] [iv 1]
          refine r_if_eq 68 X dX7_scale_63 (by decide) ⟨by omega, by omega⟩ (fun c63 => ?_) (fun c63 => ?_)
          · exfalso
            omega
          · refine r_iconst X dX7_scale_66 ?_
            refine r_iret X Y dX7_scale_67 (by decide) (by decide) ?_
            exact MO_w (by unfold cdSc; (try simp only [on_s hs, hs, isNone_f, isNone_t, true_or, or_true, false_or, or_false]); (repeat' split) <;> first | rfl | omega | contradiction | (exfalso; simp_all; done) | (exfalso; simp_all; omega)) (by first | decide | omega) hm60 kp60
      · refine r_iconst X dX7_scale_38 ?_
        refine r_goto 60 X dX7_scale_39 (by decide) ?_
        refine r_callV X dX7_scale_60 kX7_57 hm.1 (c_X7_isWrong (CX_l X) D z0 _ hm 3 ⟨by omega, by omega⟩) [] rfl rfl (Nat.le_of_ble_eq_true rfl) (by decide) (by decide) (fun _ _ z => z.elim) (fun v9 hq60 hv9 => ?_)
        obtain ⟨rfl, hm60, kp60⟩ := hv9
        show WW K D z0 4 hq60 0 0 63 [(3, iv (if 1 ≤ w ∧ w ≤ 64 then 1 else 0)), (0, .ref y), (1, iv p), (2, iv w)] [iv 1]
        refine r_if_eq 68 X dX7_scale_63 (by decide) ⟨by omega, by omega⟩ (fun c63 => ?_) (fun c63 => ?_)
        · exfalso
          omega
        · refine r_iconst X dX7_scale_66 ?_
          refine r_iret X Y dX7_scale_67 (by decide) (by decide) ?_
          exact MO_w (by unfold cdSc; (try simp only [isNone_f, isNone_t, true_or, or_true, false_or, or_false]); (repeat' split) <;> first | rfl | omega | contradiction | (exfalso; simp_all; done) | (exfalso; simp_all; omega)) (by first | decide | omega) hm60 kp60
    · refine r_iconst X dX7_scale_26 ?_
      refine r_goto 60 X dX7_scale_27 (by decide) ?_
      refine r_callV X dX7_scale_60 kX7_57 hm.1 (c_X7_isWrong (CX_l X) D z0 _ hm 2 ⟨by omega, by omega⟩) [] rfl rfl (Nat.le_of_ble_eq_true rfl) (by decide) (by decide) (fun _ _ z => z.elim) (fun v9 hq60 hv9 => ?_)
      obtain ⟨rfl, hm60, kp60⟩ := hv9
      show WW K D z0 4 hq60 0 0 63 [(3, iv (if 1 ≤ w ∧ w ≤ 64 then 1 else 0)), (0, .ref y), (1, iv p), (2, iv w)] [iv 1]
      refine r_if_eq 68 X dX7_scale_63 (by decide) ⟨by omega, by omega⟩ (fun c63 => ?_) (fun c63 => ?_)
      · exfalso
        omega
      · refine r_iconst X dX7_scale_66 ?_
        refine r_iret X Y dX7_scale_67 (by decide) (by decide) ?_
        exact MO_w (by unfold cdSc; (try simp only [isNone_f, isNone_t, true_or, or_true, false_or, or_false]); (repeat' split) <;> first | rfl | omega | contradiction | (exfalso; simp_all; done) | (exfalso; simp_all; omega)) (by first | decide | omega) hm60 kp60
  · refine r_iconst X dX7_scale_18 ?_
    refine r_goto 60 X dX7_scale_19 (by decide) ?_
    refine r_callV X dX7_scale_60 kX7_57 hm.1 (c_X7_isWrong (CX_l X) D z0 _ hm 1 ⟨by omega, by omega⟩) [] rfl rfl (Nat.le_of_ble_eq_true rfl) (by decide) (by decide) (fun _ _ z => z.elim) (fun v9 hq60 hv9 => ?_)
    obtain ⟨rfl, hm60, kp60⟩ := hv9
    show WW K D z0 4 hq60 0 0 63 [(3, iv (if 1 ≤ w ∧ w ≤ 64 then 1 else 0)), (0, .ref y), (1, iv p), (2, iv w)] [iv 1]
    refine r_if_eq 68 X dX7_scale_63 (by decide) ⟨by omega, by omega⟩ (fun c63 => ?_) (fun c63 => ?_)
    · exfalso
      omega
    · refine r_iconst X dX7_scale_66 ?_
      refine r_iret X Y dX7_scale_67 (by decide) (by decide) ?_
      exact MO_w (by unfold cdSc; (try simp only [isNone_f, isNone_t, true_or, or_true, false_or, or_false]); (repeat' split) <;> first | rfl | omega | contradiction | (exfalso; simp_all; done) | (exfalso; simp_all; omega)) (by first | decide | omega) hm60 kp60
abbrev rX7_reduce : Room := { frames := 3, cells := 0, slots := 0, locals := 67 }
theorem c_X7_reduce {l : Launch} (hl : l.stackTraces = false) (D : va_G) (z0 : Nat) (h : Hp) {y : Nat} {v : Nat → Nat} {σ : Tg} {e1 e2 e3 od : Nat → Int} {lc oc tc hi lo rf sq : Int} (hm : Mz D h y v (fA σ) (fB σ) (fC σ) e1 e2 e3 od lc oc tc hi lo rf sq) (ht : TVs σ) (p : Int) (hp0 : I32 p) : CC l yX7_reduce cX7_reduce 3 (some .int) rX7_reduce D z0 h [.ref y, iv p] (MO D y v σ (up σ p.toNat (onT σ p (fun a b c => st3 (a / gcd3 a b c) (b / gcd3 a b c) (c / gcd3 a b c)))) e1 e2 e3 od lc oc (ms σ p 2) (iv (on σ p gcd3)) (iv 0) h) NX := by
  refine CC_of RX7 hl (by decide) rfl (Nat.le_of_ble_eq_true rfl) (fun K X Y Z hmn hKl => ?_)
  subst hKl
  show WW K D z0 3 h 0 0 0 [(0, .ref y), (1, iv p)] []
  refine r_aload_n 0 X dX7_reduce_0 rfl ?_
  refine r_aload_n 0 X dX7_reduce_1 rfl ?_
  refine r_iload_n 1 X dX7_reduce_2 rfl ?_
  refine r_iconst X dX7_reduce_3 ?_
  refine r_callV_v X dX7_reduce_4 kX7_68 hm.1 (c_X7_missing (CX_l X) D z0 _ hm ht p 2 ⟨by omega, by omega⟩) [.ref y] rfl rfl (Nat.le_of_ble_eq_true rfl) (by decide) rfl rfl (by decide) ?_
  refine r_callV X dX7_reduce_7 kX7_57 hm.1 (c_X7_isWrong (CX_l X) D z0 _ hm (ms σ p 2) (ms_b ⟨by decide, by decide⟩)) [] rfl rfl (Nat.le_of_ble_eq_true rfl) (by decide) (by decide) (fun _ _ z => z.elim) (fun v9 hq7 hv9 => ?_)
  obtain ⟨rfl, hm7, kp7⟩ := hv9
  show WW K D z0 3 hq7 0 0 10 [(0, .ref y), (1, iv p)] [iv (if (ms σ p 2) ≠ 0 then 1 else 0)]
  refine r_ifb_eq 15 X dX7_reduce_10 (by decide) (fun c10 => ?_) (fun c10 => ?_)
  · have hcd : ms σ p 2 = 0 := by omega
    obtain ⟨hp_p, a, b, c, hs⟩ := ms_0 (by decide) hcd
    have hv := ht p.toNat (by omega) a b c hs
    have hb := TV_b hv
    have hgf := gcd3_f hv
    have hrf := red_f hv hgf.1 hgf.2.2.1 hgf.2.2.2.1 hgf.2.2.2.2
    have hrg := TV_b hrf
    have hg3 : ((Int.gcd a ((Int.gcd b c : Nat) : Int) : Nat) : Int) = gcd3 a b c := congrArg Nat.cast (Int.gcd_assoc a b c).symm
    have hgl : Int.gcd b c ≤ c.natAbs := Nat.le_of_dvd (by omega) (Nat.gcd_dvd_right _ _)
    refine r_aload_n 0 X dX7_reduce_15 rfl ?_
    refine r_getf X dX7_reduce_16 fX7_7 hm7.1 rfl ?_
    refine r_iload_n 1 X dX7_reduce_19 rfl ?_
    refine r_ialoadE X dX7_reduce_20 hm7.2.1 ⟨by omega, by omega⟩ (by decide) (fA_s hs) ?_
    refine r_aload_n 0 X dX7_reduce_21 rfl ?_
    refine r_getf X dX7_reduce_22 fX7_13 hm7.1 rfl ?_
    refine r_iload_n 1 X dX7_reduce_25 rfl ?_
    refine r_ialoadE X dX7_reduce_26 hm7.2.2.1 ⟨by omega, by omega⟩ (by decide) (fB_s hs) ?_
    refine r_aload_n 0 X dX7_reduce_27 rfl ?_
    refine r_getf X dX7_reduce_28 fX7_16 hm7.1 rfl ?_
    refine r_iload_n 1 X dX7_reduce_31 rfl ?_
    refine r_ialoadE X dX7_reduce_32 hm7.2.2.2.1 ⟨by omega, by omega⟩ (by decide) (fC_s hs) ?_
    refine r_callS_v X dX7_reduce_33 kX7_79 (c_X7_divisor (CX_l X) D z0 hq7 b c ⟨by omega, by omega⟩ ⟨by omega, by omega⟩) [iv a] rfl rfl (Nat.le_of_ble_eq_true rfl) (by decide) rfl rfl (by decide) ?_
    refine r_callS_v X dX7_reduce_36 kX7_79 (c_X7_divisor (CX_l X) D z0 hq7 a ((Int.gcd b c : Nat) : Int) ⟨by omega, by omega⟩ ⟨by omega, by omega⟩) [] rfl rfl (Nat.le_of_ble_eq_true rfl) (by decide) rfl rfl (by decide) ?_
    refine WW_e (congrArg (fun z => iv z :: []) (show ((Int.gcd a ((Int.gcd b c : Nat) : Int) : Nat) : Int) = gcd3 a b c from hg3)) ?_
    show WW K D z0 3 hq7 0 0 39 [(0, .ref y), (1, iv p)] [iv (gcd3 a b c)]
    refine r_istore_n (L' := [(2, iv (gcd3 a b c)), (0, .ref y), (1, iv p)]) X dX7_reduce_39 (by decide) rfl ?_
    refine r_aload_n 1 X dX7_reduce_40 rfl ?_
    refine r_iload_n 2 X dX7_reduce_41 rfl ?_
    refine r_aload_n 1 X dX7_reduce_42 rfl ?_
    refine r_getf X dX7_reduce_43 fX7_7 hm7.1 rfl ?_
    refine r_iload_n 2 X dX7_reduce_46 rfl ?_
    refine r_ialoadE X dX7_reduce_47 hm7.2.1 ⟨by omega, by omega⟩ (by decide) (fA_s hs) ?_
    refine r_iload_n 0 X dX7_reduce_48 rfl ?_
    refine r_idiv X dX7_reduce_49 ⟨by omega, by omega⟩ ⟨by omega, by omega⟩ ?_
    refine r_aload_n 1 X dX7_reduce_50 rfl ?_
    refine r_getf X dX7_reduce_51 fX7_13 hm7.1 rfl ?_
    refine r_iload_n 2 X dX7_reduce_54 rfl ?_
    refine r_ialoadE X dX7_reduce_55 hm7.2.2.1 ⟨by omega, by omega⟩ (by decide) (fB_s hs) ?_
    refine r_iload_n 0 X dX7_reduce_56 rfl ?_
    refine r_idiv X dX7_reduce_57 ⟨by omega, by omega⟩ ⟨by omega, by omega⟩ ?_
    refine r_aload_n 1 X dX7_reduce_58 rfl ?_
    refine r_getf X dX7_reduce_59 fX7_16 hm7.1 rfl ?_
    refine r_iload_n 2 X dX7_reduce_62 rfl ?_
    refine r_ialoadE X dX7_reduce_63 hm7.2.2.2.1 ⟨by omega, by omega⟩ (by decide) (fC_s hs) ?_
    refine r_iload_n 0 X dX7_reduce_64 rfl ?_
    refine r_idiv X dX7_reduce_65 ⟨by omega, by omega⟩ ⟨by omega, by omega⟩ ?_
    refine r_callV X dX7_reduce_66 kX7_60 hm7.1 (c_X7_hold (CX_l X) D z0 _ hm7 ht p (a / (gcd3 a b c)) (b / (gcd3 a b c)) (c / (gcd3 a b c)) (by omega) ⟨by omega, by omega⟩ ⟨by omega, by omega⟩ ⟨by omega, by omega⟩) [] rfl rfl (Nat.le_of_ble_eq_true rfl) (by decide) (by decide) (fun _ _ z => z.elim) (fun v9 hq66 hv9 => ?_)
    obtain ⟨rfl, hm66, kp66⟩ := hv9
    have ht66 : TVs (up σ p.toNat (st3 (a / (gcd3 a b c)) (b / (gcd3 a b c)) (c / (gcd3 a b c)))) := TVs_up (x := mn3 (a / (gcd3 a b c)) (b / (gcd3 a b c)) (c / (gcd3 a b c))) (y := md3 (a / (gcd3 a b c)) (b / (gcd3 a b c)) (c / (gcd3 a b c))) (z := mx3 (a / (gcd3 a b c)) (b / (gcd3 a b c)) (c / (gcd3 a b c))) ht p.toNat (by rw [(st_TV hrf).1, (st_TV hrf).2.1, (st_TV hrf).2.2]; exact hrf)
    show WW K D z0 3 hq66 0 0 69 [(2, iv (gcd3 a b c)), (0, .ref y), (1, iv p)] []
    refine r_iload_n 0 X dX7_reduce_69 rfl ?_
    refine r_iret X Y dX7_reduce_70 (by decide) (by decide) ?_
    have e3 : (onT σ p (fun a b c => st3 (a / gcd3 a b c) (b / gcd3 a b c) (c / gcd3 a b c))) = st3 (a / gcd3 a b c) (b / gcd3 a b c) (c / gcd3 a b c) := onT_s hs
    rw [← e3] at hm66
    exact MO_k rfl (by omega) (by rw [on_s hs]) hm66 (Keep_tr kp7 kp66)
  · refine r_iconst X dX7_reduce_13 ?_
    refine r_iret X Y dX7_reduce_14 (by decide) (by decide) ?_
    exact MO_w rfl (by first | decide | omega) hm7 kp7
abbrev rX7_angle : Room := { frames := 3, cells := 0, slots := 0, locals := 67 }
theorem c_X7_angle {l : Launch} (hl : l.stackTraces = false) (D : va_G) (z0 : Nat) (h : Hp) {y : Nat} {v : Nat → Nat} {σ : Tg} {e1 e2 e3 od : Nat → Int} {lc oc tc hi lo rf sq : Int} (hm : Mz D h y v (fA σ) (fB σ) (fC σ) e1 e2 e3 od lc oc tc hi lo rf sq) (ht : TVs σ) (p : Int) (hp0 : I32 p) (w : Int) (hw : I32 w) : CC l yX7_angle cX7_angle 11 (some .int) rX7_angle D z0 h [.ref y, iv p, iv w] (MO D y v σ σ e1 e2 e3 od lc oc (cdSd σ p w) (iv (on σ p (fun a b c => deg a b c w))) (iv 0) h) NX := by
  refine CC_of RX7 hl (by decide) rfl (Nat.le_of_ble_eq_true rfl) (fun K X Y Z hmn hKl => ?_)
  subst hKl
  show WW K D z0 11 h 0 0 0 [(0, .ref y), (1, iv p), (2, iv w)] []
  refine r_aload_n 0 X dX7_angle_0 rfl ?_
  refine r_iload_n 2 X dX7_angle_1 rfl ?_
  refine r_i2l X dX7_angle_2 ⟨by omega, by omega⟩ ?_
  refine r_lconst 0 X dX7_angle_3 (by decide) ?_
  refine r_ldc2 2 X dX7_angle_4 nX7_71 (by decide) ?_
  refine r_callS_v X dX7_angle_7 kX7_37 (c_X7_isBetween (CX_l X) D z0 _ w 0 2 ⟨by omega, by omega⟩ ⟨by omega, by omega⟩ ⟨by omega, by omega⟩) [.ref y] rfl rfl (Nat.le_of_ble_eq_true rfl) (by decide) rfl rfl (by decide) ?_
  refine r_ifb_ne 17 X dX7_angle_10 (by decide) (fun c10 => ?_) (fun c10 => ?_)
  · refine r_aload_n 0 X dX7_angle_17 rfl ?_
    refine r_iload_n 1 X dX7_angle_18 rfl ?_
    refine r_iconst X dX7_angle_19 ?_
    refine r_callV_v X dX7_angle_20 kX7_68 hm.1 (c_X7_missing (CX_l X) D z0 _ hm ht p 2 ⟨by omega, by omega⟩) [.ref y] rfl rfl (Nat.le_of_ble_eq_true rfl) (by decide) rfl rfl (by decide) ?_
    refine r_callV X dX7_angle_23 kX7_57 hm.1 (c_X7_isWrong (CX_l X) D z0 _ hm (ms σ p 2) (ms_b ⟨by decide, by decide⟩)) [] rfl rfl (Nat.le_of_ble_eq_true rfl) (by decide) (by decide) (fun _ _ z => z.elim) (fun v9 hq23 hv9 => ?_)
    obtain ⟨rfl, hm23, kp23⟩ := hv9
    show WW K D z0 11 hq23 0 0 26 [(0, .ref y), (1, iv p), (2, iv w)] [iv (if (ms σ p 2) ≠ 0 then 1 else 0)]
    refine r_ifb_eq 31 X dX7_angle_26 (by decide) (fun c26 => ?_) (fun c26 => ?_)
    · have hcd : ms σ p 2 = 0 := by omega
      obtain ⟨hp_p, a, b, c, hs⟩ := ms_0 (by decide) hcd
      have hv := ht p.toNat (by omega) a b c hs
      have hb := TV_b hv
      have hl0 := ln_b hv 0
      have hl1 := ln_b hv 1
      have hl2 := ln_b hv 2
      have hlw := ln_b hv w
      refine r_aload_n 0 X dX7_angle_31 rfl ?_
      refine r_iload_n 1 X dX7_angle_32 rfl ?_
      refine r_iload_n 2 X dX7_angle_33 rfl ?_
      refine r_if_ne 41 X dX7_angle_34 (by decide) ⟨by omega, by omega⟩ (fun c34 => ?_) (fun c34 => ?_)
      · refine r_iconst X dX7_angle_41 ?_
        refine r_callV_v X dX7_angle_42 kX7_73 hm23.1 (c_X7_sideOf (CX_l X) D z0 _ hm23 ht p (by omega) a b c hs 0) [] rfl rfl (Nat.le_of_ble_eq_true rfl) (by decide) rfl rfl (by decide) ?_
        refine r_i2l X dX7_angle_45 ⟨by omega, by omega⟩ ?_
        refine r_lstore_n (L' := [(3, jv (ln a b c 0)), (0, .ref y), (1, iv p), (2, iv w)]) X dX7_angle_46 (by decide) rfl ?_
        refine r_aload_n 1 X dX7_angle_47 rfl ?_
        refine r_iload_n 2 X dX7_angle_48 rfl ?_
        refine r_iload_n 3 X dX7_angle_49 rfl ?_
        refine r_iconst X dX7_angle_50 ?_
        refine r_icmp_ne 58 X dX7_angle_51 (by decide) ⟨by omega, by omega⟩ ⟨by omega, by omega⟩ (fun c51 => ?_) (fun c51 => ?_)
        · refine r_iconst X dX7_angle_58 ?_
          refine r_callV_v X dX7_angle_59 kX7_73 hm23.1 (c_X7_sideOf (CX_l X) D z0 _ hm23 ht p (by omega) a b c hs 2) [] rfl rfl (Nat.le_of_ble_eq_true rfl) (by decide) rfl rfl (by decide) ?_
          refine r_i2l X dX7_angle_62 ⟨by omega, by omega⟩ ?_
          refine r_lstore (L' := [(5, jv (ln a b c 2)), (3, jv (ln a b c 0)), (0, .ref y), (1, iv p), (2, iv w)]) X dX7_angle_63 (by decide) rfl ?_
          refine r_aload_n 2 X dX7_angle_65 rfl ?_
          refine r_iload_n 3 X dX7_angle_66 rfl ?_
          refine r_iload_n 4 X dX7_angle_67 rfl ?_
          refine r_callV_v X dX7_angle_68 kX7_73 hm23.1 (c_X7_sideOf (CX_l X) D z0 _ hm23 ht p (by omega) a b c hs w) [] rfl rfl (Nat.le_of_ble_eq_true rfl) (by decide) rfl rfl (by decide) ?_
          refine r_i2l X dX7_angle_71 ⟨by omega, by omega⟩ ?_
          refine r_lstore (L' := [(7, jv (ln a b c w)), (5, jv (ln a b c 2)), (3, jv (ln a b c 0)), (0, .ref y), (1, iv p), (2, iv w)]) X dX7_angle_72 (by decide) rfl ?_
          refine r_lload_n 2 X dX7_angle_74 rfl ?_
          refine r_lload_n 2 X dX7_angle_75 rfl ?_
          refine r_lmul X dX7_angle_76 ?_
          refine r_lload 1 X dX7_angle_77 rfl ?_
          refine r_lload 1 X dX7_angle_79 rfl ?_
          refine r_lmul X dX7_angle_81 ?_
          refine r_ladd X dX7_angle_82 ?_
          refine r_lload 0 X dX7_angle_83 rfl ?_
          refine r_lload 0 X dX7_angle_85 rfl ?_
          refine r_lmul X dX7_angle_87 ?_
          refine r_lsub X dX7_angle_88 ?_
          refine r_lstore (L' := [(9, jv ((((ln a b c 0) * (ln a b c 0)) + ((ln a b c 2) * (ln a b c 2))) - ((ln a b c w) * (ln a b c w)))), (7, jv (ln a b c w)), (5, jv (ln a b c 2)), (3, jv (ln a b c 0)), (0, .ref y), (1, iv p), (2, iv w)]) X dX7_angle_89 (by decide) rfl ?_
          have hlw := ln_b hv w
          have hlo := ln_b hv 0
          have hlt := ln_b hv 2
          have m1 := mlb (x := 65535) (y := 65535) (show 0 ≤ ln a b c 0 by omega) hlo.2 (show 0 ≤ ln a b c 2 by omega) hlt.2
          have m2 := mlb (x := 65535) (y := 65535) (show 0 ≤ ln a b c 0 by omega) hlo.2 (show 0 ≤ ln a b c 0 by omega) hlo.2
          have m3 := mlb (x := 65535) (y := 65535) (show 0 ≤ ln a b c 2 by omega) hlt.2 (show 0 ≤ ln a b c 2 by omega) hlt.2
          have m4 := mlb (x := 65535) (y := 65535) (show 0 ≤ ln a b c w by omega) hlw.2 (show 0 ≤ ln a b c w by omega) hlw.2
          have hpr : prd3 a b c w = (ln a b c 0) * (ln a b c 2) := by
            unfold prd3
            congr 2
            · split <;> omega
            · split <;> omega
          have hmo : (((ln a b c 0) * (ln a b c 0)) + ((ln a b c 2) * (ln a b c 2))) - ((ln a b c w) * (ln a b c w)) = sqb3 a b c w := by
            unfold sqb3
            have q1 : (ln a b c 0) * (ln a b c 0) + (ln a b c 2) * (ln a b c 2) + (ln a b c w) * (ln a b c w) = a * a + b * b + c * c := by
              rcases (show w = 0 ∨ w = 1 ∨ w = 2 by omega) with rfl | rfl | rfl
              all_goals first | (exfalso; omega) | (unfold ln; simp only [show (2 : Int) ≠ 0 from by decide, show (2 : Int) ≠ 1 from by decide, show (1 : Int) ≠ 0 from by decide, show (0 : Int) = 0 from rfl, show (1 : Int) = 1 from rfl, if_true, if_false, reduceIte]; done) | (unfold ln; simp only [show (2 : Int) ≠ 0 from by decide, show (2 : Int) ≠ 1 from by decide, show (1 : Int) ≠ 0 from by decide, show (0 : Int) = 0 from rfl, show (1 : Int) = 1 from rfl, if_true, if_false, reduceIte]; omega)
            have q2 : 2 * ln a b c w * ln a b c w = 2 * (ln a b c w * ln a b c w) := Int.mul_assoc _ _ _
            omega
          have hneg : -(ln a b c 0) * (ln a b c 2) = -((ln a b c 0) * (ln a b c 2)) := Int.neg_mul _ _
          refine WW_L (L' := [(9, jv (sqb3 a b c w)), (7, jv (ln a b c w)), (5, jv (ln a b c 2)), (3, jv (ln a b c 0)), (0, .ref y), (1, iv p), (2, iv w)]) (by rw [hmo]) ?_
          refine r_lload 0 X dX7_angle_91 rfl ?_
          refine r_lconst 0 X dX7_angle_93 (by decide) ?_
          refine r_lcmp_ne 103 X dX7_angle_94 dX7_angle_95 (by decide) ⟨by omega, by omega⟩ ⟨by omega, by omega⟩ (fun c94 => ?_) (fun c94 => ?_)
          · refine r_lload 0 X dX7_angle_103 rfl ?_
            refine r_lload_n 3 X dX7_angle_105 rfl ?_
            refine r_lload 2 X dX7_angle_106 rfl ?_
            refine r_lmul X dX7_angle_108 ?_
            refine r_lcmp_ne 118 X dX7_angle_109 dX7_angle_110 (by decide) ⟨by omega, by omega⟩ ⟨by omega, by omega⟩ (fun c109 => ?_) (fun c109 => ?_)
            · refine r_lload 0 X dX7_angle_118 rfl ?_
              refine r_lload_n 3 X dX7_angle_120 rfl ?_
              refine r_lneg X dX7_angle_121 ?_
              refine r_lload 2 X dX7_angle_122 rfl ?_
              refine r_lmul X dX7_angle_124 ?_
              refine r_lcmp_ne 134 X dX7_angle_125 dX7_angle_126 (by decide) ⟨by omega, by omega⟩ ⟨by omega, by omega⟩ (fun c125 => ?_) (fun c125 => ?_)
              · refine r_iconst X dX7_angle_134 ?_
                refine r_iret X Y dX7_angle_135 (by decide) (by decide) ?_
                exact MO_k (by unfold cdSd ms; (try simp only [on_s hs, hs, isNone_f, isNone_t, true_or, or_true, false_or, or_false]); (repeat' split) <;> first | rfl | omega | contradiction | (exfalso; simp_all; done) | (exfalso; simp_all; omega)) (by omega) (by rw [on_s hs]; exact congrArg iv (by unfold deg; rw [hpr]; split <;> (try split) <;> (try split) <;> omega)) hm23 kp23
              · refine r_bipush X dX7_angle_129 (by decide) ?_
                refine r_goto 135 X dX7_angle_131 (by decide) ?_
                refine r_iret X Y dX7_angle_135 (by decide) (by decide) ?_
                exact MO_k (by unfold cdSd ms; (try simp only [on_s hs, hs, isNone_f, isNone_t, true_or, or_true, false_or, or_false]); (repeat' split) <;> first | rfl | omega | contradiction | (exfalso; simp_all; done) | (exfalso; simp_all; omega)) (by omega) (by rw [on_s hs]; exact congrArg iv (by unfold deg; rw [hpr]; split <;> (try split) <;> (try split) <;> omega)) hm23 kp23
            · refine r_bipush X dX7_angle_113 (by decide) ?_
              refine r_goto 135 X dX7_angle_115 (by decide) ?_
              refine r_iret X Y dX7_angle_135 (by decide) (by decide) ?_
              exact MO_k (by unfold cdSd ms; (try simp only [on_s hs, hs, isNone_f, isNone_t, true_or, or_true, false_or, or_false]); (repeat' split) <;> first | rfl | omega | contradiction | (exfalso; simp_all; done) | (exfalso; simp_all; omega)) (by omega) (by rw [on_s hs]; exact congrArg iv (by unfold deg; rw [hpr]; split <;> (try split) <;> (try split) <;> omega)) hm23 kp23
          · refine r_bipush X dX7_angle_98 (by decide) ?_
            refine r_goto 135 X dX7_angle_100 (by decide) ?_
            refine r_iret X Y dX7_angle_135 (by decide) (by decide) ?_
            exact MO_k (by unfold cdSd ms; (try simp only [on_s hs, hs, isNone_f, isNone_t, true_or, or_true, false_or, or_false]); (repeat' split) <;> first | rfl | omega | contradiction | (exfalso; simp_all; done) | (exfalso; simp_all; omega)) (by omega) (by rw [on_s hs]; exact congrArg iv (by unfold deg; rw [hpr]; split <;> (try split) <;> (try split) <;> omega)) hm23 kp23
        · refine r_iconst X dX7_angle_54 ?_
          refine r_goto 59 X dX7_angle_55 (by decide) ?_
          refine r_callV_v X dX7_angle_59 kX7_73 hm23.1 (c_X7_sideOf (CX_l X) D z0 _ hm23 ht p (by omega) a b c hs 1) [] rfl rfl (Nat.le_of_ble_eq_true rfl) (by decide) rfl rfl (by decide) ?_
          refine r_i2l X dX7_angle_62 ⟨by omega, by omega⟩ ?_
          refine r_lstore (L' := [(5, jv (ln a b c 1)), (3, jv (ln a b c 0)), (0, .ref y), (1, iv p), (2, iv w)]) X dX7_angle_63 (by decide) rfl ?_
          refine r_aload_n 2 X dX7_angle_65 rfl ?_
          refine r_iload_n 3 X dX7_angle_66 rfl ?_
          refine r_iload_n 4 X dX7_angle_67 rfl ?_
          refine r_callV_v X dX7_angle_68 kX7_73 hm23.1 (c_X7_sideOf (CX_l X) D z0 _ hm23 ht p (by omega) a b c hs w) [] rfl rfl (Nat.le_of_ble_eq_true rfl) (by decide) rfl rfl (by decide) ?_
          refine r_i2l X dX7_angle_71 ⟨by omega, by omega⟩ ?_
          refine r_lstore (L' := [(7, jv (ln a b c w)), (5, jv (ln a b c 1)), (3, jv (ln a b c 0)), (0, .ref y), (1, iv p), (2, iv w)]) X dX7_angle_72 (by decide) rfl ?_
          refine r_lload_n 2 X dX7_angle_74 rfl ?_
          refine r_lload_n 2 X dX7_angle_75 rfl ?_
          refine r_lmul X dX7_angle_76 ?_
          refine r_lload 1 X dX7_angle_77 rfl ?_
          refine r_lload 1 X dX7_angle_79 rfl ?_
          refine r_lmul X dX7_angle_81 ?_
          refine r_ladd X dX7_angle_82 ?_
          refine r_lload 0 X dX7_angle_83 rfl ?_
          refine r_lload 0 X dX7_angle_85 rfl ?_
          refine r_lmul X dX7_angle_87 ?_
          refine r_lsub X dX7_angle_88 ?_
          refine r_lstore (L' := [(9, jv ((((ln a b c 0) * (ln a b c 0)) + ((ln a b c 1) * (ln a b c 1))) - ((ln a b c w) * (ln a b c w)))), (7, jv (ln a b c w)), (5, jv (ln a b c 1)), (3, jv (ln a b c 0)), (0, .ref y), (1, iv p), (2, iv w)]) X dX7_angle_89 (by decide) rfl ?_
          have hlw := ln_b hv w
          have hlo := ln_b hv 0
          have hlt := ln_b hv 1
          have m1 := mlb (x := 65535) (y := 65535) (show 0 ≤ ln a b c 0 by omega) hlo.2 (show 0 ≤ ln a b c 1 by omega) hlt.2
          have m2 := mlb (x := 65535) (y := 65535) (show 0 ≤ ln a b c 0 by omega) hlo.2 (show 0 ≤ ln a b c 0 by omega) hlo.2
          have m3 := mlb (x := 65535) (y := 65535) (show 0 ≤ ln a b c 1 by omega) hlt.2 (show 0 ≤ ln a b c 1 by omega) hlt.2
          have m4 := mlb (x := 65535) (y := 65535) (show 0 ≤ ln a b c w by omega) hlw.2 (show 0 ≤ ln a b c w by omega) hlw.2
          have hpr : prd3 a b c w = (ln a b c 0) * (ln a b c 1) := by
            unfold prd3
            congr 2
            · split <;> omega
            · split <;> omega
          have hmo : (((ln a b c 0) * (ln a b c 0)) + ((ln a b c 1) * (ln a b c 1))) - ((ln a b c w) * (ln a b c w)) = sqb3 a b c w := by
            unfold sqb3
            have q1 : (ln a b c 0) * (ln a b c 0) + (ln a b c 1) * (ln a b c 1) + (ln a b c w) * (ln a b c w) = a * a + b * b + c * c := by
              rcases (show w = 0 ∨ w = 1 ∨ w = 2 by omega) with rfl | rfl | rfl
              all_goals first | (exfalso; omega) | (unfold ln; simp only [show (2 : Int) ≠ 0 from by decide, show (2 : Int) ≠ 1 from by decide, show (1 : Int) ≠ 0 from by decide, show (0 : Int) = 0 from rfl, show (1 : Int) = 1 from rfl, if_true, if_false, reduceIte]; done) | (unfold ln; simp only [show (2 : Int) ≠ 0 from by decide, show (2 : Int) ≠ 1 from by decide, show (1 : Int) ≠ 0 from by decide, show (0 : Int) = 0 from rfl, show (1 : Int) = 1 from rfl, if_true, if_false, reduceIte]; omega)
            have q2 : 2 * ln a b c w * ln a b c w = 2 * (ln a b c w * ln a b c w) := Int.mul_assoc _ _ _
            omega
          have hneg : -(ln a b c 0) * (ln a b c 1) = -((ln a b c 0) * (ln a b c 1)) := Int.neg_mul _ _
          refine WW_L (L' := [(9, jv (sqb3 a b c w)), (7, jv (ln a b c w)), (5, jv (ln a b c 1)), (3, jv (ln a b c 0)), (0, .ref y), (1, iv p), (2, iv w)]) (by rw [hmo]) ?_
          refine r_lload 0 X dX7_angle_91 rfl ?_
          refine r_lconst 0 X dX7_angle_93 (by decide) ?_
          refine r_lcmp_ne 103 X dX7_angle_94 dX7_angle_95 (by decide) ⟨by omega, by omega⟩ ⟨by omega, by omega⟩ (fun c94 => ?_) (fun c94 => ?_)
          · refine r_lload 0 X dX7_angle_103 rfl ?_
            refine r_lload_n 3 X dX7_angle_105 rfl ?_
            refine r_lload 2 X dX7_angle_106 rfl ?_
            refine r_lmul X dX7_angle_108 ?_
            refine r_lcmp_ne 118 X dX7_angle_109 dX7_angle_110 (by decide) ⟨by omega, by omega⟩ ⟨by omega, by omega⟩ (fun c109 => ?_) (fun c109 => ?_)
            · refine r_lload 0 X dX7_angle_118 rfl ?_
              refine r_lload_n 3 X dX7_angle_120 rfl ?_
              refine r_lneg X dX7_angle_121 ?_
              refine r_lload 2 X dX7_angle_122 rfl ?_
              refine r_lmul X dX7_angle_124 ?_
              refine r_lcmp_ne 134 X dX7_angle_125 dX7_angle_126 (by decide) ⟨by omega, by omega⟩ ⟨by omega, by omega⟩ (fun c125 => ?_) (fun c125 => ?_)
              · refine r_iconst X dX7_angle_134 ?_
                refine r_iret X Y dX7_angle_135 (by decide) (by decide) ?_
                exact MO_k (by unfold cdSd ms; (try simp only [on_s hs, hs, isNone_f, isNone_t, true_or, or_true, false_or, or_false]); (repeat' split) <;> first | rfl | omega | contradiction | (exfalso; simp_all; done) | (exfalso; simp_all; omega)) (by omega) (by rw [on_s hs]; exact congrArg iv (by unfold deg; rw [hpr]; split <;> (try split) <;> (try split) <;> omega)) hm23 kp23
              · refine r_bipush X dX7_angle_129 (by decide) ?_
                refine r_goto 135 X dX7_angle_131 (by decide) ?_
                refine r_iret X Y dX7_angle_135 (by decide) (by decide) ?_
                exact MO_k (by unfold cdSd ms; (try simp only [on_s hs, hs, isNone_f, isNone_t, true_or, or_true, false_or, or_false]); (repeat' split) <;> first | rfl | omega | contradiction | (exfalso; simp_all; done) | (exfalso; simp_all; omega)) (by omega) (by rw [on_s hs]; exact congrArg iv (by unfold deg; rw [hpr]; split <;> (try split) <;> (try split) <;> omega)) hm23 kp23
            · refine r_bipush X dX7_angle_113 (by decide) ?_
              refine r_goto 135 X dX7_angle_115 (by decide) ?_
              refine r_iret X Y dX7_angle_135 (by decide) (by decide) ?_
              exact MO_k (by unfold cdSd ms; (try simp only [on_s hs, hs, isNone_f, isNone_t, true_or, or_true, false_or, or_false]); (repeat' split) <;> first | rfl | omega | contradiction | (exfalso; simp_all; done) | (exfalso; simp_all; omega)) (by omega) (by rw [on_s hs]; exact congrArg iv (by unfold deg; rw [hpr]; split <;> (try split) <;> (try split) <;> omega)) hm23 kp23
          · refine r_bipush X dX7_angle_98 (by decide) ?_
            refine r_goto 135 X dX7_angle_100 (by decide) ?_
            refine r_iret X Y dX7_angle_135 (by decide) (by decide) ?_
            exact MO_k (by unfold cdSd ms; (try simp only [on_s hs, hs, isNone_f, isNone_t, true_or, or_true, false_or, or_false]); (repeat' split) <;> first | rfl | omega | contradiction | (exfalso; simp_all; done) | (exfalso; simp_all; omega)) (by omega) (by rw [on_s hs]; exact congrArg iv (by unfold deg; rw [hpr]; split <;> (try split) <;> (try split) <;> omega)) hm23 kp23
      · refine r_iconst X dX7_angle_37 ?_
        refine r_goto 42 X dX7_angle_38 (by decide) ?_
        refine r_callV_v X dX7_angle_42 kX7_73 hm23.1 (c_X7_sideOf (CX_l X) D z0 _ hm23 ht p (by omega) a b c hs 1) [] rfl rfl (Nat.le_of_ble_eq_true rfl) (by decide) rfl rfl (by decide) ?_
        refine r_i2l X dX7_angle_45 ⟨by omega, by omega⟩ ?_
        refine r_lstore_n (L' := [(3, jv (ln a b c 1)), (0, .ref y), (1, iv p), (2, iv w)]) X dX7_angle_46 (by decide) rfl ?_
        refine r_aload_n 1 X dX7_angle_47 rfl ?_
        refine r_iload_n 2 X dX7_angle_48 rfl ?_
        refine r_iload_n 3 X dX7_angle_49 rfl ?_
        refine r_iconst X dX7_angle_50 ?_
        refine r_icmp_ne 58 X dX7_angle_51 (by decide) ⟨by omega, by omega⟩ ⟨by omega, by omega⟩ (fun c51 => ?_) (fun c51 => ?_)
        · refine r_iconst X dX7_angle_58 ?_
          refine r_callV_v X dX7_angle_59 kX7_73 hm23.1 (c_X7_sideOf (CX_l X) D z0 _ hm23 ht p (by omega) a b c hs 2) [] rfl rfl (Nat.le_of_ble_eq_true rfl) (by decide) rfl rfl (by decide) ?_
          refine r_i2l X dX7_angle_62 ⟨by omega, by omega⟩ ?_
          refine r_lstore (L' := [(5, jv (ln a b c 2)), (3, jv (ln a b c 1)), (0, .ref y), (1, iv p), (2, iv w)]) X dX7_angle_63 (by decide) rfl ?_
          refine r_aload_n 2 X dX7_angle_65 rfl ?_
          refine r_iload_n 3 X dX7_angle_66 rfl ?_
          refine r_iload_n 4 X dX7_angle_67 rfl ?_
          refine r_callV_v X dX7_angle_68 kX7_73 hm23.1 (c_X7_sideOf (CX_l X) D z0 _ hm23 ht p (by omega) a b c hs w) [] rfl rfl (Nat.le_of_ble_eq_true rfl) (by decide) rfl rfl (by decide) ?_
          refine r_i2l X dX7_angle_71 ⟨by omega, by omega⟩ ?_
          refine r_lstore (L' := [(7, jv (ln a b c w)), (5, jv (ln a b c 2)), (3, jv (ln a b c 1)), (0, .ref y), (1, iv p), (2, iv w)]) X dX7_angle_72 (by decide) rfl ?_
          refine r_lload_n 2 X dX7_angle_74 rfl ?_
          refine r_lload_n 2 X dX7_angle_75 rfl ?_
          refine r_lmul X dX7_angle_76 ?_
          refine r_lload 1 X dX7_angle_77 rfl ?_
          refine r_lload 1 X dX7_angle_79 rfl ?_
          refine r_lmul X dX7_angle_81 ?_
          refine r_ladd X dX7_angle_82 ?_
          refine r_lload 0 X dX7_angle_83 rfl ?_
          refine r_lload 0 X dX7_angle_85 rfl ?_
          refine r_lmul X dX7_angle_87 ?_
          refine r_lsub X dX7_angle_88 ?_
          refine r_lstore (L' := [(9, jv ((((ln a b c 1) * (ln a b c 1)) + ((ln a b c 2) * (ln a b c 2))) - ((ln a b c w) * (ln a b c w)))), (7, jv (ln a b c w)), (5, jv (ln a b c 2)), (3, jv (ln a b c 1)), (0, .ref y), (1, iv p), (2, iv w)]) X dX7_angle_89 (by decide) rfl ?_
          have hlw := ln_b hv w
          have hlo := ln_b hv 1
          have hlt := ln_b hv 2
          have m1 := mlb (x := 65535) (y := 65535) (show 0 ≤ ln a b c 1 by omega) hlo.2 (show 0 ≤ ln a b c 2 by omega) hlt.2
          have m2 := mlb (x := 65535) (y := 65535) (show 0 ≤ ln a b c 1 by omega) hlo.2 (show 0 ≤ ln a b c 1 by omega) hlo.2
          have m3 := mlb (x := 65535) (y := 65535) (show 0 ≤ ln a b c 2 by omega) hlt.2 (show 0 ≤ ln a b c 2 by omega) hlt.2
          have m4 := mlb (x := 65535) (y := 65535) (show 0 ≤ ln a b c w by omega) hlw.2 (show 0 ≤ ln a b c w by omega) hlw.2
          have hpr : prd3 a b c w = (ln a b c 1) * (ln a b c 2) := by
            unfold prd3
            congr 2
            · split <;> omega
            · split <;> omega
          have hmo : (((ln a b c 1) * (ln a b c 1)) + ((ln a b c 2) * (ln a b c 2))) - ((ln a b c w) * (ln a b c w)) = sqb3 a b c w := by
            unfold sqb3
            have q1 : (ln a b c 1) * (ln a b c 1) + (ln a b c 2) * (ln a b c 2) + (ln a b c w) * (ln a b c w) = a * a + b * b + c * c := by
              rcases (show w = 0 ∨ w = 1 ∨ w = 2 by omega) with rfl | rfl | rfl
              all_goals first | (exfalso; omega) | (unfold ln; simp only [show (2 : Int) ≠ 0 from by decide, show (2 : Int) ≠ 1 from by decide, show (1 : Int) ≠ 0 from by decide, show (0 : Int) = 0 from rfl, show (1 : Int) = 1 from rfl, if_true, if_false, reduceIte]; done) | (unfold ln; simp only [show (2 : Int) ≠ 0 from by decide, show (2 : Int) ≠ 1 from by decide, show (1 : Int) ≠ 0 from by decide, show (0 : Int) = 0 from rfl, show (1 : Int) = 1 from rfl, if_true, if_false, reduceIte]; omega)
            have q2 : 2 * ln a b c w * ln a b c w = 2 * (ln a b c w * ln a b c w) := Int.mul_assoc _ _ _
            omega
          have hneg : -(ln a b c 1) * (ln a b c 2) = -((ln a b c 1) * (ln a b c 2)) := Int.neg_mul _ _
          refine WW_L (L' := [(9, jv (sqb3 a b c w)), (7, jv (ln a b c w)), (5, jv (ln a b c 2)), (3, jv (ln a b c 1)), (0, .ref y), (1, iv p), (2, iv w)]) (by rw [hmo]) ?_
          refine r_lload 0 X dX7_angle_91 rfl ?_
          refine r_lconst 0 X dX7_angle_93 (by decide) ?_
          refine r_lcmp_ne 103 X dX7_angle_94 dX7_angle_95 (by decide) ⟨by omega, by omega⟩ ⟨by omega, by omega⟩ (fun c94 => ?_) (fun c94 => ?_)
          · refine r_lload 0 X dX7_angle_103 rfl ?_
            refine r_lload_n 3 X dX7_angle_105 rfl ?_
            refine r_lload 2 X dX7_angle_106 rfl ?_
            refine r_lmul X dX7_angle_108 ?_
            refine r_lcmp_ne 118 X dX7_angle_109 dX7_angle_110 (by decide) ⟨by omega, by omega⟩ ⟨by omega, by omega⟩ (fun c109 => ?_) (fun c109 => ?_)
            · refine r_lload 0 X dX7_angle_118 rfl ?_
              refine r_lload_n 3 X dX7_angle_120 rfl ?_
              refine r_lneg X dX7_angle_121 ?_
              refine r_lload 2 X dX7_angle_122 rfl ?_
              refine r_lmul X dX7_angle_124 ?_
              refine r_lcmp_ne 134 X dX7_angle_125 dX7_angle_126 (by decide) ⟨by omega, by omega⟩ ⟨by omega, by omega⟩ (fun c125 => ?_) (fun c125 => ?_)
              · refine r_iconst X dX7_angle_134 ?_
                refine r_iret X Y dX7_angle_135 (by decide) (by decide) ?_
                exact MO_k (by unfold cdSd ms; (try simp only [on_s hs, hs, isNone_f, isNone_t, true_or, or_true, false_or, or_false]); (repeat' split) <;> first | rfl | omega | contradiction | (exfalso; simp_all; done) | (exfalso; simp_all; omega)) (by omega) (by rw [on_s hs]; exact congrArg iv (by unfold deg; rw [hpr]; split <;> (try split) <;> (try split) <;> omega)) hm23 kp23
              · refine r_bipush X dX7_angle_129 (by decide) ?_
                refine r_goto 135 X dX7_angle_131 (by decide) ?_
                refine r_iret X Y dX7_angle_135 (by decide) (by decide) ?_
                exact MO_k (by unfold cdSd ms; (try simp only [on_s hs, hs, isNone_f, isNone_t, true_or, or_true, false_or, or_false]); (repeat' split) <;> first | rfl | omega | contradiction | (exfalso; simp_all; done) | (exfalso; simp_all; omega)) (by omega) (by rw [on_s hs]; exact congrArg iv (by unfold deg; rw [hpr]; split <;> (try split) <;> (try split) <;> omega)) hm23 kp23
            · refine r_bipush X dX7_angle_113 (by decide) ?_
              refine r_goto 135 X dX7_angle_115 (by decide) ?_
              refine r_iret X Y dX7_angle_135 (by decide) (by decide) ?_
              exact MO_k (by unfold cdSd ms; (try simp only [on_s hs, hs, isNone_f, isNone_t, true_or, or_true, false_or, or_false]); (repeat' split) <;> first | rfl | omega | contradiction | (exfalso; simp_all; done) | (exfalso; simp_all; omega)) (by omega) (by rw [on_s hs]; exact congrArg iv (by unfold deg; rw [hpr]; split <;> (try split) <;> (try split) <;> omega)) hm23 kp23
          · refine r_bipush X dX7_angle_98 (by decide) ?_
            refine r_goto 135 X dX7_angle_100 (by decide) ?_
            refine r_iret X Y dX7_angle_135 (by decide) (by decide) ?_
            exact MO_k (by unfold cdSd ms; (try simp only [on_s hs, hs, isNone_f, isNone_t, true_or, or_true, false_or, or_false]); (repeat' split) <;> first | rfl | omega | contradiction | (exfalso; simp_all; done) | (exfalso; simp_all; omega)) (by omega) (by rw [on_s hs]; exact congrArg iv (by unfold deg; rw [hpr]; split <;> (try split) <;> (try split) <;> omega)) hm23 kp23
        · refine r_iconst X dX7_angle_54 ?_
          refine r_goto 59 X dX7_angle_55 (by decide) ?_
          refine r_callV_v X dX7_angle_59 kX7_73 hm23.1 (c_X7_sideOf (CX_l X) D z0 _ hm23 ht p (by omega) a b c hs 1) [] rfl rfl (Nat.le_of_ble_eq_true rfl) (by decide) rfl rfl (by decide) ?_
          refine r_i2l X dX7_angle_62 ⟨by omega, by omega⟩ ?_
          refine r_lstore (L' := [(5, jv (ln a b c 1)), (3, jv (ln a b c 1)), (0, .ref y), (1, iv p), (2, iv w)]) X dX7_angle_63 (by decide) rfl ?_
          refine r_aload_n 2 X dX7_angle_65 rfl ?_
          refine r_iload_n 3 X dX7_angle_66 rfl ?_
          refine r_iload_n 4 X dX7_angle_67 rfl ?_
          refine r_callV_v X dX7_angle_68 kX7_73 hm23.1 (c_X7_sideOf (CX_l X) D z0 _ hm23 ht p (by omega) a b c hs w) [] rfl rfl (Nat.le_of_ble_eq_true rfl) (by decide) rfl rfl (by decide) ?_
          refine r_i2l X dX7_angle_71 ⟨by omega, by omega⟩ ?_
          refine r_lstore (L' := [(7, jv (ln a b c w)), (5, jv (ln a b c 1)), (3, jv (ln a b c 1)), (0, .ref y), (1, iv p), (2, iv w)]) X dX7_angle_72 (by decide) rfl ?_
          refine r_lload_n 2 X dX7_angle_74 rfl ?_
          refine r_lload_n 2 X dX7_angle_75 rfl ?_
          refine r_lmul X dX7_angle_76 ?_
          refine r_lload 1 X dX7_angle_77 rfl ?_
          refine r_lload 1 X dX7_angle_79 rfl ?_
          refine r_lmul X dX7_angle_81 ?_
          refine r_ladd X dX7_angle_82 ?_
          refine r_lload 0 X dX7_angle_83 rfl ?_
          refine r_lload 0 X dX7_angle_85 rfl ?_
          refine r_lmul X dX7_angle_87 ?_
          refine r_lsub X dX7_angle_88 ?_
          refine r_lstore (L' := [(9, jv ((((ln a b c 1) * (ln a b c 1)) + ((ln a b c 1) * (ln a b c 1))) - ((ln a b c w) * (ln a b c w)))), (7, jv (ln a b c w)), (5, jv (ln a b c 1)), (3, jv (ln a b c 1)), (0, .ref y), (1, iv p), (2, iv w)]) X dX7_angle_89 (by decide) rfl ?_
          have hlw := ln_b hv w
          have hlo := ln_b hv 1
          have hlt := ln_b hv 1
          have m1 := mlb (x := 65535) (y := 65535) (show 0 ≤ ln a b c 1 by omega) hlo.2 (show 0 ≤ ln a b c 1 by omega) hlt.2
          have m2 := mlb (x := 65535) (y := 65535) (show 0 ≤ ln a b c 1 by omega) hlo.2 (show 0 ≤ ln a b c 1 by omega) hlo.2
          have m3 := mlb (x := 65535) (y := 65535) (show 0 ≤ ln a b c 1 by omega) hlt.2 (show 0 ≤ ln a b c 1 by omega) hlt.2
          have m4 := mlb (x := 65535) (y := 65535) (show 0 ≤ ln a b c w by omega) hlw.2 (show 0 ≤ ln a b c w by omega) hlw.2
          have hpr : prd3 a b c w = (ln a b c 1) * (ln a b c 1) := by
            unfold prd3
            congr 2
            · split <;> omega
            · split <;> omega
          have hmo : (((ln a b c 1) * (ln a b c 1)) + ((ln a b c 1) * (ln a b c 1))) - ((ln a b c w) * (ln a b c w)) = sqb3 a b c w := by
            unfold sqb3
            have q1 : (ln a b c 1) * (ln a b c 1) + (ln a b c 1) * (ln a b c 1) + (ln a b c w) * (ln a b c w) = a * a + b * b + c * c := by
              rcases (show w = 0 ∨ w = 1 ∨ w = 2 by omega) with rfl | rfl | rfl
              all_goals first | (exfalso; omega) | (unfold ln; simp only [show (2 : Int) ≠ 0 from by decide, show (2 : Int) ≠ 1 from by decide, show (1 : Int) ≠ 0 from by decide, show (0 : Int) = 0 from rfl, show (1 : Int) = 1 from rfl, if_true, if_false, reduceIte]; done) | (unfold ln; simp only [show (2 : Int) ≠ 0 from by decide, show (2 : Int) ≠ 1 from by decide, show (1 : Int) ≠ 0 from by decide, show (0 : Int) = 0 from rfl, show (1 : Int) = 1 from rfl, if_true, if_false, reduceIte]; omega)
            have q2 : 2 * ln a b c w * ln a b c w = 2 * (ln a b c w * ln a b c w) := Int.mul_assoc _ _ _
            omega
          have hneg : -(ln a b c 1) * (ln a b c 1) = -((ln a b c 1) * (ln a b c 1)) := Int.neg_mul _ _
          refine WW_L (L' := [(9, jv (sqb3 a b c w)), (7, jv (ln a b c w)), (5, jv (ln a b c 1)), (3, jv (ln a b c 1)), (0, .ref y), (1, iv p), (2, iv w)]) (by rw [hmo]) ?_
          refine r_lload 0 X dX7_angle_91 rfl ?_
          refine r_lconst 0 X dX7_angle_93 (by decide) ?_
          refine r_lcmp_ne 103 X dX7_angle_94 dX7_angle_95 (by decide) ⟨by omega, by omega⟩ ⟨by omega, by omega⟩ (fun c94 => ?_) (fun c94 => ?_)
          · refine r_lload 0 X dX7_angle_103 rfl ?_
            refine r_lload_n 3 X dX7_angle_105 rfl ?_
            refine r_lload 2 X dX7_angle_106 rfl ?_
            refine r_lmul X dX7_angle_108 ?_
            refine r_lcmp_ne 118 X dX7_angle_109 dX7_angle_110 (by decide) ⟨by omega, by omega⟩ ⟨by omega, by omega⟩ (fun c109 => ?_) (fun c109 => ?_)
            · refine r_lload 0 X dX7_angle_118 rfl ?_
              refine r_lload_n 3 X dX7_angle_120 rfl ?_
              refine r_lneg X dX7_angle_121 ?_
              refine r_lload 2 X dX7_angle_122 rfl ?_
              refine r_lmul X dX7_angle_124 ?_
              refine r_lcmp_ne 134 X dX7_angle_125 dX7_angle_126 (by decide) ⟨by omega, by omega⟩ ⟨by omega, by omega⟩ (fun c125 => ?_) (fun c125 => ?_)
              · refine r_iconst X dX7_angle_134 ?_
                refine r_iret X Y dX7_angle_135 (by decide) (by decide) ?_
                exact MO_k (by unfold cdSd ms; (try simp only [on_s hs, hs, isNone_f, isNone_t, true_or, or_true, false_or, or_false]); (repeat' split) <;> first | rfl | omega | contradiction | (exfalso; simp_all; done) | (exfalso; simp_all; omega)) (by omega) (by rw [on_s hs]; exact congrArg iv (by unfold deg; rw [hpr]; split <;> (try split) <;> (try split) <;> omega)) hm23 kp23
              · refine r_bipush X dX7_angle_129 (by decide) ?_
                refine r_goto 135 X dX7_angle_131 (by decide) ?_
                refine r_iret X Y dX7_angle_135 (by decide) (by decide) ?_
                exact MO_k (by unfold cdSd ms; (try simp only [on_s hs, hs, isNone_f, isNone_t, true_or, or_true, false_or, or_false]); (repeat' split) <;> first | rfl | omega | contradiction | (exfalso; simp_all; done) | (exfalso; simp_all; omega)) (by omega) (by rw [on_s hs]; exact congrArg iv (by unfold deg; rw [hpr]; split <;> (try split) <;> (try split) <;> omega)) hm23 kp23
            · refine r_bipush X dX7_angle_113 (by decide) ?_
              refine r_goto 135 X dX7_angle_115 (by decide) ?_
              refine r_iret X Y dX7_angle_135 (by decide) (by decide) ?_
              exact MO_k (by unfold cdSd ms; (try simp only [on_s hs, hs, isNone_f, isNone_t, true_or, or_true, false_or, or_false]); (repeat' split) <;> first | rfl | omega | contradiction | (exfalso; simp_all; done) | (exfalso; simp_all; omega)) (by omega) (by rw [on_s hs]; exact congrArg iv (by unfold deg; rw [hpr]; split <;> (try split) <;> (try split) <;> omega)) hm23 kp23
          · refine r_bipush X dX7_angle_98 (by decide) ?_
            refine r_goto 135 X dX7_angle_100 (by decide) ?_
            refine r_iret X Y dX7_angle_135 (by decide) (by decide) ?_
            exact MO_k (by unfold cdSd ms; (try simp only [on_s hs, hs, isNone_f, isNone_t, true_or, or_true, false_or, or_false]); (repeat' split) <;> first | rfl | omega | contradiction | (exfalso; simp_all; done) | (exfalso; simp_all; omega)) (by omega) (by rw [on_s hs]; exact congrArg iv (by unfold deg; rw [hpr]; split <;> (try split) <;> (try split) <;> omega)) hm23 kp23
    · refine r_iconst X dX7_angle_29 ?_
      refine r_iret X Y dX7_angle_30 (by decide) (by decide) ?_
      exact MO_w (by unfold cdSd ms; (try simp only [isNone_f, isNone_t, true_or, or_true, false_or, or_false]); (repeat' split) <;> first | rfl | omega | contradiction | (exfalso; simp_all; done) | (exfalso; simp_all; omega)) (by first | decide | omega) hm23 kp23
  · refine r_iconst X dX7_angle_13 ?_
    refine r_goto 23 X dX7_angle_14 (by decide) ?_
    refine r_callV X dX7_angle_23 kX7_57 hm.1 (c_X7_isWrong (CX_l X) D z0 _ hm 1 ⟨by omega, by omega⟩) [] rfl rfl (Nat.le_of_ble_eq_true rfl) (by decide) (by decide) (fun _ _ z => z.elim) (fun v9 hq23 hv9 => ?_)
    obtain ⟨rfl, hm23, kp23⟩ := hv9
    show WW K D z0 11 hq23 0 0 26 [(0, .ref y), (1, iv p), (2, iv w)] [iv 1]
    refine r_if_eq 31 X dX7_angle_26 (by decide) ⟨by omega, by omega⟩ (fun c26 => ?_) (fun c26 => ?_)
    · exfalso
      omega
    · refine r_iconst X dX7_angle_29 ?_
      refine r_iret X Y dX7_angle_30 (by decide) (by decide) ?_
      exact MO_w (by unfold cdSd ms; (try simp only [isNone_f, isNone_t, true_or, or_true, false_or, or_false]); (repeat' split) <;> first | rfl | omega | contradiction | (exfalso; simp_all; done) | (exfalso; simp_all; omega)) (by first | decide | omega) hm23 kp23
abbrev rX7_shape : Room := { frames := 3, cells := 0, slots := 0, locals := 67 }
theorem c_X7_shape {l : Launch} (hl : l.stackTraces = false) (D : va_G) (z0 : Nat) (h : Hp) {y : Nat} {v : Nat → Nat} {σ : Tg} {e1 e2 e3 od : Nat → Int} {lc oc tc hi lo rf sq : Int} (hm : Mz D h y v (fA σ) (fB σ) (fC σ) e1 e2 e3 od lc oc tc hi lo rf sq) (ht : TVs σ) (p : Int) (hp0 : I32 p) : CC l yX7_shape cX7_shape 2 (some .float) rX7_shape D z0 h [.ref y, iv p] (MO D y v σ σ e1 e2 e3 od lc oc (ms σ p 2) (.float (fSh σ p)) (.float FP.fconst0) h) NX := by
  refine CC_of RX7 hl (by decide) rfl (Nat.le_of_ble_eq_true rfl) (fun K X Y Z hmn hKl => ?_)
  subst hKl
  show WW K D z0 2 h 0 0 0 [(0, .ref y), (1, iv p)] []
  refine r_aload_n 0 X dX7_shape_0 rfl ?_
  refine r_aload_n 0 X dX7_shape_1 rfl ?_
  refine r_iload_n 1 X dX7_shape_2 rfl ?_
  refine r_iconst X dX7_shape_3 ?_
  refine r_callV_v X dX7_shape_4 kX7_68 hm.1 (c_X7_missing (CX_l X) D z0 _ hm ht p 2 ⟨by omega, by omega⟩) [.ref y] rfl rfl (Nat.le_of_ble_eq_true rfl) (by decide) rfl rfl (by decide) ?_
  refine r_callV X dX7_shape_7 kX7_57 hm.1 (c_X7_isWrong (CX_l X) D z0 _ hm (ms σ p 2) (ms_b ⟨by decide, by decide⟩)) [] rfl rfl (Nat.le_of_ble_eq_true rfl) (by decide) (by decide) (fun _ _ z => z.elim) (fun v9 hq7 hv9 => ?_)
  obtain ⟨rfl, hm7, kp7⟩ := hv9
  show WW K D z0 2 hq7 0 0 10 [(0, .ref y), (1, iv p)] [iv (if (ms σ p 2) ≠ 0 then 1 else 0)]
  refine r_ifb_eq 17 X dX7_shape_10 (by decide) (fun c10 => ?_) (fun c10 => ?_)
  · have hcd : ms σ p 2 = 0 := by omega
    obtain ⟨hp_p, a, b, c, hs⟩ := ms_0 (by decide) hcd
    have hv := ht p.toNat (by omega) a b c hs
    have hb := TV_b hv
    refine r_aload_n 0 X dX7_shape_17 rfl ?_
    refine r_getf X dX7_shape_18 fX7_7 hm7.1 rfl ?_
    refine r_iload_n 1 X dX7_shape_21 rfl ?_
    refine r_ialoadE X dX7_shape_22 hm7.2.1 ⟨by omega, by omega⟩ (by decide) (fA_s hs) ?_
    refine r_i2f X dX7_shape_23 ?_
    refine r_aload_n 0 X dX7_shape_24 rfl ?_
    refine r_getf X dX7_shape_25 fX7_16 hm7.1 rfl ?_
    refine r_iload_n 1 X dX7_shape_28 rfl ?_
    refine r_ialoadE X dX7_shape_29 hm7.2.2.2.1 ⟨by omega, by omega⟩ (by decide) (fC_s hs) ?_
    refine r_i2f X dX7_shape_30 ?_
    refine r_fdiv (fQ a c) X dX7_shape_31 rfl (fQ_nn ⟨by omega, by omega⟩ ⟨by omega, by omega⟩) ?_
    refine r_fret X Y dX7_shape_32 (by decide) (by decide) ?_
    exact MO_k rfl (by omega) (congrArg Value.float (fSh_s hs).symm) hm7 kp7
  · refine r_fconst0 X dX7_shape_13 ?_
    refine r_goto 32 X dX7_shape_14 (by decide) ?_
    refine r_fret X Y dX7_shape_32 (by decide) (by decide) ?_
    exact MO_w rfl (by first | decide | omega) hm7 kp7
abbrev rX7_isTrue : Room := { frames := 3, cells := 0, slots := 0, locals := 67 }
theorem c_X7_isTrue {l : Launch} (hl : l.stackTraces = false) (D : va_G) (z0 : Nat) (h : Hp) {y : Nat} {v : Nat → Nat} {σ : Tg} {e1 e2 e3 od : Nat → Int} {lc oc tc hi lo rf sq : Int} (hm : Mz D h y v (fA σ) (fB σ) (fC σ) e1 e2 e3 od lc oc tc hi lo rf sq) (ht : TVs σ) (p : Int) (hp0 : I32 p) : CC l yX7_isTrue cX7_isTrue 2 (some .boolean) rX7_isTrue D z0 h [.ref y, iv p] (MO D y v σ σ e1 e2 e3 od lc oc (ms σ p 2) (iv 1) (iv 0) h) NX := by
  refine CC_of RX7 hl (by decide) rfl (Nat.le_of_ble_eq_true rfl) (fun K X Y Z hmn hKl => ?_)
  subst hKl
  show WW K D z0 2 h 0 0 0 [(0, .ref y), (1, iv p)] []
  refine r_aload_n 0 X dX7_isTrue_0 rfl ?_
  refine r_aload_n 0 X dX7_isTrue_1 rfl ?_
  refine r_iload_n 1 X dX7_isTrue_2 rfl ?_
  refine r_iconst X dX7_isTrue_3 ?_
  refine r_callV_v X dX7_isTrue_4 kX7_68 hm.1 (c_X7_missing (CX_l X) D z0 _ hm ht p 2 ⟨by omega, by omega⟩) [.ref y] rfl rfl (Nat.le_of_ble_eq_true rfl) (by decide) rfl rfl (by decide) ?_
  refine r_callV X dX7_isTrue_7 kX7_57 hm.1 (c_X7_isWrong (CX_l X) D z0 _ hm (ms σ p 2) (ms_b ⟨by decide, by decide⟩)) [] rfl rfl (Nat.le_of_ble_eq_true rfl) (by decide) (by decide) (fun _ _ z => z.elim) (fun v9 hq7 hv9 => ?_)
  obtain ⟨rfl, hm7, kp7⟩ := hv9
  show WW K D z0 2 hq7 0 0 10 [(0, .ref y), (1, iv p)] [iv (if (ms σ p 2) ≠ 0 then 1 else 0)]
  refine r_ifb_ne 17 X dX7_isTrue_10 (by decide) (fun c10 => ?_) (fun c10 => ?_)
  · refine r_iconst X dX7_isTrue_17 ?_
    refine r_zret X Y dX7_isTrue_18 (Or.inl rfl) (by decide) (by decide) ?_
    exact MO_w rfl (by first | decide | omega) hm7 kp7
  · refine r_iconst X dX7_isTrue_13 ?_
    refine r_goto 18 X dX7_isTrue_14 (by decide) ?_
    refine r_zret X Y dX7_isTrue_18 (Or.inr rfl) (by decide) (by decide) ?_
    exact MO_k rfl (by omega) rfl hm7 kp7
abbrev rX7_rootIsTrue : Room := { frames := 1, cells := 0, slots := 0, locals := 25 }
theorem c_X7_rootIsTrue {l : Launch} (hl : l.stackTraces = false) (D : va_G) (z0 : Nat) (h : Hp) {y : Nat} {v : Nat → Nat} {σ : Tg} {e1 e2 e3 od : Nat → Int} {lc oc tc hi lo rf sq : Int} (hm : Mz D h y v (fA σ) (fB σ) (fC σ) e1 e2 e3 od lc oc tc hi lo rf sq) (ht : TVs σ) (p : Int) (hp0 : I64 p) : CC l yX7_rootIsTrue cX7_rootIsTrue 3 (some .boolean) rX7_rootIsTrue D z0 h [.ref y, jv p] (MO D y v σ σ e1 e2 e3 od lc oc (cdRo p) (iv 1) (iv 0) h) NX := by
  refine CC_of RX7 hl (by decide) rfl (Nat.le_of_ble_eq_true rfl) (fun K X Y Z hmn hKl => ?_)
  subst hKl
  show WW K D z0 3 h 0 0 0 [(0, .ref y), (1, jv p)] []
  refine r_aload_n 0 X dX7_rootIsTrue_0 rfl ?_
  refine r_lload_n 1 X dX7_rootIsTrue_1 rfl ?_
  refine r_lconst 0 X dX7_rootIsTrue_2 (by decide) ?_
  refine r_ldc2 8589672450 X dX7_rootIsTrue_3 nX7_152 (by decide) ?_
  refine r_callS_v X dX7_rootIsTrue_6 kX7_37 (c_X7_isBetween (CX_l X) D z0 _ p 0 8589672450 ⟨by omega, by omega⟩ ⟨by omega, by omega⟩ ⟨by omega, by omega⟩) [.ref y] rfl rfl (Nat.le_of_ble_eq_true rfl) (by decide) rfl rfl (by decide) ?_
  refine r_ifb_eq 16 X dX7_rootIsTrue_9 (by decide) (fun c9 => ?_) (fun c9 => ?_)
  · refine r_iconst X dX7_rootIsTrue_16 ?_
    refine r_callV X dX7_rootIsTrue_17 kX7_57 hm.1 (c_X7_isWrong (CX_l X) D z0 _ hm 1 ⟨by omega, by omega⟩) [] rfl rfl (Nat.le_of_ble_eq_true rfl) (by decide) (by decide) (fun _ _ z => z.elim) (fun v9 hq17 hv9 => ?_)
    obtain ⟨rfl, hm17, kp17⟩ := hv9
    show WW K D z0 3 hq17 0 0 20 [(0, .ref y), (1, jv p)] [iv 1]
    refine r_if_ne 27 X dX7_rootIsTrue_20 (by decide) ⟨by omega, by omega⟩ (fun c20 => ?_) (fun c20 => ?_)
    · refine r_iconst X dX7_rootIsTrue_27 ?_
      refine r_zret X Y dX7_rootIsTrue_28 (Or.inl rfl) (by decide) (by decide) ?_
      exact MO_w (by unfold cdRo; (try simp only [isNone_f, isNone_t, true_or, or_true, false_or, or_false]); (repeat' split) <;> first | rfl | omega | contradiction | (exfalso; simp_all; done) | (exfalso; simp_all; omega)) (by first | decide | omega) hm17 kp17
    · exfalso
      omega
  · refine r_iconst X dX7_rootIsTrue_12 ?_
    refine r_goto 17 X dX7_rootIsTrue_13 (by decide) ?_
    refine r_callV X dX7_rootIsTrue_17 kX7_57 hm.1 (c_X7_isWrong (CX_l X) D z0 _ hm 0 ⟨by omega, by omega⟩) [] rfl rfl (Nat.le_of_ble_eq_true rfl) (by decide) (by decide) (fun _ _ z => z.elim) (fun v9 hq17 hv9 => ?_)
    obtain ⟨rfl, hm17, kp17⟩ := hv9
    show WW K D z0 3 hq17 0 0 20 [(0, .ref y), (1, jv p)] [iv 0]
    refine r_if_ne 27 X dX7_rootIsTrue_20 (by decide) ⟨by omega, by omega⟩ (fun c20 => ?_) (fun c20 => ?_)
    · exfalso
      omega
    · refine r_iconst X dX7_rootIsTrue_23 ?_
      refine r_goto 28 X dX7_rootIsTrue_24 (by decide) ?_
      refine r_zret X Y dX7_rootIsTrue_28 (Or.inr rfl) (by decide) (by decide) ?_
      exact MO_k (by unfold cdRo; (try simp only [isNone_f, isNone_t, true_or, or_true, false_or, or_false]); (repeat' split) <;> first | rfl | omega | contradiction | (exfalso; simp_all; done) | (exfalso; simp_all; omega)) rfl rfl hm17 kp17
abbrev rX7_hypotIsTrue : Room := { frames := 1, cells := 0, slots := 0, locals := 25 }
theorem c_X7_hypotIsTrue {l : Launch} (hl : l.stackTraces = false) (D : va_G) (z0 : Nat) (h : Hp) {y : Nat} {v : Nat → Nat} {σ : Tg} {e1 e2 e3 od : Nat → Int} {lc oc tc hi lo rf sq : Int} (hm : Mz D h y v (fA σ) (fB σ) (fC σ) e1 e2 e3 od lc oc tc hi lo rf sq) (ht : TVs σ) (a b : Int) (ha : I32 a) (hb : I32 b) : CC l yX7_hypotIsTrue cX7_hypotIsTrue 3 (some .boolean) rX7_hypotIsTrue D z0 h [.ref y, iv a, iv b] (MO D y v σ σ e1 e2 e3 od lc oc (cdHt a b) (iv 1) (iv 0) h) NX := by
  refine CC_of RX7 hl (by decide) rfl (Nat.le_of_ble_eq_true rfl) (fun K X Y Z hmn hKl => ?_)
  subst hKl
  show WW K D z0 3 h 0 0 0 [(0, .ref y), (1, iv a), (2, iv b)] []
  refine r_aload_n 0 X dX7_hypotIsTrue_0 rfl ?_
  refine r_iload_n 1 X dX7_hypotIsTrue_1 rfl ?_
  refine r_i2l X dX7_hypotIsTrue_2 ⟨by omega, by omega⟩ ?_
  refine r_lconst 0 X dX7_hypotIsTrue_3 (by decide) ?_
  refine r_ldc2 65535 X dX7_hypotIsTrue_4 nX7_55 (by decide) ?_
  refine r_callS_v X dX7_hypotIsTrue_7 kX7_37 (c_X7_isBetween (CX_l X) D z0 _ a 0 65535 ⟨by omega, by omega⟩ ⟨by omega, by omega⟩ ⟨by omega, by omega⟩) [.ref y] rfl rfl (Nat.le_of_ble_eq_true rfl) (by decide) rfl rfl (by decide) ?_
  refine r_ifb_eq 29 X dX7_hypotIsTrue_10 (by decide) (fun c10 => ?_) (fun c10 => ?_)
  · refine r_iconst X dX7_hypotIsTrue_29 ?_
    refine r_callV X dX7_hypotIsTrue_30 kX7_57 hm.1 (c_X7_isWrong (CX_l X) D z0 _ hm 1 ⟨by omega, by omega⟩) [] rfl rfl (Nat.le_of_ble_eq_true rfl) (by decide) (by decide) (fun _ _ z => z.elim) (fun v9 hq30 hv9 => ?_)
    obtain ⟨rfl, hm30, kp30⟩ := hv9
    show WW K D z0 3 hq30 0 0 33 [(0, .ref y), (1, iv a), (2, iv b)] [iv 1]
    refine r_if_ne 40 X dX7_hypotIsTrue_33 (by decide) ⟨by omega, by omega⟩ (fun c33 => ?_) (fun c33 => ?_)
    · refine r_iconst X dX7_hypotIsTrue_40 ?_
      refine r_zret X Y dX7_hypotIsTrue_41 (Or.inl rfl) (by decide) (by decide) ?_
      exact MO_w (by unfold cdHt; (try simp only [isNone_f, isNone_t, true_or, or_true, false_or, or_false]); (repeat' split) <;> first | rfl | omega | contradiction | (exfalso; simp_all; done) | (exfalso; simp_all; omega)) (by first | decide | omega) hm30 kp30
    · exfalso
      omega
  · refine r_iload_n 2 X dX7_hypotIsTrue_13 rfl ?_
    refine r_i2l X dX7_hypotIsTrue_14 ⟨by omega, by omega⟩ ?_
    refine r_lconst 0 X dX7_hypotIsTrue_15 (by decide) ?_
    refine r_ldc2 65535 X dX7_hypotIsTrue_16 nX7_55 (by decide) ?_
    refine r_callS_v X dX7_hypotIsTrue_19 kX7_37 (c_X7_isBetween (CX_l X) D z0 _ b 0 65535 ⟨by omega, by omega⟩ ⟨by omega, by omega⟩ ⟨by omega, by omega⟩) [.ref y] rfl rfl (Nat.le_of_ble_eq_true rfl) (by decide) rfl rfl (by decide) ?_
    refine r_ifb_eq 29 X dX7_hypotIsTrue_22 (by decide) (fun c22 => ?_) (fun c22 => ?_)
    · refine r_iconst X dX7_hypotIsTrue_29 ?_
      refine r_callV X dX7_hypotIsTrue_30 kX7_57 hm.1 (c_X7_isWrong (CX_l X) D z0 _ hm 1 ⟨by omega, by omega⟩) [] rfl rfl (Nat.le_of_ble_eq_true rfl) (by decide) (by decide) (fun _ _ z => z.elim) (fun v9 hq30 hv9 => ?_)
      obtain ⟨rfl, hm30, kp30⟩ := hv9
      show WW K D z0 3 hq30 0 0 33 [(0, .ref y), (1, iv a), (2, iv b)] [iv 1]
      refine r_if_ne 40 X dX7_hypotIsTrue_33 (by decide) ⟨by omega, by omega⟩ (fun c33 => ?_) (fun c33 => ?_)
      · refine r_iconst X dX7_hypotIsTrue_40 ?_
        refine r_zret X Y dX7_hypotIsTrue_41 (Or.inl rfl) (by decide) (by decide) ?_
        exact MO_w (by unfold cdHt; (try simp only [isNone_f, isNone_t, true_or, or_true, false_or, or_false]); (repeat' split) <;> first | rfl | omega | contradiction | (exfalso; simp_all; done) | (exfalso; simp_all; omega)) (by first | decide | omega) hm30 kp30
      · exfalso
        omega
    · refine r_iconst X dX7_hypotIsTrue_25 ?_
      refine r_goto 30 X dX7_hypotIsTrue_26 (by decide) ?_
      refine r_callV X dX7_hypotIsTrue_30 kX7_57 hm.1 (c_X7_isWrong (CX_l X) D z0 _ hm 0 ⟨by omega, by omega⟩) [] rfl rfl (Nat.le_of_ble_eq_true rfl) (by decide) (by decide) (fun _ _ z => z.elim) (fun v9 hq30 hv9 => ?_)
      obtain ⟨rfl, hm30, kp30⟩ := hv9
      show WW K D z0 3 hq30 0 0 33 [(0, .ref y), (1, iv a), (2, iv b)] [iv 0]
      refine r_if_ne 40 X dX7_hypotIsTrue_33 (by decide) ⟨by omega, by omega⟩ (fun c33 => ?_) (fun c33 => ?_)
      · exfalso
        omega
      · refine r_iconst X dX7_hypotIsTrue_36 ?_
        refine r_goto 41 X dX7_hypotIsTrue_37 (by decide) ?_
        refine r_zret X Y dX7_hypotIsTrue_41 (Or.inr rfl) (by decide) (by decide) ?_
        exact MO_k (by unfold cdHt; (try simp only [isNone_f, isNone_t, true_or, or_true, false_or, or_false]); (repeat' split) <;> first | rfl | omega | contradiction | (exfalso; simp_all; done) | (exfalso; simp_all; omega)) rfl rfl hm30 kp30
abbrev rX7_listIsTrue : Room := { frames := 1, cells := 0, slots := 0, locals := 25 }
theorem c_X7_listIsTrue {l : Launch} (hl : l.stackTraces = false) (D : va_G) (z0 : Nat) (h : Hp) {y : Nat} {v : Nat → Nat} {σ : Tg} {e1 e2 e3 od : Nat → Int} {lc oc tc hi lo rf sq : Int} (hm : Mz D h y v (fA σ) (fB σ) (fC σ) e1 e2 e3 od lc oc tc hi lo rf sq) (ht : TVs σ) (p : Int) (hp0 : I32 p) : CC l yX7_listIsTrue cX7_listIsTrue 2 (some .boolean) rX7_listIsTrue D z0 h [.ref y, iv p] (MO D y v σ σ e1 e2 e3 od lc oc (cdLt p) (iv 1) (iv 0) h) NX := by
  refine CC_of RX7 hl (by decide) rfl (Nat.le_of_ble_eq_true rfl) (fun K X Y Z hmn hKl => ?_)
  subst hKl
  show WW K D z0 2 h 0 0 0 [(0, .ref y), (1, iv p)] []
  refine r_aload_n 0 X dX7_listIsTrue_0 rfl ?_
  refine r_iload_n 1 X dX7_listIsTrue_1 rfl ?_
  refine r_i2l X dX7_listIsTrue_2 ⟨by omega, by omega⟩ ?_
  refine r_lconst 0 X dX7_listIsTrue_3 (by decide) ?_
  refine r_ldc2 400 X dX7_listIsTrue_4 nX7_176 (by decide) ?_
  refine r_callS_v X dX7_listIsTrue_7 kX7_37 (c_X7_isBetween (CX_l X) D z0 _ p 0 400 ⟨by omega, by omega⟩ ⟨by omega, by omega⟩ ⟨by omega, by omega⟩) [.ref y] rfl rfl (Nat.le_of_ble_eq_true rfl) (by decide) rfl rfl (by decide) ?_
  refine r_ifb_eq 17 X dX7_listIsTrue_10 (by decide) (fun c10 => ?_) (fun c10 => ?_)
  · refine r_iconst X dX7_listIsTrue_17 ?_
    refine r_callV X dX7_listIsTrue_18 kX7_57 hm.1 (c_X7_isWrong (CX_l X) D z0 _ hm 1 ⟨by omega, by omega⟩) [] rfl rfl (Nat.le_of_ble_eq_true rfl) (by decide) (by decide) (fun _ _ z => z.elim) (fun v9 hq18 hv9 => ?_)
    obtain ⟨rfl, hm18, kp18⟩ := hv9
    show WW K D z0 2 hq18 0 0 21 [(0, .ref y), (1, iv p)] [iv 1]
    refine r_if_ne 28 X dX7_listIsTrue_21 (by decide) ⟨by omega, by omega⟩ (fun c21 => ?_) (fun c21 => ?_)
    · refine r_iconst X dX7_listIsTrue_28 ?_
      refine r_zret X Y dX7_listIsTrue_29 (Or.inl rfl) (by decide) (by decide) ?_
      exact MO_w (by unfold cdLt; (try simp only [isNone_f, isNone_t, true_or, or_true, false_or, or_false]); (repeat' split) <;> first | rfl | omega | contradiction | (exfalso; simp_all; done) | (exfalso; simp_all; omega)) (by first | decide | omega) hm18 kp18
    · exfalso
      omega
  · refine r_iconst X dX7_listIsTrue_13 ?_
    refine r_goto 18 X dX7_listIsTrue_14 (by decide) ?_
    refine r_callV X dX7_listIsTrue_18 kX7_57 hm.1 (c_X7_isWrong (CX_l X) D z0 _ hm 0 ⟨by omega, by omega⟩) [] rfl rfl (Nat.le_of_ble_eq_true rfl) (by decide) (by decide) (fun _ _ z => z.elim) (fun v9 hq18 hv9 => ?_)
    obtain ⟨rfl, hm18, kp18⟩ := hv9
    show WW K D z0 2 hq18 0 0 21 [(0, .ref y), (1, iv p)] [iv 0]
    refine r_if_ne 28 X dX7_listIsTrue_21 (by decide) ⟨by omega, by omega⟩ (fun c21 => ?_) (fun c21 => ?_)
    · exfalso
      omega
    · refine r_iconst X dX7_listIsTrue_24 ?_
      refine r_goto 29 X dX7_listIsTrue_25 (by decide) ?_
      refine r_zret X Y dX7_listIsTrue_29 (Or.inr rfl) (by decide) (by decide) ?_
      exact MO_k (by unfold cdLt; (try simp only [isNone_f, isNone_t, true_or, or_true, false_or, or_false]); (repeat' split) <;> first | rfl | omega | contradiction | (exfalso; simp_all; done) | (exfalso; simp_all; omega)) rfl rfl hm18 kp18
abbrev rX7_countIsTrue : Room := { frames := 1, cells := 0, slots := 0, locals := 25 }
theorem c_X7_countIsTrue {l : Launch} (hl : l.stackTraces = false) (D : va_G) (z0 : Nat) (h : Hp) {y : Nat} {v : Nat → Nat} {σ : Tg} {e1 e2 e3 od : Nat → Int} {lc oc tc hi lo rf sq : Int} (hm : Mz D h y v (fA σ) (fB σ) (fC σ) e1 e2 e3 od lc oc tc hi lo rf sq) (ht : TVs σ) (p : Int) (hp0 : I32 p) : CC l yX7_countIsTrue cX7_countIsTrue 2 (some .boolean) rX7_countIsTrue D z0 h [.ref y, iv p] (MO D y v σ σ e1 e2 e3 od lc oc (cdCt p) (iv 1) (iv 0) h) NX := by
  refine CC_of RX7 hl (by decide) rfl (Nat.le_of_ble_eq_true rfl) (fun K X Y Z hmn hKl => ?_)
  subst hKl
  show WW K D z0 2 h 0 0 0 [(0, .ref y), (1, iv p)] []
  refine r_aload_n 0 X dX7_countIsTrue_0 rfl ?_
  refine r_iload_n 1 X dX7_countIsTrue_1 rfl ?_
  refine r_i2l X dX7_countIsTrue_2 ⟨by omega, by omega⟩ ?_
  refine r_lconst 1 X dX7_countIsTrue_3 (by decide) ?_
  refine r_ldc2 1000 X dX7_countIsTrue_4 nX7_181 (by decide) ?_
  refine r_callS_v X dX7_countIsTrue_7 kX7_37 (c_X7_isBetween (CX_l X) D z0 _ p 1 1000 ⟨by omega, by omega⟩ ⟨by omega, by omega⟩ ⟨by omega, by omega⟩) [.ref y] rfl rfl (Nat.le_of_ble_eq_true rfl) (by decide) rfl rfl (by decide) ?_
  refine r_ifb_eq 17 X dX7_countIsTrue_10 (by decide) (fun c10 => ?_) (fun c10 => ?_)
  · refine r_iconst X dX7_countIsTrue_17 ?_
    refine r_callV X dX7_countIsTrue_18 kX7_57 hm.1 (c_X7_isWrong (CX_l X) D z0 _ hm 1 ⟨by omega, by omega⟩) [] rfl rfl (Nat.le_of_ble_eq_true rfl) (by decide) (by decide) (fun _ _ z => z.elim) (fun v9 hq18 hv9 => ?_)
    obtain ⟨rfl, hm18, kp18⟩ := hv9
    show WW K D z0 2 hq18 0 0 21 [(0, .ref y), (1, iv p)] [iv 1]
    refine r_if_ne 28 X dX7_countIsTrue_21 (by decide) ⟨by omega, by omega⟩ (fun c21 => ?_) (fun c21 => ?_)
    · refine r_iconst X dX7_countIsTrue_28 ?_
      refine r_zret X Y dX7_countIsTrue_29 (Or.inl rfl) (by decide) (by decide) ?_
      exact MO_w (by unfold cdCt; (try simp only [isNone_f, isNone_t, true_or, or_true, false_or, or_false]); (repeat' split) <;> first | rfl | omega | contradiction | (exfalso; simp_all; done) | (exfalso; simp_all; omega)) (by first | decide | omega) hm18 kp18
    · exfalso
      omega
  · refine r_iconst X dX7_countIsTrue_13 ?_
    refine r_goto 18 X dX7_countIsTrue_14 (by decide) ?_
    refine r_callV X dX7_countIsTrue_18 kX7_57 hm.1 (c_X7_isWrong (CX_l X) D z0 _ hm 0 ⟨by omega, by omega⟩) [] rfl rfl (Nat.le_of_ble_eq_true rfl) (by decide) (by decide) (fun _ _ z => z.elim) (fun v9 hq18 hv9 => ?_)
    obtain ⟨rfl, hm18, kp18⟩ := hv9
    show WW K D z0 2 hq18 0 0 21 [(0, .ref y), (1, iv p)] [iv 0]
    refine r_if_ne 28 X dX7_countIsTrue_21 (by decide) ⟨by omega, by omega⟩ (fun c21 => ?_) (fun c21 => ?_)
    · exfalso
      omega
    · refine r_iconst X dX7_countIsTrue_24 ?_
      refine r_goto 29 X dX7_countIsTrue_25 (by decide) ?_
      refine r_zret X Y dX7_countIsTrue_29 (Or.inr rfl) (by decide) (by decide) ?_
      exact MO_k (by unfold cdCt; (try simp only [isNone_f, isNone_t, true_or, or_true, false_or, or_false]); (repeat' split) <;> first | rfl | omega | contradiction | (exfalso; simp_all; done) | (exfalso; simp_all; omega)) rfl rfl hm18 kp18
abbrev rX7_euclid : Room := { frames := 2, cells := 0, slots := 0, locals := 48 }
theorem c_X7_euclid {l : Launch} (hl : l.stackTraces = false) (D : va_G) (z0 : Nat) (h : Hp) {y : Nat} {v : Nat → Nat} {σ : Tg} {e1 e2 e3 od : Nat → Int} {lc oc tc hi lo rf sq : Int} (hm : Mz D h y v (fA σ) (fB σ) (fC σ) e1 e2 e3 od lc oc tc hi lo rf sq) (ht : TVs σ) (p : Int) (hp0 : I32 p) (m k : Int) (hm0 : I32 m) (hk0 : I32 k) : CC l yX7_euclid cX7_euclid 5 (some .int) rX7_euclid D z0 h [.ref y, iv p, iv m, iv k] (MO D y v σ (up σ p.toNat (st3 (m * m - k * k) (2 * m * k) (m * m + k * k))) e1 e2 e3 od lc oc (cdEu p m k) (iv (m * m + k * k)) (iv 0) h) NX := by
  refine CC_of RX7 hl (by decide) rfl (Nat.le_of_ble_eq_true rfl) (fun K X Y Z hmn hKl => ?_)
  subst hKl
  show WW K D z0 5 h 0 0 0 [(0, .ref y), (1, iv p), (2, iv m), (3, iv k)] []
  refine r_iload_n 2 X dX7_euclid_0 rfl ?_
  refine r_i2l X dX7_euclid_1 ⟨by omega, by omega⟩ ?_
  refine r_ldc2 2 X dX7_euclid_2 nX7_71 (by decide) ?_
  refine r_ldc2 255 X dX7_euclid_5 nX7_154 (by decide) ?_
  refine r_callS_v X dX7_euclid_8 kX7_37 (c_X7_isBetween (CX_l X) D z0 _ m 2 255 ⟨by omega, by omega⟩ ⟨by omega, by omega⟩ ⟨by omega, by omega⟩) [] rfl rfl (Nat.le_of_ble_eq_true rfl) (by decide) rfl rfl (by decide) ?_
  refine r_ifb_eq 31 X dX7_euclid_11 (by decide) (fun c11 => ?_) (fun c11 => ?_)
  · refine r_iconst X dX7_euclid_31 ?_
    refine r_istore (L' := [(4, iv 0), (0, .ref y), (1, iv p), (2, iv m), (3, iv k)]) X dX7_euclid_32 (by decide) rfl ?_
    refine r_aload_n 1 X dX7_euclid_34 rfl ?_
    refine r_iload_n 2 X dX7_euclid_35 rfl ?_
    refine r_callS_v X dX7_euclid_36 kX7_41 (c_X7_isPlace (CX_l X) D z0 _ p ⟨by omega, by omega⟩) [.ref y] rfl rfl (Nat.le_of_ble_eq_true rfl) (by decide) rfl rfl (by decide) ?_
    refine r_ifb_ne 46 X dX7_euclid_39 (by decide) (fun c39 => ?_) (fun c39 => ?_)
    · refine r_iload 0 X dX7_euclid_46 rfl ?_
      refine r_if_ne 55 X dX7_euclid_48 (by decide) ⟨by omega, by omega⟩ (fun c48 => ?_) (fun c48 => ?_)
      · exfalso
        omega
      · refine r_iconst X dX7_euclid_51 ?_
        refine r_goto 72 X dX7_euclid_52 (by decide) ?_
        refine r_callV X dX7_euclid_72 kX7_57 hm.1 (c_X7_isWrong (CX_l X) D z0 _ hm 2 ⟨by omega, by omega⟩) [] rfl rfl (Nat.le_of_ble_eq_true rfl) (by decide) (by decide) (fun _ _ z => z.elim) (fun v9 hq72 hv9 => ?_)
        obtain ⟨rfl, hm72, kp72⟩ := hv9
        show WW K D z0 5 hq72 0 0 75 [(4, iv 0), (0, .ref y), (1, iv p), (2, iv m), (3, iv k)] [iv 1]
        refine r_if_eq 80 X dX7_euclid_75 (by decide) ⟨by omega, by omega⟩ (fun c75 => ?_) (fun c75 => ?_)
        · exfalso
          omega
        · refine r_iconst X dX7_euclid_78 ?_
          refine r_iret X Y dX7_euclid_79 (by decide) (by decide) ?_
          exact MO_w (by unfold cdEu; (try simp only [isNone_f, isNone_t, true_or, or_true, false_or, or_false]); (repeat' split) <;> first | rfl | omega | contradiction | (exfalso; simp_all; done) | (exfalso; simp_all; omega)) (by first | decide | omega) hm72 kp72
    · refine r_iconst X dX7_euclid_42 ?_
      refine r_goto 72 X dX7_euclid_43 (by decide) ?_
      refine r_callV X dX7_euclid_72 kX7_57 hm.1 (c_X7_isWrong (CX_l X) D z0 _ hm 1 ⟨by omega, by omega⟩) [] rfl rfl (Nat.le_of_ble_eq_true rfl) (by decide) (by decide) (fun _ _ z => z.elim) (fun v9 hq72 hv9 => ?_)
      obtain ⟨rfl, hm72, kp72⟩ := hv9
      show WW K D z0 5 hq72 0 0 75 [(4, iv 0), (0, .ref y), (1, iv p), (2, iv m), (3, iv k)] [iv 1]
      refine r_if_eq 80 X dX7_euclid_75 (by decide) ⟨by omega, by omega⟩ (fun c75 => ?_) (fun c75 => ?_)
      · exfalso
        omega
      · refine r_iconst X dX7_euclid_78 ?_
        refine r_iret X Y dX7_euclid_79 (by decide) (by decide) ?_
        exact MO_w (by unfold cdEu; (try simp only [isNone_f, isNone_t, true_or, or_true, false_or, or_false]); (repeat' split) <;> first | rfl | omega | contradiction | (exfalso; simp_all; done) | (exfalso; simp_all; omega)) (by first | decide | omega) hm72 kp72
  · refine r_iload_n 3 X dX7_euclid_14 rfl ?_
    refine r_i2l X dX7_euclid_15 ⟨by omega, by omega⟩ ?_
    refine r_lconst 1 X dX7_euclid_16 (by decide) ?_
    refine r_iload_n 2 X dX7_euclid_17 rfl ?_
    refine r_i2l X dX7_euclid_18 ⟨by omega, by omega⟩ ?_
    refine r_lconst 1 X dX7_euclid_19 (by decide) ?_
    refine r_lsub X dX7_euclid_20 ?_
    refine r_callS_v X dX7_euclid_21 kX7_37 (c_X7_isBetween (CX_l X) D z0 _ k 1 (m - 1) ⟨by omega, by omega⟩ ⟨by omega, by omega⟩ ⟨by omega, by omega⟩) [] rfl rfl (Nat.le_of_ble_eq_true rfl) (by decide) rfl rfl (by decide) ?_
    refine r_ifb_eq 31 X dX7_euclid_24 (by decide) (fun c24 => ?_) (fun c24 => ?_)
    · refine r_iconst X dX7_euclid_31 ?_
      refine r_istore (L' := [(4, iv 0), (0, .ref y), (1, iv p), (2, iv m), (3, iv k)]) X dX7_euclid_32 (by decide) rfl ?_
      refine r_aload_n 1 X dX7_euclid_34 rfl ?_
      refine r_iload_n 2 X dX7_euclid_35 rfl ?_
      refine r_callS_v X dX7_euclid_36 kX7_41 (c_X7_isPlace (CX_l X) D z0 _ p ⟨by omega, by omega⟩) [.ref y] rfl rfl (Nat.le_of_ble_eq_true rfl) (by decide) rfl rfl (by decide) ?_
      refine r_ifb_ne 46 X dX7_euclid_39 (by decide) (fun c39 => ?_) (fun c39 => ?_)
      · refine r_iload 0 X dX7_euclid_46 rfl ?_
        refine r_if_ne 55 X dX7_euclid_48 (by decide) ⟨by omega, by omega⟩ (fun c48 => ?_) (fun c48 => ?_)
        · exfalso
          omega
        · refine r_iconst X dX7_euclid_51 ?_
          refine r_goto 72 X dX7_euclid_52 (by decide) ?_
          refine r_callV X dX7_euclid_72 kX7_57 hm.1 (c_X7_isWrong (CX_l X) D z0 _ hm 2 ⟨by omega, by omega⟩) [] rfl rfl (Nat.le_of_ble_eq_true rfl) (by decide) (by decide) (fun _ _ z => z.elim) (fun v9 hq72 hv9 => ?_)
          obtain ⟨rfl, hm72, kp72⟩ := hv9
          show WW K D z0 5 hq72 0 0 75 [(4, iv 0), (0, .ref y), (1, iv p), (2, iv m), (3, iv k)] [iv 1]
          refine r_if_eq 80 X dX7_euclid_75 (by decide) ⟨by omega, by omega⟩ (fun c75 => ?_) (fun c75 => ?_)
          · exfalso
            omega
          · refine r_iconst X dX7_euclid_78 ?_
            refine r_iret X Y dX7_euclid_79 (by decide) (by decide) ?_
            exact MO_w (by unfold cdEu; (try simp only [isNone_f, isNone_t, true_or, or_true, false_or, or_false]); (repeat' split) <;> first | rfl | omega | contradiction | (exfalso; simp_all; done) | (exfalso; simp_all; omega)) (by first | decide | omega) hm72 kp72
      · refine r_iconst X dX7_euclid_42 ?_
        refine r_goto 72 X dX7_euclid_43 (by decide) ?_
        refine r_callV X dX7_euclid_72 kX7_57 hm.1 (c_X7_isWrong (CX_l X) D z0 _ hm 1 ⟨by omega, by omega⟩) [] rfl rfl (Nat.le_of_ble_eq_true rfl) (by decide) (by decide) (fun _ _ z => z.elim) (fun v9 hq72 hv9 => ?_)
        obtain ⟨rfl, hm72, kp72⟩ := hv9
        show WW K D z0 5 hq72 0 0 75 [(4, iv 0), (0, .ref y), (1, iv p), (2, iv m), (3, iv k)] [iv 1]
        refine r_if_eq 80 X dX7_euclid_75 (by decide) ⟨by omega, by omega⟩ (fun c75 => ?_) (fun c75 => ?_)
        · exfalso
          omega
        · refine r_iconst X dX7_euclid_78 ?_
          refine r_iret X Y dX7_euclid_79 (by decide) (by decide) ?_
          exact MO_w (by unfold cdEu; (try simp only [isNone_f, isNone_t, true_or, or_true, false_or, or_false]); (repeat' split) <;> first | rfl | omega | contradiction | (exfalso; simp_all; done) | (exfalso; simp_all; omega)) (by first | decide | omega) hm72 kp72
    · refine r_iconst X dX7_euclid_27 ?_
      refine r_goto 32 X dX7_euclid_28 (by decide) ?_
      refine r_istore (L' := [(4, iv 1), (0, .ref y), (1, iv p), (2, iv m), (3, iv k)]) X dX7_euclid_32 (by decide) rfl ?_
      refine r_aload_n 1 X dX7_euclid_34 rfl ?_
      refine r_iload_n 2 X dX7_euclid_35 rfl ?_
      refine r_callS_v X dX7_euclid_36 kX7_41 (c_X7_isPlace (CX_l X) D z0 _ p ⟨by omega, by omega⟩) [.ref y] rfl rfl (Nat.le_of_ble_eq_true rfl) (by decide) rfl rfl (by decide) ?_
      refine r_ifb_ne 46 X dX7_euclid_39 (by decide) (fun c39 => ?_) (fun c39 => ?_)
      · refine r_iload 0 X dX7_euclid_46 rfl ?_
        refine r_if_ne 55 X dX7_euclid_48 (by decide) ⟨by omega, by omega⟩ (fun c48 => ?_) (fun c48 => ?_)
        · have hef0 := eu_f (m := m) (k := k) ⟨by omega, by omega, by omega, by omega⟩
          refine r_iload_n 3 X dX7_euclid_55 rfl ?_
          refine r_iload_n 3 X dX7_euclid_56 rfl ?_
          refine r_imul X dX7_euclid_57 ?_
          refine r_iload_n 4 X dX7_euclid_58 rfl ?_
          refine r_iload_n 4 X dX7_euclid_59 rfl ?_
          refine r_imul X dX7_euclid_60 ?_
          refine r_iadd X dX7_euclid_61 ?_
          refine r_ldc 65535 X dX7_euclid_62 nX7_78 (by decide) ?_
          refine r_icmp_le 71 X dX7_euclid_64 (by decide) ⟨by omega, by omega⟩ ⟨by omega, by omega⟩ (fun c64 => ?_) (fun c64 => ?_)
          · refine r_iconst X dX7_euclid_71 ?_
            refine r_callV X dX7_euclid_72 kX7_57 hm.1 (c_X7_isWrong (CX_l X) D z0 _ hm 0 ⟨by omega, by omega⟩) [] rfl rfl (Nat.le_of_ble_eq_true rfl) (by decide) (by decide) (fun _ _ z => z.elim) (fun v9 hq72 hv9 => ?_)
            obtain ⟨rfl, hm72, kp72⟩ := hv9
            show WW K D z0 5 hq72 0 0 75 [(4, iv 1), (0, .ref y), (1, iv p), (2, iv m), (3, iv k)] [iv 0]
            refine r_if_eq 80 X dX7_euclid_75 (by decide) ⟨by omega, by omega⟩ (fun c75 => ?_) (fun c75 => ?_)
            · have hef := eu_f (m := m) (k := k) ⟨by omega, by omega, by omega, by omega⟩
              have hv8 := eu_TV (m := m) (k := k) ⟨by omega, by omega, by omega, by omega⟩ ⟨⟨by omega, by omega⟩, ⟨by omega, by omega⟩, ⟨by omega, by omega⟩⟩
              refine r_aload_n 1 X dX7_euclid_80 rfl ?_
              refine r_iload_n 2 X dX7_euclid_81 rfl ?_
              refine r_iload_n 3 X dX7_euclid_82 rfl ?_
              refine r_iload_n 3 X dX7_euclid_83 rfl ?_
              refine r_imul X dX7_euclid_84 ?_
              refine r_iload_n 4 X dX7_euclid_85 rfl ?_
              refine r_iload_n 4 X dX7_euclid_86 rfl ?_
              refine r_imul X dX7_euclid_87 ?_
              refine r_isub X dX7_euclid_88 ?_
              refine r_iconst X dX7_euclid_89 ?_
              refine r_iload_n 3 X dX7_euclid_90 rfl ?_
              refine r_imul X dX7_euclid_91 ?_
              refine r_iload_n 4 X dX7_euclid_92 rfl ?_
              refine r_imul X dX7_euclid_93 ?_
              refine r_iload_n 3 X dX7_euclid_94 rfl ?_
              refine r_iload_n 3 X dX7_euclid_95 rfl ?_
              refine r_imul X dX7_euclid_96 ?_
              refine r_iload_n 4 X dX7_euclid_97 rfl ?_
              refine r_iload_n 4 X dX7_euclid_98 rfl ?_
              refine r_imul X dX7_euclid_99 ?_
              refine r_iadd X dX7_euclid_100 ?_
              refine r_callV X dX7_euclid_101 kX7_60 hm72.1 (c_X7_hold (CX_l X) D z0 _ hm72 ht p ((m * m) - (k * k)) ((2 * m) * k) ((m * m) + (k * k)) (by omega) ⟨by omega, by omega⟩ ⟨by omega, by omega⟩ ⟨by omega, by omega⟩) [] rfl rfl (Nat.le_of_ble_eq_true rfl) (by decide) (by decide) (fun _ _ z => z.elim) (fun v9 hq101 hv9 => ?_)
              obtain ⟨rfl, hm101, kp101⟩ := hv9
              have ht101 : TVs (up σ p.toNat (st3 ((m * m) - (k * k)) ((2 * m) * k) ((m * m) + (k * k)))) := TVs_up (x := mn3 ((m * m) - (k * k)) ((2 * m) * k) ((m * m) + (k * k))) (y := md3 ((m * m) - (k * k)) ((2 * m) * k) ((m * m) + (k * k))) (z := mx3 ((m * m) - (k * k)) ((2 * m) * k) ((m * m) + (k * k))) ht p.toNat hv8
              show WW K D z0 5 hq101 0 0 104 [(4, iv 1), (0, .ref y), (1, iv p), (2, iv m), (3, iv k)] []
              refine r_aload_n 1 X dX7_euclid_104 rfl ?_
              refine r_getf X dX7_euclid_105 fX7_16 hm101.1 rfl ?_
              refine r_iload_n 2 X dX7_euclid_108 rfl ?_
              refine r_ialoadE X dX7_euclid_109 hm101.2.2.2.1 ⟨by omega, by omega⟩ (by decide) (fC_s (up_s _ _ _)) ?_
              refine r_iret X Y dX7_euclid_110 (by decide) (by decide) ?_
              exact MO_k (by unfold cdEu; (try simp only [isNone_f, isNone_t, true_or, or_true, false_or, or_false]); (repeat' split) <;> first | rfl | omega | contradiction | (exfalso; simp_all; done) | (exfalso; simp_all; omega)) rfl (congrArg iv (by unfold mx3; omega)) hm101 (Keep_tr kp72 kp101)
            · exfalso
              omega
          · refine r_iconst X dX7_euclid_67 ?_
            refine r_goto 72 X dX7_euclid_68 (by decide) ?_
            refine r_callV X dX7_euclid_72 kX7_57 hm.1 (c_X7_isWrong (CX_l X) D z0 _ hm 3 ⟨by omega, by omega⟩) [] rfl rfl (Nat.le_of_ble_eq_true rfl) (by decide) (by decide) (fun _ _ z => z.elim) (fun v9 hq72 hv9 => ?_)
            obtain ⟨rfl, hm72, kp72⟩ := hv9
            show WW K D z0 5 hq72 0 0 75 [(4, iv 1), (0, .ref y), (1, iv p), (2, iv m), (3, iv k)] [iv 1]
            refine r_if_eq 80 X dX7_euclid_75 (by decide) ⟨by omega, by omega⟩ (fun c75 => ?_) (fun c75 => ?_)
            · exfalso
              omega
            · refine r_iconst X dX7_euclid_78 ?_
              refine r_iret X Y dX7_euclid_79 (by decide) (by decide) ?_
              exact MO_w (by unfold cdEu; (try simp only [isNone_f, isNone_t, true_or, or_true, false_or, or_false]); (repeat' split) <;> first | rfl | omega | contradiction | (exfalso; simp_all; done) | (exfalso; simp_all; omega)) (by first | decide | omega) hm72 kp72
        · exfalso
          omega
      · refine r_iconst X dX7_euclid_42 ?_
        refine r_goto 72 X dX7_euclid_43 (by decide) ?_
        refine r_callV X dX7_euclid_72 kX7_57 hm.1 (c_X7_isWrong (CX_l X) D z0 _ hm 1 ⟨by omega, by omega⟩) [] rfl rfl (Nat.le_of_ble_eq_true rfl) (by decide) (by decide) (fun _ _ z => z.elim) (fun v9 hq72 hv9 => ?_)
        obtain ⟨rfl, hm72, kp72⟩ := hv9
        show WW K D z0 5 hq72 0 0 75 [(4, iv 1), (0, .ref y), (1, iv p), (2, iv m), (3, iv k)] [iv 1]
        refine r_if_eq 80 X dX7_euclid_75 (by decide) ⟨by omega, by omega⟩ (fun c75 => ?_) (fun c75 => ?_)
        · exfalso
          omega
        · refine r_iconst X dX7_euclid_78 ?_
          refine r_iret X Y dX7_euclid_79 (by decide) (by decide) ?_
          exact MO_w (by unfold cdEu; (try simp only [isNone_f, isNone_t, true_or, or_true, false_or, or_false]); (repeat' split) <;> first | rfl | omega | contradiction | (exfalso; simp_all; done) | (exfalso; simp_all; omega)) (by first | decide | omega) hm72 kp72
