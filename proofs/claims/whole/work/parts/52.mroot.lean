/-! the model: joining, S and its root -/
abbrev rX7_leg : Room := { frames := 1, cells := 0, slots := 0, locals := 22 }
theorem c_X7_leg {l : Launch} (hl : l.stackTraces = false) (D : va_G) (z0 : Nat) (h : Hp) {y : Nat} {v : Nat → Nat} {σ : Tg} {e1 e2 e3 od : Nat → Int} {lc oc tc hi lo rf sq : Int} (hm : Mz D h y v (fA σ) (fB σ) (fC σ) e1 e2 e3 od lc oc tc hi lo rf sq) (ht : TVs σ) (p q : Int) (hp : pl p) (hq : pl q) (a b c d e f : Int) (hs : σ p.toNat = some (a, b, c)) (hs2 : σ q.toNat = some (d, e, f)) : CC l yX7_leg cX7_leg 7 (some .int) rX7_leg D z0 h [.ref y, iv p, iv q] (PV (iv (lg a b d e)) h) NX := by
  refine CC_of RX7 hl (by decide) rfl (Nat.le_of_ble_eq_true rfl) (fun K X Y Z hmn hKl => ?_)
  subst hKl
  have hv := ht p.toNat (by omega) a b c hs
  have hb := TV_b hv
  have hv2 := ht q.toNat (by omega) d e f hs2
  have hb2 := TV_b hv2
  have hl0 : ln a b c 0 = a := rfl
  have hl1 : ln a b c 1 = b := rfl
  have hk0 : ln d e f 0 = d := rfl
  have hk1 : ln d e f 1 = e := rfl
  show WW K D z0 7 h 0 0 0 [(0, .ref y), (1, iv p), (2, iv q)] []
  refine r_iconst X dX7_leg_0 ?_
  refine r_istore_n (L' := [(3, iv 0), (0, .ref y), (1, iv p), (2, iv q)]) X dX7_leg_1 (by decide) rfl ?_
  refine r_iconst X dX7_leg_2 ?_
  refine r_istore (L' := [(4, iv 0), (3, iv 0), (0, .ref y), (1, iv p), (2, iv q)]) X dX7_leg_3 (by decide) rfl ?_
  refine r_iload 0 X dX7_leg_5 rfl ?_
  refine r_iconst X dX7_leg_7 ?_
  refine r_icmp_ge 55 X dX7_leg_8 (by decide) ⟨by omega, by omega⟩ ⟨by omega, by omega⟩ (fun c8 => ?_) (fun c8 => ?_)
  · exfalso
    omega
  · refine r_aload_n 2 X dX7_leg_11 rfl ?_
    refine r_iload_n 3 X dX7_leg_12 rfl ?_
    refine r_iload 0 X dX7_leg_13 rfl ?_
    refine r_iconst X dX7_leg_15 ?_
    refine r_idiv X dX7_leg_16 ⟨by omega, by omega⟩ ⟨by omega, by omega⟩ ?_
    refine r_callV_v X dX7_leg_17 kX7_73 hm.1 (c_X7_sideOf (CX_l X) D z0 _ hm ht p (by omega) a b c hs 0) [] rfl rfl (Nat.le_of_ble_eq_true rfl) (by decide) rfl rfl (by decide) ?_
    refine r_istore (L' := [(5, iv (ln a b c 0)), (4, iv 0), (3, iv 0), (0, .ref y), (1, iv p), (2, iv q)]) X dX7_leg_20 (by decide) rfl ?_
    refine r_aload_n 3 X dX7_leg_22 rfl ?_
    refine r_iload_n 5 X dX7_leg_23 rfl ?_
    refine r_iload 1 X dX7_leg_24 rfl ?_
    refine r_iconst X dX7_leg_26 ?_
    refine r_irem X dX7_leg_27 ⟨by omega, by omega⟩ ⟨by omega, by omega⟩ ?_
    refine r_callV_v X dX7_leg_28 kX7_73 hm.1 (c_X7_sideOf (CX_l X) D z0 _ hm ht q (by omega) d e f hs2 0) [] rfl rfl (Nat.le_of_ble_eq_true rfl) (by decide) rfl rfl (by decide) ?_
    refine r_istore (L' := [(6, iv (ln d e f 0)), (5, iv (ln a b c 0)), (4, iv 0), (3, iv 0), (0, .ref y), (1, iv p), (2, iv q)]) X dX7_leg_31 (by decide) rfl ?_
    refine r_iload 1 X dX7_leg_33 rfl ?_
    refine r_iload 0 X dX7_leg_35 rfl ?_
    refine r_icmp_ne 49 X dX7_leg_37 (by decide) ⟨by omega, by omega⟩ ⟨by omega, by omega⟩ (fun c37 => ?_) (fun c37 => ?_)
    · refine r_iinc 2 (L' := [(4, iv 1), (6, iv (ln d e f 0)), (5, iv (ln a b c 0)), (3, iv 0), (0, .ref y), (1, iv p), (2, iv q)]) X dX7_leg_49 rfl (by decide) rfl ?_
      refine r_goto 5 X dX7_leg_52 (by decide) ?_
      refine r_iload 0 X dX7_leg_5 rfl ?_
      refine r_iconst X dX7_leg_7 ?_
      refine r_icmp_ge 55 X dX7_leg_8 (by decide) ⟨by omega, by omega⟩ ⟨by omega, by omega⟩ (fun c8 => ?_) (fun c8 => ?_)
      · exfalso
        omega
      · refine r_aload_n 4 X dX7_leg_11 rfl ?_
        refine r_iload_n 5 X dX7_leg_12 rfl ?_
        refine r_iload 0 X dX7_leg_13 rfl ?_
        refine r_iconst X dX7_leg_15 ?_
        refine r_idiv X dX7_leg_16 ⟨by omega, by omega⟩ ⟨by omega, by omega⟩ ?_
        refine r_callV_v X dX7_leg_17 kX7_73 hm.1 (c_X7_sideOf (CX_l X) D z0 _ hm ht p (by omega) a b c hs 0) [] rfl rfl (Nat.le_of_ble_eq_true rfl) (by decide) rfl rfl (by decide) ?_
        refine r_istore (L' := [(5, iv (ln a b c 0)), (4, iv 1), (6, iv (ln d e f 0)), (3, iv 0), (0, .ref y), (1, iv p), (2, iv q)]) X dX7_leg_20 (by decide) rfl ?_
        refine r_aload_n 4 X dX7_leg_22 rfl ?_
        refine r_iload_n 6 X dX7_leg_23 rfl ?_
        refine r_iload 1 X dX7_leg_24 rfl ?_
        refine r_iconst X dX7_leg_26 ?_
        refine r_irem X dX7_leg_27 ⟨by omega, by omega⟩ ⟨by omega, by omega⟩ ?_
        refine r_callV_v X dX7_leg_28 kX7_73 hm.1 (c_X7_sideOf (CX_l X) D z0 _ hm ht q (by omega) d e f hs2 1) [] rfl rfl (Nat.le_of_ble_eq_true rfl) (by decide) rfl rfl (by decide) ?_
        refine r_istore (L' := [(6, iv (ln d e f 1)), (5, iv (ln a b c 0)), (4, iv 1), (3, iv 0), (0, .ref y), (1, iv p), (2, iv q)]) X dX7_leg_31 (by decide) rfl ?_
        refine r_iload 1 X dX7_leg_33 rfl ?_
        refine r_iload 0 X dX7_leg_35 rfl ?_
        refine r_icmp_ne 49 X dX7_leg_37 (by decide) ⟨by omega, by omega⟩ ⟨by omega, by omega⟩ (fun c37 => ?_) (fun c37 => ?_)
        · refine r_iinc 2 (L' := [(4, iv 2), (6, iv (ln d e f 1)), (5, iv (ln a b c 0)), (3, iv 0), (0, .ref y), (1, iv p), (2, iv q)]) X dX7_leg_49 rfl (by decide) rfl ?_
          refine r_goto 5 X dX7_leg_52 (by decide) ?_
          refine r_iload 0 X dX7_leg_5 rfl ?_
          refine r_iconst X dX7_leg_7 ?_
          refine r_icmp_ge 55 X dX7_leg_8 (by decide) ⟨by omega, by omega⟩ ⟨by omega, by omega⟩ (fun c8 => ?_) (fun c8 => ?_)
          · exfalso
            omega
          · refine r_aload_n 4 X dX7_leg_11 rfl ?_
            refine r_iload_n 5 X dX7_leg_12 rfl ?_
            refine r_iload 0 X dX7_leg_13 rfl ?_
            refine r_iconst X dX7_leg_15 ?_
            refine r_idiv X dX7_leg_16 ⟨by omega, by omega⟩ ⟨by omega, by omega⟩ ?_
            refine r_callV_v X dX7_leg_17 kX7_73 hm.1 (c_X7_sideOf (CX_l X) D z0 _ hm ht p (by omega) a b c hs 1) [] rfl rfl (Nat.le_of_ble_eq_true rfl) (by decide) rfl rfl (by decide) ?_
            refine r_istore (L' := [(5, iv (ln a b c 1)), (4, iv 2), (6, iv (ln d e f 1)), (3, iv 0), (0, .ref y), (1, iv p), (2, iv q)]) X dX7_leg_20 (by decide) rfl ?_
            refine r_aload_n 4 X dX7_leg_22 rfl ?_
            refine r_iload_n 6 X dX7_leg_23 rfl ?_
            refine r_iload 1 X dX7_leg_24 rfl ?_
            refine r_iconst X dX7_leg_26 ?_
            refine r_irem X dX7_leg_27 ⟨by omega, by omega⟩ ⟨by omega, by omega⟩ ?_
            refine r_callV_v X dX7_leg_28 kX7_73 hm.1 (c_X7_sideOf (CX_l X) D z0 _ hm ht q (by omega) d e f hs2 0) [] rfl rfl (Nat.le_of_ble_eq_true rfl) (by decide) rfl rfl (by decide) ?_
            refine r_istore (L' := [(6, iv (ln d e f 0)), (5, iv (ln a b c 1)), (4, iv 2), (3, iv 0), (0, .ref y), (1, iv p), (2, iv q)]) X dX7_leg_31 (by decide) rfl ?_
            refine r_iload 1 X dX7_leg_33 rfl ?_
            refine r_iload 0 X dX7_leg_35 rfl ?_
            refine r_icmp_ne 49 X dX7_leg_37 (by decide) ⟨by omega, by omega⟩ ⟨by omega, by omega⟩ (fun c37 => ?_) (fun c37 => ?_)
            · refine r_iinc 2 (L' := [(4, iv 3), (6, iv (ln d e f 0)), (5, iv (ln a b c 1)), (3, iv 0), (0, .ref y), (1, iv p), (2, iv q)]) X dX7_leg_49 rfl (by decide) rfl ?_
              refine r_goto 5 X dX7_leg_52 (by decide) ?_
              refine r_iload 0 X dX7_leg_5 rfl ?_
              refine r_iconst X dX7_leg_7 ?_
              refine r_icmp_ge 55 X dX7_leg_8 (by decide) ⟨by omega, by omega⟩ ⟨by omega, by omega⟩ (fun c8 => ?_) (fun c8 => ?_)
              · exfalso
                omega
              · refine r_aload_n 4 X dX7_leg_11 rfl ?_
                refine r_iload_n 5 X dX7_leg_12 rfl ?_
                refine r_iload 0 X dX7_leg_13 rfl ?_
                refine r_iconst X dX7_leg_15 ?_
                refine r_idiv X dX7_leg_16 ⟨by omega, by omega⟩ ⟨by omega, by omega⟩ ?_
                refine r_callV_v X dX7_leg_17 kX7_73 hm.1 (c_X7_sideOf (CX_l X) D z0 _ hm ht p (by omega) a b c hs 1) [] rfl rfl (Nat.le_of_ble_eq_true rfl) (by decide) rfl rfl (by decide) ?_
                refine r_istore (L' := [(5, iv (ln a b c 1)), (4, iv 3), (6, iv (ln d e f 0)), (3, iv 0), (0, .ref y), (1, iv p), (2, iv q)]) X dX7_leg_20 (by decide) rfl ?_
                refine r_aload_n 4 X dX7_leg_22 rfl ?_
                refine r_iload_n 6 X dX7_leg_23 rfl ?_
                refine r_iload 1 X dX7_leg_24 rfl ?_
                refine r_iconst X dX7_leg_26 ?_
                refine r_irem X dX7_leg_27 ⟨by omega, by omega⟩ ⟨by omega, by omega⟩ ?_
                refine r_callV_v X dX7_leg_28 kX7_73 hm.1 (c_X7_sideOf (CX_l X) D z0 _ hm ht q (by omega) d e f hs2 1) [] rfl rfl (Nat.le_of_ble_eq_true rfl) (by decide) rfl rfl (by decide) ?_
                refine r_istore (L' := [(6, iv (ln d e f 1)), (5, iv (ln a b c 1)), (4, iv 3), (3, iv 0), (0, .ref y), (1, iv p), (2, iv q)]) X dX7_leg_31 (by decide) rfl ?_
                refine r_iload 1 X dX7_leg_33 rfl ?_
                refine r_iload 0 X dX7_leg_35 rfl ?_
                refine r_icmp_ne 49 X dX7_leg_37 (by decide) ⟨by omega, by omega⟩ ⟨by omega, by omega⟩ (fun c37 => ?_) (fun c37 => ?_)
                · refine r_iinc 2 (L' := [(4, iv 4), (6, iv (ln d e f 1)), (5, iv (ln a b c 1)), (3, iv 0), (0, .ref y), (1, iv p), (2, iv q)]) X dX7_leg_49 rfl (by decide) rfl ?_
                  refine r_goto 5 X dX7_leg_52 (by decide) ?_
                  refine r_iload 0 X dX7_leg_5 rfl ?_
                  refine r_iconst X dX7_leg_7 ?_
                  refine r_icmp_ge 55 X dX7_leg_8 (by decide) ⟨by omega, by omega⟩ ⟨by omega, by omega⟩ (fun c8 => ?_) (fun c8 => ?_)
                  · refine r_iload_n 3 X dX7_leg_55 rfl ?_
                    refine r_iret X Y dX7_leg_56 (by decide) (by decide) ?_
                    exact pv_i (by unfold lg; (repeat' split) <;> omega)
                  · exfalso
                    omega
                · refine r_iload 1 X dX7_leg_40 rfl ?_
                  refine r_iload_n 3 X dX7_leg_42 rfl ?_
                  refine r_icmp_le 49 X dX7_leg_43 (by decide) ⟨by omega, by omega⟩ ⟨by omega, by omega⟩ (fun c43 => ?_) (fun c43 => ?_)
                  · refine r_iinc 2 (L' := [(4, iv 4), (6, iv (ln d e f 1)), (5, iv (ln a b c 1)), (3, iv 0), (0, .ref y), (1, iv p), (2, iv q)]) X dX7_leg_49 rfl (by decide) rfl ?_
                    refine r_goto 5 X dX7_leg_52 (by decide) ?_
                    refine r_iload 0 X dX7_leg_5 rfl ?_
                    refine r_iconst X dX7_leg_7 ?_
                    refine r_icmp_ge 55 X dX7_leg_8 (by decide) ⟨by omega, by omega⟩ ⟨by omega, by omega⟩ (fun c8 => ?_) (fun c8 => ?_)
                    · refine r_iload_n 3 X dX7_leg_55 rfl ?_
                      refine r_iret X Y dX7_leg_56 (by decide) (by decide) ?_
                      exact pv_i (by unfold lg; (repeat' split) <;> omega)
                    · exfalso
                      omega
                  · refine r_iload 1 X dX7_leg_46 rfl ?_
                    refine r_istore_n (L' := [(3, iv (ln a b c 1)), (6, iv (ln d e f 1)), (5, iv (ln a b c 1)), (4, iv 3), (0, .ref y), (1, iv p), (2, iv q)]) X dX7_leg_48 (by decide) rfl ?_
                    refine r_iinc 3 (L' := [(4, iv 4), (3, iv (ln a b c 1)), (6, iv (ln d e f 1)), (5, iv (ln a b c 1)), (0, .ref y), (1, iv p), (2, iv q)]) X dX7_leg_49 rfl (by decide) rfl ?_
                    refine r_goto 5 X dX7_leg_52 (by decide) ?_
                    refine r_iload 0 X dX7_leg_5 rfl ?_
                    refine r_iconst X dX7_leg_7 ?_
                    refine r_icmp_ge 55 X dX7_leg_8 (by decide) ⟨by omega, by omega⟩ ⟨by omega, by omega⟩ (fun c8 => ?_) (fun c8 => ?_)
                    · refine r_iload_n 1 X dX7_leg_55 rfl ?_
                      refine r_iret X Y dX7_leg_56 (by decide) (by decide) ?_
                      exact pv_i (by unfold lg; (repeat' split) <;> omega)
                    · exfalso
                      omega
            · refine r_iload 1 X dX7_leg_40 rfl ?_
              refine r_iload_n 3 X dX7_leg_42 rfl ?_
              refine r_icmp_le 49 X dX7_leg_43 (by decide) ⟨by omega, by omega⟩ ⟨by omega, by omega⟩ (fun c43 => ?_) (fun c43 => ?_)
              · refine r_iinc 2 (L' := [(4, iv 3), (6, iv (ln d e f 0)), (5, iv (ln a b c 1)), (3, iv 0), (0, .ref y), (1, iv p), (2, iv q)]) X dX7_leg_49 rfl (by decide) rfl ?_
                refine r_goto 5 X dX7_leg_52 (by decide) ?_
                refine r_iload 0 X dX7_leg_5 rfl ?_
                refine r_iconst X dX7_leg_7 ?_
                refine r_icmp_ge 55 X dX7_leg_8 (by decide) ⟨by omega, by omega⟩ ⟨by omega, by omega⟩ (fun c8 => ?_) (fun c8 => ?_)
                · exfalso
                  omega
                · refine r_aload_n 4 X dX7_leg_11 rfl ?_
                  refine r_iload_n 5 X dX7_leg_12 rfl ?_
                  refine r_iload 0 X dX7_leg_13 rfl ?_
                  refine r_iconst X dX7_leg_15 ?_
                  refine r_idiv X dX7_leg_16 ⟨by omega, by omega⟩ ⟨by omega, by omega⟩ ?_
                  refine r_callV_v X dX7_leg_17 kX7_73 hm.1 (c_X7_sideOf (CX_l X) D z0 _ hm ht p (by omega) a b c hs 1) [] rfl rfl (Nat.le_of_ble_eq_true rfl) (by decide) rfl rfl (by decide) ?_
                  refine r_istore (L' := [(5, iv (ln a b c 1)), (4, iv 3), (6, iv (ln d e f 0)), (3, iv 0), (0, .ref y), (1, iv p), (2, iv q)]) X dX7_leg_20 (by decide) rfl ?_
                  refine r_aload_n 4 X dX7_leg_22 rfl ?_
                  refine r_iload_n 6 X dX7_leg_23 rfl ?_
                  refine r_iload 1 X dX7_leg_24 rfl ?_
                  refine r_iconst X dX7_leg_26 ?_
                  refine r_irem X dX7_leg_27 ⟨by omega, by omega⟩ ⟨by omega, by omega⟩ ?_
                  refine r_callV_v X dX7_leg_28 kX7_73 hm.1 (c_X7_sideOf (CX_l X) D z0 _ hm ht q (by omega) d e f hs2 1) [] rfl rfl (Nat.le_of_ble_eq_true rfl) (by decide) rfl rfl (by decide) ?_
                  refine r_istore (L' := [(6, iv (ln d e f 1)), (5, iv (ln a b c 1)), (4, iv 3), (3, iv 0), (0, .ref y), (1, iv p), (2, iv q)]) X dX7_leg_31 (by decide) rfl ?_
                  refine r_iload 1 X dX7_leg_33 rfl ?_
                  refine r_iload 0 X dX7_leg_35 rfl ?_
                  refine r_icmp_ne 49 X dX7_leg_37 (by decide) ⟨by omega, by omega⟩ ⟨by omega, by omega⟩ (fun c37 => ?_) (fun c37 => ?_)
                  · refine r_iinc 2 (L' := [(4, iv 4), (6, iv (ln d e f 1)), (5, iv (ln a b c 1)), (3, iv 0), (0, .ref y), (1, iv p), (2, iv q)]) X dX7_leg_49 rfl (by decide) rfl ?_
                    refine r_goto 5 X dX7_leg_52 (by decide) ?_
                    refine r_iload 0 X dX7_leg_5 rfl ?_
                    refine r_iconst X dX7_leg_7 ?_
                    refine r_icmp_ge 55 X dX7_leg_8 (by decide) ⟨by omega, by omega⟩ ⟨by omega, by omega⟩ (fun c8 => ?_) (fun c8 => ?_)
                    · refine r_iload_n 3 X dX7_leg_55 rfl ?_
                      refine r_iret X Y dX7_leg_56 (by decide) (by decide) ?_
                      exact pv_i (by unfold lg; (repeat' split) <;> omega)
                    · exfalso
                      omega
                  · refine r_iload 1 X dX7_leg_40 rfl ?_
                    refine r_iload_n 3 X dX7_leg_42 rfl ?_
                    refine r_icmp_le 49 X dX7_leg_43 (by decide) ⟨by omega, by omega⟩ ⟨by omega, by omega⟩ (fun c43 => ?_) (fun c43 => ?_)
                    · refine r_iinc 2 (L' := [(4, iv 4), (6, iv (ln d e f 1)), (5, iv (ln a b c 1)), (3, iv 0), (0, .ref y), (1, iv p), (2, iv q)]) X dX7_leg_49 rfl (by decide) rfl ?_
                      refine r_goto 5 X dX7_leg_52 (by decide) ?_
                      refine r_iload 0 X dX7_leg_5 rfl ?_
                      refine r_iconst X dX7_leg_7 ?_
                      refine r_icmp_ge 55 X dX7_leg_8 (by decide) ⟨by omega, by omega⟩ ⟨by omega, by omega⟩ (fun c8 => ?_) (fun c8 => ?_)
                      · refine r_iload_n 3 X dX7_leg_55 rfl ?_
                        refine r_iret X Y dX7_leg_56 (by decide) (by decide) ?_
                        exact pv_i (by unfold lg; (repeat' split) <;> omega)
                      · exfalso
                        omega
                    · refine r_iload 1 X dX7_leg_46 rfl ?_
                      refine r_istore_n (L' := [(3, iv (ln a b c 1)), (6, iv (ln d e f 1)), (5, iv (ln a b c 1)), (4, iv 3), (0, .ref y), (1, iv p), (2, iv q)]) X dX7_leg_48 (by decide) rfl ?_
                      refine r_iinc 3 (L' := [(4, iv 4), (3, iv (ln a b c 1)), (6, iv (ln d e f 1)), (5, iv (ln a b c 1)), (0, .ref y), (1, iv p), (2, iv q)]) X dX7_leg_49 rfl (by decide) rfl ?_
                      refine r_goto 5 X dX7_leg_52 (by decide) ?_
                      refine r_iload 0 X dX7_leg_5 rfl ?_
                      refine r_iconst X dX7_leg_7 ?_
                      refine r_icmp_ge 55 X dX7_leg_8 (by decide) ⟨by omega, by omega⟩ ⟨by omega, by omega⟩ (fun c8 => ?_) (fun c8 => ?_)
                      · refine r_iload_n 1 X dX7_leg_55 rfl ?_
                        refine r_iret X Y dX7_leg_56 (by decide) (by decide) ?_
                        exact pv_i (by unfold lg; (repeat' split) <;> omega)
                      · exfalso
                        omega
              · refine r_iload 1 X dX7_leg_46 rfl ?_
                refine r_istore_n (L' := [(3, iv (ln a b c 1)), (6, iv (ln d e f 0)), (5, iv (ln a b c 1)), (4, iv 2), (0, .ref y), (1, iv p), (2, iv q)]) X dX7_leg_48 (by decide) rfl ?_
                refine r_iinc 3 (L' := [(4, iv 3), (3, iv (ln a b c 1)), (6, iv (ln d e f 0)), (5, iv (ln a b c 1)), (0, .ref y), (1, iv p), (2, iv q)]) X dX7_leg_49 rfl (by decide) rfl ?_
                refine r_goto 5 X dX7_leg_52 (by decide) ?_
                refine r_iload 0 X dX7_leg_5 rfl ?_
                refine r_iconst X dX7_leg_7 ?_
                refine r_icmp_ge 55 X dX7_leg_8 (by decide) ⟨by omega, by omega⟩ ⟨by omega, by omega⟩ (fun c8 => ?_) (fun c8 => ?_)
                · exfalso
                  omega
                · refine r_aload_n 4 X dX7_leg_11 rfl ?_
                  refine r_iload_n 5 X dX7_leg_12 rfl ?_
                  refine r_iload 0 X dX7_leg_13 rfl ?_
                  refine r_iconst X dX7_leg_15 ?_
                  refine r_idiv X dX7_leg_16 ⟨by omega, by omega⟩ ⟨by omega, by omega⟩ ?_
                  refine r_callV_v X dX7_leg_17 kX7_73 hm.1 (c_X7_sideOf (CX_l X) D z0 _ hm ht p (by omega) a b c hs 1) [] rfl rfl (Nat.le_of_ble_eq_true rfl) (by decide) rfl rfl (by decide) ?_
                  refine r_istore (L' := [(5, iv (ln a b c 1)), (4, iv 3), (3, iv (ln a b c 1)), (6, iv (ln d e f 0)), (0, .ref y), (1, iv p), (2, iv q)]) X dX7_leg_20 (by decide) rfl ?_
                  refine r_aload_n 4 X dX7_leg_22 rfl ?_
                  refine r_iload_n 6 X dX7_leg_23 rfl ?_
                  refine r_iload 1 X dX7_leg_24 rfl ?_
                  refine r_iconst X dX7_leg_26 ?_
                  refine r_irem X dX7_leg_27 ⟨by omega, by omega⟩ ⟨by omega, by omega⟩ ?_
                  refine r_callV_v X dX7_leg_28 kX7_73 hm.1 (c_X7_sideOf (CX_l X) D z0 _ hm ht q (by omega) d e f hs2 1) [] rfl rfl (Nat.le_of_ble_eq_true rfl) (by decide) rfl rfl (by decide) ?_
                  refine r_istore (L' := [(6, iv (ln d e f 1)), (5, iv (ln a b c 1)), (4, iv 3), (3, iv (ln a b c 1)), (0, .ref y), (1, iv p), (2, iv q)]) X dX7_leg_31 (by decide) rfl ?_
                  refine r_iload 1 X dX7_leg_33 rfl ?_
                  refine r_iload 0 X dX7_leg_35 rfl ?_
                  refine r_icmp_ne 49 X dX7_leg_37 (by decide) ⟨by omega, by omega⟩ ⟨by omega, by omega⟩ (fun c37 => ?_) (fun c37 => ?_)
                  · refine r_iinc 2 (L' := [(4, iv 4), (6, iv (ln d e f 1)), (5, iv (ln a b c 1)), (3, iv (ln a b c 1)), (0, .ref y), (1, iv p), (2, iv q)]) X dX7_leg_49 rfl (by decide) rfl ?_
                    refine r_goto 5 X dX7_leg_52 (by decide) ?_
                    refine r_iload 0 X dX7_leg_5 rfl ?_
                    refine r_iconst X dX7_leg_7 ?_
                    refine r_icmp_ge 55 X dX7_leg_8 (by decide) ⟨by omega, by omega⟩ ⟨by omega, by omega⟩ (fun c8 => ?_) (fun c8 => ?_)
                    · refine r_iload_n 3 X dX7_leg_55 rfl ?_
                      refine r_iret X Y dX7_leg_56 (by decide) (by decide) ?_
                      exact pv_i (by unfold lg; (repeat' split) <;> omega)
                    · exfalso
                      omega
                  · refine r_iload 1 X dX7_leg_40 rfl ?_
                    refine r_iload_n 3 X dX7_leg_42 rfl ?_
                    refine r_icmp_le 49 X dX7_leg_43 (by decide) ⟨by omega, by omega⟩ ⟨by omega, by omega⟩ (fun c43 => ?_) (fun c43 => ?_)
                    · refine r_iinc 2 (L' := [(4, iv 4), (6, iv (ln d e f 1)), (5, iv (ln a b c 1)), (3, iv (ln a b c 1)), (0, .ref y), (1, iv p), (2, iv q)]) X dX7_leg_49 rfl (by decide) rfl ?_
                      refine r_goto 5 X dX7_leg_52 (by decide) ?_
                      refine r_iload 0 X dX7_leg_5 rfl ?_
                      refine r_iconst X dX7_leg_7 ?_
                      refine r_icmp_ge 55 X dX7_leg_8 (by decide) ⟨by omega, by omega⟩ ⟨by omega, by omega⟩ (fun c8 => ?_) (fun c8 => ?_)
                      · refine r_iload_n 3 X dX7_leg_55 rfl ?_
                        refine r_iret X Y dX7_leg_56 (by decide) (by decide) ?_
                        exact pv_i (by unfold lg; (repeat' split) <;> omega)
                      · exfalso
                        omega
                    · refine r_iload 1 X dX7_leg_46 rfl ?_
                      refine r_istore_n (L' := [(3, iv (ln a b c 1)), (6, iv (ln d e f 1)), (5, iv (ln a b c 1)), (4, iv 3), (0, .ref y), (1, iv p), (2, iv q)]) X dX7_leg_48 (by decide) rfl ?_
                      refine r_iinc 3 (L' := [(4, iv 4), (3, iv (ln a b c 1)), (6, iv (ln d e f 1)), (5, iv (ln a b c 1)), (0, .ref y), (1, iv p), (2, iv q)]) X dX7_leg_49 rfl (by decide) rfl ?_
                      refine r_goto 5 X dX7_leg_52 (by decide) ?_
                      refine r_iload 0 X dX7_leg_5 rfl ?_
                      refine r_iconst X dX7_leg_7 ?_
                      refine r_icmp_ge 55 X dX7_leg_8 (by decide) ⟨by omega, by omega⟩ ⟨by omega, by omega⟩ (fun c8 => ?_) (fun c8 => ?_)
                      · refine r_iload_n 1 X dX7_leg_55 rfl ?_
                        refine r_iret X Y dX7_leg_56 (by decide) (by decide) ?_
                        exact pv_i (by unfold lg; (repeat' split) <;> omega)
                      · exfalso
                        omega
        · refine r_iload 1 X dX7_leg_40 rfl ?_
          refine r_iload_n 3 X dX7_leg_42 rfl ?_
          refine r_icmp_le 49 X dX7_leg_43 (by decide) ⟨by omega, by omega⟩ ⟨by omega, by omega⟩ (fun c43 => ?_) (fun c43 => ?_)
          · refine r_iinc 2 (L' := [(4, iv 2), (6, iv (ln d e f 1)), (5, iv (ln a b c 0)), (3, iv 0), (0, .ref y), (1, iv p), (2, iv q)]) X dX7_leg_49 rfl (by decide) rfl ?_
            refine r_goto 5 X dX7_leg_52 (by decide) ?_
            refine r_iload 0 X dX7_leg_5 rfl ?_
            refine r_iconst X dX7_leg_7 ?_
            refine r_icmp_ge 55 X dX7_leg_8 (by decide) ⟨by omega, by omega⟩ ⟨by omega, by omega⟩ (fun c8 => ?_) (fun c8 => ?_)
            · exfalso
              omega
            · refine r_aload_n 4 X dX7_leg_11 rfl ?_
              refine r_iload_n 5 X dX7_leg_12 rfl ?_
              refine r_iload 0 X dX7_leg_13 rfl ?_
              refine r_iconst X dX7_leg_15 ?_
              refine r_idiv X dX7_leg_16 ⟨by omega, by omega⟩ ⟨by omega, by omega⟩ ?_
              refine r_callV_v X dX7_leg_17 kX7_73 hm.1 (c_X7_sideOf (CX_l X) D z0 _ hm ht p (by omega) a b c hs 1) [] rfl rfl (Nat.le_of_ble_eq_true rfl) (by decide) rfl rfl (by decide) ?_
              refine r_istore (L' := [(5, iv (ln a b c 1)), (4, iv 2), (6, iv (ln d e f 1)), (3, iv 0), (0, .ref y), (1, iv p), (2, iv q)]) X dX7_leg_20 (by decide) rfl ?_
              refine r_aload_n 4 X dX7_leg_22 rfl ?_
              refine r_iload_n 6 X dX7_leg_23 rfl ?_
              refine r_iload 1 X dX7_leg_24 rfl ?_
              refine r_iconst X dX7_leg_26 ?_
              refine r_irem X dX7_leg_27 ⟨by omega, by omega⟩ ⟨by omega, by omega⟩ ?_
              refine r_callV_v X dX7_leg_28 kX7_73 hm.1 (c_X7_sideOf (CX_l X) D z0 _ hm ht q (by omega) d e f hs2 0) [] rfl rfl (Nat.le_of_ble_eq_true rfl) (by decide) rfl rfl (by decide) ?_
              refine r_istore (L' := [(6, iv (ln d e f 0)), (5, iv (ln a b c 1)), (4, iv 2), (3, iv 0), (0, .ref y), (1, iv p), (2, iv q)]) X dX7_leg_31 (by decide) rfl ?_
              refine r_iload 1 X dX7_leg_33 rfl ?_
              refine r_iload 0 X dX7_leg_35 rfl ?_
              refine r_icmp_ne 49 X dX7_leg_37 (by decide) ⟨by omega, by omega⟩ ⟨by omega, by omega⟩ (fun c37 => ?_) (fun c37 => ?_)
              · refine r_iinc 2 (L' := [(4, iv 3), (6, iv (ln d e f 0)), (5, iv (ln a b c 1)), (3, iv 0), (0, .ref y), (1, iv p), (2, iv q)]) X dX7_leg_49 rfl (by decide) rfl ?_
                refine r_goto 5 X dX7_leg_52 (by decide) ?_
                refine r_iload 0 X dX7_leg_5 rfl ?_
                refine r_iconst X dX7_leg_7 ?_
                refine r_icmp_ge 55 X dX7_leg_8 (by decide) ⟨by omega, by omega⟩ ⟨by omega, by omega⟩ (fun c8 => ?_) (fun c8 => ?_)
                · exfalso
                  omega
                · refine r_aload_n 4 X dX7_leg_11 rfl ?_
                  refine r_iload_n 5 X dX7_leg_12 rfl ?_
                  refine r_iload 0 X dX7_leg_13 rfl ?_
                  refine r_iconst X dX7_leg_15 ?_
                  refine r_idiv X dX7_leg_16 ⟨by omega, by omega⟩ ⟨by omega, by omega⟩ ?_
                  refine r_callV_v X dX7_leg_17 kX7_73 hm.1 (c_X7_sideOf (CX_l X) D z0 _ hm ht p (by omega) a b c hs 1) [] rfl rfl (Nat.le_of_ble_eq_true rfl) (by decide) rfl rfl (by decide) ?_
                  refine r_istore (L' := [(5, iv (ln a b c 1)), (4, iv 3), (6, iv (ln d e f 0)), (3, iv 0), (0, .ref y), (1, iv p), (2, iv q)]) X dX7_leg_20 (by decide) rfl ?_
                  refine r_aload_n 4 X dX7_leg_22 rfl ?_
                  refine r_iload_n 6 X dX7_leg_23 rfl ?_
                  refine r_iload 1 X dX7_leg_24 rfl ?_
                  refine r_iconst X dX7_leg_26 ?_
                  refine r_irem X dX7_leg_27 ⟨by omega, by omega⟩ ⟨by omega, by omega⟩ ?_
                  refine r_callV_v X dX7_leg_28 kX7_73 hm.1 (c_X7_sideOf (CX_l X) D z0 _ hm ht q (by omega) d e f hs2 1) [] rfl rfl (Nat.le_of_ble_eq_true rfl) (by decide) rfl rfl (by decide) ?_
                  refine r_istore (L' := [(6, iv (ln d e f 1)), (5, iv (ln a b c 1)), (4, iv 3), (3, iv 0), (0, .ref y), (1, iv p), (2, iv q)]) X dX7_leg_31 (by decide) rfl ?_
                  refine r_iload 1 X dX7_leg_33 rfl ?_
                  refine r_iload 0 X dX7_leg_35 rfl ?_
                  refine r_icmp_ne 49 X dX7_leg_37 (by decide) ⟨by omega, by omega⟩ ⟨by omega, by omega⟩ (fun c37 => ?_) (fun c37 => ?_)
                  · refine r_iinc 2 (L' := [(4, iv 4), (6, iv (ln d e f 1)), (5, iv (ln a b c 1)), (3, iv 0), (0, .ref y), (1, iv p), (2, iv q)]) X dX7_leg_49 rfl (by decide) rfl ?_
                    refine r_goto 5 X dX7_leg_52 (by decide) ?_
                    refine r_iload 0 X dX7_leg_5 rfl ?_
                    refine r_iconst X dX7_leg_7 ?_
                    refine r_icmp_ge 55 X dX7_leg_8 (by decide) ⟨by omega, by omega⟩ ⟨by omega, by omega⟩ (fun c8 => ?_) (fun c8 => ?_)
                    · refine r_iload_n 3 X dX7_leg_55 rfl ?_
                      refine r_iret X Y dX7_leg_56 (by decide) (by decide) ?_
                      exact pv_i (by unfold lg; (repeat' split) <;> omega)
                    · exfalso
                      omega
                  · refine r_iload 1 X dX7_leg_40 rfl ?_
                    refine r_iload_n 3 X dX7_leg_42 rfl ?_
                    refine r_icmp_le 49 X dX7_leg_43 (by decide) ⟨by omega, by omega⟩ ⟨by omega, by omega⟩ (fun c43 => ?_) (fun c43 => ?_)
                    · refine r_iinc 2 (L' := [(4, iv 4), (6, iv (ln d e f 1)), (5, iv (ln a b c 1)), (3, iv 0), (0, .ref y), (1, iv p), (2, iv q)]) X dX7_leg_49 rfl (by decide) rfl ?_
                      refine r_goto 5 X dX7_leg_52 (by decide) ?_
                      refine r_iload 0 X dX7_leg_5 rfl ?_
                      refine r_iconst X dX7_leg_7 ?_
                      refine r_icmp_ge 55 X dX7_leg_8 (by decide) ⟨by omega, by omega⟩ ⟨by omega, by omega⟩ (fun c8 => ?_) (fun c8 => ?_)
                      · refine r_iload_n 3 X dX7_leg_55 rfl ?_
                        refine r_iret X Y dX7_leg_56 (by decide) (by decide) ?_
                        exact pv_i (by unfold lg; (repeat' split) <;> omega)
                      · exfalso
                        omega
                    · refine r_iload 1 X dX7_leg_46 rfl ?_
                      refine r_istore_n (L' := [(3, iv (ln a b c 1)), (6, iv (ln d e f 1)), (5, iv (ln a b c 1)), (4, iv 3), (0, .ref y), (1, iv p), (2, iv q)]) X dX7_leg_48 (by decide) rfl ?_
                      refine r_iinc 3 (L' := [(4, iv 4), (3, iv (ln a b c 1)), (6, iv (ln d e f 1)), (5, iv (ln a b c 1)), (0, .ref y), (1, iv p), (2, iv q)]) X dX7_leg_49 rfl (by decide) rfl ?_
                      refine r_goto 5 X dX7_leg_52 (by decide) ?_
                      refine r_iload 0 X dX7_leg_5 rfl ?_
                      refine r_iconst X dX7_leg_7 ?_
                      refine r_icmp_ge 55 X dX7_leg_8 (by decide) ⟨by omega, by omega⟩ ⟨by omega, by omega⟩ (fun c8 => ?_) (fun c8 => ?_)
                      · refine r_iload_n 1 X dX7_leg_55 rfl ?_
                        refine r_iret X Y dX7_leg_56 (by decide) (by decide) ?_
                        exact pv_i (by unfold lg; (repeat' split) <;> omega)
                      · exfalso
                        omega
              · refine r_iload 1 X dX7_leg_40 rfl ?_
                refine r_iload_n 3 X dX7_leg_42 rfl ?_
                refine r_icmp_le 49 X dX7_leg_43 (by decide) ⟨by omega, by omega⟩ ⟨by omega, by omega⟩ (fun c43 => ?_) (fun c43 => ?_)
                · refine r_iinc 2 (L' := [(4, iv 3), (6, iv (ln d e f 0)), (5, iv (ln a b c 1)), (3, iv 0), (0, .ref y), (1, iv p), (2, iv q)]) X dX7_leg_49 rfl (by decide) rfl ?_
                  refine r_goto 5 X dX7_leg_52 (by decide) ?_
                  refine r_iload 0 X dX7_leg_5 rfl ?_
                  refine r_iconst X dX7_leg_7 ?_
                  refine r_icmp_ge 55 X dX7_leg_8 (by decide) ⟨by omega, by omega⟩ ⟨by omega, by omega⟩ (fun c8 => ?_) (fun c8 => ?_)
                  · exfalso
                    omega
                  · refine r_aload_n 4 X dX7_leg_11 rfl ?_
                    refine r_iload_n 5 X dX7_leg_12 rfl ?_
                    refine r_iload 0 X dX7_leg_13 rfl ?_
                    refine r_iconst X dX7_leg_15 ?_
                    refine r_idiv X dX7_leg_16 ⟨by omega, by omega⟩ ⟨by omega, by omega⟩ ?_
                    refine r_callV_v X dX7_leg_17 kX7_73 hm.1 (c_X7_sideOf (CX_l X) D z0 _ hm ht p (by omega) a b c hs 1) [] rfl rfl (Nat.le_of_ble_eq_true rfl) (by decide) rfl rfl (by decide) ?_
                    refine r_istore (L' := [(5, iv (ln a b c 1)), (4, iv 3), (6, iv (ln d e f 0)), (3, iv 0), (0, .ref y), (1, iv p), (2, iv q)]) X dX7_leg_20 (by decide) rfl ?_
                    refine r_aload_n 4 X dX7_leg_22 rfl ?_
                    refine r_iload_n 6 X dX7_leg_23 rfl ?_
                    refine r_iload 1 X dX7_leg_24 rfl ?_
                    refine r_iconst X dX7_leg_26 ?_
                    refine r_irem X dX7_leg_27 ⟨by omega, by omega⟩ ⟨by omega, by omega⟩ ?_
                    refine r_callV_v X dX7_leg_28 kX7_73 hm.1 (c_X7_sideOf (CX_l X) D z0 _ hm ht q (by omega) d e f hs2 1) [] rfl rfl (Nat.le_of_ble_eq_true rfl) (by decide) rfl rfl (by decide) ?_
                    refine r_istore (L' := [(6, iv (ln d e f 1)), (5, iv (ln a b c 1)), (4, iv 3), (3, iv 0), (0, .ref y), (1, iv p), (2, iv q)]) X dX7_leg_31 (by decide) rfl ?_
                    refine r_iload 1 X dX7_leg_33 rfl ?_
                    refine r_iload 0 X dX7_leg_35 rfl ?_
                    refine r_icmp_ne 49 X dX7_leg_37 (by decide) ⟨by omega, by omega⟩ ⟨by omega, by omega⟩ (fun c37 => ?_) (fun c37 => ?_)
                    · refine r_iinc 2 (L' := [(4, iv 4), (6, iv (ln d e f 1)), (5, iv (ln a b c 1)), (3, iv 0), (0, .ref y), (1, iv p), (2, iv q)]) X dX7_leg_49 rfl (by decide) rfl ?_
                      refine r_goto 5 X dX7_leg_52 (by decide) ?_
                      refine r_iload 0 X dX7_leg_5 rfl ?_
                      refine r_iconst X dX7_leg_7 ?_
                      refine r_icmp_ge 55 X dX7_leg_8 (by decide) ⟨by omega, by omega⟩ ⟨by omega, by omega⟩ (fun c8 => ?_) (fun c8 => ?_)
                      · refine r_iload_n 3 X dX7_leg_55 rfl ?_
                        refine r_iret X Y dX7_leg_56 (by decide) (by decide) ?_
                        exact pv_i (by unfold lg; (repeat' split) <;> omega)
                      · exfalso
                        omega
                    · refine r_iload 1 X dX7_leg_40 rfl ?_
                      refine r_iload_n 3 X dX7_leg_42 rfl ?_
                      refine r_icmp_le 49 X dX7_leg_43 (by decide) ⟨by omega, by omega⟩ ⟨by omega, by omega⟩ (fun c43 => ?_) (fun c43 => ?_)
                      · refine r_iinc 2 (L' := [(4, iv 4), (6, iv (ln d e f 1)), (5, iv (ln a b c 1)), (3, iv 0), (0, .ref y), (1, iv p), (2, iv q)]) X dX7_leg_49 rfl (by decide) rfl ?_
                        refine r_goto 5 X dX7_leg_52 (by decide) ?_
                        refine r_iload 0 X dX7_leg_5 rfl ?_
                        refine r_iconst X dX7_leg_7 ?_
                        refine r_icmp_ge 55 X dX7_leg_8 (by decide) ⟨by omega, by omega⟩ ⟨by omega, by omega⟩ (fun c8 => ?_) (fun c8 => ?_)
                        · refine r_iload_n 3 X dX7_leg_55 rfl ?_
                          refine r_iret X Y dX7_leg_56 (by decide) (by decide) ?_
                          exact pv_i (by unfold lg; (repeat' split) <;> omega)
                        · exfalso
                          omega
                      · refine r_iload 1 X dX7_leg_46 rfl ?_
                        refine r_istore_n (L' := [(3, iv (ln a b c 1)), (6, iv (ln d e f 1)), (5, iv (ln a b c 1)), (4, iv 3), (0, .ref y), (1, iv p), (2, iv q)]) X dX7_leg_48 (by decide) rfl ?_
                        refine r_iinc 3 (L' := [(4, iv 4), (3, iv (ln a b c 1)), (6, iv (ln d e f 1)), (5, iv (ln a b c 1)), (0, .ref y), (1, iv p), (2, iv q)]) X dX7_leg_49 rfl (by decide) rfl ?_
                        refine r_goto 5 X dX7_leg_52 (by decide) ?_
                        refine r_iload 0 X dX7_leg_5 rfl ?_
                        refine r_iconst X dX7_leg_7 ?_
                        refine r_icmp_ge 55 X dX7_leg_8 (by decide) ⟨by omega, by omega⟩ ⟨by omega, by omega⟩ (fun c8 => ?_) (fun c8 => ?_)
                        · refine r_iload_n 1 X dX7_leg_55 rfl ?_
                          refine r_iret X Y dX7_leg_56 (by decide) (by decide) ?_
                          exact pv_i (by unfold lg; (repeat' split) <;> omega)
                        · exfalso
                          omega
                · refine r_iload 1 X dX7_leg_46 rfl ?_
                  refine r_istore_n (L' := [(3, iv (ln a b c 1)), (6, iv (ln d e f 0)), (5, iv (ln a b c 1)), (4, iv 2), (0, .ref y), (1, iv p), (2, iv q)]) X dX7_leg_48 (by decide) rfl ?_
                  refine r_iinc 3 (L' := [(4, iv 3), (3, iv (ln a b c 1)), (6, iv (ln d e f 0)), (5, iv (ln a b c 1)), (0, .ref y), (1, iv p), (2, iv q)]) X dX7_leg_49 rfl (by decide) rfl ?_
                  refine r_goto 5 X dX7_leg_52 (by decide) ?_
                  refine r_iload 0 X dX7_leg_5 rfl ?_
                  refine r_iconst X dX7_leg_7 ?_
                  refine r_icmp_ge 55 X dX7_leg_8 (by decide) ⟨by omega, by omega⟩ ⟨by omega, by omega⟩ (fun c8 => ?_) (fun c8 => ?_)
                  · exfalso
                    omega
                  · refine r_aload_n 4 X dX7_leg_11 rfl ?_
                    refine r_iload_n 5 X dX7_leg_12 rfl ?_
                    refine r_iload 0 X dX7_leg_13 rfl ?_
                    refine r_iconst X dX7_leg_15 ?_
                    refine r_idiv X dX7_leg_16 ⟨by omega, by omega⟩ ⟨by omega, by omega⟩ ?_
                    refine r_callV_v X dX7_leg_17 kX7_73 hm.1 (c_X7_sideOf (CX_l X) D z0 _ hm ht p (by omega) a b c hs 1) [] rfl rfl (Nat.le_of_ble_eq_true rfl) (by decide) rfl rfl (by decide) ?_
                    refine r_istore (L' := [(5, iv (ln a b c 1)), (4, iv 3), (3, iv (ln a b c 1)), (6, iv (ln d e f 0)), (0, .ref y), (1, iv p), (2, iv q)]) X dX7_leg_20 (by decide) rfl ?_
                    refine r_aload_n 4 X dX7_leg_22 rfl ?_
                    refine r_iload_n 6 X dX7_leg_23 rfl ?_
                    refine r_iload 1 X dX7_leg_24 rfl ?_
                    refine r_iconst X dX7_leg_26 ?_
                    refine r_irem X dX7_leg_27 ⟨by omega, by omega⟩ ⟨by omega, by omega⟩ ?_
                    refine r_callV_v X dX7_leg_28 kX7_73 hm.1 (c_X7_sideOf (CX_l X) D z0 _ hm ht q (by omega) d e f hs2 1) [] rfl rfl (Nat.le_of_ble_eq_true rfl) (by decide) rfl rfl (by decide) ?_
                    refine r_istore (L' := [(6, iv (ln d e f 1)), (5, iv (ln a b c 1)), (4, iv 3), (3, iv (ln a b c 1)), (0, .ref y), (1, iv p), (2, iv q)]) X dX7_leg_31 (by decide) rfl ?_
                    refine r_iload 1 X dX7_leg_33 rfl ?_
                    refine r_iload 0 X dX7_leg_35 rfl ?_
                    refine r_icmp_ne 49 X dX7_leg_37 (by decide) ⟨by omega, by omega⟩ ⟨by omega, by omega⟩ (fun c37 => ?_) (fun c37 => ?_)
                    · refine r_iinc 2 (L' := [(4, iv 4), (6, iv (ln d e f 1)), (5, iv (ln a b c 1)), (3, iv (ln a b c 1)), (0, .ref y), (1, iv p), (2, iv q)]) X dX7_leg_49 rfl (by decide) rfl ?_
                      refine r_goto 5 X dX7_leg_52 (by decide) ?_
                      refine r_iload 0 X dX7_leg_5 rfl ?_
                      refine r_iconst X dX7_leg_7 ?_
                      refine r_icmp_ge 55 X dX7_leg_8 (by decide) ⟨by omega, by omega⟩ ⟨by omega, by omega⟩ (fun c8 => ?_) (fun c8 => ?_)
                      · refine r_iload_n 3 X dX7_leg_55 rfl ?_
                        refine r_iret X Y dX7_leg_56 (by decide) (by decide) ?_
                        exact pv_i (by unfold lg; (repeat' split) <;> omega)
                      · exfalso
                        omega
                    · refine r_iload 1 X dX7_leg_40 rfl ?_
                      refine r_iload_n 3 X dX7_leg_42 rfl ?_
                      refine r_icmp_le 49 X dX7_leg_43 (by decide) ⟨by omega, by omega⟩ ⟨by omega, by omega⟩ (fun c43 => ?_) (fun c43 => ?_)
                      · refine r_iinc 2 (L' := [(4, iv 4), (6, iv (ln d e f 1)), (5, iv (ln a b c 1)), (3, iv (ln a b c 1)), (0, .ref y), (1, iv p), (2, iv q)]) X dX7_leg_49 rfl (by decide) rfl ?_
                        refine r_goto 5 X dX7_leg_52 (by decide) ?_
                        refine r_iload 0 X dX7_leg_5 rfl ?_
                        refine r_iconst X dX7_leg_7 ?_
                        refine r_icmp_ge 55 X dX7_leg_8 (by decide) ⟨by omega, by omega⟩ ⟨by omega, by omega⟩ (fun c8 => ?_) (fun c8 => ?_)
                        · refine r_iload_n 3 X dX7_leg_55 rfl ?_
                          refine r_iret X Y dX7_leg_56 (by decide) (by decide) ?_
                          exact pv_i (by unfold lg; (repeat' split) <;> omega)
                        · exfalso
                          omega
                      · refine r_iload 1 X dX7_leg_46 rfl ?_
                        refine r_istore_n (L' := [(3, iv (ln a b c 1)), (6, iv (ln d e f 1)), (5, iv (ln a b c 1)), (4, iv 3), (0, .ref y), (1, iv p), (2, iv q)]) X dX7_leg_48 (by decide) rfl ?_
                        refine r_iinc 3 (L' := [(4, iv 4), (3, iv (ln a b c 1)), (6, iv (ln d e f 1)), (5, iv (ln a b c 1)), (0, .ref y), (1, iv p), (2, iv q)]) X dX7_leg_49 rfl (by decide) rfl ?_
                        refine r_goto 5 X dX7_leg_52 (by decide) ?_
                        refine r_iload 0 X dX7_leg_5 rfl ?_
                        refine r_iconst X dX7_leg_7 ?_
                        refine r_icmp_ge 55 X dX7_leg_8 (by decide) ⟨by omega, by omega⟩ ⟨by omega, by omega⟩ (fun c8 => ?_) (fun c8 => ?_)
                        · refine r_iload_n 1 X dX7_leg_55 rfl ?_
                          refine r_iret X Y dX7_leg_56 (by decide) (by decide) ?_
                          exact pv_i (by unfold lg; (repeat' split) <;> omega)
                        · exfalso
                          omega
          · refine r_iload 1 X dX7_leg_46 rfl ?_
            refine r_istore_n (L' := [(3, iv (ln a b c 0)), (6, iv (ln d e f 1)), (5, iv (ln a b c 0)), (4, iv 1), (0, .ref y), (1, iv p), (2, iv q)]) X dX7_leg_48 (by decide) rfl ?_
            refine r_iinc 3 (L' := [(4, iv 2), (3, iv (ln a b c 0)), (6, iv (ln d e f 1)), (5, iv (ln a b c 0)), (0, .ref y), (1, iv p), (2, iv q)]) X dX7_leg_49 rfl (by decide) rfl ?_
            refine r_goto 5 X dX7_leg_52 (by decide) ?_
            refine r_iload 0 X dX7_leg_5 rfl ?_
            refine r_iconst X dX7_leg_7 ?_
            refine r_icmp_ge 55 X dX7_leg_8 (by decide) ⟨by omega, by omega⟩ ⟨by omega, by omega⟩ (fun c8 => ?_) (fun c8 => ?_)
            · exfalso
              omega
            · refine r_aload_n 4 X dX7_leg_11 rfl ?_
              refine r_iload_n 5 X dX7_leg_12 rfl ?_
              refine r_iload 0 X dX7_leg_13 rfl ?_
              refine r_iconst X dX7_leg_15 ?_
              refine r_idiv X dX7_leg_16 ⟨by omega, by omega⟩ ⟨by omega, by omega⟩ ?_
              refine r_callV_v X dX7_leg_17 kX7_73 hm.1 (c_X7_sideOf (CX_l X) D z0 _ hm ht p (by omega) a b c hs 1) [] rfl rfl (Nat.le_of_ble_eq_true rfl) (by decide) rfl rfl (by decide) ?_
              refine r_istore (L' := [(5, iv (ln a b c 1)), (4, iv 2), (3, iv (ln a b c 0)), (6, iv (ln d e f 1)), (0, .ref y), (1, iv p), (2, iv q)]) X dX7_leg_20 (by decide) rfl ?_
              refine r_aload_n 4 X dX7_leg_22 rfl ?_
              refine r_iload_n 6 X dX7_leg_23 rfl ?_
              refine r_iload 1 X dX7_leg_24 rfl ?_
              refine r_iconst X dX7_leg_26 ?_
              refine r_irem X dX7_leg_27 ⟨by omega, by omega⟩ ⟨by omega, by omega⟩ ?_
              refine r_callV_v X dX7_leg_28 kX7_73 hm.1 (c_X7_sideOf (CX_l X) D z0 _ hm ht q (by omega) d e f hs2 0) [] rfl rfl (Nat.le_of_ble_eq_true rfl) (by decide) rfl rfl (by decide) ?_
              refine r_istore (L' := [(6, iv (ln d e f 0)), (5, iv (ln a b c 1)), (4, iv 2), (3, iv (ln a b c 0)), (0, .ref y), (1, iv p), (2, iv q)]) X dX7_leg_31 (by decide) rfl ?_
              refine r_iload 1 X dX7_leg_33 rfl ?_
              refine r_iload 0 X dX7_leg_35 rfl ?_
              refine r_icmp_ne 49 X dX7_leg_37 (by decide) ⟨by omega, by omega⟩ ⟨by omega, by omega⟩ (fun c37 => ?_) (fun c37 => ?_)
              · refine r_iinc 2 (L' := [(4, iv 3), (6, iv (ln d e f 0)), (5, iv (ln a b c 1)), (3, iv (ln a b c 0)), (0, .ref y), (1, iv p), (2, iv q)]) X dX7_leg_49 rfl (by decide) rfl ?_
                refine r_goto 5 X dX7_leg_52 (by decide) ?_
                refine r_iload 0 X dX7_leg_5 rfl ?_
                refine r_iconst X dX7_leg_7 ?_
                refine r_icmp_ge 55 X dX7_leg_8 (by decide) ⟨by omega, by omega⟩ ⟨by omega, by omega⟩ (fun c8 => ?_) (fun c8 => ?_)
                · exfalso
                  omega
                · refine r_aload_n 4 X dX7_leg_11 rfl ?_
                  refine r_iload_n 5 X dX7_leg_12 rfl ?_
                  refine r_iload 0 X dX7_leg_13 rfl ?_
                  refine r_iconst X dX7_leg_15 ?_
                  refine r_idiv X dX7_leg_16 ⟨by omega, by omega⟩ ⟨by omega, by omega⟩ ?_
                  refine r_callV_v X dX7_leg_17 kX7_73 hm.1 (c_X7_sideOf (CX_l X) D z0 _ hm ht p (by omega) a b c hs 1) [] rfl rfl (Nat.le_of_ble_eq_true rfl) (by decide) rfl rfl (by decide) ?_
                  refine r_istore (L' := [(5, iv (ln a b c 1)), (4, iv 3), (6, iv (ln d e f 0)), (3, iv (ln a b c 0)), (0, .ref y), (1, iv p), (2, iv q)]) X dX7_leg_20 (by decide) rfl ?_
                  refine r_aload_n 4 X dX7_leg_22 rfl ?_
                  refine r_iload_n 6 X dX7_leg_23 rfl ?_
                  refine r_iload 1 X dX7_leg_24 rfl ?_
                  refine r_iconst X dX7_leg_26 ?_
                  refine r_irem X dX7_leg_27 ⟨by omega, by omega⟩ ⟨by omega, by omega⟩ ?_
                  refine r_callV_v X dX7_leg_28 kX7_73 hm.1 (c_X7_sideOf (CX_l X) D z0 _ hm ht q (by omega) d e f hs2 1) [] rfl rfl (Nat.le_of_ble_eq_true rfl) (by decide) rfl rfl (by decide) ?_
                  refine r_istore (L' := [(6, iv (ln d e f 1)), (5, iv (ln a b c 1)), (4, iv 3), (3, iv (ln a b c 0)), (0, .ref y), (1, iv p), (2, iv q)]) X dX7_leg_31 (by decide) rfl ?_
                  refine r_iload 1 X dX7_leg_33 rfl ?_
                  refine r_iload 0 X dX7_leg_35 rfl ?_
                  refine r_icmp_ne 49 X dX7_leg_37 (by decide) ⟨by omega, by omega⟩ ⟨by omega, by omega⟩ (fun c37 => ?_) (fun c37 => ?_)
                  · refine r_iinc 2 (L' := [(4, iv 4), (6, iv (ln d e f 1)), (5, iv (ln a b c 1)), (3, iv (ln a b c 0)), (0, .ref y), (1, iv p), (2, iv q)]) X dX7_leg_49 rfl (by decide) rfl ?_
                    refine r_goto 5 X dX7_leg_52 (by decide) ?_
                    refine r_iload 0 X dX7_leg_5 rfl ?_
                    refine r_iconst X dX7_leg_7 ?_
                    refine r_icmp_ge 55 X dX7_leg_8 (by decide) ⟨by omega, by omega⟩ ⟨by omega, by omega⟩ (fun c8 => ?_) (fun c8 => ?_)
                    · refine r_iload_n 3 X dX7_leg_55 rfl ?_
                      refine r_iret X Y dX7_leg_56 (by decide) (by decide) ?_
                      exact pv_i (by unfold lg; (repeat' split) <;> omega)
                    · exfalso
                      omega
                  · refine r_iload 1 X dX7_leg_40 rfl ?_
                    refine r_iload_n 3 X dX7_leg_42 rfl ?_
                    refine r_icmp_le 49 X dX7_leg_43 (by decide) ⟨by omega, by omega⟩ ⟨by omega, by omega⟩ (fun c43 => ?_) (fun c43 => ?_)
                    · refine r_iinc 2 (L' := [(4, iv 4), (6, iv (ln d e f 1)), (5, iv (ln a b c 1)), (3, iv (ln a b c 0)), (0, .ref y), (1, iv p), (2, iv q)]) X dX7_leg_49 rfl (by decide) rfl ?_
                      refine r_goto 5 X dX7_leg_52 (by decide) ?_
                      refine r_iload 0 X dX7_leg_5 rfl ?_
                      refine r_iconst X dX7_leg_7 ?_
                      refine r_icmp_ge 55 X dX7_leg_8 (by decide) ⟨by omega, by omega⟩ ⟨by omega, by omega⟩ (fun c8 => ?_) (fun c8 => ?_)
                      · refine r_iload_n 3 X dX7_leg_55 rfl ?_
                        refine r_iret X Y dX7_leg_56 (by decide) (by decide) ?_
                        exact pv_i (by unfold lg; (repeat' split) <;> omega)
                      · exfalso
                        omega
                    · refine r_iload 1 X dX7_leg_46 rfl ?_
                      refine r_istore_n (L' := [(3, iv (ln a b c 1)), (6, iv (ln d e f 1)), (5, iv (ln a b c 1)), (4, iv 3), (0, .ref y), (1, iv p), (2, iv q)]) X dX7_leg_48 (by decide) rfl ?_
                      refine r_iinc 3 (L' := [(4, iv 4), (3, iv (ln a b c 1)), (6, iv (ln d e f 1)), (5, iv (ln a b c 1)), (0, .ref y), (1, iv p), (2, iv q)]) X dX7_leg_49 rfl (by decide) rfl ?_
                      refine r_goto 5 X dX7_leg_52 (by decide) ?_
                      refine r_iload 0 X dX7_leg_5 rfl ?_
                      refine r_iconst X dX7_leg_7 ?_
                      refine r_icmp_ge 55 X dX7_leg_8 (by decide) ⟨by omega, by omega⟩ ⟨by omega, by omega⟩ (fun c8 => ?_) (fun c8 => ?_)
                      · refine r_iload_n 1 X dX7_leg_55 rfl ?_
                        refine r_iret X Y dX7_leg_56 (by decide) (by decide) ?_
                        exact pv_i (by unfold lg; (repeat' split) <;> omega)
                      · exfalso
                        omega
              · refine r_iload 1 X dX7_leg_40 rfl ?_
                refine r_iload_n 3 X dX7_leg_42 rfl ?_
                refine r_icmp_le 49 X dX7_leg_43 (by decide) ⟨by omega, by omega⟩ ⟨by omega, by omega⟩ (fun c43 => ?_) (fun c43 => ?_)
                · refine r_iinc 2 (L' := [(4, iv 3), (6, iv (ln d e f 0)), (5, iv (ln a b c 1)), (3, iv (ln a b c 0)), (0, .ref y), (1, iv p), (2, iv q)]) X dX7_leg_49 rfl (by decide) rfl ?_
                  refine r_goto 5 X dX7_leg_52 (by decide) ?_
                  refine r_iload 0 X dX7_leg_5 rfl ?_
                  refine r_iconst X dX7_leg_7 ?_
                  refine r_icmp_ge 55 X dX7_leg_8 (by decide) ⟨by omega, by omega⟩ ⟨by omega, by omega⟩ (fun c8 => ?_) (fun c8 => ?_)
                  · exfalso
                    omega
                  · refine r_aload_n 4 X dX7_leg_11 rfl ?_
                    refine r_iload_n 5 X dX7_leg_12 rfl ?_
                    refine r_iload 0 X dX7_leg_13 rfl ?_
                    refine r_iconst X dX7_leg_15 ?_
                    refine r_idiv X dX7_leg_16 ⟨by omega, by omega⟩ ⟨by omega, by omega⟩ ?_
                    refine r_callV_v X dX7_leg_17 kX7_73 hm.1 (c_X7_sideOf (CX_l X) D z0 _ hm ht p (by omega) a b c hs 1) [] rfl rfl (Nat.le_of_ble_eq_true rfl) (by decide) rfl rfl (by decide) ?_
                    refine r_istore (L' := [(5, iv (ln a b c 1)), (4, iv 3), (6, iv (ln d e f 0)), (3, iv (ln a b c 0)), (0, .ref y), (1, iv p), (2, iv q)]) X dX7_leg_20 (by decide) rfl ?_
                    refine r_aload_n 4 X dX7_leg_22 rfl ?_
                    refine r_iload_n 6 X dX7_leg_23 rfl ?_
                    refine r_iload 1 X dX7_leg_24 rfl ?_
                    refine r_iconst X dX7_leg_26 ?_
                    refine r_irem X dX7_leg_27 ⟨by omega, by omega⟩ ⟨by omega, by omega⟩ ?_
                    refine r_callV_v X dX7_leg_28 kX7_73 hm.1 (c_X7_sideOf (CX_l X) D z0 _ hm ht q (by omega) d e f hs2 1) [] rfl rfl (Nat.le_of_ble_eq_true rfl) (by decide) rfl rfl (by decide) ?_
                    refine r_istore (L' := [(6, iv (ln d e f 1)), (5, iv (ln a b c 1)), (4, iv 3), (3, iv (ln a b c 0)), (0, .ref y), (1, iv p), (2, iv q)]) X dX7_leg_31 (by decide) rfl ?_
                    refine r_iload 1 X dX7_leg_33 rfl ?_
                    refine r_iload 0 X dX7_leg_35 rfl ?_
                    refine r_icmp_ne 49 X dX7_leg_37 (by decide) ⟨by omega, by omega⟩ ⟨by omega, by omega⟩ (fun c37 => ?_) (fun c37 => ?_)
                    · refine r_iinc 2 (L' := [(4, iv 4), (6, iv (ln d e f 1)), (5, iv (ln a b c 1)), (3, iv (ln a b c 0)), (0, .ref y), (1, iv p), (2, iv q)]) X dX7_leg_49 rfl (by decide) rfl ?_
                      refine r_goto 5 X dX7_leg_52 (by decide) ?_
                      refine r_iload 0 X dX7_leg_5 rfl ?_
                      refine r_iconst X dX7_leg_7 ?_
                      refine r_icmp_ge 55 X dX7_leg_8 (by decide) ⟨by omega, by omega⟩ ⟨by omega, by omega⟩ (fun c8 => ?_) (fun c8 => ?_)
                      · refine r_iload_n 3 X dX7_leg_55 rfl ?_
                        refine r_iret X Y dX7_leg_56 (by decide) (by decide) ?_
                        exact pv_i (by unfold lg; (repeat' split) <;> omega)
                      · exfalso
                        omega
                    · refine r_iload 1 X dX7_leg_40 rfl ?_
                      refine r_iload_n 3 X dX7_leg_42 rfl ?_
                      refine r_icmp_le 49 X dX7_leg_43 (by decide) ⟨by omega, by omega⟩ ⟨by omega, by omega⟩ (fun c43 => ?_) (fun c43 => ?_)
                      · refine r_iinc 2 (L' := [(4, iv 4), (6, iv (ln d e f 1)), (5, iv (ln a b c 1)), (3, iv (ln a b c 0)), (0, .ref y), (1, iv p), (2, iv q)]) X dX7_leg_49 rfl (by decide) rfl ?_
                        refine r_goto 5 X dX7_leg_52 (by decide) ?_
                        refine r_iload 0 X dX7_leg_5 rfl ?_
                        refine r_iconst X dX7_leg_7 ?_
                        refine r_icmp_ge 55 X dX7_leg_8 (by decide) ⟨by omega, by omega⟩ ⟨by omega, by omega⟩ (fun c8 => ?_) (fun c8 => ?_)
                        · refine r_iload_n 3 X dX7_leg_55 rfl ?_
                          refine r_iret X Y dX7_leg_56 (by decide) (by decide) ?_
                          exact pv_i (by unfold lg; (repeat' split) <;> omega)
                        · exfalso
                          omega
                      · refine r_iload 1 X dX7_leg_46 rfl ?_
                        refine r_istore_n (L' := [(3, iv (ln a b c 1)), (6, iv (ln d e f 1)), (5, iv (ln a b c 1)), (4, iv 3), (0, .ref y), (1, iv p), (2, iv q)]) X dX7_leg_48 (by decide) rfl ?_
                        refine r_iinc 3 (L' := [(4, iv 4), (3, iv (ln a b c 1)), (6, iv (ln d e f 1)), (5, iv (ln a b c 1)), (0, .ref y), (1, iv p), (2, iv q)]) X dX7_leg_49 rfl (by decide) rfl ?_
                        refine r_goto 5 X dX7_leg_52 (by decide) ?_
                        refine r_iload 0 X dX7_leg_5 rfl ?_
                        refine r_iconst X dX7_leg_7 ?_
                        refine r_icmp_ge 55 X dX7_leg_8 (by decide) ⟨by omega, by omega⟩ ⟨by omega, by omega⟩ (fun c8 => ?_) (fun c8 => ?_)
                        · refine r_iload_n 1 X dX7_leg_55 rfl ?_
                          refine r_iret X Y dX7_leg_56 (by decide) (by decide) ?_
                          exact pv_i (by unfold lg; (repeat' split) <;> omega)
                        · exfalso
                          omega
                · refine r_iload 1 X dX7_leg_46 rfl ?_
                  refine r_istore_n (L' := [(3, iv (ln a b c 1)), (6, iv (ln d e f 0)), (5, iv (ln a b c 1)), (4, iv 2), (0, .ref y), (1, iv p), (2, iv q)]) X dX7_leg_48 (by decide) rfl ?_
                  refine r_iinc 3 (L' := [(4, iv 3), (3, iv (ln a b c 1)), (6, iv (ln d e f 0)), (5, iv (ln a b c 1)), (0, .ref y), (1, iv p), (2, iv q)]) X dX7_leg_49 rfl (by decide) rfl ?_
                  refine r_goto 5 X dX7_leg_52 (by decide) ?_
                  refine r_iload 0 X dX7_leg_5 rfl ?_
                  refine r_iconst X dX7_leg_7 ?_
                  refine r_icmp_ge 55 X dX7_leg_8 (by decide) ⟨by omega, by omega⟩ ⟨by omega, by omega⟩ (fun c8 => ?_) (fun c8 => ?_)
                  · exfalso
                    omega
                  · refine r_aload_n 4 X dX7_leg_11 rfl ?_
                    refine r_iload_n 5 X dX7_leg_12 rfl ?_
                    refine r_iload 0 X dX7_leg_13 rfl ?_
                    refine r_iconst X dX7_leg_15 ?_
                    refine r_idiv X dX7_leg_16 ⟨by omega, by omega⟩ ⟨by omega, by omega⟩ ?_
                    refine r_callV_v X dX7_leg_17 kX7_73 hm.1 (c_X7_sideOf (CX_l X) D z0 _ hm ht p (by omega) a b c hs 1) [] rfl rfl (Nat.le_of_ble_eq_true rfl) (by decide) rfl rfl (by decide) ?_
                    refine r_istore (L' := [(5, iv (ln a b c 1)), (4, iv 3), (3, iv (ln a b c 1)), (6, iv (ln d e f 0)), (0, .ref y), (1, iv p), (2, iv q)]) X dX7_leg_20 (by decide) rfl ?_
                    refine r_aload_n 4 X dX7_leg_22 rfl ?_
                    refine r_iload_n 6 X dX7_leg_23 rfl ?_
                    refine r_iload 1 X dX7_leg_24 rfl ?_
                    refine r_iconst X dX7_leg_26 ?_
                    refine r_irem X dX7_leg_27 ⟨by omega, by omega⟩ ⟨by omega, by omega⟩ ?_
                    refine r_callV_v X dX7_leg_28 kX7_73 hm.1 (c_X7_sideOf (CX_l X) D z0 _ hm ht q (by omega) d e f hs2 1) [] rfl rfl (Nat.le_of_ble_eq_true rfl) (by decide) rfl rfl (by decide) ?_
                    refine r_istore (L' := [(6, iv (ln d e f 1)), (5, iv (ln a b c 1)), (4, iv 3), (3, iv (ln a b c 1)), (0, .ref y), (1, iv p), (2, iv q)]) X dX7_leg_31 (by decide) rfl ?_
                    refine r_iload 1 X dX7_leg_33 rfl ?_
                    refine r_iload 0 X dX7_leg_35 rfl ?_
                    refine r_icmp_ne 49 X dX7_leg_37 (by decide) ⟨by omega, by omega⟩ ⟨by omega, by omega⟩ (fun c37 => ?_) (fun c37 => ?_)
                    · refine r_iinc 2 (L' := [(4, iv 4), (6, iv (ln d e f 1)), (5, iv (ln a b c 1)), (3, iv (ln a b c 1)), (0, .ref y), (1, iv p), (2, iv q)]) X dX7_leg_49 rfl (by decide) rfl ?_
                      refine r_goto 5 X dX7_leg_52 (by decide) ?_
                      refine r_iload 0 X dX7_leg_5 rfl ?_
                      refine r_iconst X dX7_leg_7 ?_
                      refine r_icmp_ge 55 X dX7_leg_8 (by decide) ⟨by omega, by omega⟩ ⟨by omega, by omega⟩ (fun c8 => ?_) (fun c8 => ?_)
                      · refine r_iload_n 3 X dX7_leg_55 rfl ?_
                        refine r_iret X Y dX7_leg_56 (by decide) (by decide) ?_
                        exact pv_i (by unfold lg; (repeat' split) <;> omega)
                      · exfalso
                        omega
                    · refine r_iload 1 X dX7_leg_40 rfl ?_
                      refine r_iload_n 3 X dX7_leg_42 rfl ?_
                      refine r_icmp_le 49 X dX7_leg_43 (by decide) ⟨by omega, by omega⟩ ⟨by omega, by omega⟩ (fun c43 => ?_) (fun c43 => ?_)
                      · refine r_iinc 2 (L' := [(4, iv 4), (6, iv (ln d e f 1)), (5, iv (ln a b c 1)), (3, iv (ln a b c 1)), (0, .ref y), (1, iv p), (2, iv q)]) X dX7_leg_49 rfl (by decide) rfl ?_
                        refine r_goto 5 X dX7_leg_52 (by decide) ?_
                        refine r_iload 0 X dX7_leg_5 rfl ?_
                        refine r_iconst X dX7_leg_7 ?_
                        refine r_icmp_ge 55 X dX7_leg_8 (by decide) ⟨by omega, by omega⟩ ⟨by omega, by omega⟩ (fun c8 => ?_) (fun c8 => ?_)
                        · refine r_iload_n 3 X dX7_leg_55 rfl ?_
                          refine r_iret X Y dX7_leg_56 (by decide) (by decide) ?_
                          exact pv_i (by unfold lg; (repeat' split) <;> omega)
                        · exfalso
                          omega
                      · refine r_iload 1 X dX7_leg_46 rfl ?_
                        refine r_istore_n (L' := [(3, iv (ln a b c 1)), (6, iv (ln d e f 1)), (5, iv (ln a b c 1)), (4, iv 3), (0, .ref y), (1, iv p), (2, iv q)]) X dX7_leg_48 (by decide) rfl ?_
                        refine r_iinc 3 (L' := [(4, iv 4), (3, iv (ln a b c 1)), (6, iv (ln d e f 1)), (5, iv (ln a b c 1)), (0, .ref y), (1, iv p), (2, iv q)]) X dX7_leg_49 rfl (by decide) rfl ?_
                        refine r_goto 5 X dX7_leg_52 (by decide) ?_
                        refine r_iload 0 X dX7_leg_5 rfl ?_
                        refine r_iconst X dX7_leg_7 ?_
                        refine r_icmp_ge 55 X dX7_leg_8 (by decide) ⟨by omega, by omega⟩ ⟨by omega, by omega⟩ (fun c8 => ?_) (fun c8 => ?_)
                        · refine r_iload_n 1 X dX7_leg_55 rfl ?_
                          refine r_iret X Y dX7_leg_56 (by decide) (by decide) ?_
                          exact pv_i (by unfold lg; (repeat' split) <;> omega)
                        · exfalso
                          omega
    · refine r_iload 1 X dX7_leg_40 rfl ?_
      refine r_iload_n 3 X dX7_leg_42 rfl ?_
      refine r_icmp_le 49 X dX7_leg_43 (by decide) ⟨by omega, by omega⟩ ⟨by omega, by omega⟩ (fun c43 => ?_) (fun c43 => ?_)
      · refine r_iinc 2 (L' := [(4, iv 1), (6, iv (ln d e f 0)), (5, iv (ln a b c 0)), (3, iv 0), (0, .ref y), (1, iv p), (2, iv q)]) X dX7_leg_49 rfl (by decide) rfl ?_
        refine r_goto 5 X dX7_leg_52 (by decide) ?_
        refine r_iload 0 X dX7_leg_5 rfl ?_
        refine r_iconst X dX7_leg_7 ?_
        refine r_icmp_ge 55 X dX7_leg_8 (by decide) ⟨by omega, by omega⟩ ⟨by omega, by omega⟩ (fun c8 => ?_) (fun c8 => ?_)
        · exfalso
          omega
        · refine r_aload_n 4 X dX7_leg_11 rfl ?_
          refine r_iload_n 5 X dX7_leg_12 rfl ?_
          refine r_iload 0 X dX7_leg_13 rfl ?_
          refine r_iconst X dX7_leg_15 ?_
          refine r_idiv X dX7_leg_16 ⟨by omega, by omega⟩ ⟨by omega, by omega⟩ ?_
          refine r_callV_v X dX7_leg_17 kX7_73 hm.1 (c_X7_sideOf (CX_l X) D z0 _ hm ht p (by omega) a b c hs 0) [] rfl rfl (Nat.le_of_ble_eq_true rfl) (by decide) rfl rfl (by decide) ?_
          refine r_istore (L' := [(5, iv (ln a b c 0)), (4, iv 1), (6, iv (ln d e f 0)), (3, iv 0), (0, .ref y), (1, iv p), (2, iv q)]) X dX7_leg_20 (by decide) rfl ?_
          refine r_aload_n 4 X dX7_leg_22 rfl ?_
          refine r_iload_n 6 X dX7_leg_23 rfl ?_
          refine r_iload 1 X dX7_leg_24 rfl ?_
          refine r_iconst X dX7_leg_26 ?_
          refine r_irem X dX7_leg_27 ⟨by omega, by omega⟩ ⟨by omega, by omega⟩ ?_
          refine r_callV_v X dX7_leg_28 kX7_73 hm.1 (c_X7_sideOf (CX_l X) D z0 _ hm ht q (by omega) d e f hs2 1) [] rfl rfl (Nat.le_of_ble_eq_true rfl) (by decide) rfl rfl (by decide) ?_
          refine r_istore (L' := [(6, iv (ln d e f 1)), (5, iv (ln a b c 0)), (4, iv 1), (3, iv 0), (0, .ref y), (1, iv p), (2, iv q)]) X dX7_leg_31 (by decide) rfl ?_
          refine r_iload 1 X dX7_leg_33 rfl ?_
          refine r_iload 0 X dX7_leg_35 rfl ?_
          refine r_icmp_ne 49 X dX7_leg_37 (by decide) ⟨by omega, by omega⟩ ⟨by omega, by omega⟩ (fun c37 => ?_) (fun c37 => ?_)
          · refine r_iinc 2 (L' := [(4, iv 2), (6, iv (ln d e f 1)), (5, iv (ln a b c 0)), (3, iv 0), (0, .ref y), (1, iv p), (2, iv q)]) X dX7_leg_49 rfl (by decide) rfl ?_
            refine r_goto 5 X dX7_leg_52 (by decide) ?_
            refine r_iload 0 X dX7_leg_5 rfl ?_
            refine r_iconst X dX7_leg_7 ?_
            refine r_icmp_ge 55 X dX7_leg_8 (by decide) ⟨by omega, by omega⟩ ⟨by omega, by omega⟩ (fun c8 => ?_) (fun c8 => ?_)
            · exfalso
              omega
            · refine r_aload_n 4 X dX7_leg_11 rfl ?_
              refine r_iload_n 5 X dX7_leg_12 rfl ?_
              refine r_iload 0 X dX7_leg_13 rfl ?_
              refine r_iconst X dX7_leg_15 ?_
              refine r_idiv X dX7_leg_16 ⟨by omega, by omega⟩ ⟨by omega, by omega⟩ ?_
              refine r_callV_v X dX7_leg_17 kX7_73 hm.1 (c_X7_sideOf (CX_l X) D z0 _ hm ht p (by omega) a b c hs 1) [] rfl rfl (Nat.le_of_ble_eq_true rfl) (by decide) rfl rfl (by decide) ?_
              refine r_istore (L' := [(5, iv (ln a b c 1)), (4, iv 2), (6, iv (ln d e f 1)), (3, iv 0), (0, .ref y), (1, iv p), (2, iv q)]) X dX7_leg_20 (by decide) rfl ?_
              refine r_aload_n 4 X dX7_leg_22 rfl ?_
              refine r_iload_n 6 X dX7_leg_23 rfl ?_
              refine r_iload 1 X dX7_leg_24 rfl ?_
              refine r_iconst X dX7_leg_26 ?_
              refine r_irem X dX7_leg_27 ⟨by omega, by omega⟩ ⟨by omega, by omega⟩ ?_
              refine r_callV_v X dX7_leg_28 kX7_73 hm.1 (c_X7_sideOf (CX_l X) D z0 _ hm ht q (by omega) d e f hs2 0) [] rfl rfl (Nat.le_of_ble_eq_true rfl) (by decide) rfl rfl (by decide) ?_
              refine r_istore (L' := [(6, iv (ln d e f 0)), (5, iv (ln a b c 1)), (4, iv 2), (3, iv 0), (0, .ref y), (1, iv p), (2, iv q)]) X dX7_leg_31 (by decide) rfl ?_
              refine r_iload 1 X dX7_leg_33 rfl ?_
              refine r_iload 0 X dX7_leg_35 rfl ?_
              refine r_icmp_ne 49 X dX7_leg_37 (by decide) ⟨by omega, by omega⟩ ⟨by omega, by omega⟩ (fun c37 => ?_) (fun c37 => ?_)
              · refine r_iinc 2 (L' := [(4, iv 3), (6, iv (ln d e f 0)), (5, iv (ln a b c 1)), (3, iv 0), (0, .ref y), (1, iv p), (2, iv q)]) X dX7_leg_49 rfl (by decide) rfl ?_
                refine r_goto 5 X dX7_leg_52 (by decide) ?_
                refine r_iload 0 X dX7_leg_5 rfl ?_
                refine r_iconst X dX7_leg_7 ?_
                refine r_icmp_ge 55 X dX7_leg_8 (by decide) ⟨by omega, by omega⟩ ⟨by omega, by omega⟩ (fun c8 => ?_) (fun c8 => ?_)
                · exfalso
                  omega
                · refine r_aload_n 4 X dX7_leg_11 rfl ?_
                  refine r_iload_n 5 X dX7_leg_12 rfl ?_
                  refine r_iload 0 X dX7_leg_13 rfl ?_
                  refine r_iconst X dX7_leg_15 ?_
                  refine r_idiv X dX7_leg_16 ⟨by omega, by omega⟩ ⟨by omega, by omega⟩ ?_
                  refine r_callV_v X dX7_leg_17 kX7_73 hm.1 (c_X7_sideOf (CX_l X) D z0 _ hm ht p (by omega) a b c hs 1) [] rfl rfl (Nat.le_of_ble_eq_true rfl) (by decide) rfl rfl (by decide) ?_
                  refine r_istore (L' := [(5, iv (ln a b c 1)), (4, iv 3), (6, iv (ln d e f 0)), (3, iv 0), (0, .ref y), (1, iv p), (2, iv q)]) X dX7_leg_20 (by decide) rfl ?_
                  refine r_aload_n 4 X dX7_leg_22 rfl ?_
                  refine r_iload_n 6 X dX7_leg_23 rfl ?_
                  refine r_iload 1 X dX7_leg_24 rfl ?_
                  refine r_iconst X dX7_leg_26 ?_
                  refine r_irem X dX7_leg_27 ⟨by omega, by omega⟩ ⟨by omega, by omega⟩ ?_
                  refine r_callV_v X dX7_leg_28 kX7_73 hm.1 (c_X7_sideOf (CX_l X) D z0 _ hm ht q (by omega) d e f hs2 1) [] rfl rfl (Nat.le_of_ble_eq_true rfl) (by decide) rfl rfl (by decide) ?_
                  refine r_istore (L' := [(6, iv (ln d e f 1)), (5, iv (ln a b c 1)), (4, iv 3), (3, iv 0), (0, .ref y), (1, iv p), (2, iv q)]) X dX7_leg_31 (by decide) rfl ?_
                  refine r_iload 1 X dX7_leg_33 rfl ?_
                  refine r_iload 0 X dX7_leg_35 rfl ?_
                  refine r_icmp_ne 49 X dX7_leg_37 (by decide) ⟨by omega, by omega⟩ ⟨by omega, by omega⟩ (fun c37 => ?_) (fun c37 => ?_)
                  · refine r_iinc 2 (L' := [(4, iv 4), (6, iv (ln d e f 1)), (5, iv (ln a b c 1)), (3, iv 0), (0, .ref y), (1, iv p), (2, iv q)]) X dX7_leg_49 rfl (by decide) rfl ?_
                    refine r_goto 5 X dX7_leg_52 (by decide) ?_
                    refine r_iload 0 X dX7_leg_5 rfl ?_
                    refine r_iconst X dX7_leg_7 ?_
                    refine r_icmp_ge 55 X dX7_leg_8 (by decide) ⟨by omega, by omega⟩ ⟨by omega, by omega⟩ (fun c8 => ?_) (fun c8 => ?_)
                    · refine r_iload_n 3 X dX7_leg_55 rfl ?_
                      refine r_iret X Y dX7_leg_56 (by decide) (by decide) ?_
                      exact pv_i (by unfold lg; (repeat' split) <;> omega)
                    · exfalso
                      omega
                  · refine r_iload 1 X dX7_leg_40 rfl ?_
                    refine r_iload_n 3 X dX7_leg_42 rfl ?_
                    refine r_icmp_le 49 X dX7_leg_43 (by decide) ⟨by omega, by omega⟩ ⟨by omega, by omega⟩ (fun c43 => ?_) (fun c43 => ?_)
                    · refine r_iinc 2 (L' := [(4, iv 4), (6, iv (ln d e f 1)), (5, iv (ln a b c 1)), (3, iv 0), (0, .ref y), (1, iv p), (2, iv q)]) X dX7_leg_49 rfl (by decide) rfl ?_
                      refine r_goto 5 X dX7_leg_52 (by decide) ?_
                      refine r_iload 0 X dX7_leg_5 rfl ?_
                      refine r_iconst X dX7_leg_7 ?_
                      refine r_icmp_ge 55 X dX7_leg_8 (by decide) ⟨by omega, by omega⟩ ⟨by omega, by omega⟩ (fun c8 => ?_) (fun c8 => ?_)
                      · refine r_iload_n 3 X dX7_leg_55 rfl ?_
                        refine r_iret X Y dX7_leg_56 (by decide) (by decide) ?_
                        exact pv_i (by unfold lg; (repeat' split) <;> omega)
                      · exfalso
                        omega
                    · refine r_iload 1 X dX7_leg_46 rfl ?_
                      refine r_istore_n (L' := [(3, iv (ln a b c 1)), (6, iv (ln d e f 1)), (5, iv (ln a b c 1)), (4, iv 3), (0, .ref y), (1, iv p), (2, iv q)]) X dX7_leg_48 (by decide) rfl ?_
                      refine r_iinc 3 (L' := [(4, iv 4), (3, iv (ln a b c 1)), (6, iv (ln d e f 1)), (5, iv (ln a b c 1)), (0, .ref y), (1, iv p), (2, iv q)]) X dX7_leg_49 rfl (by decide) rfl ?_
                      refine r_goto 5 X dX7_leg_52 (by decide) ?_
                      refine r_iload 0 X dX7_leg_5 rfl ?_
                      refine r_iconst X dX7_leg_7 ?_
                      refine r_icmp_ge 55 X dX7_leg_8 (by decide) ⟨by omega, by omega⟩ ⟨by omega, by omega⟩ (fun c8 => ?_) (fun c8 => ?_)
                      · refine r_iload_n 1 X dX7_leg_55 rfl ?_
                        refine r_iret X Y dX7_leg_56 (by decide) (by decide) ?_
                        exact pv_i (by unfold lg; (repeat' split) <;> omega)
                      · exfalso
                        omega
              · refine r_iload 1 X dX7_leg_40 rfl ?_
                refine r_iload_n 3 X dX7_leg_42 rfl ?_
                refine r_icmp_le 49 X dX7_leg_43 (by decide) ⟨by omega, by omega⟩ ⟨by omega, by omega⟩ (fun c43 => ?_) (fun c43 => ?_)
                · refine r_iinc 2 (L' := [(4, iv 3), (6, iv (ln d e f 0)), (5, iv (ln a b c 1)), (3, iv 0), (0, .ref y), (1, iv p), (2, iv q)]) X dX7_leg_49 rfl (by decide) rfl ?_
                  refine r_goto 5 X dX7_leg_52 (by decide) ?_
                  refine r_iload 0 X dX7_leg_5 rfl ?_
                  refine r_iconst X dX7_leg_7 ?_
                  refine r_icmp_ge 55 X dX7_leg_8 (by decide) ⟨by omega, by omega⟩ ⟨by omega, by omega⟩ (fun c8 => ?_) (fun c8 => ?_)
                  · exfalso
                    omega
                  · refine r_aload_n 4 X dX7_leg_11 rfl ?_
                    refine r_iload_n 5 X dX7_leg_12 rfl ?_
                    refine r_iload 0 X dX7_leg_13 rfl ?_
                    refine r_iconst X dX7_leg_15 ?_
                    refine r_idiv X dX7_leg_16 ⟨by omega, by omega⟩ ⟨by omega, by omega⟩ ?_
                    refine r_callV_v X dX7_leg_17 kX7_73 hm.1 (c_X7_sideOf (CX_l X) D z0 _ hm ht p (by omega) a b c hs 1) [] rfl rfl (Nat.le_of_ble_eq_true rfl) (by decide) rfl rfl (by decide) ?_
                    refine r_istore (L' := [(5, iv (ln a b c 1)), (4, iv 3), (6, iv (ln d e f 0)), (3, iv 0), (0, .ref y), (1, iv p), (2, iv q)]) X dX7_leg_20 (by decide) rfl ?_
                    refine r_aload_n 4 X dX7_leg_22 rfl ?_
                    refine r_iload_n 6 X dX7_leg_23 rfl ?_
                    refine r_iload 1 X dX7_leg_24 rfl ?_
                    refine r_iconst X dX7_leg_26 ?_
                    refine r_irem X dX7_leg_27 ⟨by omega, by omega⟩ ⟨by omega, by omega⟩ ?_
                    refine r_callV_v X dX7_leg_28 kX7_73 hm.1 (c_X7_sideOf (CX_l X) D z0 _ hm ht q (by omega) d e f hs2 1) [] rfl rfl (Nat.le_of_ble_eq_true rfl) (by decide) rfl rfl (by decide) ?_
                    refine r_istore (L' := [(6, iv (ln d e f 1)), (5, iv (ln a b c 1)), (4, iv 3), (3, iv 0), (0, .ref y), (1, iv p), (2, iv q)]) X dX7_leg_31 (by decide) rfl ?_
                    refine r_iload 1 X dX7_leg_33 rfl ?_
                    refine r_iload 0 X dX7_leg_35 rfl ?_
                    refine r_icmp_ne 49 X dX7_leg_37 (by decide) ⟨by omega, by omega⟩ ⟨by omega, by omega⟩ (fun c37 => ?_) (fun c37 => ?_)
                    · refine r_iinc 2 (L' := [(4, iv 4), (6, iv (ln d e f 1)), (5, iv (ln a b c 1)), (3, iv 0), (0, .ref y), (1, iv p), (2, iv q)]) X dX7_leg_49 rfl (by decide) rfl ?_
                      refine r_goto 5 X dX7_leg_52 (by decide) ?_
                      refine r_iload 0 X dX7_leg_5 rfl ?_
                      refine r_iconst X dX7_leg_7 ?_
                      refine r_icmp_ge 55 X dX7_leg_8 (by decide) ⟨by omega, by omega⟩ ⟨by omega, by omega⟩ (fun c8 => ?_) (fun c8 => ?_)
                      · refine r_iload_n 3 X dX7_leg_55 rfl ?_
                        refine r_iret X Y dX7_leg_56 (by decide) (by decide) ?_
                        exact pv_i (by unfold lg; (repeat' split) <;> omega)
                      · exfalso
                        omega
                    · refine r_iload 1 X dX7_leg_40 rfl ?_
                      refine r_iload_n 3 X dX7_leg_42 rfl ?_
                      refine r_icmp_le 49 X dX7_leg_43 (by decide) ⟨by omega, by omega⟩ ⟨by omega, by omega⟩ (fun c43 => ?_) (fun c43 => ?_)
                      · refine r_iinc 2 (L' := [(4, iv 4), (6, iv (ln d e f 1)), (5, iv (ln a b c 1)), (3, iv 0), (0, .ref y), (1, iv p), (2, iv q)]) X dX7_leg_49 rfl (by decide) rfl ?_
                        refine r_goto 5 X dX7_leg_52 (by decide) ?_
                        refine r_iload 0 X dX7_leg_5 rfl ?_
                        refine r_iconst X dX7_leg_7 ?_
                        refine r_icmp_ge 55 X dX7_leg_8 (by decide) ⟨by omega, by omega⟩ ⟨by omega, by omega⟩ (fun c8 => ?_) (fun c8 => ?_)
                        · refine r_iload_n 3 X dX7_leg_55 rfl ?_
                          refine r_iret X Y dX7_leg_56 (by decide) (by decide) ?_
                          exact pv_i (by unfold lg; (repeat' split) <;> omega)
                        · exfalso
                          omega
                      · refine r_iload 1 X dX7_leg_46 rfl ?_
                        refine r_istore_n (L' := [(3, iv (ln a b c 1)), (6, iv (ln d e f 1)), (5, iv (ln a b c 1)), (4, iv 3), (0, .ref y), (1, iv p), (2, iv q)]) X dX7_leg_48 (by decide) rfl ?_
                        refine r_iinc 3 (L' := [(4, iv 4), (3, iv (ln a b c 1)), (6, iv (ln d e f 1)), (5, iv (ln a b c 1)), (0, .ref y), (1, iv p), (2, iv q)]) X dX7_leg_49 rfl (by decide) rfl ?_
                        refine r_goto 5 X dX7_leg_52 (by decide) ?_
                        refine r_iload 0 X dX7_leg_5 rfl ?_
                        refine r_iconst X dX7_leg_7 ?_
                        refine r_icmp_ge 55 X dX7_leg_8 (by decide) ⟨by omega, by omega⟩ ⟨by omega, by omega⟩ (fun c8 => ?_) (fun c8 => ?_)
                        · refine r_iload_n 1 X dX7_leg_55 rfl ?_
                          refine r_iret X Y dX7_leg_56 (by decide) (by decide) ?_
                          exact pv_i (by unfold lg; (repeat' split) <;> omega)
                        · exfalso
                          omega
                · refine r_iload 1 X dX7_leg_46 rfl ?_
                  refine r_istore_n (L' := [(3, iv (ln a b c 1)), (6, iv (ln d e f 0)), (5, iv (ln a b c 1)), (4, iv 2), (0, .ref y), (1, iv p), (2, iv q)]) X dX7_leg_48 (by decide) rfl ?_
                  refine r_iinc 3 (L' := [(4, iv 3), (3, iv (ln a b c 1)), (6, iv (ln d e f 0)), (5, iv (ln a b c 1)), (0, .ref y), (1, iv p), (2, iv q)]) X dX7_leg_49 rfl (by decide) rfl ?_
                  refine r_goto 5 X dX7_leg_52 (by decide) ?_
                  refine r_iload 0 X dX7_leg_5 rfl ?_
                  refine r_iconst X dX7_leg_7 ?_
                  refine r_icmp_ge 55 X dX7_leg_8 (by decide) ⟨by omega, by omega⟩ ⟨by omega, by omega⟩ (fun c8 => ?_) (fun c8 => ?_)
                  · exfalso
                    omega
                  · refine r_aload_n 4 X dX7_leg_11 rfl ?_
                    refine r_iload_n 5 X dX7_leg_12 rfl ?_
                    refine r_iload 0 X dX7_leg_13 rfl ?_
                    refine r_iconst X dX7_leg_15 ?_
                    refine r_idiv X dX7_leg_16 ⟨by omega, by omega⟩ ⟨by omega, by omega⟩ ?_
                    refine r_callV_v X dX7_leg_17 kX7_73 hm.1 (c_X7_sideOf (CX_l X) D z0 _ hm ht p (by omega) a b c hs 1) [] rfl rfl (Nat.le_of_ble_eq_true rfl) (by decide) rfl rfl (by decide) ?_
                    refine r_istore (L' := [(5, iv (ln a b c 1)), (4, iv 3), (3, iv (ln a b c 1)), (6, iv (ln d e f 0)), (0, .ref y), (1, iv p), (2, iv q)]) X dX7_leg_20 (by decide) rfl ?_
                    refine r_aload_n 4 X dX7_leg_22 rfl ?_
                    refine r_iload_n 6 X dX7_leg_23 rfl ?_
                    refine r_iload 1 X dX7_leg_24 rfl ?_
                    refine r_iconst X dX7_leg_26 ?_
                    refine r_irem X dX7_leg_27 ⟨by omega, by omega⟩ ⟨by omega, by omega⟩ ?_
                    refine r_callV_v X dX7_leg_28 kX7_73 hm.1 (c_X7_sideOf (CX_l X) D z0 _ hm ht q (by omega) d e f hs2 1) [] rfl rfl (Nat.le_of_ble_eq_true rfl) (by decide) rfl rfl (by decide) ?_
                    refine r_istore (L' := [(6, iv (ln d e f 1)), (5, iv (ln a b c 1)), (4, iv 3), (3, iv (ln a b c 1)), (0, .ref y), (1, iv p), (2, iv q)]) X dX7_leg_31 (by decide) rfl ?_
                    refine r_iload 1 X dX7_leg_33 rfl ?_
                    refine r_iload 0 X dX7_leg_35 rfl ?_
                    refine r_icmp_ne 49 X dX7_leg_37 (by decide) ⟨by omega, by omega⟩ ⟨by omega, by omega⟩ (fun c37 => ?_) (fun c37 => ?_)
                    · refine r_iinc 2 (L' := [(4, iv 4), (6, iv (ln d e f 1)), (5, iv (ln a b c 1)), (3, iv (ln a b c 1)), (0, .ref y), (1, iv p), (2, iv q)]) X dX7_leg_49 rfl (by decide) rfl ?_
                      refine r_goto 5 X dX7_leg_52 (by decide) ?_
                      refine r_iload 0 X dX7_leg_5 rfl ?_
                      refine r_iconst X dX7_leg_7 ?_
                      refine r_icmp_ge 55 X dX7_leg_8 (by decide) ⟨by omega, by omega⟩ ⟨by omega, by omega⟩ (fun c8 => ?_) (fun c8 => ?_)
                      · refine r_iload_n 3 X dX7_leg_55 rfl ?_
                        refine r_iret X Y dX7_leg_56 (by decide) (by decide) ?_
                        exact pv_i (by unfold lg; (repeat' split) <;> omega)
                      · exfalso
                        omega
                    · refine r_iload 1 X dX7_leg_40 rfl ?_
                      refine r_iload_n 3 X dX7_leg_42 rfl ?_
                      refine r_icmp_le 49 X dX7_leg_43 (by decide) ⟨by omega, by omega⟩ ⟨by omega, by omega⟩ (fun c43 => ?_) (fun c43 => ?_)
                      · refine r_iinc 2 (L' := [(4, iv 4), (6, iv (ln d e f 1)), (5, iv (ln a b c 1)), (3, iv (ln a b c 1)), (0, .ref y), (1, iv p), (2, iv q)]) X dX7_leg_49 rfl (by decide) rfl ?_
                        refine r_goto 5 X dX7_leg_52 (by decide) ?_
                        refine r_iload 0 X dX7_leg_5 rfl ?_
                        refine r_iconst X dX7_leg_7 ?_
                        refine r_icmp_ge 55 X dX7_leg_8 (by decide) ⟨by omega, by omega⟩ ⟨by omega, by omega⟩ (fun c8 => ?_) (fun c8 => ?_)
                        · refine r_iload_n 3 X dX7_leg_55 rfl ?_
                          refine r_iret X Y dX7_leg_56 (by decide) (by decide) ?_
                          exact pv_i (by unfold lg; (repeat' split) <;> omega)
                        · exfalso
                          omega
                      · refine r_iload 1 X dX7_leg_46 rfl ?_
                        refine r_istore_n (L' := [(3, iv (ln a b c 1)), (6, iv (ln d e f 1)), (5, iv (ln a b c 1)), (4, iv 3), (0, .ref y), (1, iv p), (2, iv q)]) X dX7_leg_48 (by decide) rfl ?_
                        refine r_iinc 3 (L' := [(4, iv 4), (3, iv (ln a b c 1)), (6, iv (ln d e f 1)), (5, iv (ln a b c 1)), (0, .ref y), (1, iv p), (2, iv q)]) X dX7_leg_49 rfl (by decide) rfl ?_
                        refine r_goto 5 X dX7_leg_52 (by decide) ?_
                        refine r_iload 0 X dX7_leg_5 rfl ?_
                        refine r_iconst X dX7_leg_7 ?_
                        refine r_icmp_ge 55 X dX7_leg_8 (by decide) ⟨by omega, by omega⟩ ⟨by omega, by omega⟩ (fun c8 => ?_) (fun c8 => ?_)
                        · refine r_iload_n 1 X dX7_leg_55 rfl ?_
                          refine r_iret X Y dX7_leg_56 (by decide) (by decide) ?_
                          exact pv_i (by unfold lg; (repeat' split) <;> omega)
                        · exfalso
                          omega
          · refine r_iload 1 X dX7_leg_40 rfl ?_
            refine r_iload_n 3 X dX7_leg_42 rfl ?_
            refine r_icmp_le 49 X dX7_leg_43 (by decide) ⟨by omega, by omega⟩ ⟨by omega, by omega⟩ (fun c43 => ?_) (fun c43 => ?_)
            · refine r_iinc 2 (L' := [(4, iv 2), (6, iv (ln d e f 1)), (5, iv (ln a b c 0)), (3, iv 0), (0, .ref y), (1, iv p), (2, iv q)]) X dX7_leg_49 rfl (by decide) rfl ?_
              refine r_goto 5 X dX7_leg_52 (by decide) ?_
              refine r_iload 0 X dX7_leg_5 rfl ?_
              refine r_iconst X dX7_leg_7 ?_
              refine r_icmp_ge 55 X dX7_leg_8 (by decide) ⟨by omega, by omega⟩ ⟨by omega, by omega⟩ (fun c8 => ?_) (fun c8 => ?_)
              · exfalso
                omega
              · refine r_aload_n 4 X dX7_leg_11 rfl ?_
                refine r_iload_n 5 X dX7_leg_12 rfl ?_
                refine r_iload 0 X dX7_leg_13 rfl ?_
                refine r_iconst X dX7_leg_15 ?_
                refine r_idiv X dX7_leg_16 ⟨by omega, by omega⟩ ⟨by omega, by omega⟩ ?_
                refine r_callV_v X dX7_leg_17 kX7_73 hm.1 (c_X7_sideOf (CX_l X) D z0 _ hm ht p (by omega) a b c hs 1) [] rfl rfl (Nat.le_of_ble_eq_true rfl) (by decide) rfl rfl (by decide) ?_
                refine r_istore (L' := [(5, iv (ln a b c 1)), (4, iv 2), (6, iv (ln d e f 1)), (3, iv 0), (0, .ref y), (1, iv p), (2, iv q)]) X dX7_leg_20 (by decide) rfl ?_
                refine r_aload_n 4 X dX7_leg_22 rfl ?_
                refine r_iload_n 6 X dX7_leg_23 rfl ?_
                refine r_iload 1 X dX7_leg_24 rfl ?_
                refine r_iconst X dX7_leg_26 ?_
                refine r_irem X dX7_leg_27 ⟨by omega, by omega⟩ ⟨by omega, by omega⟩ ?_
                refine r_callV_v X dX7_leg_28 kX7_73 hm.1 (c_X7_sideOf (CX_l X) D z0 _ hm ht q (by omega) d e f hs2 0) [] rfl rfl (Nat.le_of_ble_eq_true rfl) (by decide) rfl rfl (by decide) ?_
                refine r_istore (L' := [(6, iv (ln d e f 0)), (5, iv (ln a b c 1)), (4, iv 2), (3, iv 0), (0, .ref y), (1, iv p), (2, iv q)]) X dX7_leg_31 (by decide) rfl ?_
                refine r_iload 1 X dX7_leg_33 rfl ?_
                refine r_iload 0 X dX7_leg_35 rfl ?_
                refine r_icmp_ne 49 X dX7_leg_37 (by decide) ⟨by omega, by omega⟩ ⟨by omega, by omega⟩ (fun c37 => ?_) (fun c37 => ?_)
                · refine r_iinc 2 (L' := [(4, iv 3), (6, iv (ln d e f 0)), (5, iv (ln a b c 1)), (3, iv 0), (0, .ref y), (1, iv p), (2, iv q)]) X dX7_leg_49 rfl (by decide) rfl ?_
                  refine r_goto 5 X dX7_leg_52 (by decide) ?_
                  refine r_iload 0 X dX7_leg_5 rfl ?_
                  refine r_iconst X dX7_leg_7 ?_
                  refine r_icmp_ge 55 X dX7_leg_8 (by decide) ⟨by omega, by omega⟩ ⟨by omega, by omega⟩ (fun c8 => ?_) (fun c8 => ?_)
                  · exfalso
                    omega
                  · refine r_aload_n 4 X dX7_leg_11 rfl ?_
                    refine r_iload_n 5 X dX7_leg_12 rfl ?_
                    refine r_iload 0 X dX7_leg_13 rfl ?_
                    refine r_iconst X dX7_leg_15 ?_
                    refine r_idiv X dX7_leg_16 ⟨by omega, by omega⟩ ⟨by omega, by omega⟩ ?_
                    refine r_callV_v X dX7_leg_17 kX7_73 hm.1 (c_X7_sideOf (CX_l X) D z0 _ hm ht p (by omega) a b c hs 1) [] rfl rfl (Nat.le_of_ble_eq_true rfl) (by decide) rfl rfl (by decide) ?_
                    refine r_istore (L' := [(5, iv (ln a b c 1)), (4, iv 3), (6, iv (ln d e f 0)), (3, iv 0), (0, .ref y), (1, iv p), (2, iv q)]) X dX7_leg_20 (by decide) rfl ?_
                    refine r_aload_n 4 X dX7_leg_22 rfl ?_
                    refine r_iload_n 6 X dX7_leg_23 rfl ?_
                    refine r_iload 1 X dX7_leg_24 rfl ?_
                    refine r_iconst X dX7_leg_26 ?_
                    refine r_irem X dX7_leg_27 ⟨by omega, by omega⟩ ⟨by omega, by omega⟩ ?_
                    refine r_callV_v X dX7_leg_28 kX7_73 hm.1 (c_X7_sideOf (CX_l X) D z0 _ hm ht q (by omega) d e f hs2 1) [] rfl rfl (Nat.le_of_ble_eq_true rfl) (by decide) rfl rfl (by decide) ?_
                    refine r_istore (L' := [(6, iv (ln d e f 1)), (5, iv (ln a b c 1)), (4, iv 3), (3, iv 0), (0, .ref y), (1, iv p), (2, iv q)]) X dX7_leg_31 (by decide) rfl ?_
                    refine r_iload 1 X dX7_leg_33 rfl ?_
                    refine r_iload 0 X dX7_leg_35 rfl ?_
                    refine r_icmp_ne 49 X dX7_leg_37 (by decide) ⟨by omega, by omega⟩ ⟨by omega, by omega⟩ (fun c37 => ?_) (fun c37 => ?_)
                    · refine r_iinc 2 (L' := [(4, iv 4), (6, iv (ln d e f 1)), (5, iv (ln a b c 1)), (3, iv 0), (0, .ref y), (1, iv p), (2, iv q)]) X dX7_leg_49 rfl (by decide) rfl ?_
                      refine r_goto 5 X dX7_leg_52 (by decide) ?_
                      refine r_iload 0 X dX7_leg_5 rfl ?_
                      refine r_iconst X dX7_leg_7 ?_
                      refine r_icmp_ge 55 X dX7_leg_8 (by decide) ⟨by omega, by omega⟩ ⟨by omega, by omega⟩ (fun c8 => ?_) (fun c8 => ?_)
                      · refine r_iload_n 3 X dX7_leg_55 rfl ?_
                        refine r_iret X Y dX7_leg_56 (by decide) (by decide) ?_
                        exact pv_i (by unfold lg; (repeat' split) <;> omega)
                      · exfalso
                        omega
                    · refine r_iload 1 X dX7_leg_40 rfl ?_
                      refine r_iload_n 3 X dX7_leg_42 rfl ?_
                      refine r_icmp_le 49 X dX7_leg_43 (by decide) ⟨by omega, by omega⟩ ⟨by omega, by omega⟩ (fun c43 => ?_) (fun c43 => ?_)
                      · refine r_iinc 2 (L' := [(4, iv 4), (6, iv (ln d e f 1)), (5, iv (ln a b c 1)), (3, iv 0), (0, .ref y), (1, iv p), (2, iv q)]) X dX7_leg_49 rfl (by decide) rfl ?_
                        refine r_goto 5 X dX7_leg_52 (by decide) ?_
                        refine r_iload 0 X dX7_leg_5 rfl ?_
                        refine r_iconst X dX7_leg_7 ?_
                        refine r_icmp_ge 55 X dX7_leg_8 (by decide) ⟨by omega, by omega⟩ ⟨by omega, by omega⟩ (fun c8 => ?_) (fun c8 => ?_)
                        · refine r_iload_n 3 X dX7_leg_55 rfl ?_
                          refine r_iret X Y dX7_leg_56 (by decide) (by decide) ?_
                          exact pv_i (by unfold lg; (repeat' split) <;> omega)
                        · exfalso
                          omega
                      · refine r_iload 1 X dX7_leg_46 rfl ?_
                        refine r_istore_n (L' := [(3, iv (ln a b c 1)), (6, iv (ln d e f 1)), (5, iv (ln a b c 1)), (4, iv 3), (0, .ref y), (1, iv p), (2, iv q)]) X dX7_leg_48 (by decide) rfl ?_
                        refine r_iinc 3 (L' := [(4, iv 4), (3, iv (ln a b c 1)), (6, iv (ln d e f 1)), (5, iv (ln a b c 1)), (0, .ref y), (1, iv p), (2, iv q)]) X dX7_leg_49 rfl (by decide) rfl ?_
                        refine r_goto 5 X dX7_leg_52 (by decide) ?_
                        refine r_iload 0 X dX7_leg_5 rfl ?_
                        refine r_iconst X dX7_leg_7 ?_
                        refine r_icmp_ge 55 X dX7_leg_8 (by decide) ⟨by omega, by omega⟩ ⟨by omega, by omega⟩ (fun c8 => ?_) (fun c8 => ?_)
                        · refine r_iload_n 1 X dX7_leg_55 rfl ?_
                          refine r_iret X Y dX7_leg_56 (by decide) (by decide) ?_
                          exact pv_i (by unfold lg; (repeat' split) <;> omega)
                        · exfalso
                          omega
                · refine r_iload 1 X dX7_leg_40 rfl ?_
                  refine r_iload_n 3 X dX7_leg_42 rfl ?_
                  refine r_icmp_le 49 X dX7_leg_43 (by decide) ⟨by omega, by omega⟩ ⟨by omega, by omega⟩ (fun c43 => ?_) (fun c43 => ?_)
                  · refine r_iinc 2 (L' := [(4, iv 3), (6, iv (ln d e f 0)), (5, iv (ln a b c 1)), (3, iv 0), (0, .ref y), (1, iv p), (2, iv q)]) X dX7_leg_49 rfl (by decide) rfl ?_
                    refine r_goto 5 X dX7_leg_52 (by decide) ?_
                    refine r_iload 0 X dX7_leg_5 rfl ?_
                    refine r_iconst X dX7_leg_7 ?_
                    refine r_icmp_ge 55 X dX7_leg_8 (by decide) ⟨by omega, by omega⟩ ⟨by omega, by omega⟩ (fun c8 => ?_) (fun c8 => ?_)
                    · exfalso
                      omega
                    · refine r_aload_n 4 X dX7_leg_11 rfl ?_
                      refine r_iload_n 5 X dX7_leg_12 rfl ?_
                      refine r_iload 0 X dX7_leg_13 rfl ?_
                      refine r_iconst X dX7_leg_15 ?_
                      refine r_idiv X dX7_leg_16 ⟨by omega, by omega⟩ ⟨by omega, by omega⟩ ?_
                      refine r_callV_v X dX7_leg_17 kX7_73 hm.1 (c_X7_sideOf (CX_l X) D z0 _ hm ht p (by omega) a b c hs 1) [] rfl rfl (Nat.le_of_ble_eq_true rfl) (by decide) rfl rfl (by decide) ?_
                      refine r_istore (L' := [(5, iv (ln a b c 1)), (4, iv 3), (6, iv (ln d e f 0)), (3, iv 0), (0, .ref y), (1, iv p), (2, iv q)]) X dX7_leg_20 (by decide) rfl ?_
                      refine r_aload_n 4 X dX7_leg_22 rfl ?_
                      refine r_iload_n 6 X dX7_leg_23 rfl ?_
                      refine r_iload 1 X dX7_leg_24 rfl ?_
                      refine r_iconst X dX7_leg_26 ?_
                      refine r_irem X dX7_leg_27 ⟨by omega, by omega⟩ ⟨by omega, by omega⟩ ?_
                      refine r_callV_v X dX7_leg_28 kX7_73 hm.1 (c_X7_sideOf (CX_l X) D z0 _ hm ht q (by omega) d e f hs2 1) [] rfl rfl (Nat.le_of_ble_eq_true rfl) (by decide) rfl rfl (by decide) ?_
                      refine r_istore (L' := [(6, iv (ln d e f 1)), (5, iv (ln a b c 1)), (4, iv 3), (3, iv 0), (0, .ref y), (1, iv p), (2, iv q)]) X dX7_leg_31 (by decide) rfl ?_
                      refine r_iload 1 X dX7_leg_33 rfl ?_
                      refine r_iload 0 X dX7_leg_35 rfl ?_
                      refine r_icmp_ne 49 X dX7_leg_37 (by decide) ⟨by omega, by omega⟩ ⟨by omega, by omega⟩ (fun c37 => ?_) (fun c37 => ?_)
                      · refine r_iinc 2 (L' := [(4, iv 4), (6, iv (ln d e f 1)), (5, iv (ln a b c 1)), (3, iv 0), (0, .ref y), (1, iv p), (2, iv q)]) X dX7_leg_49 rfl (by decide) rfl ?_
                        refine r_goto 5 X dX7_leg_52 (by decide) ?_
                        refine r_iload 0 X dX7_leg_5 rfl ?_
                        refine r_iconst X dX7_leg_7 ?_
                        refine r_icmp_ge 55 X dX7_leg_8 (by decide) ⟨by omega, by omega⟩ ⟨by omega, by omega⟩ (fun c8 => ?_) (fun c8 => ?_)
                        · refine r_iload_n 3 X dX7_leg_55 rfl ?_
                          refine r_iret X Y dX7_leg_56 (by decide) (by decide) ?_
                          exact pv_i (by unfold lg; (repeat' split) <;> omega)
                        · exfalso
                          omega
                      · refine r_iload 1 X dX7_leg_40 rfl ?_
                        refine r_iload_n 3 X dX7_leg_42 rfl ?_
                        refine r_icmp_le 49 X dX7_leg_43 (by decide) ⟨by omega, by omega⟩ ⟨by omega, by omega⟩ (fun c43 => ?_) (fun c43 => ?_)
                        · refine r_iinc 2 (L' := [(4, iv 4), (6, iv (ln d e f 1)), (5, iv (ln a b c 1)), (3, iv 0), (0, .ref y), (1, iv p), (2, iv q)]) X dX7_leg_49 rfl (by decide) rfl ?_
                          refine r_goto 5 X dX7_leg_52 (by decide) ?_
                          refine r_iload 0 X dX7_leg_5 rfl ?_
                          refine r_iconst X dX7_leg_7 ?_
                          refine r_icmp_ge 55 X dX7_leg_8 (by decide) ⟨by omega, by omega⟩ ⟨by omega, by omega⟩ (fun c8 => ?_) (fun c8 => ?_)
                          · refine r_iload_n 3 X dX7_leg_55 rfl ?_
                            refine r_iret X Y dX7_leg_56 (by decide) (by decide) ?_
                            exact pv_i (by unfold lg; (repeat' split) <;> omega)
                          · exfalso
                            omega
                        · refine r_iload 1 X dX7_leg_46 rfl ?_
                          refine r_istore_n (L' := [(3, iv (ln a b c 1)), (6, iv (ln d e f 1)), (5, iv (ln a b c 1)), (4, iv 3), (0, .ref y), (1, iv p), (2, iv q)]) X dX7_leg_48 (by decide) rfl ?_
                          refine r_iinc 3 (L' := [(4, iv 4), (3, iv (ln a b c 1)), (6, iv (ln d e f 1)), (5, iv (ln a b c 1)), (0, .ref y), (1, iv p), (2, iv q)]) X dX7_leg_49 rfl (by decide) rfl ?_
                          refine r_goto 5 X dX7_leg_52 (by decide) ?_
                          refine r_iload 0 X dX7_leg_5 rfl ?_
                          refine r_iconst X dX7_leg_7 ?_
                          refine r_icmp_ge 55 X dX7_leg_8 (by decide) ⟨by omega, by omega⟩ ⟨by omega, by omega⟩ (fun c8 => ?_) (fun c8 => ?_)
                          · refine r_iload_n 1 X dX7_leg_55 rfl ?_
                            refine r_iret X Y dX7_leg_56 (by decide) (by decide) ?_
                            exact pv_i (by unfold lg; (repeat' split) <;> omega)
                          · exfalso
                            omega
                  · refine r_iload 1 X dX7_leg_46 rfl ?_
                    refine r_istore_n (L' := [(3, iv (ln a b c 1)), (6, iv (ln d e f 0)), (5, iv (ln a b c 1)), (4, iv 2), (0, .ref y), (1, iv p), (2, iv q)]) X dX7_leg_48 (by decide) rfl ?_
                    refine r_iinc 3 (L' := [(4, iv 3), (3, iv (ln a b c 1)), (6, iv (ln d e f 0)), (5, iv (ln a b c 1)), (0, .ref y), (1, iv p), (2, iv q)]) X dX7_leg_49 rfl (by decide) rfl ?_
                    refine r_goto 5 X dX7_leg_52 (by decide) ?_
                    refine r_iload 0 X dX7_leg_5 rfl ?_
                    refine r_iconst X dX7_leg_7 ?_
                    refine r_icmp_ge 55 X dX7_leg_8 (by decide) ⟨by omega, by omega⟩ ⟨by omega, by omega⟩ (fun c8 => ?_) (fun c8 => ?_)
                    · exfalso
                      omega
                    · refine r_aload_n 4 X dX7_leg_11 rfl ?_
                      refine r_iload_n 5 X dX7_leg_12 rfl ?_
                      refine r_iload 0 X dX7_leg_13 rfl ?_
                      refine r_iconst X dX7_leg_15 ?_
                      refine r_idiv X dX7_leg_16 ⟨by omega, by omega⟩ ⟨by omega, by omega⟩ ?_
                      refine r_callV_v X dX7_leg_17 kX7_73 hm.1 (c_X7_sideOf (CX_l X) D z0 _ hm ht p (by omega) a b c hs 1) [] rfl rfl (Nat.le_of_ble_eq_true rfl) (by decide) rfl rfl (by decide) ?_
                      refine r_istore (L' := [(5, iv (ln a b c 1)), (4, iv 3), (3, iv (ln a b c 1)), (6, iv (ln d e f 0)), (0, .ref y), (1, iv p), (2, iv q)]) X dX7_leg_20 (by decide) rfl ?_
                      refine r_aload_n 4 X dX7_leg_22 rfl ?_
                      refine r_iload_n 6 X dX7_leg_23 rfl ?_
                      refine r_iload 1 X dX7_leg_24 rfl ?_
                      refine r_iconst X dX7_leg_26 ?_
                      refine r_irem X dX7_leg_27 ⟨by omega, by omega⟩ ⟨by omega, by omega⟩ ?_
                      refine r_callV_v X dX7_leg_28 kX7_73 hm.1 (c_X7_sideOf (CX_l X) D z0 _ hm ht q (by omega) d e f hs2 1) [] rfl rfl (Nat.le_of_ble_eq_true rfl) (by decide) rfl rfl (by decide) ?_
                      refine r_istore (L' := [(6, iv (ln d e f 1)), (5, iv (ln a b c 1)), (4, iv 3), (3, iv (ln a b c 1)), (0, .ref y), (1, iv p), (2, iv q)]) X dX7_leg_31 (by decide) rfl ?_
                      refine r_iload 1 X dX7_leg_33 rfl ?_
                      refine r_iload 0 X dX7_leg_35 rfl ?_
                      refine r_icmp_ne 49 X dX7_leg_37 (by decide) ⟨by omega, by omega⟩ ⟨by omega, by omega⟩ (fun c37 => ?_) (fun c37 => ?_)
                      · refine r_iinc 2 (L' := [(4, iv 4), (6, iv (ln d e f 1)), (5, iv (ln a b c 1)), (3, iv (ln a b c 1)), (0, .ref y), (1, iv p), (2, iv q)]) X dX7_leg_49 rfl (by decide) rfl ?_
                        refine r_goto 5 X dX7_leg_52 (by decide) ?_
                        refine r_iload 0 X dX7_leg_5 rfl ?_
                        refine r_iconst X dX7_leg_7 ?_
                        refine r_icmp_ge 55 X dX7_leg_8 (by decide) ⟨by omega, by omega⟩ ⟨by omega, by omega⟩ (fun c8 => ?_) (fun c8 => ?_)
                        · refine r_iload_n 3 X dX7_leg_55 rfl ?_
                          refine r_iret X Y dX7_leg_56 (by decide) (by decide) ?_
                          exact pv_i (by unfold lg; (repeat' split) <;> omega)
                        · exfalso
                          omega
                      · refine r_iload 1 X dX7_leg_40 rfl ?_
                        refine r_iload_n 3 X dX7_leg_42 rfl ?_
                        refine r_icmp_le 49 X dX7_leg_43 (by decide) ⟨by omega, by omega⟩ ⟨by omega, by omega⟩ (fun c43 => ?_) (fun c43 => ?_)
                        · refine r_iinc 2 (L' := [(4, iv 4), (6, iv (ln d e f 1)), (5, iv (ln a b c 1)), (3, iv (ln a b c 1)), (0, .ref y), (1, iv p), (2, iv q)]) X dX7_leg_49 rfl (by decide) rfl ?_
                          refine r_goto 5 X dX7_leg_52 (by decide) ?_
                          refine r_iload 0 X dX7_leg_5 rfl ?_
                          refine r_iconst X dX7_leg_7 ?_
                          refine r_icmp_ge 55 X dX7_leg_8 (by decide) ⟨by omega, by omega⟩ ⟨by omega, by omega⟩ (fun c8 => ?_) (fun c8 => ?_)
                          · refine r_iload_n 3 X dX7_leg_55 rfl ?_
                            refine r_iret X Y dX7_leg_56 (by decide) (by decide) ?_
                            exact pv_i (by unfold lg; (repeat' split) <;> omega)
                          · exfalso
                            omega
                        · refine r_iload 1 X dX7_leg_46 rfl ?_
                          refine r_istore_n (L' := [(3, iv (ln a b c 1)), (6, iv (ln d e f 1)), (5, iv (ln a b c 1)), (4, iv 3), (0, .ref y), (1, iv p), (2, iv q)]) X dX7_leg_48 (by decide) rfl ?_
                          refine r_iinc 3 (L' := [(4, iv 4), (3, iv (ln a b c 1)), (6, iv (ln d e f 1)), (5, iv (ln a b c 1)), (0, .ref y), (1, iv p), (2, iv q)]) X dX7_leg_49 rfl (by decide) rfl ?_
                          refine r_goto 5 X dX7_leg_52 (by decide) ?_
                          refine r_iload 0 X dX7_leg_5 rfl ?_
                          refine r_iconst X dX7_leg_7 ?_
                          refine r_icmp_ge 55 X dX7_leg_8 (by decide) ⟨by omega, by omega⟩ ⟨by omega, by omega⟩ (fun c8 => ?_) (fun c8 => ?_)
                          · refine r_iload_n 1 X dX7_leg_55 rfl ?_
                            refine r_iret X Y dX7_leg_56 (by decide) (by decide) ?_
                            exact pv_i (by unfold lg; (repeat' split) <;> omega)
                          · exfalso
                            omega
            · refine r_iload 1 X dX7_leg_46 rfl ?_
              refine r_istore_n (L' := [(3, iv (ln a b c 0)), (6, iv (ln d e f 1)), (5, iv (ln a b c 0)), (4, iv 1), (0, .ref y), (1, iv p), (2, iv q)]) X dX7_leg_48 (by decide) rfl ?_
              refine r_iinc 3 (L' := [(4, iv 2), (3, iv (ln a b c 0)), (6, iv (ln d e f 1)), (5, iv (ln a b c 0)), (0, .ref y), (1, iv p), (2, iv q)]) X dX7_leg_49 rfl (by decide) rfl ?_
              refine r_goto 5 X dX7_leg_52 (by decide) ?_
              refine r_iload 0 X dX7_leg_5 rfl ?_
              refine r_iconst X dX7_leg_7 ?_
              refine r_icmp_ge 55 X dX7_leg_8 (by decide) ⟨by omega, by omega⟩ ⟨by omega, by omega⟩ (fun c8 => ?_) (fun c8 => ?_)
              · exfalso
                omega
              · refine r_aload_n 4 X dX7_leg_11 rfl ?_
                refine r_iload_n 5 X dX7_leg_12 rfl ?_
                refine r_iload 0 X dX7_leg_13 rfl ?_
                refine r_iconst X dX7_leg_15 ?_
                refine r_idiv X dX7_leg_16 ⟨by omega, by omega⟩ ⟨by omega, by omega⟩ ?_
                refine r_callV_v X dX7_leg_17 kX7_73 hm.1 (c_X7_sideOf (CX_l X) D z0 _ hm ht p (by omega) a b c hs 1) [] rfl rfl (Nat.le_of_ble_eq_true rfl) (by decide) rfl rfl (by decide) ?_
                refine r_istore (L' := [(5, iv (ln a b c 1)), (4, iv 2), (3, iv (ln a b c 0)), (6, iv (ln d e f 1)), (0, .ref y), (1, iv p), (2, iv q)]) X dX7_leg_20 (by decide) rfl ?_
                refine r_aload_n 4 X dX7_leg_22 rfl ?_
                refine r_iload_n 6 X dX7_leg_23 rfl ?_
                refine r_iload 1 X dX7_leg_24 rfl ?_
                refine r_iconst X dX7_leg_26 ?_
                refine r_irem X dX7_leg_27 ⟨by omega, by omega⟩ ⟨by omega, by omega⟩ ?_
                refine r_callV_v X dX7_leg_28 kX7_73 hm.1 (c_X7_sideOf (CX_l X) D z0 _ hm ht q (by omega) d e f hs2 0) [] rfl rfl (Nat.le_of_ble_eq_true rfl) (by decide) rfl rfl (by decide) ?_
                refine r_istore (L' := [(6, iv (ln d e f 0)), (5, iv (ln a b c 1)), (4, iv 2), (3, iv (ln a b c 0)), (0, .ref y), (1, iv p), (2, iv q)]) X dX7_leg_31 (by decide) rfl ?_
                refine r_iload 1 X dX7_leg_33 rfl ?_
                refine r_iload 0 X dX7_leg_35 rfl ?_
                refine r_icmp_ne 49 X dX7_leg_37 (by decide) ⟨by omega, by omega⟩ ⟨by omega, by omega⟩ (fun c37 => ?_) (fun c37 => ?_)
                · refine r_iinc 2 (L' := [(4, iv 3), (6, iv (ln d e f 0)), (5, iv (ln a b c 1)), (3, iv (ln a b c 0)), (0, .ref y), (1, iv p), (2, iv q)]) X dX7_leg_49 rfl (by decide) rfl ?_
                  refine r_goto 5 X dX7_leg_52 (by decide) ?_
                  refine r_iload 0 X dX7_leg_5 rfl ?_
                  refine r_iconst X dX7_leg_7 ?_
                  refine r_icmp_ge 55 X dX7_leg_8 (by decide) ⟨by omega, by omega⟩ ⟨by omega, by omega⟩ (fun c8 => ?_) (fun c8 => ?_)
                  · exfalso
                    omega
                  · refine r_aload_n 4 X dX7_leg_11 rfl ?_
                    refine r_iload_n 5 X dX7_leg_12 rfl ?_
                    refine r_iload 0 X dX7_leg_13 rfl ?_
                    refine r_iconst X dX7_leg_15 ?_
                    refine r_idiv X dX7_leg_16 ⟨by omega, by omega⟩ ⟨by omega, by omega⟩ ?_
                    refine r_callV_v X dX7_leg_17 kX7_73 hm.1 (c_X7_sideOf (CX_l X) D z0 _ hm ht p (by omega) a b c hs 1) [] rfl rfl (Nat.le_of_ble_eq_true rfl) (by decide) rfl rfl (by decide) ?_
                    refine r_istore (L' := [(5, iv (ln a b c 1)), (4, iv 3), (6, iv (ln d e f 0)), (3, iv (ln a b c 0)), (0, .ref y), (1, iv p), (2, iv q)]) X dX7_leg_20 (by decide) rfl ?_
                    refine r_aload_n 4 X dX7_leg_22 rfl ?_
                    refine r_iload_n 6 X dX7_leg_23 rfl ?_
                    refine r_iload 1 X dX7_leg_24 rfl ?_
                    refine r_iconst X dX7_leg_26 ?_
                    refine r_irem X dX7_leg_27 ⟨by omega, by omega⟩ ⟨by omega, by omega⟩ ?_
                    refine r_callV_v X dX7_leg_28 kX7_73 hm.1 (c_X7_sideOf (CX_l X) D z0 _ hm ht q (by omega) d e f hs2 1) [] rfl rfl (Nat.le_of_ble_eq_true rfl) (by decide) rfl rfl (by decide) ?_
                    refine r_istore (L' := [(6, iv (ln d e f 1)), (5, iv (ln a b c 1)), (4, iv 3), (3, iv (ln a b c 0)), (0, .ref y), (1, iv p), (2, iv q)]) X dX7_leg_31 (by decide) rfl ?_
                    refine r_iload 1 X dX7_leg_33 rfl ?_
                    refine r_iload 0 X dX7_leg_35 rfl ?_
                    refine r_icmp_ne 49 X dX7_leg_37 (by decide) ⟨by omega, by omega⟩ ⟨by omega, by omega⟩ (fun c37 => ?_) (fun c37 => ?_)
                    · refine r_iinc 2 (L' := [(4, iv 4), (6, iv (ln d e f 1)), (5, iv (ln a b c 1)), (3, iv (ln a b c 0)), (0, .ref y), (1, iv p), (2, iv q)]) X dX7_leg_49 rfl (by decide) rfl ?_
                      refine r_goto 5 X dX7_leg_52 (by decide) ?_
                      refine r_iload 0 X dX7_leg_5 rfl ?_
                      refine r_iconst X dX7_leg_7 ?_
                      refine r_icmp_ge 55 X dX7_leg_8 (by decide) ⟨by omega, by omega⟩ ⟨by omega, by omega⟩ (fun c8 => ?_) (fun c8 => ?_)
                      · refine r_iload_n 3 X dX7_leg_55 rfl ?_
                        refine r_iret X Y dX7_leg_56 (by decide) (by decide) ?_
                        exact pv_i (by unfold lg; (repeat' split) <;> omega)
                      · exfalso
                        omega
                    · refine r_iload 1 X dX7_leg_40 rfl ?_
                      refine r_iload_n 3 X dX7_leg_42 rfl ?_
                      refine r_icmp_le 49 X dX7_leg_43 (by decide) ⟨by omega, by omega⟩ ⟨by omega, by omega⟩ (fun c43 => ?_) (fun c43 => ?_)
                      · refine r_iinc 2 (L' := [(4, iv 4), (6, iv (ln d e f 1)), (5, iv (ln a b c 1)), (3, iv (ln a b c 0)), (0, .ref y), (1, iv p), (2, iv q)]) X dX7_leg_49 rfl (by decide) rfl ?_
                        refine r_goto 5 X dX7_leg_52 (by decide) ?_
                        refine r_iload 0 X dX7_leg_5 rfl ?_
                        refine r_iconst X dX7_leg_7 ?_
                        refine r_icmp_ge 55 X dX7_leg_8 (by decide) ⟨by omega, by omega⟩ ⟨by omega, by omega⟩ (fun c8 => ?_) (fun c8 => ?_)
                        · refine r_iload_n 3 X dX7_leg_55 rfl ?_
                          refine r_iret X Y dX7_leg_56 (by decide) (by decide) ?_
                          exact pv_i (by unfold lg; (repeat' split) <;> omega)
                        · exfalso
                          omega
                      · refine r_iload 1 X dX7_leg_46 rfl ?_
                        refine r_istore_n (L' := [(3, iv (ln a b c 1)), (6, iv (ln d e f 1)), (5, iv (ln a b c 1)), (4, iv 3), (0, .ref y), (1, iv p), (2, iv q)]) X dX7_leg_48 (by decide) rfl ?_
                        refine r_iinc 3 (L' := [(4, iv 4), (3, iv (ln a b c 1)), (6, iv (ln d e f 1)), (5, iv (ln a b c 1)), (0, .ref y), (1, iv p), (2, iv q)]) X dX7_leg_49 rfl (by decide) rfl ?_
                        refine r_goto 5 X dX7_leg_52 (by decide) ?_
                        refine r_iload 0 X dX7_leg_5 rfl ?_
                        refine r_iconst X dX7_leg_7 ?_
                        refine r_icmp_ge 55 X dX7_leg_8 (by decide) ⟨by omega, by omega⟩ ⟨by omega, by omega⟩ (fun c8 => ?_) (fun c8 => ?_)
                        · refine r_iload_n 1 X dX7_leg_55 rfl ?_
                          refine r_iret X Y dX7_leg_56 (by decide) (by decide) ?_
                          exact pv_i (by unfold lg; (repeat' split) <;> omega)
                        · exfalso
                          omega
                · refine r_iload 1 X dX7_leg_40 rfl ?_
                  refine r_iload_n 3 X dX7_leg_42 rfl ?_
                  refine r_icmp_le 49 X dX7_leg_43 (by decide) ⟨by omega, by omega⟩ ⟨by omega, by omega⟩ (fun c43 => ?_) (fun c43 => ?_)
                  · refine r_iinc 2 (L' := [(4, iv 3), (6, iv (ln d e f 0)), (5, iv (ln a b c 1)), (3, iv (ln a b c 0)), (0, .ref y), (1, iv p), (2, iv q)]) X dX7_leg_49 rfl (by decide) rfl ?_
                    refine r_goto 5 X dX7_leg_52 (by decide) ?_
                    refine r_iload 0 X dX7_leg_5 rfl ?_
                    refine r_iconst X dX7_leg_7 ?_
                    refine r_icmp_ge 55 X dX7_leg_8 (by decide) ⟨by omega, by omega⟩ ⟨by omega, by omega⟩ (fun c8 => ?_) (fun c8 => ?_)
                    · exfalso
                      omega
                    · refine r_aload_n 4 X dX7_leg_11 rfl ?_
                      refine r_iload_n 5 X dX7_leg_12 rfl ?_
                      refine r_iload 0 X dX7_leg_13 rfl ?_
                      refine r_iconst X dX7_leg_15 ?_
                      refine r_idiv X dX7_leg_16 ⟨by omega, by omega⟩ ⟨by omega, by omega⟩ ?_
                      refine r_callV_v X dX7_leg_17 kX7_73 hm.1 (c_X7_sideOf (CX_l X) D z0 _ hm ht p (by omega) a b c hs 1) [] rfl rfl (Nat.le_of_ble_eq_true rfl) (by decide) rfl rfl (by decide) ?_
                      refine r_istore (L' := [(5, iv (ln a b c 1)), (4, iv 3), (6, iv (ln d e f 0)), (3, iv (ln a b c 0)), (0, .ref y), (1, iv p), (2, iv q)]) X dX7_leg_20 (by decide) rfl ?_
                      refine r_aload_n 4 X dX7_leg_22 rfl ?_
                      refine r_iload_n 6 X dX7_leg_23 rfl ?_
                      refine r_iload 1 X dX7_leg_24 rfl ?_
                      refine r_iconst X dX7_leg_26 ?_
                      refine r_irem X dX7_leg_27 ⟨by omega, by omega⟩ ⟨by omega, by omega⟩ ?_
                      refine r_callV_v X dX7_leg_28 kX7_73 hm.1 (c_X7_sideOf (CX_l X) D z0 _ hm ht q (by omega) d e f hs2 1) [] rfl rfl (Nat.le_of_ble_eq_true rfl) (by decide) rfl rfl (by decide) ?_
                      refine r_istore (L' := [(6, iv (ln d e f 1)), (5, iv (ln a b c 1)), (4, iv 3), (3, iv (ln a b c 0)), (0, .ref y), (1, iv p), (2, iv q)]) X dX7_leg_31 (by decide) rfl ?_
                      refine r_iload 1 X dX7_leg_33 rfl ?_
                      refine r_iload 0 X dX7_leg_35 rfl ?_
                      refine r_icmp_ne 49 X dX7_leg_37 (by decide) ⟨by omega, by omega⟩ ⟨by omega, by omega⟩ (fun c37 => ?_) (fun c37 => ?_)
                      · refine r_iinc 2 (L' := [(4, iv 4), (6, iv (ln d e f 1)), (5, iv (ln a b c 1)), (3, iv (ln a b c 0)), (0, .ref y), (1, iv p), (2, iv q)]) X dX7_leg_49 rfl (by decide) rfl ?_
                        refine r_goto 5 X dX7_leg_52 (by decide) ?_
                        refine r_iload 0 X dX7_leg_5 rfl ?_
                        refine r_iconst X dX7_leg_7 ?_
                        refine r_icmp_ge 55 X dX7_leg_8 (by decide) ⟨by omega, by omega⟩ ⟨by omega, by omega⟩ (fun c8 => ?_) (fun c8 => ?_)
                        · refine r_iload_n 3 X dX7_leg_55 rfl ?_
                          refine r_iret X Y dX7_leg_56 (by decide) (by decide) ?_
                          exact pv_i (by unfold lg; (repeat' split) <;> omega)
                        · exfalso
                          omega
                      · refine r_iload 1 X dX7_leg_40 rfl ?_
                        refine r_iload_n 3 X dX7_leg_42 rfl ?_
                        refine r_icmp_le 49 X dX7_leg_43 (by decide) ⟨by omega, by omega⟩ ⟨by omega, by omega⟩ (fun c43 => ?_) (fun c43 => ?_)
                        · refine r_iinc 2 (L' := [(4, iv 4), (6, iv (ln d e f 1)), (5, iv (ln a b c 1)), (3, iv (ln a b c 0)), (0, .ref y), (1, iv p), (2, iv q)]) X dX7_leg_49 rfl (by decide) rfl ?_
                          refine r_goto 5 X dX7_leg_52 (by decide) ?_
                          refine r_iload 0 X dX7_leg_5 rfl ?_
                          refine r_iconst X dX7_leg_7 ?_
                          refine r_icmp_ge 55 X dX7_leg_8 (by decide) ⟨by omega, by omega⟩ ⟨by omega, by omega⟩ (fun c8 => ?_) (fun c8 => ?_)
                          · refine r_iload_n 3 X dX7_leg_55 rfl ?_
                            refine r_iret X Y dX7_leg_56 (by decide) (by decide) ?_
                            exact pv_i (by unfold lg; (repeat' split) <;> omega)
                          · exfalso
                            omega
                        · refine r_iload 1 X dX7_leg_46 rfl ?_
                          refine r_istore_n (L' := [(3, iv (ln a b c 1)), (6, iv (ln d e f 1)), (5, iv (ln a b c 1)), (4, iv 3), (0, .ref y), (1, iv p), (2, iv q)]) X dX7_leg_48 (by decide) rfl ?_
                          refine r_iinc 3 (L' := [(4, iv 4), (3, iv (ln a b c 1)), (6, iv (ln d e f 1)), (5, iv (ln a b c 1)), (0, .ref y), (1, iv p), (2, iv q)]) X dX7_leg_49 rfl (by decide) rfl ?_
                          refine r_goto 5 X dX7_leg_52 (by decide) ?_
                          refine r_iload 0 X dX7_leg_5 rfl ?_
                          refine r_iconst X dX7_leg_7 ?_
                          refine r_icmp_ge 55 X dX7_leg_8 (by decide) ⟨by omega, by omega⟩ ⟨by omega, by omega⟩ (fun c8 => ?_) (fun c8 => ?_)
                          · refine r_iload_n 1 X dX7_leg_55 rfl ?_
                            refine r_iret X Y dX7_leg_56 (by decide) (by decide) ?_
                            exact pv_i (by unfold lg; (repeat' split) <;> omega)
                          · exfalso
                            omega
                  · refine r_iload 1 X dX7_leg_46 rfl ?_
                    refine r_istore_n (L' := [(3, iv (ln a b c 1)), (6, iv (ln d e f 0)), (5, iv (ln a b c 1)), (4, iv 2), (0, .ref y), (1, iv p), (2, iv q)]) X dX7_leg_48 (by decide) rfl ?_
                    refine r_iinc 3 (L' := [(4, iv 3), (3, iv (ln a b c 1)), (6, iv (ln d e f 0)), (5, iv (ln a b c 1)), (0, .ref y), (1, iv p), (2, iv q)]) X dX7_leg_49 rfl (by decide) rfl ?_
                    refine r_goto 5 X dX7_leg_52 (by decide) ?_
                    refine r_iload 0 X dX7_leg_5 rfl ?_
                    refine r_iconst X dX7_leg_7 ?_
                    refine r_icmp_ge 55 X dX7_leg_8 (by decide) ⟨by omega, by omega⟩ ⟨by omega, by omega⟩ (fun c8 => ?_) (fun c8 => ?_)
                    · exfalso
                      omega
                    · refine r_aload_n 4 X dX7_leg_11 rfl ?_
                      refine r_iload_n 5 X dX7_leg_12 rfl ?_
                      refine r_iload 0 X dX7_leg_13 rfl ?_
                      refine r_iconst X dX7_leg_15 ?_
                      refine r_idiv X dX7_leg_16 ⟨by omega, by omega⟩ ⟨by omega, by omega⟩ ?_
                      refine r_callV_v X dX7_leg_17 kX7_73 hm.1 (c_X7_sideOf (CX_l X) D z0 _ hm ht p (by omega) a b c hs 1) [] rfl rfl (Nat.le_of_ble_eq_true rfl) (by decide) rfl rfl (by decide) ?_
                      refine r_istore (L' := [(5, iv (ln a b c 1)), (4, iv 3), (3, iv (ln a b c 1)), (6, iv (ln d e f 0)), (0, .ref y), (1, iv p), (2, iv q)]) X dX7_leg_20 (by decide) rfl ?_
                      refine r_aload_n 4 X dX7_leg_22 rfl ?_
                      refine r_iload_n 6 X dX7_leg_23 rfl ?_
                      refine r_iload 1 X dX7_leg_24 rfl ?_
                      refine r_iconst X dX7_leg_26 ?_
                      refine r_irem X dX7_leg_27 ⟨by omega, by omega⟩ ⟨by omega, by omega⟩ ?_
                      refine r_callV_v X dX7_leg_28 kX7_73 hm.1 (c_X7_sideOf (CX_l X) D z0 _ hm ht q (by omega) d e f hs2 1) [] rfl rfl (Nat.le_of_ble_eq_true rfl) (by decide) rfl rfl (by decide) ?_
                      refine r_istore (L' := [(6, iv (ln d e f 1)), (5, iv (ln a b c 1)), (4, iv 3), (3, iv (ln a b c 1)), (0, .ref y), (1, iv p), (2, iv q)]) X dX7_leg_31 (by decide) rfl ?_
                      refine r_iload 1 X dX7_leg_33 rfl ?_
                      refine r_iload 0 X dX7_leg_35 rfl ?_
                      refine r_icmp_ne 49 X dX7_leg_37 (by decide) ⟨by omega, by omega⟩ ⟨by omega, by omega⟩ (fun c37 => ?_) (fun c37 => ?_)
                      · refine r_iinc 2 (L' := [(4, iv 4), (6, iv (ln d e f 1)), (5, iv (ln a b c 1)), (3, iv (ln a b c 1)), (0, .ref y), (1, iv p), (2, iv q)]) X dX7_leg_49 rfl (by decide) rfl ?_
                        refine r_goto 5 X dX7_leg_52 (by decide) ?_
                        refine r_iload 0 X dX7_leg_5 rfl ?_
                        refine r_iconst X dX7_leg_7 ?_
                        refine r_icmp_ge 55 X dX7_leg_8 (by decide) ⟨by omega, by omega⟩ ⟨by omega, by omega⟩ (fun c8 => ?_) (fun c8 => ?_)
                        · refine r_iload_n 3 X dX7_leg_55 rfl ?_
                          refine r_iret X Y dX7_leg_56 (by decide) (by decide) ?_
                          exact pv_i (by unfold lg; (repeat' split) <;> omega)
                        · exfalso
                          omega
                      · refine r_iload 1 X dX7_leg_40 rfl ?_
                        refine r_iload_n 3 X dX7_leg_42 rfl ?_
                        refine r_icmp_le 49 X dX7_leg_43 (by decide) ⟨by omega, by omega⟩ ⟨by omega, by omega⟩ (fun c43 => ?_) (fun c43 => ?_)
                        · refine r_iinc 2 (L' := [(4, iv 4), (6, iv (ln d e f 1)), (5, iv (ln a b c 1)), (3, iv (ln a b c 1)), (0, .ref y), (1, iv p), (2, iv q)]) X dX7_leg_49 rfl (by decide) rfl ?_
                          refine r_goto 5 X dX7_leg_52 (by decide) ?_
                          refine r_iload 0 X dX7_leg_5 rfl ?_
                          refine r_iconst X dX7_leg_7 ?_
                          refine r_icmp_ge 55 X dX7_leg_8 (by decide) ⟨by omega, by omega⟩ ⟨by omega, by omega⟩ (fun c8 => ?_) (fun c8 => ?_)
                          · refine r_iload_n 3 X dX7_leg_55 rfl ?_
                            refine r_iret X Y dX7_leg_56 (by decide) (by decide) ?_
                            exact pv_i (by unfold lg; (repeat' split) <;> omega)
                          · exfalso
                            omega
                        · refine r_iload 1 X dX7_leg_46 rfl ?_
                          refine r_istore_n (L' := [(3, iv (ln a b c 1)), (6, iv (ln d e f 1)), (5, iv (ln a b c 1)), (4, iv 3), (0, .ref y), (1, iv p), (2, iv q)]) X dX7_leg_48 (by decide) rfl ?_
                          refine r_iinc 3 (L' := [(4, iv 4), (3, iv (ln a b c 1)), (6, iv (ln d e f 1)), (5, iv (ln a b c 1)), (0, .ref y), (1, iv p), (2, iv q)]) X dX7_leg_49 rfl (by decide) rfl ?_
                          refine r_goto 5 X dX7_leg_52 (by decide) ?_
                          refine r_iload 0 X dX7_leg_5 rfl ?_
                          refine r_iconst X dX7_leg_7 ?_
                          refine r_icmp_ge 55 X dX7_leg_8 (by decide) ⟨by omega, by omega⟩ ⟨by omega, by omega⟩ (fun c8 => ?_) (fun c8 => ?_)
                          · refine r_iload_n 1 X dX7_leg_55 rfl ?_
                            refine r_iret X Y dX7_leg_56 (by decide) (by decide) ?_
                            exact pv_i (by unfold lg; (repeat' split) <;> omega)
                          · exfalso
                            omega
      · refine r_iload 1 X dX7_leg_46 rfl ?_
        refine r_istore_n (L' := [(3, iv (ln a b c 0)), (6, iv (ln d e f 0)), (5, iv (ln a b c 0)), (4, iv 0), (0, .ref y), (1, iv p), (2, iv q)]) X dX7_leg_48 (by decide) rfl ?_
        refine r_iinc 3 (L' := [(4, iv 1), (3, iv (ln a b c 0)), (6, iv (ln d e f 0)), (5, iv (ln a b c 0)), (0, .ref y), (1, iv p), (2, iv q)]) X dX7_leg_49 rfl (by decide) rfl ?_
        refine r_goto 5 X dX7_leg_52 (by decide) ?_
        refine r_iload 0 X dX7_leg_5 rfl ?_
        refine r_iconst X dX7_leg_7 ?_
        refine r_icmp_ge 55 X dX7_leg_8 (by decide) ⟨by omega, by omega⟩ ⟨by omega, by omega⟩ (fun c8 => ?_) (fun c8 => ?_)
        · exfalso
          omega
        · refine r_aload_n 4 X dX7_leg_11 rfl ?_
          refine r_iload_n 5 X dX7_leg_12 rfl ?_
          refine r_iload 0 X dX7_leg_13 rfl ?_
          refine r_iconst X dX7_leg_15 ?_
          refine r_idiv X dX7_leg_16 ⟨by omega, by omega⟩ ⟨by omega, by omega⟩ ?_
          refine r_callV_v X dX7_leg_17 kX7_73 hm.1 (c_X7_sideOf (CX_l X) D z0 _ hm ht p (by omega) a b c hs 0) [] rfl rfl (Nat.le_of_ble_eq_true rfl) (by decide) rfl rfl (by decide) ?_
          refine r_istore (L' := [(5, iv (ln a b c 0)), (4, iv 1), (3, iv (ln a b c 0)), (6, iv (ln d e f 0)), (0, .ref y), (1, iv p), (2, iv q)]) X dX7_leg_20 (by decide) rfl ?_
          refine r_aload_n 4 X dX7_leg_22 rfl ?_
          refine r_iload_n 6 X dX7_leg_23 rfl ?_
          refine r_iload 1 X dX7_leg_24 rfl ?_
          refine r_iconst X dX7_leg_26 ?_
          refine r_irem X dX7_leg_27 ⟨by omega, by omega⟩ ⟨by omega, by omega⟩ ?_
          refine r_callV_v X dX7_leg_28 kX7_73 hm.1 (c_X7_sideOf (CX_l X) D z0 _ hm ht q (by omega) d e f hs2 1) [] rfl rfl (Nat.le_of_ble_eq_true rfl) (by decide) rfl rfl (by decide) ?_
          refine r_istore (L' := [(6, iv (ln d e f 1)), (5, iv (ln a b c 0)), (4, iv 1), (3, iv (ln a b c 0)), (0, .ref y), (1, iv p), (2, iv q)]) X dX7_leg_31 (by decide) rfl ?_
          refine r_iload 1 X dX7_leg_33 rfl ?_
          refine r_iload 0 X dX7_leg_35 rfl ?_
          refine r_icmp_ne 49 X dX7_leg_37 (by decide) ⟨by omega, by omega⟩ ⟨by omega, by omega⟩ (fun c37 => ?_) (fun c37 => ?_)
          · refine r_iinc 2 (L' := [(4, iv 2), (6, iv (ln d e f 1)), (5, iv (ln a b c 0)), (3, iv (ln a b c 0)), (0, .ref y), (1, iv p), (2, iv q)]) X dX7_leg_49 rfl (by decide) rfl ?_
            refine r_goto 5 X dX7_leg_52 (by decide) ?_
            refine r_iload 0 X dX7_leg_5 rfl ?_
            refine r_iconst X dX7_leg_7 ?_
            refine r_icmp_ge 55 X dX7_leg_8 (by decide) ⟨by omega, by omega⟩ ⟨by omega, by omega⟩ (fun c8 => ?_) (fun c8 => ?_)
            · exfalso
              omega
            · refine r_aload_n 4 X dX7_leg_11 rfl ?_
              refine r_iload_n 5 X dX7_leg_12 rfl ?_
              refine r_iload 0 X dX7_leg_13 rfl ?_
              refine r_iconst X dX7_leg_15 ?_
              refine r_idiv X dX7_leg_16 ⟨by omega, by omega⟩ ⟨by omega, by omega⟩ ?_
              refine r_callV_v X dX7_leg_17 kX7_73 hm.1 (c_X7_sideOf (CX_l X) D z0 _ hm ht p (by omega) a b c hs 1) [] rfl rfl (Nat.le_of_ble_eq_true rfl) (by decide) rfl rfl (by decide) ?_
              refine r_istore (L' := [(5, iv (ln a b c 1)), (4, iv 2), (6, iv (ln d e f 1)), (3, iv (ln a b c 0)), (0, .ref y), (1, iv p), (2, iv q)]) X dX7_leg_20 (by decide) rfl ?_
              refine r_aload_n 4 X dX7_leg_22 rfl ?_
              refine r_iload_n 6 X dX7_leg_23 rfl ?_
              refine r_iload 1 X dX7_leg_24 rfl ?_
              refine r_iconst X dX7_leg_26 ?_
              refine r_irem X dX7_leg_27 ⟨by omega, by omega⟩ ⟨by omega, by omega⟩ ?_
              refine r_callV_v X dX7_leg_28 kX7_73 hm.1 (c_X7_sideOf (CX_l X) D z0 _ hm ht q (by omega) d e f hs2 0) [] rfl rfl (Nat.le_of_ble_eq_true rfl) (by decide) rfl rfl (by decide) ?_
              refine r_istore (L' := [(6, iv (ln d e f 0)), (5, iv (ln a b c 1)), (4, iv 2), (3, iv (ln a b c 0)), (0, .ref y), (1, iv p), (2, iv q)]) X dX7_leg_31 (by decide) rfl ?_
              refine r_iload 1 X dX7_leg_33 rfl ?_
              refine r_iload 0 X dX7_leg_35 rfl ?_
              refine r_icmp_ne 49 X dX7_leg_37 (by decide) ⟨by omega, by omega⟩ ⟨by omega, by omega⟩ (fun c37 => ?_) (fun c37 => ?_)
              · refine r_iinc 2 (L' := [(4, iv 3), (6, iv (ln d e f 0)), (5, iv (ln a b c 1)), (3, iv (ln a b c 0)), (0, .ref y), (1, iv p), (2, iv q)]) X dX7_leg_49 rfl (by decide) rfl ?_
                refine r_goto 5 X dX7_leg_52 (by decide) ?_
                refine r_iload 0 X dX7_leg_5 rfl ?_
                refine r_iconst X dX7_leg_7 ?_
                refine r_icmp_ge 55 X dX7_leg_8 (by decide) ⟨by omega, by omega⟩ ⟨by omega, by omega⟩ (fun c8 => ?_) (fun c8 => ?_)
                · exfalso
                  omega
                · refine r_aload_n 4 X dX7_leg_11 rfl ?_
                  refine r_iload_n 5 X dX7_leg_12 rfl ?_
                  refine r_iload 0 X dX7_leg_13 rfl ?_
                  refine r_iconst X dX7_leg_15 ?_
                  refine r_idiv X dX7_leg_16 ⟨by omega, by omega⟩ ⟨by omega, by omega⟩ ?_
                  refine r_callV_v X dX7_leg_17 kX7_73 hm.1 (c_X7_sideOf (CX_l X) D z0 _ hm ht p (by omega) a b c hs 1) [] rfl rfl (Nat.le_of_ble_eq_true rfl) (by decide) rfl rfl (by decide) ?_
                  refine r_istore (L' := [(5, iv (ln a b c 1)), (4, iv 3), (6, iv (ln d e f 0)), (3, iv (ln a b c 0)), (0, .ref y), (1, iv p), (2, iv q)]) X dX7_leg_20 (by decide) rfl ?_
                  refine r_aload_n 4 X dX7_leg_22 rfl ?_
                  refine r_iload_n 6 X dX7_leg_23 rfl ?_
                  refine r_iload 1 X dX7_leg_24 rfl ?_
                  refine r_iconst X dX7_leg_26 ?_
                  refine r_irem X dX7_leg_27 ⟨by omega, by omega⟩ ⟨by omega, by omega⟩ ?_
                  refine r_callV_v X dX7_leg_28 kX7_73 hm.1 (c_X7_sideOf (CX_l X) D z0 _ hm ht q (by omega) d e f hs2 1) [] rfl rfl (Nat.le_of_ble_eq_true rfl) (by decide) rfl rfl (by decide) ?_
                  refine r_istore (L' := [(6, iv (ln d e f 1)), (5, iv (ln a b c 1)), (4, iv 3), (3, iv (ln a b c 0)), (0, .ref y), (1, iv p), (2, iv q)]) X dX7_leg_31 (by decide) rfl ?_
                  refine r_iload 1 X dX7_leg_33 rfl ?_
                  refine r_iload 0 X dX7_leg_35 rfl ?_
                  refine r_icmp_ne 49 X dX7_leg_37 (by decide) ⟨by omega, by omega⟩ ⟨by omega, by omega⟩ (fun c37 => ?_) (fun c37 => ?_)
                  · refine r_iinc 2 (L' := [(4, iv 4), (6, iv (ln d e f 1)), (5, iv (ln a b c 1)), (3, iv (ln a b c 0)), (0, .ref y), (1, iv p), (2, iv q)]) X dX7_leg_49 rfl (by decide) rfl ?_
                    refine r_goto 5 X dX7_leg_52 (by decide) ?_
                    refine r_iload 0 X dX7_leg_5 rfl ?_
                    refine r_iconst X dX7_leg_7 ?_
                    refine r_icmp_ge 55 X dX7_leg_8 (by decide) ⟨by omega, by omega⟩ ⟨by omega, by omega⟩ (fun c8 => ?_) (fun c8 => ?_)
                    · refine r_iload_n 3 X dX7_leg_55 rfl ?_
                      refine r_iret X Y dX7_leg_56 (by decide) (by decide) ?_
                      exact pv_i (by unfold lg; (repeat' split) <;> omega)
                    · exfalso
                      omega
                  · refine r_iload 1 X dX7_leg_40 rfl ?_
                    refine r_iload_n 3 X dX7_leg_42 rfl ?_
                    refine r_icmp_le 49 X dX7_leg_43 (by decide) ⟨by omega, by omega⟩ ⟨by omega, by omega⟩ (fun c43 => ?_) (fun c43 => ?_)
                    · refine r_iinc 2 (L' := [(4, iv 4), (6, iv (ln d e f 1)), (5, iv (ln a b c 1)), (3, iv (ln a b c 0)), (0, .ref y), (1, iv p), (2, iv q)]) X dX7_leg_49 rfl (by decide) rfl ?_
                      refine r_goto 5 X dX7_leg_52 (by decide) ?_
                      refine r_iload 0 X dX7_leg_5 rfl ?_
                      refine r_iconst X dX7_leg_7 ?_
                      refine r_icmp_ge 55 X dX7_leg_8 (by decide) ⟨by omega, by omega⟩ ⟨by omega, by omega⟩ (fun c8 => ?_) (fun c8 => ?_)
                      · refine r_iload_n 3 X dX7_leg_55 rfl ?_
                        refine r_iret X Y dX7_leg_56 (by decide) (by decide) ?_
                        exact pv_i (by unfold lg; (repeat' split) <;> omega)
                      · exfalso
                        omega
                    · refine r_iload 1 X dX7_leg_46 rfl ?_
                      refine r_istore_n (L' := [(3, iv (ln a b c 1)), (6, iv (ln d e f 1)), (5, iv (ln a b c 1)), (4, iv 3), (0, .ref y), (1, iv p), (2, iv q)]) X dX7_leg_48 (by decide) rfl ?_
                      refine r_iinc 3 (L' := [(4, iv 4), (3, iv (ln a b c 1)), (6, iv (ln d e f 1)), (5, iv (ln a b c 1)), (0, .ref y), (1, iv p), (2, iv q)]) X dX7_leg_49 rfl (by decide) rfl ?_
                      refine r_goto 5 X dX7_leg_52 (by decide) ?_
                      refine r_iload 0 X dX7_leg_5 rfl ?_
                      refine r_iconst X dX7_leg_7 ?_
                      refine r_icmp_ge 55 X dX7_leg_8 (by decide) ⟨by omega, by omega⟩ ⟨by omega, by omega⟩ (fun c8 => ?_) (fun c8 => ?_)
                      · refine r_iload_n 1 X dX7_leg_55 rfl ?_
                        refine r_iret X Y dX7_leg_56 (by decide) (by decide) ?_
                        exact pv_i (by unfold lg; (repeat' split) <;> omega)
                      · exfalso
                        omega
              · refine r_iload 1 X dX7_leg_40 rfl ?_
                refine r_iload_n 3 X dX7_leg_42 rfl ?_
                refine r_icmp_le 49 X dX7_leg_43 (by decide) ⟨by omega, by omega⟩ ⟨by omega, by omega⟩ (fun c43 => ?_) (fun c43 => ?_)
                · refine r_iinc 2 (L' := [(4, iv 3), (6, iv (ln d e f 0)), (5, iv (ln a b c 1)), (3, iv (ln a b c 0)), (0, .ref y), (1, iv p), (2, iv q)]) X dX7_leg_49 rfl (by decide) rfl ?_
                  refine r_goto 5 X dX7_leg_52 (by decide) ?_
                  refine r_iload 0 X dX7_leg_5 rfl ?_
                  refine r_iconst X dX7_leg_7 ?_
                  refine r_icmp_ge 55 X dX7_leg_8 (by decide) ⟨by omega, by omega⟩ ⟨by omega, by omega⟩ (fun c8 => ?_) (fun c8 => ?_)
                  · exfalso
                    omega
                  · refine r_aload_n 4 X dX7_leg_11 rfl ?_
                    refine r_iload_n 5 X dX7_leg_12 rfl ?_
                    refine r_iload 0 X dX7_leg_13 rfl ?_
                    refine r_iconst X dX7_leg_15 ?_
                    refine r_idiv X dX7_leg_16 ⟨by omega, by omega⟩ ⟨by omega, by omega⟩ ?_
                    refine r_callV_v X dX7_leg_17 kX7_73 hm.1 (c_X7_sideOf (CX_l X) D z0 _ hm ht p (by omega) a b c hs 1) [] rfl rfl (Nat.le_of_ble_eq_true rfl) (by decide) rfl rfl (by decide) ?_
                    refine r_istore (L' := [(5, iv (ln a b c 1)), (4, iv 3), (6, iv (ln d e f 0)), (3, iv (ln a b c 0)), (0, .ref y), (1, iv p), (2, iv q)]) X dX7_leg_20 (by decide) rfl ?_
                    refine r_aload_n 4 X dX7_leg_22 rfl ?_
                    refine r_iload_n 6 X dX7_leg_23 rfl ?_
                    refine r_iload 1 X dX7_leg_24 rfl ?_
                    refine r_iconst X dX7_leg_26 ?_
                    refine r_irem X dX7_leg_27 ⟨by omega, by omega⟩ ⟨by omega, by omega⟩ ?_
                    refine r_callV_v X dX7_leg_28 kX7_73 hm.1 (c_X7_sideOf (CX_l X) D z0 _ hm ht q (by omega) d e f hs2 1) [] rfl rfl (Nat.le_of_ble_eq_true rfl) (by decide) rfl rfl (by decide) ?_
                    refine r_istore (L' := [(6, iv (ln d e f 1)), (5, iv (ln a b c 1)), (4, iv 3), (3, iv (ln a b c 0)), (0, .ref y), (1, iv p), (2, iv q)]) X dX7_leg_31 (by decide) rfl ?_
                    refine r_iload 1 X dX7_leg_33 rfl ?_
                    refine r_iload 0 X dX7_leg_35 rfl ?_
                    refine r_icmp_ne 49 X dX7_leg_37 (by decide) ⟨by omega, by omega⟩ ⟨by omega, by omega⟩ (fun c37 => ?_) (fun c37 => ?_)
                    · refine r_iinc 2 (L' := [(4, iv 4), (6, iv (ln d e f 1)), (5, iv (ln a b c 1)), (3, iv (ln a b c 0)), (0, .ref y), (1, iv p), (2, iv q)]) X dX7_leg_49 rfl (by decide) rfl ?_
                      refine r_goto 5 X dX7_leg_52 (by decide) ?_
                      refine r_iload 0 X dX7_leg_5 rfl ?_
                      refine r_iconst X dX7_leg_7 ?_
                      refine r_icmp_ge 55 X dX7_leg_8 (by decide) ⟨by omega, by omega⟩ ⟨by omega, by omega⟩ (fun c8 => ?_) (fun c8 => ?_)
                      · refine r_iload_n 3 X dX7_leg_55 rfl ?_
                        refine r_iret X Y dX7_leg_56 (by decide) (by decide) ?_
                        exact pv_i (by unfold lg; (repeat' split) <;> omega)
                      · exfalso
                        omega
                    · refine r_iload 1 X dX7_leg_40 rfl ?_
                      refine r_iload_n 3 X dX7_leg_42 rfl ?_
                      refine r_icmp_le 49 X dX7_leg_43 (by decide) ⟨by omega, by omega⟩ ⟨by omega, by omega⟩ (fun c43 => ?_) (fun c43 => ?_)
                      · refine r_iinc 2 (L' := [(4, iv 4), (6, iv (ln d e f 1)), (5, iv (ln a b c 1)), (3, iv (ln a b c 0)), (0, .ref y), (1, iv p), (2, iv q)]) X dX7_leg_49 rfl (by decide) rfl ?_
                        refine r_goto 5 X dX7_leg_52 (by decide) ?_
                        refine r_iload 0 X dX7_leg_5 rfl ?_
                        refine r_iconst X dX7_leg_7 ?_
                        refine r_icmp_ge 55 X dX7_leg_8 (by decide) ⟨by omega, by omega⟩ ⟨by omega, by omega⟩ (fun c8 => ?_) (fun c8 => ?_)
                        · refine r_iload_n 3 X dX7_leg_55 rfl ?_
                          refine r_iret X Y dX7_leg_56 (by decide) (by decide) ?_
                          exact pv_i (by unfold lg; (repeat' split) <;> omega)
                        · exfalso
                          omega
                      · refine r_iload 1 X dX7_leg_46 rfl ?_
                        refine r_istore_n (L' := [(3, iv (ln a b c 1)), (6, iv (ln d e f 1)), (5, iv (ln a b c 1)), (4, iv 3), (0, .ref y), (1, iv p), (2, iv q)]) X dX7_leg_48 (by decide) rfl ?_
                        refine r_iinc 3 (L' := [(4, iv 4), (3, iv (ln a b c 1)), (6, iv (ln d e f 1)), (5, iv (ln a b c 1)), (0, .ref y), (1, iv p), (2, iv q)]) X dX7_leg_49 rfl (by decide) rfl ?_
                        refine r_goto 5 X dX7_leg_52 (by decide) ?_
                        refine r_iload 0 X dX7_leg_5 rfl ?_
                        refine r_iconst X dX7_leg_7 ?_
                        refine r_icmp_ge 55 X dX7_leg_8 (by decide) ⟨by omega, by omega⟩ ⟨by omega, by omega⟩ (fun c8 => ?_) (fun c8 => ?_)
                        · refine r_iload_n 1 X dX7_leg_55 rfl ?_
                          refine r_iret X Y dX7_leg_56 (by decide) (by decide) ?_
                          exact pv_i (by unfold lg; (repeat' split) <;> omega)
                        · exfalso
                          omega
                · refine r_iload 1 X dX7_leg_46 rfl ?_
                  refine r_istore_n (L' := [(3, iv (ln a b c 1)), (6, iv (ln d e f 0)), (5, iv (ln a b c 1)), (4, iv 2), (0, .ref y), (1, iv p), (2, iv q)]) X dX7_leg_48 (by decide) rfl ?_
                  refine r_iinc 3 (L' := [(4, iv 3), (3, iv (ln a b c 1)), (6, iv (ln d e f 0)), (5, iv (ln a b c 1)), (0, .ref y), (1, iv p), (2, iv q)]) X dX7_leg_49 rfl (by decide) rfl ?_
                  refine r_goto 5 X dX7_leg_52 (by decide) ?_
                  refine r_iload 0 X dX7_leg_5 rfl ?_
                  refine r_iconst X dX7_leg_7 ?_
                  refine r_icmp_ge 55 X dX7_leg_8 (by decide) ⟨by omega, by omega⟩ ⟨by omega, by omega⟩ (fun c8 => ?_) (fun c8 => ?_)
                  · exfalso
                    omega
                  · refine r_aload_n 4 X dX7_leg_11 rfl ?_
                    refine r_iload_n 5 X dX7_leg_12 rfl ?_
                    refine r_iload 0 X dX7_leg_13 rfl ?_
                    refine r_iconst X dX7_leg_15 ?_
                    refine r_idiv X dX7_leg_16 ⟨by omega, by omega⟩ ⟨by omega, by omega⟩ ?_
                    refine r_callV_v X dX7_leg_17 kX7_73 hm.1 (c_X7_sideOf (CX_l X) D z0 _ hm ht p (by omega) a b c hs 1) [] rfl rfl (Nat.le_of_ble_eq_true rfl) (by decide) rfl rfl (by decide) ?_
                    refine r_istore (L' := [(5, iv (ln a b c 1)), (4, iv 3), (3, iv (ln a b c 1)), (6, iv (ln d e f 0)), (0, .ref y), (1, iv p), (2, iv q)]) X dX7_leg_20 (by decide) rfl ?_
                    refine r_aload_n 4 X dX7_leg_22 rfl ?_
                    refine r_iload_n 6 X dX7_leg_23 rfl ?_
                    refine r_iload 1 X dX7_leg_24 rfl ?_
                    refine r_iconst X dX7_leg_26 ?_
                    refine r_irem X dX7_leg_27 ⟨by omega, by omega⟩ ⟨by omega, by omega⟩ ?_
                    refine r_callV_v X dX7_leg_28 kX7_73 hm.1 (c_X7_sideOf (CX_l X) D z0 _ hm ht q (by omega) d e f hs2 1) [] rfl rfl (Nat.le_of_ble_eq_true rfl) (by decide) rfl rfl (by decide) ?_
                    refine r_istore (L' := [(6, iv (ln d e f 1)), (5, iv (ln a b c 1)), (4, iv 3), (3, iv (ln a b c 1)), (0, .ref y), (1, iv p), (2, iv q)]) X dX7_leg_31 (by decide) rfl ?_
                    refine r_iload 1 X dX7_leg_33 rfl ?_
                    refine r_iload 0 X dX7_leg_35 rfl ?_
                    refine r_icmp_ne 49 X dX7_leg_37 (by decide) ⟨by omega, by omega⟩ ⟨by omega, by omega⟩ (fun c37 => ?_) (fun c37 => ?_)
                    · refine r_iinc 2 (L' := [(4, iv 4), (6, iv (ln d e f 1)), (5, iv (ln a b c 1)), (3, iv (ln a b c 1)), (0, .ref y), (1, iv p), (2, iv q)]) X dX7_leg_49 rfl (by decide) rfl ?_
                      refine r_goto 5 X dX7_leg_52 (by decide) ?_
                      refine r_iload 0 X dX7_leg_5 rfl ?_
                      refine r_iconst X dX7_leg_7 ?_
                      refine r_icmp_ge 55 X dX7_leg_8 (by decide) ⟨by omega, by omega⟩ ⟨by omega, by omega⟩ (fun c8 => ?_) (fun c8 => ?_)
                      · refine r_iload_n 3 X dX7_leg_55 rfl ?_
                        refine r_iret X Y dX7_leg_56 (by decide) (by decide) ?_
                        exact pv_i (by unfold lg; (repeat' split) <;> omega)
                      · exfalso
                        omega
                    · refine r_iload 1 X dX7_leg_40 rfl ?_
                      refine r_iload_n 3 X dX7_leg_42 rfl ?_
                      refine r_icmp_le 49 X dX7_leg_43 (by decide) ⟨by omega, by omega⟩ ⟨by omega, by omega⟩ (fun c43 => ?_) (fun c43 => ?_)
                      · refine r_iinc 2 (L' := [(4, iv 4), (6, iv (ln d e f 1)), (5, iv (ln a b c 1)), (3, iv (ln a b c 1)), (0, .ref y), (1, iv p), (2, iv q)]) X dX7_leg_49 rfl (by decide) rfl ?_
                        refine r_goto 5 X dX7_leg_52 (by decide) ?_
                        refine r_iload 0 X dX7_leg_5 rfl ?_
                        refine r_iconst X dX7_leg_7 ?_
                        refine r_icmp_ge 55 X dX7_leg_8 (by decide) ⟨by omega, by omega⟩ ⟨by omega, by omega⟩ (fun c8 => ?_) (fun c8 => ?_)
                        · refine r_iload_n 3 X dX7_leg_55 rfl ?_
                          refine r_iret X Y dX7_leg_56 (by decide) (by decide) ?_
                          exact pv_i (by unfold lg; (repeat' split) <;> omega)
                        · exfalso
                          omega
                      · refine r_iload 1 X dX7_leg_46 rfl ?_
                        refine r_istore_n (L' := [(3, iv (ln a b c 1)), (6, iv (ln d e f 1)), (5, iv (ln a b c 1)), (4, iv 3), (0, .ref y), (1, iv p), (2, iv q)]) X dX7_leg_48 (by decide) rfl ?_
                        refine r_iinc 3 (L' := [(4, iv 4), (3, iv (ln a b c 1)), (6, iv (ln d e f 1)), (5, iv (ln a b c 1)), (0, .ref y), (1, iv p), (2, iv q)]) X dX7_leg_49 rfl (by decide) rfl ?_
                        refine r_goto 5 X dX7_leg_52 (by decide) ?_
                        refine r_iload 0 X dX7_leg_5 rfl ?_
                        refine r_iconst X dX7_leg_7 ?_
                        refine r_icmp_ge 55 X dX7_leg_8 (by decide) ⟨by omega, by omega⟩ ⟨by omega, by omega⟩ (fun c8 => ?_) (fun c8 => ?_)
                        · refine r_iload_n 1 X dX7_leg_55 rfl ?_
                          refine r_iret X Y dX7_leg_56 (by decide) (by decide) ?_
                          exact pv_i (by unfold lg; (repeat' split) <;> omega)
                        · exfalso
                          omega
          · refine r_iload 1 X dX7_leg_40 rfl ?_
            refine r_iload_n 3 X dX7_leg_42 rfl ?_
            refine r_icmp_le 49 X dX7_leg_43 (by decide) ⟨by omega, by omega⟩ ⟨by omega, by omega⟩ (fun c43 => ?_) (fun c43 => ?_)
            · refine r_iinc 2 (L' := [(4, iv 2), (6, iv (ln d e f 1)), (5, iv (ln a b c 0)), (3, iv (ln a b c 0)), (0, .ref y), (1, iv p), (2, iv q)]) X dX7_leg_49 rfl (by decide) rfl ?_
              refine r_goto 5 X dX7_leg_52 (by decide) ?_
              refine r_iload 0 X dX7_leg_5 rfl ?_
              refine r_iconst X dX7_leg_7 ?_
              refine r_icmp_ge 55 X dX7_leg_8 (by decide) ⟨by omega, by omega⟩ ⟨by omega, by omega⟩ (fun c8 => ?_) (fun c8 => ?_)
              · exfalso
                omega
              · refine r_aload_n 4 X dX7_leg_11 rfl ?_
                refine r_iload_n 5 X dX7_leg_12 rfl ?_
                refine r_iload 0 X dX7_leg_13 rfl ?_
                refine r_iconst X dX7_leg_15 ?_
                refine r_idiv X dX7_leg_16 ⟨by omega, by omega⟩ ⟨by omega, by omega⟩ ?_
                refine r_callV_v X dX7_leg_17 kX7_73 hm.1 (c_X7_sideOf (CX_l X) D z0 _ hm ht p (by omega) a b c hs 1) [] rfl rfl (Nat.le_of_ble_eq_true rfl) (by decide) rfl rfl (by decide) ?_
                refine r_istore (L' := [(5, iv (ln a b c 1)), (4, iv 2), (6, iv (ln d e f 1)), (3, iv (ln a b c 0)), (0, .ref y), (1, iv p), (2, iv q)]) X dX7_leg_20 (by decide) rfl ?_
                refine r_aload_n 4 X dX7_leg_22 rfl ?_
                refine r_iload_n 6 X dX7_leg_23 rfl ?_
                refine r_iload 1 X dX7_leg_24 rfl ?_
                refine r_iconst X dX7_leg_26 ?_
                refine r_irem X dX7_leg_27 ⟨by omega, by omega⟩ ⟨by omega, by omega⟩ ?_
                refine r_callV_v X dX7_leg_28 kX7_73 hm.1 (c_X7_sideOf (CX_l X) D z0 _ hm ht q (by omega) d e f hs2 0) [] rfl rfl (Nat.le_of_ble_eq_true rfl) (by decide) rfl rfl (by decide) ?_
                refine r_istore (L' := [(6, iv (ln d e f 0)), (5, iv (ln a b c 1)), (4, iv 2), (3, iv (ln a b c 0)), (0, .ref y), (1, iv p), (2, iv q)]) X dX7_leg_31 (by decide) rfl ?_
                refine r_iload 1 X dX7_leg_33 rfl ?_
                refine r_iload 0 X dX7_leg_35 rfl ?_
                refine r_icmp_ne 49 X dX7_leg_37 (by decide) ⟨by omega, by omega⟩ ⟨by omega, by omega⟩ (fun c37 => ?_) (fun c37 => ?_)
                · refine r_iinc 2 (L' := [(4, iv 3), (6, iv (ln d e f 0)), (5, iv (ln a b c 1)), (3, iv (ln a b c 0)), (0, .ref y), (1, iv p), (2, iv q)]) X dX7_leg_49 rfl (by decide) rfl ?_
                  refine r_goto 5 X dX7_leg_52 (by decide) ?_
                  refine r_iload 0 X dX7_leg_5 rfl ?_
                  refine r_iconst X dX7_leg_7 ?_
                  refine r_icmp_ge 55 X dX7_leg_8 (by decide) ⟨by omega, by omega⟩ ⟨by omega, by omega⟩ (fun c8 => ?_) (fun c8 => ?_)
                  · exfalso
                    omega
                  · refine r_aload_n 4 X dX7_leg_11 rfl ?_
                    refine r_iload_n 5 X dX7_leg_12 rfl ?_
                    refine r_iload 0 X dX7_leg_13 rfl ?_
                    refine r_iconst X dX7_leg_15 ?_
                    refine r_idiv X dX7_leg_16 ⟨by omega, by omega⟩ ⟨by omega, by omega⟩ ?_
                    refine r_callV_v X dX7_leg_17 kX7_73 hm.1 (c_X7_sideOf (CX_l X) D z0 _ hm ht p (by omega) a b c hs 1) [] rfl rfl (Nat.le_of_ble_eq_true rfl) (by decide) rfl rfl (by decide) ?_
                    refine r_istore (L' := [(5, iv (ln a b c 1)), (4, iv 3), (6, iv (ln d e f 0)), (3, iv (ln a b c 0)), (0, .ref y), (1, iv p), (2, iv q)]) X dX7_leg_20 (by decide) rfl ?_
                    refine r_aload_n 4 X dX7_leg_22 rfl ?_
                    refine r_iload_n 6 X dX7_leg_23 rfl ?_
                    refine r_iload 1 X dX7_leg_24 rfl ?_
                    refine r_iconst X dX7_leg_26 ?_
                    refine r_irem X dX7_leg_27 ⟨by omega, by omega⟩ ⟨by omega, by omega⟩ ?_
                    refine r_callV_v X dX7_leg_28 kX7_73 hm.1 (c_X7_sideOf (CX_l X) D z0 _ hm ht q (by omega) d e f hs2 1) [] rfl rfl (Nat.le_of_ble_eq_true rfl) (by decide) rfl rfl (by decide) ?_
                    refine r_istore (L' := [(6, iv (ln d e f 1)), (5, iv (ln a b c 1)), (4, iv 3), (3, iv (ln a b c 0)), (0, .ref y), (1, iv p), (2, iv q)]) X dX7_leg_31 (by decide) rfl ?_
                    refine r_iload 1 X dX7_leg_33 rfl ?_
                    refine r_iload 0 X dX7_leg_35 rfl ?_
                    refine r_icmp_ne 49 X dX7_leg_37 (by decide) ⟨by omega, by omega⟩ ⟨by omega, by omega⟩ (fun c37 => ?_) (fun c37 => ?_)
                    · refine r_iinc 2 (L' := [(4, iv 4), (6, iv (ln d e f 1)), (5, iv (ln a b c 1)), (3, iv (ln a b c 0)), (0, .ref y), (1, iv p), (2, iv q)]) X dX7_leg_49 rfl (by decide) rfl ?_
                      refine r_goto 5 X dX7_leg_52 (by decide) ?_
                      refine r_iload 0 X dX7_leg_5 rfl ?_
                      refine r_iconst X dX7_leg_7 ?_
                      refine r_icmp_ge 55 X dX7_leg_8 (by decide) ⟨by omega, by omega⟩ ⟨by omega, by omega⟩ (fun c8 => ?_) (fun c8 => ?_)
                      · refine r_iload_n 3 X dX7_leg_55 rfl ?_
                        refine r_iret X Y dX7_leg_56 (by decide) (by decide) ?_
                        exact pv_i (by unfold lg; (repeat' split) <;> omega)
                      · exfalso
                        omega
                    · refine r_iload 1 X dX7_leg_40 rfl ?_
                      refine r_iload_n 3 X dX7_leg_42 rfl ?_
                      refine r_icmp_le 49 X dX7_leg_43 (by decide) ⟨by omega, by omega⟩ ⟨by omega, by omega⟩ (fun c43 => ?_) (fun c43 => ?_)
                      · refine r_iinc 2 (L' := [(4, iv 4), (6, iv (ln d e f 1)), (5, iv (ln a b c 1)), (3, iv (ln a b c 0)), (0, .ref y), (1, iv p), (2, iv q)]) X dX7_leg_49 rfl (by decide) rfl ?_
                        refine r_goto 5 X dX7_leg_52 (by decide) ?_
                        refine r_iload 0 X dX7_leg_5 rfl ?_
                        refine r_iconst X dX7_leg_7 ?_
                        refine r_icmp_ge 55 X dX7_leg_8 (by decide) ⟨by omega, by omega⟩ ⟨by omega, by omega⟩ (fun c8 => ?_) (fun c8 => ?_)
                        · refine r_iload_n 3 X dX7_leg_55 rfl ?_
                          refine r_iret X Y dX7_leg_56 (by decide) (by decide) ?_
                          exact pv_i (by unfold lg; (repeat' split) <;> omega)
                        · exfalso
                          omega
                      · refine r_iload 1 X dX7_leg_46 rfl ?_
                        refine r_istore_n (L' := [(3, iv (ln a b c 1)), (6, iv (ln d e f 1)), (5, iv (ln a b c 1)), (4, iv 3), (0, .ref y), (1, iv p), (2, iv q)]) X dX7_leg_48 (by decide) rfl ?_
                        refine r_iinc 3 (L' := [(4, iv 4), (3, iv (ln a b c 1)), (6, iv (ln d e f 1)), (5, iv (ln a b c 1)), (0, .ref y), (1, iv p), (2, iv q)]) X dX7_leg_49 rfl (by decide) rfl ?_
                        refine r_goto 5 X dX7_leg_52 (by decide) ?_
                        refine r_iload 0 X dX7_leg_5 rfl ?_
                        refine r_iconst X dX7_leg_7 ?_
                        refine r_icmp_ge 55 X dX7_leg_8 (by decide) ⟨by omega, by omega⟩ ⟨by omega, by omega⟩ (fun c8 => ?_) (fun c8 => ?_)
                        · refine r_iload_n 1 X dX7_leg_55 rfl ?_
                          refine r_iret X Y dX7_leg_56 (by decide) (by decide) ?_
                          exact pv_i (by unfold lg; (repeat' split) <;> omega)
                        · exfalso
                          omega
                · refine r_iload 1 X dX7_leg_40 rfl ?_
                  refine r_iload_n 3 X dX7_leg_42 rfl ?_
                  refine r_icmp_le 49 X dX7_leg_43 (by decide) ⟨by omega, by omega⟩ ⟨by omega, by omega⟩ (fun c43 => ?_) (fun c43 => ?_)
                  · refine r_iinc 2 (L' := [(4, iv 3), (6, iv (ln d e f 0)), (5, iv (ln a b c 1)), (3, iv (ln a b c 0)), (0, .ref y), (1, iv p), (2, iv q)]) X dX7_leg_49 rfl (by decide) rfl ?_
                    refine r_goto 5 X dX7_leg_52 (by decide) ?_
                    refine r_iload 0 X dX7_leg_5 rfl ?_
                    refine r_iconst X dX7_leg_7 ?_
                    refine r_icmp_ge 55 X dX7_leg_8 (by decide) ⟨by omega, by omega⟩ ⟨by omega, by omega⟩ (fun c8 => ?_) (fun c8 => ?_)
                    · exfalso
                      omega
                    · refine r_aload_n 4 X dX7_leg_11 rfl ?_
                      refine r_iload_n 5 X dX7_leg_12 rfl ?_
                      refine r_iload 0 X dX7_leg_13 rfl ?_
                      refine r_iconst X dX7_leg_15 ?_
                      refine r_idiv X dX7_leg_16 ⟨by omega, by omega⟩ ⟨by omega, by omega⟩ ?_
                      refine r_callV_v X dX7_leg_17 kX7_73 hm.1 (c_X7_sideOf (CX_l X) D z0 _ hm ht p (by omega) a b c hs 1) [] rfl rfl (Nat.le_of_ble_eq_true rfl) (by decide) rfl rfl (by decide) ?_
                      refine r_istore (L' := [(5, iv (ln a b c 1)), (4, iv 3), (6, iv (ln d e f 0)), (3, iv (ln a b c 0)), (0, .ref y), (1, iv p), (2, iv q)]) X dX7_leg_20 (by decide) rfl ?_
                      refine r_aload_n 4 X dX7_leg_22 rfl ?_
                      refine r_iload_n 6 X dX7_leg_23 rfl ?_
                      refine r_iload 1 X dX7_leg_24 rfl ?_
                      refine r_iconst X dX7_leg_26 ?_
                      refine r_irem X dX7_leg_27 ⟨by omega, by omega⟩ ⟨by omega, by omega⟩ ?_
                      refine r_callV_v X dX7_leg_28 kX7_73 hm.1 (c_X7_sideOf (CX_l X) D z0 _ hm ht q (by omega) d e f hs2 1) [] rfl rfl (Nat.le_of_ble_eq_true rfl) (by decide) rfl rfl (by decide) ?_
                      refine r_istore (L' := [(6, iv (ln d e f 1)), (5, iv (ln a b c 1)), (4, iv 3), (3, iv (ln a b c 0)), (0, .ref y), (1, iv p), (2, iv q)]) X dX7_leg_31 (by decide) rfl ?_
                      refine r_iload 1 X dX7_leg_33 rfl ?_
                      refine r_iload 0 X dX7_leg_35 rfl ?_
                      refine r_icmp_ne 49 X dX7_leg_37 (by decide) ⟨by omega, by omega⟩ ⟨by omega, by omega⟩ (fun c37 => ?_) (fun c37 => ?_)
                      · refine r_iinc 2 (L' := [(4, iv 4), (6, iv (ln d e f 1)), (5, iv (ln a b c 1)), (3, iv (ln a b c 0)), (0, .ref y), (1, iv p), (2, iv q)]) X dX7_leg_49 rfl (by decide) rfl ?_
                        refine r_goto 5 X dX7_leg_52 (by decide) ?_
                        refine r_iload 0 X dX7_leg_5 rfl ?_
                        refine r_iconst X dX7_leg_7 ?_
                        refine r_icmp_ge 55 X dX7_leg_8 (by decide) ⟨by omega, by omega⟩ ⟨by omega, by omega⟩ (fun c8 => ?_) (fun c8 => ?_)
                        · refine r_iload_n 3 X dX7_leg_55 rfl ?_
                          refine r_iret X Y dX7_leg_56 (by decide) (by decide) ?_
                          exact pv_i (by unfold lg; (repeat' split) <;> omega)
                        · exfalso
                          omega
                      · refine r_iload 1 X dX7_leg_40 rfl ?_
                        refine r_iload_n 3 X dX7_leg_42 rfl ?_
                        refine r_icmp_le 49 X dX7_leg_43 (by decide) ⟨by omega, by omega⟩ ⟨by omega, by omega⟩ (fun c43 => ?_) (fun c43 => ?_)
                        · refine r_iinc 2 (L' := [(4, iv 4), (6, iv (ln d e f 1)), (5, iv (ln a b c 1)), (3, iv (ln a b c 0)), (0, .ref y), (1, iv p), (2, iv q)]) X dX7_leg_49 rfl (by decide) rfl ?_
                          refine r_goto 5 X dX7_leg_52 (by decide) ?_
                          refine r_iload 0 X dX7_leg_5 rfl ?_
                          refine r_iconst X dX7_leg_7 ?_
                          refine r_icmp_ge 55 X dX7_leg_8 (by decide) ⟨by omega, by omega⟩ ⟨by omega, by omega⟩ (fun c8 => ?_) (fun c8 => ?_)
                          · refine r_iload_n 3 X dX7_leg_55 rfl ?_
                            refine r_iret X Y dX7_leg_56 (by decide) (by decide) ?_
                            exact pv_i (by unfold lg; (repeat' split) <;> omega)
                          · exfalso
                            omega
                        · refine r_iload 1 X dX7_leg_46 rfl ?_
                          refine r_istore_n (L' := [(3, iv (ln a b c 1)), (6, iv (ln d e f 1)), (5, iv (ln a b c 1)), (4, iv 3), (0, .ref y), (1, iv p), (2, iv q)]) X dX7_leg_48 (by decide) rfl ?_
                          refine r_iinc 3 (L' := [(4, iv 4), (3, iv (ln a b c 1)), (6, iv (ln d e f 1)), (5, iv (ln a b c 1)), (0, .ref y), (1, iv p), (2, iv q)]) X dX7_leg_49 rfl (by decide) rfl ?_
                          refine r_goto 5 X dX7_leg_52 (by decide) ?_
                          refine r_iload 0 X dX7_leg_5 rfl ?_
                          refine r_iconst X dX7_leg_7 ?_
                          refine r_icmp_ge 55 X dX7_leg_8 (by decide) ⟨by omega, by omega⟩ ⟨by omega, by omega⟩ (fun c8 => ?_) (fun c8 => ?_)
                          · refine r_iload_n 1 X dX7_leg_55 rfl ?_
                            refine r_iret X Y dX7_leg_56 (by decide) (by decide) ?_
                            exact pv_i (by unfold lg; (repeat' split) <;> omega)
                          · exfalso
                            omega
                  · refine r_iload 1 X dX7_leg_46 rfl ?_
                    refine r_istore_n (L' := [(3, iv (ln a b c 1)), (6, iv (ln d e f 0)), (5, iv (ln a b c 1)), (4, iv 2), (0, .ref y), (1, iv p), (2, iv q)]) X dX7_leg_48 (by decide) rfl ?_
                    refine r_iinc 3 (L' := [(4, iv 3), (3, iv (ln a b c 1)), (6, iv (ln d e f 0)), (5, iv (ln a b c 1)), (0, .ref y), (1, iv p), (2, iv q)]) X dX7_leg_49 rfl (by decide) rfl ?_
                    refine r_goto 5 X dX7_leg_52 (by decide) ?_
                    refine r_iload 0 X dX7_leg_5 rfl ?_
                    refine r_iconst X dX7_leg_7 ?_
                    refine r_icmp_ge 55 X dX7_leg_8 (by decide) ⟨by omega, by omega⟩ ⟨by omega, by omega⟩ (fun c8 => ?_) (fun c8 => ?_)
                    · exfalso
                      omega
                    · refine r_aload_n 4 X dX7_leg_11 rfl ?_
                      refine r_iload_n 5 X dX7_leg_12 rfl ?_
                      refine r_iload 0 X dX7_leg_13 rfl ?_
                      refine r_iconst X dX7_leg_15 ?_
                      refine r_idiv X dX7_leg_16 ⟨by omega, by omega⟩ ⟨by omega, by omega⟩ ?_
                      refine r_callV_v X dX7_leg_17 kX7_73 hm.1 (c_X7_sideOf (CX_l X) D z0 _ hm ht p (by omega) a b c hs 1) [] rfl rfl (Nat.le_of_ble_eq_true rfl) (by decide) rfl rfl (by decide) ?_
                      refine r_istore (L' := [(5, iv (ln a b c 1)), (4, iv 3), (3, iv (ln a b c 1)), (6, iv (ln d e f 0)), (0, .ref y), (1, iv p), (2, iv q)]) X dX7_leg_20 (by decide) rfl ?_
                      refine r_aload_n 4 X dX7_leg_22 rfl ?_
                      refine r_iload_n 6 X dX7_leg_23 rfl ?_
                      refine r_iload 1 X dX7_leg_24 rfl ?_
                      refine r_iconst X dX7_leg_26 ?_
                      refine r_irem X dX7_leg_27 ⟨by omega, by omega⟩ ⟨by omega, by omega⟩ ?_
                      refine r_callV_v X dX7_leg_28 kX7_73 hm.1 (c_X7_sideOf (CX_l X) D z0 _ hm ht q (by omega) d e f hs2 1) [] rfl rfl (Nat.le_of_ble_eq_true rfl) (by decide) rfl rfl (by decide) ?_
                      refine r_istore (L' := [(6, iv (ln d e f 1)), (5, iv (ln a b c 1)), (4, iv 3), (3, iv (ln a b c 1)), (0, .ref y), (1, iv p), (2, iv q)]) X dX7_leg_31 (by decide) rfl ?_
                      refine r_iload 1 X dX7_leg_33 rfl ?_
                      refine r_iload 0 X dX7_leg_35 rfl ?_
                      refine r_icmp_ne 49 X dX7_leg_37 (by decide) ⟨by omega, by omega⟩ ⟨by omega, by omega⟩ (fun c37 => ?_) (fun c37 => ?_)
                      · refine r_iinc 2 (L' := [(4, iv 4), (6, iv (ln d e f 1)), (5, iv (ln a b c 1)), (3, iv (ln a b c 1)), (0, .ref y), (1, iv p), (2, iv q)]) X dX7_leg_49 rfl (by decide) rfl ?_
                        refine r_goto 5 X dX7_leg_52 (by decide) ?_
                        refine r_iload 0 X dX7_leg_5 rfl ?_
                        refine r_iconst X dX7_leg_7 ?_
                        refine r_icmp_ge 55 X dX7_leg_8 (by decide) ⟨by omega, by omega⟩ ⟨by omega, by omega⟩ (fun c8 => ?_) (fun c8 => ?_)
                        · refine r_iload_n 3 X dX7_leg_55 rfl ?_
                          refine r_iret X Y dX7_leg_56 (by decide) (by decide) ?_
                          exact pv_i (by unfold lg; (repeat' split) <;> omega)
                        · exfalso
                          omega
                      · refine r_iload 1 X dX7_leg_40 rfl ?_
                        refine r_iload_n 3 X dX7_leg_42 rfl ?_
                        refine r_icmp_le 49 X dX7_leg_43 (by decide) ⟨by omega, by omega⟩ ⟨by omega, by omega⟩ (fun c43 => ?_) (fun c43 => ?_)
                        · refine r_iinc 2 (L' := [(4, iv 4), (6, iv (ln d e f 1)), (5, iv (ln a b c 1)), (3, iv (ln a b c 1)), (0, .ref y), (1, iv p), (2, iv q)]) X dX7_leg_49 rfl (by decide) rfl ?_
                          refine r_goto 5 X dX7_leg_52 (by decide) ?_
                          refine r_iload 0 X dX7_leg_5 rfl ?_
                          refine r_iconst X dX7_leg_7 ?_
                          refine r_icmp_ge 55 X dX7_leg_8 (by decide) ⟨by omega, by omega⟩ ⟨by omega, by omega⟩ (fun c8 => ?_) (fun c8 => ?_)
                          · refine r_iload_n 3 X dX7_leg_55 rfl ?_
                            refine r_iret X Y dX7_leg_56 (by decide) (by decide) ?_
                            exact pv_i (by unfold lg; (repeat' split) <;> omega)
                          · exfalso
                            omega
                        · refine r_iload 1 X dX7_leg_46 rfl ?_
                          refine r_istore_n (L' := [(3, iv (ln a b c 1)), (6, iv (ln d e f 1)), (5, iv (ln a b c 1)), (4, iv 3), (0, .ref y), (1, iv p), (2, iv q)]) X dX7_leg_48 (by decide) rfl ?_
                          refine r_iinc 3 (L' := [(4, iv 4), (3, iv (ln a b c 1)), (6, iv (ln d e f 1)), (5, iv (ln a b c 1)), (0, .ref y), (1, iv p), (2, iv q)]) X dX7_leg_49 rfl (by decide) rfl ?_
                          refine r_goto 5 X dX7_leg_52 (by decide) ?_
                          refine r_iload 0 X dX7_leg_5 rfl ?_
                          refine r_iconst X dX7_leg_7 ?_
                          refine r_icmp_ge 55 X dX7_leg_8 (by decide) ⟨by omega, by omega⟩ ⟨by omega, by omega⟩ (fun c8 => ?_) (fun c8 => ?_)
                          · refine r_iload_n 1 X dX7_leg_55 rfl ?_
                            refine r_iret X Y dX7_leg_56 (by decide) (by decide) ?_
                            exact pv_i (by unfold lg; (repeat' split) <;> omega)
                          · exfalso
                            omega
            · refine r_iload 1 X dX7_leg_46 rfl ?_
              refine r_istore_n (L' := [(3, iv (ln a b c 0)), (6, iv (ln d e f 1)), (5, iv (ln a b c 0)), (4, iv 1), (0, .ref y), (1, iv p), (2, iv q)]) X dX7_leg_48 (by decide) rfl ?_
              refine r_iinc 3 (L' := [(4, iv 2), (3, iv (ln a b c 0)), (6, iv (ln d e f 1)), (5, iv (ln a b c 0)), (0, .ref y), (1, iv p), (2, iv q)]) X dX7_leg_49 rfl (by decide) rfl ?_
              refine r_goto 5 X dX7_leg_52 (by decide) ?_
              refine r_iload 0 X dX7_leg_5 rfl ?_
              refine r_iconst X dX7_leg_7 ?_
              refine r_icmp_ge 55 X dX7_leg_8 (by decide) ⟨by omega, by omega⟩ ⟨by omega, by omega⟩ (fun c8 => ?_) (fun c8 => ?_)
              · exfalso
                omega
              · refine r_aload_n 4 X dX7_leg_11 rfl ?_
                refine r_iload_n 5 X dX7_leg_12 rfl ?_
                refine r_iload 0 X dX7_leg_13 rfl ?_
                refine r_iconst X dX7_leg_15 ?_
                refine r_idiv X dX7_leg_16 ⟨by omega, by omega⟩ ⟨by omega, by omega⟩ ?_
                refine r_callV_v X dX7_leg_17 kX7_73 hm.1 (c_X7_sideOf (CX_l X) D z0 _ hm ht p (by omega) a b c hs 1) [] rfl rfl (Nat.le_of_ble_eq_true rfl) (by decide) rfl rfl (by decide) ?_
                refine r_istore (L' := [(5, iv (ln a b c 1)), (4, iv 2), (3, iv (ln a b c 0)), (6, iv (ln d e f 1)), (0, .ref y), (1, iv p), (2, iv q)]) X dX7_leg_20 (by decide) rfl ?_
                refine r_aload_n 4 X dX7_leg_22 rfl ?_
                refine r_iload_n 6 X dX7_leg_23 rfl ?_
                refine r_iload 1 X dX7_leg_24 rfl ?_
                refine r_iconst X dX7_leg_26 ?_
                refine r_irem X dX7_leg_27 ⟨by omega, by omega⟩ ⟨by omega, by omega⟩ ?_
                refine r_callV_v X dX7_leg_28 kX7_73 hm.1 (c_X7_sideOf (CX_l X) D z0 _ hm ht q (by omega) d e f hs2 0) [] rfl rfl (Nat.le_of_ble_eq_true rfl) (by decide) rfl rfl (by decide) ?_
                refine r_istore (L' := [(6, iv (ln d e f 0)), (5, iv (ln a b c 1)), (4, iv 2), (3, iv (ln a b c 0)), (0, .ref y), (1, iv p), (2, iv q)]) X dX7_leg_31 (by decide) rfl ?_
                refine r_iload 1 X dX7_leg_33 rfl ?_
                refine r_iload 0 X dX7_leg_35 rfl ?_
                refine r_icmp_ne 49 X dX7_leg_37 (by decide) ⟨by omega, by omega⟩ ⟨by omega, by omega⟩ (fun c37 => ?_) (fun c37 => ?_)
                · refine r_iinc 2 (L' := [(4, iv 3), (6, iv (ln d e f 0)), (5, iv (ln a b c 1)), (3, iv (ln a b c 0)), (0, .ref y), (1, iv p), (2, iv q)]) X dX7_leg_49 rfl (by decide) rfl ?_
                  refine r_goto 5 X dX7_leg_52 (by decide) ?_
                  refine r_iload 0 X dX7_leg_5 rfl ?_
                  refine r_iconst X dX7_leg_7 ?_
                  refine r_icmp_ge 55 X dX7_leg_8 (by decide) ⟨by omega, by omega⟩ ⟨by omega, by omega⟩ (fun c8 => ?_) (fun c8 => ?_)
                  · exfalso
                    omega
                  · refine r_aload_n 4 X dX7_leg_11 rfl ?_
                    refine r_iload_n 5 X dX7_leg_12 rfl ?_
                    refine r_iload 0 X dX7_leg_13 rfl ?_
                    refine r_iconst X dX7_leg_15 ?_
                    refine r_idiv X dX7_leg_16 ⟨by omega, by omega⟩ ⟨by omega, by omega⟩ ?_
                    refine r_callV_v X dX7_leg_17 kX7_73 hm.1 (c_X7_sideOf (CX_l X) D z0 _ hm ht p (by omega) a b c hs 1) [] rfl rfl (Nat.le_of_ble_eq_true rfl) (by decide) rfl rfl (by decide) ?_
                    refine r_istore (L' := [(5, iv (ln a b c 1)), (4, iv 3), (6, iv (ln d e f 0)), (3, iv (ln a b c 0)), (0, .ref y), (1, iv p), (2, iv q)]) X dX7_leg_20 (by decide) rfl ?_
                    refine r_aload_n 4 X dX7_leg_22 rfl ?_
                    refine r_iload_n 6 X dX7_leg_23 rfl ?_
                    refine r_iload 1 X dX7_leg_24 rfl ?_
                    refine r_iconst X dX7_leg_26 ?_
                    refine r_irem X dX7_leg_27 ⟨by omega, by omega⟩ ⟨by omega, by omega⟩ ?_
                    refine r_callV_v X dX7_leg_28 kX7_73 hm.1 (c_X7_sideOf (CX_l X) D z0 _ hm ht q (by omega) d e f hs2 1) [] rfl rfl (Nat.le_of_ble_eq_true rfl) (by decide) rfl rfl (by decide) ?_
                    refine r_istore (L' := [(6, iv (ln d e f 1)), (5, iv (ln a b c 1)), (4, iv 3), (3, iv (ln a b c 0)), (0, .ref y), (1, iv p), (2, iv q)]) X dX7_leg_31 (by decide) rfl ?_
                    refine r_iload 1 X dX7_leg_33 rfl ?_
                    refine r_iload 0 X dX7_leg_35 rfl ?_
                    refine r_icmp_ne 49 X dX7_leg_37 (by decide) ⟨by omega, by omega⟩ ⟨by omega, by omega⟩ (fun c37 => ?_) (fun c37 => ?_)
                    · refine r_iinc 2 (L' := [(4, iv 4), (6, iv (ln d e f 1)), (5, iv (ln a b c 1)), (3, iv (ln a b c 0)), (0, .ref y), (1, iv p), (2, iv q)]) X dX7_leg_49 rfl (by decide) rfl ?_
                      refine r_goto 5 X dX7_leg_52 (by decide) ?_
                      refine r_iload 0 X dX7_leg_5 rfl ?_
                      refine r_iconst X dX7_leg_7 ?_
                      refine r_icmp_ge 55 X dX7_leg_8 (by decide) ⟨by omega, by omega⟩ ⟨by omega, by omega⟩ (fun c8 => ?_) (fun c8 => ?_)
                      · refine r_iload_n 3 X dX7_leg_55 rfl ?_
                        refine r_iret X Y dX7_leg_56 (by decide) (by decide) ?_
                        exact pv_i (by unfold lg; (repeat' split) <;> omega)
                      · exfalso
                        omega
                    · refine r_iload 1 X dX7_leg_40 rfl ?_
                      refine r_iload_n 3 X dX7_leg_42 rfl ?_
                      refine r_icmp_le 49 X dX7_leg_43 (by decide) ⟨by omega, by omega⟩ ⟨by omega, by omega⟩ (fun c43 => ?_) (fun c43 => ?_)
                      · refine r_iinc 2 (L' := [(4, iv 4), (6, iv (ln d e f 1)), (5, iv (ln a b c 1)), (3, iv (ln a b c 0)), (0, .ref y), (1, iv p), (2, iv q)]) X dX7_leg_49 rfl (by decide) rfl ?_
                        refine r_goto 5 X dX7_leg_52 (by decide) ?_
                        refine r_iload 0 X dX7_leg_5 rfl ?_
                        refine r_iconst X dX7_leg_7 ?_
                        refine r_icmp_ge 55 X dX7_leg_8 (by decide) ⟨by omega, by omega⟩ ⟨by omega, by omega⟩ (fun c8 => ?_) (fun c8 => ?_)
                        · refine r_iload_n 3 X dX7_leg_55 rfl ?_
                          refine r_iret X Y dX7_leg_56 (by decide) (by decide) ?_
                          exact pv_i (by unfold lg; (repeat' split) <;> omega)
                        · exfalso
                          omega
                      · refine r_iload 1 X dX7_leg_46 rfl ?_
                        refine r_istore_n (L' := [(3, iv (ln a b c 1)), (6, iv (ln d e f 1)), (5, iv (ln a b c 1)), (4, iv 3), (0, .ref y), (1, iv p), (2, iv q)]) X dX7_leg_48 (by decide) rfl ?_
                        refine r_iinc 3 (L' := [(4, iv 4), (3, iv (ln a b c 1)), (6, iv (ln d e f 1)), (5, iv (ln a b c 1)), (0, .ref y), (1, iv p), (2, iv q)]) X dX7_leg_49 rfl (by decide) rfl ?_
                        refine r_goto 5 X dX7_leg_52 (by decide) ?_
                        refine r_iload 0 X dX7_leg_5 rfl ?_
                        refine r_iconst X dX7_leg_7 ?_
                        refine r_icmp_ge 55 X dX7_leg_8 (by decide) ⟨by omega, by omega⟩ ⟨by omega, by omega⟩ (fun c8 => ?_) (fun c8 => ?_)
                        · refine r_iload_n 1 X dX7_leg_55 rfl ?_
                          refine r_iret X Y dX7_leg_56 (by decide) (by decide) ?_
                          exact pv_i (by unfold lg; (repeat' split) <;> omega)
                        · exfalso
                          omega
                · refine r_iload 1 X dX7_leg_40 rfl ?_
                  refine r_iload_n 3 X dX7_leg_42 rfl ?_
                  refine r_icmp_le 49 X dX7_leg_43 (by decide) ⟨by omega, by omega⟩ ⟨by omega, by omega⟩ (fun c43 => ?_) (fun c43 => ?_)
                  · refine r_iinc 2 (L' := [(4, iv 3), (6, iv (ln d e f 0)), (5, iv (ln a b c 1)), (3, iv (ln a b c 0)), (0, .ref y), (1, iv p), (2, iv q)]) X dX7_leg_49 rfl (by decide) rfl ?_
                    refine r_goto 5 X dX7_leg_52 (by decide) ?_
                    refine r_iload 0 X dX7_leg_5 rfl ?_
                    refine r_iconst X dX7_leg_7 ?_
                    refine r_icmp_ge 55 X dX7_leg_8 (by decide) ⟨by omega, by omega⟩ ⟨by omega, by omega⟩ (fun c8 => ?_) (fun c8 => ?_)
                    · exfalso
                      omega
                    · refine r_aload_n 4 X dX7_leg_11 rfl ?_
                      refine r_iload_n 5 X dX7_leg_12 rfl ?_
                      refine r_iload 0 X dX7_leg_13 rfl ?_
                      refine r_iconst X dX7_leg_15 ?_
                      refine r_idiv X dX7_leg_16 ⟨by omega, by omega⟩ ⟨by omega, by omega⟩ ?_
                      refine r_callV_v X dX7_leg_17 kX7_73 hm.1 (c_X7_sideOf (CX_l X) D z0 _ hm ht p (by omega) a b c hs 1) [] rfl rfl (Nat.le_of_ble_eq_true rfl) (by decide) rfl rfl (by decide) ?_
                      refine r_istore (L' := [(5, iv (ln a b c 1)), (4, iv 3), (6, iv (ln d e f 0)), (3, iv (ln a b c 0)), (0, .ref y), (1, iv p), (2, iv q)]) X dX7_leg_20 (by decide) rfl ?_
                      refine r_aload_n 4 X dX7_leg_22 rfl ?_
                      refine r_iload_n 6 X dX7_leg_23 rfl ?_
                      refine r_iload 1 X dX7_leg_24 rfl ?_
                      refine r_iconst X dX7_leg_26 ?_
                      refine r_irem X dX7_leg_27 ⟨by omega, by omega⟩ ⟨by omega, by omega⟩ ?_
                      refine r_callV_v X dX7_leg_28 kX7_73 hm.1 (c_X7_sideOf (CX_l X) D z0 _ hm ht q (by omega) d e f hs2 1) [] rfl rfl (Nat.le_of_ble_eq_true rfl) (by decide) rfl rfl (by decide) ?_
                      refine r_istore (L' := [(6, iv (ln d e f 1)), (5, iv (ln a b c 1)), (4, iv 3), (3, iv (ln a b c 0)), (0, .ref y), (1, iv p), (2, iv q)]) X dX7_leg_31 (by decide) rfl ?_
                      refine r_iload 1 X dX7_leg_33 rfl ?_
                      refine r_iload 0 X dX7_leg_35 rfl ?_
                      refine r_icmp_ne 49 X dX7_leg_37 (by decide) ⟨by omega, by omega⟩ ⟨by omega, by omega⟩ (fun c37 => ?_) (fun c37 => ?_)
                      · refine r_iinc 2 (L' := [(4, iv 4), (6, iv (ln d e f 1)), (5, iv (ln a b c 1)), (3, iv (ln a b c 0)), (0, .ref y), (1, iv p), (2, iv q)]) X dX7_leg_49 rfl (by decide) rfl ?_
                        refine r_goto 5 X dX7_leg_52 (by decide) ?_
                        refine r_iload 0 X dX7_leg_5 rfl ?_
                        refine r_iconst X dX7_leg_7 ?_
                        refine r_icmp_ge 55 X dX7_leg_8 (by decide) ⟨by omega, by omega⟩ ⟨by omega, by omega⟩ (fun c8 => ?_) (fun c8 => ?_)
                        · refine r_iload_n 3 X dX7_leg_55 rfl ?_
                          refine r_iret X Y dX7_leg_56 (by decide) (by decide) ?_
                          exact pv_i (by unfold lg; (repeat' split) <;> omega)
                        · exfalso
                          omega
                      · refine r_iload 1 X dX7_leg_40 rfl ?_
                        refine r_iload_n 3 X dX7_leg_42 rfl ?_
                        refine r_icmp_le 49 X dX7_leg_43 (by decide) ⟨by omega, by omega⟩ ⟨by omega, by omega⟩ (fun c43 => ?_) (fun c43 => ?_)
                        · refine r_iinc 2 (L' := [(4, iv 4), (6, iv (ln d e f 1)), (5, iv (ln a b c 1)), (3, iv (ln a b c 0)), (0, .ref y), (1, iv p), (2, iv q)]) X dX7_leg_49 rfl (by decide) rfl ?_
                          refine r_goto 5 X dX7_leg_52 (by decide) ?_
                          refine r_iload 0 X dX7_leg_5 rfl ?_
                          refine r_iconst X dX7_leg_7 ?_
                          refine r_icmp_ge 55 X dX7_leg_8 (by decide) ⟨by omega, by omega⟩ ⟨by omega, by omega⟩ (fun c8 => ?_) (fun c8 => ?_)
                          · refine r_iload_n 3 X dX7_leg_55 rfl ?_
                            refine r_iret X Y dX7_leg_56 (by decide) (by decide) ?_
                            exact pv_i (by unfold lg; (repeat' split) <;> omega)
                          · exfalso
                            omega
                        · refine r_iload 1 X dX7_leg_46 rfl ?_
                          refine r_istore_n (L' := [(3, iv (ln a b c 1)), (6, iv (ln d e f 1)), (5, iv (ln a b c 1)), (4, iv 3), (0, .ref y), (1, iv p), (2, iv q)]) X dX7_leg_48 (by decide) rfl ?_
                          refine r_iinc 3 (L' := [(4, iv 4), (3, iv (ln a b c 1)), (6, iv (ln d e f 1)), (5, iv (ln a b c 1)), (0, .ref y), (1, iv p), (2, iv q)]) X dX7_leg_49 rfl (by decide) rfl ?_
                          refine r_goto 5 X dX7_leg_52 (by decide) ?_
                          refine r_iload 0 X dX7_leg_5 rfl ?_
                          refine r_iconst X dX7_leg_7 ?_
                          refine r_icmp_ge 55 X dX7_leg_8 (by decide) ⟨by omega, by omega⟩ ⟨by omega, by omega⟩ (fun c8 => ?_) (fun c8 => ?_)
                          · refine r_iload_n 1 X dX7_leg_55 rfl ?_
                            refine r_iret X Y dX7_leg_56 (by decide) (by decide) ?_
                            exact pv_i (by unfold lg; (repeat' split) <;> omega)
                          · exfalso
                            omega
                  · refine r_iload 1 X dX7_leg_46 rfl ?_
                    refine r_istore_n (L' := [(3, iv (ln a b c 1)), (6, iv (ln d e f 0)), (5, iv (ln a b c 1)), (4, iv 2), (0, .ref y), (1, iv p), (2, iv q)]) X dX7_leg_48 (by decide) rfl ?_
                    refine r_iinc 3 (L' := [(4, iv 3), (3, iv (ln a b c 1)), (6, iv (ln d e f 0)), (5, iv (ln a b c 1)), (0, .ref y), (1, iv p), (2, iv q)]) X dX7_leg_49 rfl (by decide) rfl ?_
                    refine r_goto 5 X dX7_leg_52 (by decide) ?_
                    refine r_iload 0 X dX7_leg_5 rfl ?_
                    refine r_iconst X dX7_leg_7 ?_
                    refine r_icmp_ge 55 X dX7_leg_8 (by decide) ⟨by omega, by omega⟩ ⟨by omega, by omega⟩ (fun c8 => ?_) (fun c8 => ?_)
                    · exfalso
                      omega
                    · refine r_aload_n 4 X dX7_leg_11 rfl ?_
                      refine r_iload_n 5 X dX7_leg_12 rfl ?_
                      refine r_iload 0 X dX7_leg_13 rfl ?_
                      refine r_iconst X dX7_leg_15 ?_
                      refine r_idiv X dX7_leg_16 ⟨by omega, by omega⟩ ⟨by omega, by omega⟩ ?_
                      refine r_callV_v X dX7_leg_17 kX7_73 hm.1 (c_X7_sideOf (CX_l X) D z0 _ hm ht p (by omega) a b c hs 1) [] rfl rfl (Nat.le_of_ble_eq_true rfl) (by decide) rfl rfl (by decide) ?_
                      refine r_istore (L' := [(5, iv (ln a b c 1)), (4, iv 3), (3, iv (ln a b c 1)), (6, iv (ln d e f 0)), (0, .ref y), (1, iv p), (2, iv q)]) X dX7_leg_20 (by decide) rfl ?_
                      refine r_aload_n 4 X dX7_leg_22 rfl ?_
                      refine r_iload_n 6 X dX7_leg_23 rfl ?_
                      refine r_iload 1 X dX7_leg_24 rfl ?_
                      refine r_iconst X dX7_leg_26 ?_
                      refine r_irem X dX7_leg_27 ⟨by omega, by omega⟩ ⟨by omega, by omega⟩ ?_
                      refine r_callV_v X dX7_leg_28 kX7_73 hm.1 (c_X7_sideOf (CX_l X) D z0 _ hm ht q (by omega) d e f hs2 1) [] rfl rfl (Nat.le_of_ble_eq_true rfl) (by decide) rfl rfl (by decide) ?_
                      refine r_istore (L' := [(6, iv (ln d e f 1)), (5, iv (ln a b c 1)), (4, iv 3), (3, iv (ln a b c 1)), (0, .ref y), (1, iv p), (2, iv q)]) X dX7_leg_31 (by decide) rfl ?_
                      refine r_iload 1 X dX7_leg_33 rfl ?_
                      refine r_iload 0 X dX7_leg_35 rfl ?_
                      refine r_icmp_ne 49 X dX7_leg_37 (by decide) ⟨by omega, by omega⟩ ⟨by omega, by omega⟩ (fun c37 => ?_) (fun c37 => ?_)
                      · refine r_iinc 2 (L' := [(4, iv 4), (6, iv (ln d e f 1)), (5, iv (ln a b c 1)), (3, iv (ln a b c 1)), (0, .ref y), (1, iv p), (2, iv q)]) X dX7_leg_49 rfl (by decide) rfl ?_
                        refine r_goto 5 X dX7_leg_52 (by decide) ?_
                        refine r_iload 0 X dX7_leg_5 rfl ?_
                        refine r_iconst X dX7_leg_7 ?_
                        refine r_icmp_ge 55 X dX7_leg_8 (by decide) ⟨by omega, by omega⟩ ⟨by omega, by omega⟩ (fun c8 => ?_) (fun c8 => ?_)
                        · refine r_iload_n 3 X dX7_leg_55 rfl ?_
                          refine r_iret X Y dX7_leg_56 (by decide) (by decide) ?_
                          exact pv_i (by unfold lg; (repeat' split) <;> omega)
                        · exfalso
                          omega
                      · refine r_iload 1 X dX7_leg_40 rfl ?_
                        refine r_iload_n 3 X dX7_leg_42 rfl ?_
                        refine r_icmp_le 49 X dX7_leg_43 (by decide) ⟨by omega, by omega⟩ ⟨by omega, by omega⟩ (fun c43 => ?_) (fun c43 => ?_)
                        · refine r_iinc 2 (L' := [(4, iv 4), (6, iv (ln d e f 1)), (5, iv (ln a b c 1)), (3, iv (ln a b c 1)), (0, .ref y), (1, iv p), (2, iv q)]) X dX7_leg_49 rfl (by decide) rfl ?_
                          refine r_goto 5 X dX7_leg_52 (by decide) ?_
                          refine r_iload 0 X dX7_leg_5 rfl ?_
                          refine r_iconst X dX7_leg_7 ?_
                          refine r_icmp_ge 55 X dX7_leg_8 (by decide) ⟨by omega, by omega⟩ ⟨by omega, by omega⟩ (fun c8 => ?_) (fun c8 => ?_)
                          · refine r_iload_n 3 X dX7_leg_55 rfl ?_
                            refine r_iret X Y dX7_leg_56 (by decide) (by decide) ?_
                            exact pv_i (by unfold lg; (repeat' split) <;> omega)
                          · exfalso
                            omega
                        · refine r_iload 1 X dX7_leg_46 rfl ?_
                          refine r_istore_n (L' := [(3, iv (ln a b c 1)), (6, iv (ln d e f 1)), (5, iv (ln a b c 1)), (4, iv 3), (0, .ref y), (1, iv p), (2, iv q)]) X dX7_leg_48 (by decide) rfl ?_
                          refine r_iinc 3 (L' := [(4, iv 4), (3, iv (ln a b c 1)), (6, iv (ln d e f 1)), (5, iv (ln a b c 1)), (0, .ref y), (1, iv p), (2, iv q)]) X dX7_leg_49 rfl (by decide) rfl ?_
                          refine r_goto 5 X dX7_leg_52 (by decide) ?_
                          refine r_iload 0 X dX7_leg_5 rfl ?_
                          refine r_iconst X dX7_leg_7 ?_
                          refine r_icmp_ge 55 X dX7_leg_8 (by decide) ⟨by omega, by omega⟩ ⟨by omega, by omega⟩ (fun c8 => ?_) (fun c8 => ?_)
                          · refine r_iload_n 1 X dX7_leg_55 rfl ?_
                            refine r_iret X Y dX7_leg_56 (by decide) (by decide) ?_
                            exact pv_i (by unfold lg; (repeat' split) <;> omega)
                          · exfalso
                            omega
abbrev rX7_wide : Room := { frames := 2, cells := 0, slots := 0, locals := 48 }
theorem c_X7_wide {l : Launch} (hl : l.stackTraces = false) (D : va_G) (z0 : Nat) (h : Hp) {y : Nat} {v : Nat → Nat} {σ : Tg} {e1 e2 e3 od : Nat → Int} {lc oc tc hi lo rf sq : Int} (hm : Mz D h y v (fA σ) (fB σ) (fC σ) e1 e2 e3 od lc oc tc hi lo rf sq) (ht : TVs σ) (p q : Int) (hp : pl p) (hq : pl q) (a b c d e f : Int) (hs : σ p.toNat = some (a, b, c)) (hs2 : σ q.toNat = some (d, e, f)) : CC l yX7_wide cX7_wide 4 (some .int) rX7_wide D z0 h [.ref y, iv p, iv q] (PV (iv (wd a b d e)) h) NX := by
  refine CC_of RX7 hl (by decide) rfl (Nat.le_of_ble_eq_true rfl) (fun K X Y Z hmn hKl => ?_)
  subst hKl
  have hv := ht p.toNat (by omega) a b c hs
  have hb := TV_b hv
  have hv2 := ht q.toNat (by omega) d e f hs2
  have hb2 := TV_b hv2
  have hl0 : ln a b c 0 = a := rfl
  have hl1 : ln a b c 1 = b := rfl
  have hk0 : ln d e f 0 = d := rfl
  have hk1 : ln d e f 1 = e := rfl
  show WW K D z0 4 h 0 0 0 [(0, .ref y), (1, iv p), (2, iv q)] []
  refine r_aload_n 0 X dX7_wide_0 rfl ?_
  refine r_iload_n 1 X dX7_wide_1 rfl ?_
  refine r_iload_n 2 X dX7_wide_2 rfl ?_
  refine r_callV_v X dX7_wide_3 kX7_82 hm.1 (c_X7_leg (CX_l X) D z0 _ hm ht p q (by omega) (by omega) a b c d e f hs hs2) [] rfl rfl (Nat.le_of_ble_eq_true rfl) (by decide) rfl rfl (by decide) ?_
  refine r_istore_n (L' := [(3, iv (lg a b d e)), (0, .ref y), (1, iv p), (2, iv q)]) X dX7_wide_6 (by decide) rfl ?_
  refine r_aload_n 1 X dX7_wide_7 rfl ?_
  refine r_getf X dX7_wide_8 fX7_7 hm.1 rfl ?_
  refine r_iload_n 2 X dX7_wide_11 rfl ?_
  refine r_ialoadE X dX7_wide_12 hm.2.1 ⟨by omega, by omega⟩ (by decide) (fA_s hs) ?_
  refine r_aload_n 1 X dX7_wide_13 rfl ?_
  refine r_getf X dX7_wide_14 fX7_13 hm.1 rfl ?_
  refine r_iload_n 2 X dX7_wide_17 rfl ?_
  refine r_ialoadE X dX7_wide_18 hm.2.2.1 ⟨by omega, by omega⟩ (by decide) (fB_s hs) ?_
  refine r_iadd X dX7_wide_19 ?_
  refine r_iload_n 0 X dX7_wide_20 rfl ?_
  refine r_isub X dX7_wide_21 ?_
  refine r_aload_n 1 X dX7_wide_22 rfl ?_
  refine r_getf X dX7_wide_23 fX7_7 hm.1 rfl ?_
  refine r_iload_n 3 X dX7_wide_26 rfl ?_
  refine r_ialoadE X dX7_wide_27 hm.2.1 ⟨by omega, by omega⟩ (by decide) (fA_s hs2) ?_
  refine r_iadd X dX7_wide_28 ?_
  refine r_aload_n 1 X dX7_wide_29 rfl ?_
  refine r_getf X dX7_wide_30 fX7_13 hm.1 rfl ?_
  refine r_iload_n 3 X dX7_wide_33 rfl ?_
  refine r_ialoadE X dX7_wide_34 hm.2.2.1 ⟨by omega, by omega⟩ (by decide) (fB_s hs2) ?_
  refine r_iadd X dX7_wide_35 ?_
  refine r_iload_n 0 X dX7_wide_36 rfl ?_
  refine r_isub X dX7_wide_37 ?_
  refine r_iret X Y dX7_wide_38 (by decide) (by decide) ?_
  exact pv_i (by unfold wd; omega)
abbrev rX7_join : Room := { frames := 3, cells := 0, slots := 0, locals := 71 }
theorem c_X7_join {l : Launch} (hl : l.stackTraces = false) (D : va_G) (z0 : Nat) (h : Hp) {y : Nat} {v : Nat → Nat} {σ : Tg} {e1 e2 e3 od : Nat → Int} {lc oc tc hi lo rf sq : Int} (hm : Mz D h y v (fA σ) (fB σ) (fC σ) e1 e2 e3 od lc oc tc hi lo rf sq) (ht : TVs σ) (p : Int) (hp0 : I32 p) (q : Int) (hq0 : I32 q) (r : Int) (hr0 : I32 r) : CC l yX7_join cX7_join 5 (some .int) rX7_join D z0 h [.ref y, iv p, iv q, iv r] (MO D y v σ (up σ r.toNat (onT σ p (fun a b c => onT σ q (fun d e f => st3 c f (wd a b d e))))) e1 e2 e3 od lc oc (cdJo σ p q r) (iv (on σ p (fun a b c => on σ q (fun d e f => mx3 c f (wd a b d e))))) (iv 0) h) NX := by
  refine CC_of RX7 hl (by decide) rfl (Nat.le_of_ble_eq_true rfl) (fun K X Y Z hmn hKl => ?_)
  subst hKl
  show WW K D z0 5 h 0 0 0 [(0, .ref y), (1, iv p), (2, iv q), (3, iv r)] []
  refine r_iload_n 1 X dX7_join_0 rfl ?_
  refine r_callS_v X dX7_join_1 kX7_41 (c_X7_isPlace (CX_l X) D z0 _ p ⟨by omega, by omega⟩) [] rfl rfl (Nat.le_of_ble_eq_true rfl) (by decide) rfl rfl (by decide) ?_
  refine r_ifb_eq 21 X dX7_join_4 (by decide) (fun c4 => ?_) (fun c4 => ?_)
  · refine r_iconst X dX7_join_21 ?_
    refine r_goto 46 X dX7_join_22 (by decide) ?_
    refine r_istore (L' := [(4, iv 1), (0, .ref y), (1, iv p), (2, iv q), (3, iv r)]) X dX7_join_46 (by decide) rfl ?_
    refine r_iload 0 X dX7_join_48 rfl ?_
    refine r_if_ne 92 X dX7_join_50 (by decide) ⟨by omega, by omega⟩ (fun c50 => ?_) (fun c50 => ?_)
    · refine r_aload_n 1 X dX7_join_92 rfl ?_
      refine r_iload 0 X dX7_join_93 rfl ?_
      refine r_callV X dX7_join_95 kX7_57 hm.1 (c_X7_isWrong (CX_l X) D z0 _ hm 1 ⟨by omega, by omega⟩) [] rfl rfl (Nat.le_of_ble_eq_true rfl) (by decide) (by decide) (fun _ _ z => z.elim) (fun v9 hq95 hv9 => ?_)
      obtain ⟨rfl, hm95, kp95⟩ := hv9
      show WW K D z0 5 hq95 0 0 98 [(4, iv 1), (0, .ref y), (1, iv p), (2, iv q), (3, iv r)] [iv 1]
      refine r_if_eq 103 X dX7_join_98 (by decide) ⟨by omega, by omega⟩ (fun c98 => ?_) (fun c98 => ?_)
      · exfalso
        omega
      · refine r_iconst X dX7_join_101 ?_
        refine r_iret X Y dX7_join_102 (by decide) (by decide) ?_
        exact MO_w (by unfold cdJo; (try simp only [isNone_f, isNone_t, true_or, or_true, false_or, or_false]); (repeat' split) <;> first | rfl | omega | contradiction | (exfalso; simp_all; done) | (exfalso; simp_all; omega)) (by first | decide | omega) hm95 kp95
    · exfalso
      omega
  · refine r_iload_n 2 X dX7_join_7 rfl ?_
    refine r_callS_v X dX7_join_8 kX7_41 (c_X7_isPlace (CX_l X) D z0 _ q ⟨by omega, by omega⟩) [] rfl rfl (Nat.le_of_ble_eq_true rfl) (by decide) rfl rfl (by decide) ?_
    refine r_ifb_eq 21 X dX7_join_11 (by decide) (fun c11 => ?_) (fun c11 => ?_)
    · refine r_iconst X dX7_join_21 ?_
      refine r_goto 46 X dX7_join_22 (by decide) ?_
      refine r_istore (L' := [(4, iv 1), (0, .ref y), (1, iv p), (2, iv q), (3, iv r)]) X dX7_join_46 (by decide) rfl ?_
      refine r_iload 0 X dX7_join_48 rfl ?_
      refine r_if_ne 92 X dX7_join_50 (by decide) ⟨by omega, by omega⟩ (fun c50 => ?_) (fun c50 => ?_)
      · refine r_aload_n 1 X dX7_join_92 rfl ?_
        refine r_iload 0 X dX7_join_93 rfl ?_
        refine r_callV X dX7_join_95 kX7_57 hm.1 (c_X7_isWrong (CX_l X) D z0 _ hm 1 ⟨by omega, by omega⟩) [] rfl rfl (Nat.le_of_ble_eq_true rfl) (by decide) (by decide) (fun _ _ z => z.elim) (fun v9 hq95 hv9 => ?_)
        obtain ⟨rfl, hm95, kp95⟩ := hv9
        show WW K D z0 5 hq95 0 0 98 [(4, iv 1), (0, .ref y), (1, iv p), (2, iv q), (3, iv r)] [iv 1]
        refine r_if_eq 103 X dX7_join_98 (by decide) ⟨by omega, by omega⟩ (fun c98 => ?_) (fun c98 => ?_)
        · exfalso
          omega
        · refine r_iconst X dX7_join_101 ?_
          refine r_iret X Y dX7_join_102 (by decide) (by decide) ?_
          exact MO_w (by unfold cdJo; (try simp only [isNone_f, isNone_t, true_or, or_true, false_or, or_false]); (repeat' split) <;> first | rfl | omega | contradiction | (exfalso; simp_all; done) | (exfalso; simp_all; omega)) (by first | decide | omega) hm95 kp95
      · exfalso
        omega
    · refine r_iload_n 3 X dX7_join_14 rfl ?_
      refine r_callS_v X dX7_join_15 kX7_41 (c_X7_isPlace (CX_l X) D z0 _ r ⟨by omega, by omega⟩) [] rfl rfl (Nat.le_of_ble_eq_true rfl) (by decide) rfl rfl (by decide) ?_
      refine r_ifb_ne 25 X dX7_join_18 (by decide) (fun c18 => ?_) (fun c18 => ?_)
      · refine r_aload_n 0 X dX7_join_25 rfl ?_
        refine r_iload_n 1 X dX7_join_26 rfl ?_
        refine r_callV_v X dX7_join_27 kX7_45 hm.1 (c_X7_isThere (CX_l X) D z0 _ hm ht p (by omega)) [] rfl rfl (Nat.le_of_ble_eq_true rfl) (by decide) rfl rfl (by decide) ?_
        refine r_ifb_eq 41 X dX7_join_30 (by decide) (fun c30 => ?_) (fun c30 => ?_)
        · refine r_iconst X dX7_join_41 ?_
          refine r_goto 46 X dX7_join_42 (by decide) ?_
          refine r_istore (L' := [(4, iv 2), (0, .ref y), (1, iv p), (2, iv q), (3, iv r)]) X dX7_join_46 (by decide) rfl ?_
          refine r_iload 0 X dX7_join_48 rfl ?_
          refine r_if_ne 92 X dX7_join_50 (by decide) ⟨by omega, by omega⟩ (fun c50 => ?_) (fun c50 => ?_)
          · refine r_aload_n 1 X dX7_join_92 rfl ?_
            refine r_iload 0 X dX7_join_93 rfl ?_
            refine r_callV X dX7_join_95 kX7_57 hm.1 (c_X7_isWrong (CX_l X) D z0 _ hm 2 ⟨by omega, by omega⟩) [] rfl rfl (Nat.le_of_ble_eq_true rfl) (by decide) (by decide) (fun _ _ z => z.elim) (fun v9 hq95 hv9 => ?_)
            obtain ⟨rfl, hm95, kp95⟩ := hv9
            show WW K D z0 5 hq95 0 0 98 [(4, iv 2), (0, .ref y), (1, iv p), (2, iv q), (3, iv r)] [iv 1]
            refine r_if_eq 103 X dX7_join_98 (by decide) ⟨by omega, by omega⟩ (fun c98 => ?_) (fun c98 => ?_)
            · exfalso
              omega
            · refine r_iconst X dX7_join_101 ?_
              refine r_iret X Y dX7_join_102 (by decide) (by decide) ?_
              exact MO_w (by unfold cdJo; (try simp only [isNone_f, isNone_t, true_or, or_true, false_or, or_false]); (repeat' split) <;> first | rfl | omega | contradiction | (exfalso; simp_all; done) | (exfalso; simp_all; omega)) (by first | decide | omega) hm95 kp95
          · exfalso
            omega
        · refine r_aload_n 0 X dX7_join_33 rfl ?_
          refine r_iload_n 2 X dX7_join_34 rfl ?_
          refine r_callV_v X dX7_join_35 kX7_45 hm.1 (c_X7_isThere (CX_l X) D z0 _ hm ht q (by omega)) [] rfl rfl (Nat.le_of_ble_eq_true rfl) (by decide) rfl rfl (by decide) ?_
          refine r_ifb_ne 45 X dX7_join_38 (by decide) (fun c38 => ?_) (fun c38 => ?_)
          · refine r_iconst X dX7_join_45 ?_
            refine r_istore (L' := [(4, iv 0), (0, .ref y), (1, iv p), (2, iv q), (3, iv r)]) X dX7_join_46 (by decide) rfl ?_
            refine r_iload 0 X dX7_join_48 rfl ?_
            refine r_if_ne 92 X dX7_join_50 (by decide) ⟨by omega, by omega⟩ (fun c50 => ?_) (fun c50 => ?_)
            · exfalso
              omega
            · obtain ⟨a, b, c, hs⟩ := some_of (σ := σ) (i := p.toNat) (by assumption)
              have hv := ht p.toNat (by omega) a b c hs
              have hb := TV_b hv
              obtain ⟨d, e, f, hs2⟩ := some_of (σ := σ) (i := q.toNat) (by assumption)
              have hv2 := ht q.toNat (by omega) d e f hs2
              have hb2 := TV_b hv2
              have hlr : 0 ≤ lg a b d e ∧ lg a b d e ≤ 65535 := by unfold lg; (repeat' split) <;> omega
              refine r_aload_n 1 X dX7_join_53 rfl ?_
              refine r_iload_n 2 X dX7_join_54 rfl ?_
              refine r_callV_v X dX7_join_55 kX7_85 hm.1 (c_X7_kindOf (CX_l X) D z0 _ hm ht p (by omega) a b c hs ) [] rfl rfl (Nat.le_of_ble_eq_true rfl) (by decide) rfl rfl (by decide) ?_
              refine r_if_ne 89 X dX7_join_58 (by decide) ⟨by unfold cmpv; split <;> (try split) <;> omega, by unfold cmpv; split <;> (try split) <;> omega⟩ (fun c58 => ?_) (fun c58 => ?_)
              · refine r_iconst X dX7_join_89 ?_
                refine r_istore (L' := [(4, iv 3), (0, .ref y), (1, iv p), (2, iv q), (3, iv r)]) X dX7_join_90 (by decide) rfl ?_
                refine r_aload_n 1 X dX7_join_92 rfl ?_
                refine r_iload 0 X dX7_join_93 rfl ?_
                refine r_callV X dX7_join_95 kX7_57 hm.1 (c_X7_isWrong (CX_l X) D z0 _ hm 3 ⟨by omega, by omega⟩) [] rfl rfl (Nat.le_of_ble_eq_true rfl) (by decide) (by decide) (fun _ _ z => z.elim) (fun v9 hq95 hv9 => ?_)
                obtain ⟨rfl, hm95, kp95⟩ := hv9
                show WW K D z0 5 hq95 0 0 98 [(4, iv 3), (0, .ref y), (1, iv p), (2, iv q), (3, iv r)] [iv 1]
                refine r_if_eq 103 X dX7_join_98 (by decide) ⟨by omega, by omega⟩ (fun c98 => ?_) (fun c98 => ?_)
                · exfalso
                  omega
                · refine r_iconst X dX7_join_101 ?_
                  refine r_iret X Y dX7_join_102 (by decide) (by decide) ?_
                  exact MO_w (by rw [cdJo_k (by omega) (by omega) (by omega) hs hs2, if_neg (fun z => c58 (cmpv_z.mpr z.1))]) (by first | decide | omega) hm95 kp95
              · refine r_aload_n 1 X dX7_join_61 rfl ?_
                refine r_iload_n 3 X dX7_join_62 rfl ?_
                refine r_callV_v X dX7_join_63 kX7_85 hm.1 (c_X7_kindOf (CX_l X) D z0 _ hm ht q (by omega) d e f hs2 ) [] rfl rfl (Nat.le_of_ble_eq_true rfl) (by decide) rfl rfl (by decide) ?_
                refine r_if_ne 89 X dX7_join_66 (by decide) ⟨by unfold cmpv; split <;> (try split) <;> omega, by unfold cmpv; split <;> (try split) <;> omega⟩ (fun c66 => ?_) (fun c66 => ?_)
                · refine r_iconst X dX7_join_89 ?_
                  refine r_istore (L' := [(4, iv 3), (0, .ref y), (1, iv p), (2, iv q), (3, iv r)]) X dX7_join_90 (by decide) rfl ?_
                  refine r_aload_n 1 X dX7_join_92 rfl ?_
                  refine r_iload 0 X dX7_join_93 rfl ?_
                  refine r_callV X dX7_join_95 kX7_57 hm.1 (c_X7_isWrong (CX_l X) D z0 _ hm 3 ⟨by omega, by omega⟩) [] rfl rfl (Nat.le_of_ble_eq_true rfl) (by decide) (by decide) (fun _ _ z => z.elim) (fun v9 hq95 hv9 => ?_)
                  obtain ⟨rfl, hm95, kp95⟩ := hv9
                  show WW K D z0 5 hq95 0 0 98 [(4, iv 3), (0, .ref y), (1, iv p), (2, iv q), (3, iv r)] [iv 1]
                  refine r_if_eq 103 X dX7_join_98 (by decide) ⟨by omega, by omega⟩ (fun c98 => ?_) (fun c98 => ?_)
                  · exfalso
                    omega
                  · refine r_iconst X dX7_join_101 ?_
                    refine r_iret X Y dX7_join_102 (by decide) (by decide) ?_
                    exact MO_w (by rw [cdJo_k (by omega) (by omega) (by omega) hs hs2, if_neg (fun z => c66 (cmpv_z.mpr z.2.1))]) (by first | decide | omega) hm95 kp95
                · refine r_aload_n 1 X dX7_join_69 rfl ?_
                  refine r_iload_n 2 X dX7_join_70 rfl ?_
                  refine r_iload_n 3 X dX7_join_71 rfl ?_
                  refine r_callV_v X dX7_join_72 kX7_82 hm.1 (c_X7_leg (CX_l X) D z0 _ hm ht p q (by omega) (by omega) a b c d e f hs hs2) [] rfl rfl (Nat.le_of_ble_eq_true rfl) (by decide) rfl rfl (by decide) ?_
                  refine r_if_eq 89 X dX7_join_75 (by decide) ⟨by omega, by omega⟩ (fun c75 => ?_) (fun c75 => ?_)
                  · refine r_iconst X dX7_join_89 ?_
                    refine r_istore (L' := [(4, iv 3), (0, .ref y), (1, iv p), (2, iv q), (3, iv r)]) X dX7_join_90 (by decide) rfl ?_
                    refine r_aload_n 1 X dX7_join_92 rfl ?_
                    refine r_iload 0 X dX7_join_93 rfl ?_
                    refine r_callV X dX7_join_95 kX7_57 hm.1 (c_X7_isWrong (CX_l X) D z0 _ hm 3 ⟨by omega, by omega⟩) [] rfl rfl (Nat.le_of_ble_eq_true rfl) (by decide) (by decide) (fun _ _ z => z.elim) (fun v9 hq95 hv9 => ?_)
                    obtain ⟨rfl, hm95, kp95⟩ := hv9
                    show WW K D z0 5 hq95 0 0 98 [(4, iv 3), (0, .ref y), (1, iv p), (2, iv q), (3, iv r)] [iv 1]
                    refine r_if_eq 103 X dX7_join_98 (by decide) ⟨by omega, by omega⟩ (fun c98 => ?_) (fun c98 => ?_)
                    · exfalso
                      omega
                    · refine r_iconst X dX7_join_101 ?_
                      refine r_iret X Y dX7_join_102 (by decide) (by decide) ?_
                      exact MO_w (by rw [cdJo_k (by omega) (by omega) (by omega) hs hs2, if_neg (fun z => z.2.2.1 c75)]) (by first | decide | omega) hm95 kp95
                  · have hwb := wd_b hv hv2 c75
                    refine r_aload_n 1 X dX7_join_78 rfl ?_
                    refine r_iload_n 2 X dX7_join_79 rfl ?_
                    refine r_iload_n 3 X dX7_join_80 rfl ?_
                    refine r_callV_v X dX7_join_81 kX7_89 hm.1 (c_X7_wide (CX_l X) D z0 _ hm ht p q (by omega) (by omega) a b c d e f hs hs2) [] rfl rfl (Nat.le_of_ble_eq_true rfl) (by decide) rfl rfl (by decide) ?_
                    refine r_ldc 65535 X dX7_join_84 nX7_78 (by decide) ?_
                    refine r_icmp_le 92 X dX7_join_86 (by decide) ⟨by omega, by omega⟩ ⟨by omega, by omega⟩ (fun c86 => ?_) (fun c86 => ?_)
                    · refine r_aload_n 1 X dX7_join_92 rfl ?_
                      refine r_iload 0 X dX7_join_93 rfl ?_
                      refine r_callV X dX7_join_95 kX7_57 hm.1 (c_X7_isWrong (CX_l X) D z0 _ hm 0 ⟨by omega, by omega⟩) [] rfl rfl (Nat.le_of_ble_eq_true rfl) (by decide) (by decide) (fun _ _ z => z.elim) (fun v9 hq95 hv9 => ?_)
                      obtain ⟨rfl, hm95, kp95⟩ := hv9
                      show WW K D z0 5 hq95 0 0 98 [(4, iv 0), (0, .ref y), (1, iv p), (2, iv q), (3, iv r)] [iv 0]
                      refine r_if_eq 103 X dX7_join_98 (by decide) ⟨by omega, by omega⟩ (fun c98 => ?_) (fun c98 => ?_)
                      · have hsq1 : sqb3 a b c 2 = 0 := cmpv_z.mp (by omega)
                        have hsq2 : sqb3 d e f 2 = 0 := cmpv_z.mp (by omega)
                        have hv8 := jo_TV hv hv2 hsq1 hsq2 c75 ⟨⟨by omega, by omega⟩, ⟨by omega, by omega⟩, ⟨by omega, by omega⟩⟩
                        refine r_aload_n 1 X dX7_join_103 rfl ?_
                        refine r_iload_n 4 X dX7_join_104 rfl ?_
                        refine r_aload_n 1 X dX7_join_105 rfl ?_
                        refine r_getf X dX7_join_106 fX7_16 hm95.1 rfl ?_
                        refine r_iload_n 2 X dX7_join_109 rfl ?_
                        refine r_ialoadE X dX7_join_110 hm95.2.2.2.1 ⟨by omega, by omega⟩ (by decide) (fC_s hs) ?_
                        refine r_aload_n 1 X dX7_join_111 rfl ?_
                        refine r_getf X dX7_join_112 fX7_16 hm95.1 rfl ?_
                        refine r_iload_n 3 X dX7_join_115 rfl ?_
                        refine r_ialoadE X dX7_join_116 hm95.2.2.2.1 ⟨by omega, by omega⟩ (by decide) (fC_s hs2) ?_
                        refine r_aload_n 1 X dX7_join_117 rfl ?_
                        refine r_iload_n 2 X dX7_join_118 rfl ?_
                        refine r_iload_n 3 X dX7_join_119 rfl ?_
                        refine r_callV_v X dX7_join_120 kX7_89 hm95.1 (c_X7_wide (CX_l X) D z0 _ hm95 ht p q (by omega) (by omega) a b c d e f hs hs2) [iv f, iv c, iv r, .ref y] rfl rfl (Nat.le_of_ble_eq_true rfl) (by decide) rfl rfl (by decide) ?_
                        refine r_callV X dX7_join_123 kX7_60 hm95.1 (c_X7_hold (CX_l X) D z0 _ hm95 ht r c f (wd a b d e) (by omega) ⟨by omega, by omega⟩ ⟨by omega, by omega⟩ ⟨by omega, by omega⟩) [] rfl rfl (Nat.le_of_ble_eq_true rfl) (by decide) (by decide) (fun _ _ z => z.elim) (fun v9 hq123 hv9 => ?_)
                        obtain ⟨rfl, hm123, kp123⟩ := hv9
                        have ht123 : TVs (up σ r.toNat (st3 c f (wd a b d e))) := TVs_up (x := mn3 c f (wd a b d e)) (y := md3 c f (wd a b d e)) (z := mx3 c f (wd a b d e)) ht r.toNat hv8
                        show WW K D z0 5 hq123 0 0 126 [(4, iv 0), (0, .ref y), (1, iv p), (2, iv q), (3, iv r)] []
                        refine r_aload_n 1 X dX7_join_126 rfl ?_
                        refine r_getf X dX7_join_127 fX7_16 hm123.1 rfl ?_
                        refine r_iload_n 4 X dX7_join_130 rfl ?_
                        refine r_ialoadE X dX7_join_131 hm123.2.2.2.1 ⟨by omega, by omega⟩ (by decide) (fC_s (up_s _ _ _)) ?_
                        refine r_iret X Y dX7_join_132 (by decide) (by decide) ?_
                        have e3 : (onT σ p (fun a b c => onT σ q (fun d e f => st3 c f (wd a b d e)))) = st3 c f (wd a b d e) := by rw [onT_s hs, onT_s hs2]
                        rw [← e3] at hm123
                        exact MO_k (by rw [cdJo_k (by omega) (by omega) (by omega) hs hs2, if_pos ⟨hsq1, hsq2, c75, by omega⟩]) rfl (by rw [on_s hs, on_s hs2]) hm123 (Keep_tr kp95 kp123)
                      · exfalso
                        omega
                    · refine r_iconst X dX7_join_89 ?_
                      refine r_istore (L' := [(4, iv 3), (0, .ref y), (1, iv p), (2, iv q), (3, iv r)]) X dX7_join_90 (by decide) rfl ?_
                      refine r_aload_n 1 X dX7_join_92 rfl ?_
                      refine r_iload 0 X dX7_join_93 rfl ?_
                      refine r_callV X dX7_join_95 kX7_57 hm.1 (c_X7_isWrong (CX_l X) D z0 _ hm 3 ⟨by omega, by omega⟩) [] rfl rfl (Nat.le_of_ble_eq_true rfl) (by decide) (by decide) (fun _ _ z => z.elim) (fun v9 hq95 hv9 => ?_)
                      obtain ⟨rfl, hm95, kp95⟩ := hv9
                      show WW K D z0 5 hq95 0 0 98 [(4, iv 3), (0, .ref y), (1, iv p), (2, iv q), (3, iv r)] [iv 1]
                      refine r_if_eq 103 X dX7_join_98 (by decide) ⟨by omega, by omega⟩ (fun c98 => ?_) (fun c98 => ?_)
                      · exfalso
                        omega
                      · refine r_iconst X dX7_join_101 ?_
                        refine r_iret X Y dX7_join_102 (by decide) (by decide) ?_
                        exact MO_w (by rw [cdJo_k (by omega) (by omega) (by omega) hs hs2, if_neg (fun z => by have := z.2.2.2; omega)]) (by first | decide | omega) hm95 kp95
          · refine r_iconst X dX7_join_41 ?_
            refine r_goto 46 X dX7_join_42 (by decide) ?_
            refine r_istore (L' := [(4, iv 2), (0, .ref y), (1, iv p), (2, iv q), (3, iv r)]) X dX7_join_46 (by decide) rfl ?_
            refine r_iload 0 X dX7_join_48 rfl ?_
            refine r_if_ne 92 X dX7_join_50 (by decide) ⟨by omega, by omega⟩ (fun c50 => ?_) (fun c50 => ?_)
            · refine r_aload_n 1 X dX7_join_92 rfl ?_
              refine r_iload 0 X dX7_join_93 rfl ?_
              refine r_callV X dX7_join_95 kX7_57 hm.1 (c_X7_isWrong (CX_l X) D z0 _ hm 2 ⟨by omega, by omega⟩) [] rfl rfl (Nat.le_of_ble_eq_true rfl) (by decide) (by decide) (fun _ _ z => z.elim) (fun v9 hq95 hv9 => ?_)
              obtain ⟨rfl, hm95, kp95⟩ := hv9
              show WW K D z0 5 hq95 0 0 98 [(4, iv 2), (0, .ref y), (1, iv p), (2, iv q), (3, iv r)] [iv 1]
              refine r_if_eq 103 X dX7_join_98 (by decide) ⟨by omega, by omega⟩ (fun c98 => ?_) (fun c98 => ?_)
              · exfalso
                omega
              · refine r_iconst X dX7_join_101 ?_
                refine r_iret X Y dX7_join_102 (by decide) (by decide) ?_
                exact MO_w (by unfold cdJo; (try simp only [isNone_f, isNone_t, true_or, or_true, false_or, or_false]); (repeat' split) <;> first | rfl | omega | contradiction | (exfalso; simp_all; done) | (exfalso; simp_all; omega)) (by first | decide | omega) hm95 kp95
            · exfalso
              omega
      · refine r_iconst X dX7_join_21 ?_
        refine r_goto 46 X dX7_join_22 (by decide) ?_
        refine r_istore (L' := [(4, iv 1), (0, .ref y), (1, iv p), (2, iv q), (3, iv r)]) X dX7_join_46 (by decide) rfl ?_
        refine r_iload 0 X dX7_join_48 rfl ?_
        refine r_if_ne 92 X dX7_join_50 (by decide) ⟨by omega, by omega⟩ (fun c50 => ?_) (fun c50 => ?_)
        · refine r_aload_n 1 X dX7_join_92 rfl ?_
          refine r_iload 0 X dX7_join_93 rfl ?_
          refine r_callV X dX7_join_95 kX7_57 hm.1 (c_X7_isWrong (CX_l X) D z0 _ hm 1 ⟨by omega, by omega⟩) [] rfl rfl (Nat.le_of_ble_eq_true rfl) (by decide) (by decide) (fun _ _ z => z.elim) (fun v9 hq95 hv9 => ?_)
          obtain ⟨rfl, hm95, kp95⟩ := hv9
          show WW K D z0 5 hq95 0 0 98 [(4, iv 1), (0, .ref y), (1, iv p), (2, iv q), (3, iv r)] [iv 1]
          refine r_if_eq 103 X dX7_join_98 (by decide) ⟨by omega, by omega⟩ (fun c98 => ?_) (fun c98 => ?_)
          · exfalso
            omega
          · refine r_iconst X dX7_join_101 ?_
            refine r_iret X Y dX7_join_102 (by decide) (by decide) ?_
            exact MO_w (by unfold cdJo; (try simp only [isNone_f, isNone_t, true_or, or_true, false_or, or_false]); (repeat' split) <;> first | rfl | omega | contradiction | (exfalso; simp_all; done) | (exfalso; simp_all; omega)) (by first | decide | omega) hm95 kp95
        · exfalso
          omega
abbrev rX7_makeS : Room := { frames := 1, cells := 0, slots := 0, locals := 21 }
theorem c_X7_makeS {l : Launch} (hl : l.stackTraces = false) (D : va_G) (z0 : Nat) (h : Hp) {y : Nat} {v : Nat → Nat} {σ : Tg} {e1 e2 e3 od : Nat → Int} {lc oc tc hi lo rf sq : Int} (hm : Mz D h y v (fA σ) (fB σ) (fC σ) e1 e2 e3 od lc oc tc hi lo rf sq) (ht : TVs σ) (p : Int) (hp : pl p) (a b c : Int) (hs : σ p.toNat = some (a, b, c)) : CC l yX7_makeS cX7_makeS 14 none rX7_makeS D z0 h [.ref y, iv p] (fun w h' => w = none ∧ Mz D h' y v (fA σ) (fB σ) (fC σ) e1 e2 e3 od lc oc tc (Sx a b c / 4294967296) (Sx a b c % 4294967296) rf sq ∧ Keep (WM y v) h h') NX := by
  refine CC_of RX7 hl (by decide) rfl (Nat.le_of_ble_eq_true rfl) (fun K X Y Z hmn hKl => ?_)
  subst hKl
  have hv := ht p.toNat (by omega) a b c hs
  have hb := TV_b hv
  have m1 := mlb (a := outr a b c / 131072) (x := 98303) (b := innr a b c) (y := 8589606915) (by omega) (by omega) (by omega) (by omega)
  have m2 := mlb (a := outr a b c % 131072) (x := 131071) (b := innr a b c) (y := 8589606915) (by omega) (by omega) (by omega) (by omega)
  have hS0 : Sx a b c = outr a b c / 131072 * innr a b c * 131072 + outr a b c % 131072 * innr a b c := by
    unfold Sx
    rw [Int.mul_right_comm, ← Int.add_mul]
    congr 1
    omega
  have m3 := mlb (a := a + b + c) (x := 196605) (b := a + b + c) (y := 196605) (by omega) (by omega) (by omega) (by omega)
  show WW K D z0 14 h 0 0 0 [(0, .ref y), (1, iv p)] []
  refine r_aload_n 0 X dX7_makeS_0 rfl ?_
  refine r_iload_n 1 X dX7_makeS_1 rfl ?_
  refine r_callV_v X dX7_makeS_2 kX7_96 hm.1 (c_X7_aroundH (CX_l X) D z0 _ hm ht p (by omega) a b c hs) [] rfl rfl (Nat.le_of_ble_eq_true rfl) (by decide) rfl rfl (by decide) ?_
  refine r_i2l X dX7_makeS_5 ⟨by omega, by omega⟩ ?_
  refine r_lstore_n (L' := [(2, jv (a + b + c)), (0, .ref y), (1, iv p)]) X dX7_makeS_6 (by decide) rfl ?_
  refine r_lload_n 0 X dX7_makeS_7 rfl ?_
  refine r_lload_n 0 X dX7_makeS_8 rfl ?_
  refine r_ldc2 2 X dX7_makeS_9 nX7_71 (by decide) ?_
  refine r_aload_n 1 X dX7_makeS_12 rfl ?_
  refine r_getf X dX7_makeS_13 fX7_16 hm.1 rfl ?_
  refine r_iload_n 2 X dX7_makeS_16 rfl ?_
  refine r_ialoadE X dX7_makeS_17 hm.2.2.2.1 ⟨by omega, by omega⟩ (by decide) (fC_s hs) ?_
  refine r_i2l X dX7_makeS_18 ⟨by omega, by omega⟩ ?_
  refine r_lmul X dX7_makeS_19 ?_
  refine r_lsub X dX7_makeS_20 ?_
  refine r_lmul X dX7_makeS_21 ?_
  refine WW_e (congrArg (fun z => jv z :: []) (show (a + b + c) * ((a + b + c) - (2 * c)) = outr a b c from (by unfold outr; rw [show a + b + c - 2 * c = a + b - c by omega]))) ?_
  show WW K D z0 14 h 0 0 22 [(2, jv (a + b + c)), (0, .ref y), (1, iv p)] [jv (outr a b c)]
  refine r_lstore (L' := [(4, jv (outr a b c)), (2, jv (a + b + c)), (0, .ref y), (1, iv p)]) X dX7_makeS_22 (by decide) rfl ?_
  refine r_lload_n 1 X dX7_makeS_24 rfl ?_
  refine r_ldc2 2 X dX7_makeS_25 nX7_71 (by decide) ?_
  refine r_aload_n 2 X dX7_makeS_28 rfl ?_
  refine r_getf X dX7_makeS_29 fX7_7 hm.1 rfl ?_
  refine r_iload_n 3 X dX7_makeS_32 rfl ?_
  refine r_ialoadE X dX7_makeS_33 hm.2.1 ⟨by omega, by omega⟩ (by decide) (fA_s hs) ?_
  refine r_i2l X dX7_makeS_34 ⟨by omega, by omega⟩ ?_
  refine r_lmul X dX7_makeS_35 ?_
  refine r_lsub X dX7_makeS_36 ?_
  refine r_lload_n 1 X dX7_makeS_37 rfl ?_
  refine r_ldc2 2 X dX7_makeS_38 nX7_71 (by decide) ?_
  refine r_aload_n 2 X dX7_makeS_41 rfl ?_
  refine r_getf X dX7_makeS_42 fX7_13 hm.1 rfl ?_
  refine r_iload_n 3 X dX7_makeS_45 rfl ?_
  refine r_ialoadE X dX7_makeS_46 hm.2.2.1 ⟨by omega, by omega⟩ (by decide) (fB_s hs) ?_
  refine r_i2l X dX7_makeS_47 ⟨by omega, by omega⟩ ?_
  refine r_lmul X dX7_makeS_48 ?_
  refine r_lsub X dX7_makeS_49 ?_
  refine r_lmul X dX7_makeS_50 ?_
  refine WW_e (congrArg (fun z => jv z :: []) (show ((a + b + c) - (2 * a)) * ((a + b + c) - (2 * b)) = innr a b c from (by unfold innr; rw [show a + b + c - 2 * a = b + c - a by omega, show a + b + c - 2 * b = a + c - b by omega]))) ?_
  show WW K D z0 14 h 0 0 51 [(4, jv (outr a b c)), (2, jv (a + b + c)), (0, .ref y), (1, iv p)] [jv (innr a b c)]
  refine r_lstore (L' := [(6, jv (innr a b c)), (4, jv (outr a b c)), (2, jv (a + b + c)), (0, .ref y), (1, iv p)]) X dX7_makeS_51 (by decide) rfl ?_
  refine r_lload 1 X dX7_makeS_53 rfl ?_
  refine r_bipush X dX7_makeS_55 (by decide) ?_
  refine r_lshr X dX7_makeS_57 17 131072 (by decide) (by decide) (by decide) ⟨by omega, by omega⟩ ?_
  refine r_lload 0 X dX7_makeS_58 rfl ?_
  refine r_lmul X dX7_makeS_60 ?_
  refine r_lstore (L' := [(8, jv (((outr a b c) / 131072) * (innr a b c))), (6, jv (innr a b c)), (4, jv (outr a b c)), (2, jv (a + b + c)), (0, .ref y), (1, iv p)]) X dX7_makeS_61 (by decide) rfl ?_
  refine r_lload 2 X dX7_makeS_63 rfl ?_
  refine r_ldc2 131071 X dX7_makeS_65 nX7_99 (by decide) ?_
  refine r_land X dX7_makeS_68 17 131072 (by decide) (by decide) (by decide) ?_
  refine r_lload 1 X dX7_makeS_69 rfl ?_
  refine r_lmul X dX7_makeS_71 ?_
  refine r_lstore (L' := [(10, jv (((outr a b c) % 131072) * (innr a b c))), (8, jv (((outr a b c) / 131072) * (innr a b c))), (6, jv (innr a b c)), (4, jv (outr a b c)), (2, jv (a + b + c)), (0, .ref y), (1, iv p)]) X dX7_makeS_72 (by decide) rfl ?_
  refine r_lload 1 X dX7_makeS_74 rfl ?_
  refine r_ldc2 32767 X dX7_makeS_76 nX7_101 (by decide) ?_
  refine r_land X dX7_makeS_79 15 32768 (by decide) (by decide) (by decide) ?_
  refine r_bipush X dX7_makeS_80 (by decide) ?_
  refine r_lshl X dX7_makeS_82 17 131072 (by decide) (by decide) (by decide) ?_
  refine r_lload 0 X dX7_makeS_83 rfl ?_
  refine r_ldc2 4294967295 X dX7_makeS_85 nX7_103 (by decide) ?_
  refine r_land X dX7_makeS_88 32 4294967296 (by decide) (by decide) (by decide) ?_
  refine r_ladd X dX7_makeS_89 ?_
  refine r_lstore (L' := [(12, jv ((((((outr a b c) / 131072) * (innr a b c)) % 32768) * 131072) + ((((outr a b c) % 131072) * (innr a b c)) % 4294967296))), (10, jv (((outr a b c) % 131072) * (innr a b c))), (8, jv (((outr a b c) / 131072) * (innr a b c))), (6, jv (innr a b c)), (4, jv (outr a b c)), (2, jv (a + b + c)), (0, .ref y), (1, iv p)]) X dX7_makeS_90 (by decide) rfl ?_
  refine r_aload_n 6 X dX7_makeS_92 rfl ?_
  refine r_lload 0 X dX7_makeS_93 rfl ?_
  refine r_ldc2 4294967295 X dX7_makeS_95 nX7_103 (by decide) ?_
  refine r_land X dX7_makeS_98 32 4294967296 (by decide) (by decide) (by decide) ?_
  refine r_mput X dX7_makeS_99 fX7_105 hm lc oc tc hi (((((((outr a b c) / 131072) * (innr a b c)) % 32768) * 131072) + ((((outr a b c) % 131072) * (innr a b c)) % 4294967296)) % 4294967296) rf sq rfl (by decide) rfl rfl rfl (fun hp99 hm99 kp99 => ?_)
  refine r_aload_n 6 X dX7_makeS_102 rfl ?_
  refine r_lload 2 X dX7_makeS_103 rfl ?_
  refine r_bipush X dX7_makeS_105 (by decide) ?_
  refine r_lshr X dX7_makeS_107 15 32768 (by decide) (by decide) (by decide) ⟨by omega, by omega⟩ ?_
  refine r_lload 1 X dX7_makeS_108 rfl ?_
  refine r_bipush X dX7_makeS_110 (by decide) ?_
  refine r_lshr X dX7_makeS_112 32 4294967296 (by decide) (by decide) (by decide) ⟨by omega, by omega⟩ ?_
  refine r_ladd X dX7_makeS_113 ?_
  refine r_lload 0 X dX7_makeS_114 rfl ?_
  refine r_bipush X dX7_makeS_116 (by decide) ?_
  refine r_lshr X dX7_makeS_118 32 4294967296 (by decide) (by decide) (by decide) ⟨by omega, by omega⟩ ?_
  refine r_ladd X dX7_makeS_119 ?_
  refine r_mput X dX7_makeS_120 fX7_109 hm99 lc oc tc ((((((outr a b c) / 131072) * (innr a b c)) / 32768) + ((((outr a b c) % 131072) * (innr a b c)) / 4294967296)) + (((((((outr a b c) / 131072) * (innr a b c)) % 32768) * 131072) + ((((outr a b c) % 131072) * (innr a b c)) % 4294967296)) / 4294967296)) (((((((outr a b c) / 131072) * (innr a b c)) % 32768) * 131072) + ((((outr a b c) % 131072) * (innr a b c)) % 4294967296)) % 4294967296) rf sq rfl (by decide) rfl rfl rfl (fun hp120 hm120 kp120 => ?_)
  refine r_vret X Y dX7_makeS_123 (by decide) (by decide) ?_
  refine ⟨rfl, ?_, (Keep_tr kp99 kp120)⟩
  have hz := hm120
  rw [show (((((outr a b c) / 131072) * (innr a b c)) / 32768) + ((((outr a b c) % 131072) * (innr a b c)) / 4294967296)) + (((((((outr a b c) / 131072) * (innr a b c)) % 32768) * 131072) + ((((outr a b c) % 131072) * (innr a b c)) % 4294967296)) / 4294967296) = Sx a b c / 4294967296 by omega, show ((((((outr a b c) / 131072) * (innr a b c)) % 32768) * 131072) + ((((outr a b c) % 131072) * (innr a b c)) % 4294967296)) % 4294967296 = Sx a b c % 4294967296 by omega] at hz
  exact hz
theorem dig_hi {N p : Nat} (hp : 16 ≤ p) : N / 4294967296 / 4 ^ (p - 16) = N / 4 ^ p := by
  rw [Nat.div_div_eq_div_mul, show (4294967296 : Nat) = 4 ^ 16 from by decide +kernel, ← Nat.pow_add, show 16 + (p - 16) = p by omega]
theorem dig_lo {N p : Nat} (hp : p < 16) : N % 4294967296 / 4 ^ p % 4 = N / 4 ^ p % 4 := by
  obtain ⟨j, hj⟩ : ∃ j, 16 = p + 1 + j := ⟨15 - p, by omega⟩
  rw [show (4294967296 : Nat) = 4 ^ p * (4 * 4 ^ j) from by rw [show (4294967296 : Nat) = 4 ^ 16 from by decide +kernel, hj, Nat.pow_add, Nat.pow_add, Nat.mul_assoc, Nat.pow_one], Nat.mod_mul_right_div_self, Nat.mod_mul_right_mod]
/-- the root of S, and whether it is a whole one -/
def rS (a b c : Int) : Int := ((isq (Sx a b c).toNat : Nat) : Int)
def sS (a b c : Int) : Int := if rS a b c * rS a b c = Sx a b c then 1 else 0
abbrev rX7_findRoot : Room := { frames := 2, cells := 0, slots := 0, locals := 54 }
theorem c_X7_findRoot {l : Launch} (hl : l.stackTraces = false) (D : va_G) (z0 : Nat) (h : Hp) {y : Nat} {v : Nat → Nat} {σ : Tg} {e1 e2 e3 od : Nat → Int} {lc oc tc hi lo rf sq : Int} (hm : Mz D h y v (fA σ) (fB σ) (fC σ) e1 e2 e3 od lc oc tc hi lo rf sq) (ht : TVs σ) (p0 : Int) (hp : pl p0) (a b c : Int) (hs : σ p0.toNat = some (a, b, c)) : CC l yX7_findRoot cX7_findRoot 9 none rX7_findRoot D z0 h [.ref y, iv p0] (fun w h' => w = none ∧ (∃ hi lo : Int, Mz D h' y v (fA σ) (fB σ) (fC σ) e1 e2 e3 od lc oc tc hi lo (rS a b c) (sS a b c)) ∧ Keep (WM y v) h h') NX := by
  refine CC_of RX7 hl (by decide) rfl (Nat.le_of_ble_eq_true rfl) (fun K X Y Z hmn hKl => ?_)
  subst hKl
  have hv := ht p0.toNat (by omega) a b c hs
  have hb := TV_b hv
  show WW K D z0 9 h 0 0 0 [(0, .ref y), (1, iv p0)] []
  obtain ⟨N, hN⟩ := Int.eq_ofNat_of_zero_le (show 0 ≤ Sx a b c by have := Sx_b hv; omega)
  have hSb := Sx_b hv
  have hNb : N < 295147905179352825856 := by omega
  have hrS : rS a b c = ((isq N : Nat) : Int) := by unfold rS; rw [hN]; rfl
  have hsp : ((isq N : Nat) : Int) * ((isq N : Nat) : Int) = (N : Int) ↔ rs N = 0 := by
    have h3 : rs N = (N : Int) - ((isq N : Nat) : Int) * ((isq N : Nat) : Int) := by
      have h4 := (isq_spec N).1
      have h5 : ((isq N * isq N : Nat) : Int) = ((isq N : Nat) : Int) * ((isq N : Nat) : Int) := rfl
      unfold rs
      omega
    omega
  have loop : ∀ p : Nat, p ≤ 34 → ∀ h1 : Hp, Mz D h1 y v (fA σ) (fB σ) (fC σ) e1 e2 e3 od lc oc tc ((N / 4294967296 : Nat) : Int) ((N % 4294967296 : Nat) : Int) ((isq (N / 4 ^ p) : Nat) : Int) sq → Keep (WM y v) h h1 → WW K D z0 9 h1 (0 + rX7_makeS.cells) (0 + rX7_makeS.slots) 16 [(4, iv (((p : Nat) : Int) - 1)), (2, jv (rs (N / 4 ^ p))), (0, .ref y), (1, iv p0)] [] := by
    intro p
    induction p with
    | zero =>
      intro hp1 h1 hm1 kp1
      have hrb := rs_b N
      have hNi : isq N < 17179869184 := isq_lt (by omega)
      refine WW_L (L' := [(4, iv (-1)), (2, jv (rs N)), (0, .ref y), (1, iv p0)]) (by rw [Nat.pow_zero, Nat.div_one]; rfl) ?_
      rw [Nat.pow_zero, Nat.div_one] at hm1
      refine r_iload 0 X dX7_findRoot_16 rfl ?_
      refine r_if_lt 119 X dX7_findRoot_18 (by decide) ⟨by omega, by omega⟩ (fun c18 => ?_) (fun c18 => ?_)
      · refine r_aload_n 2 X dX7_findRoot_119 rfl ?_
        refine r_lload_n 1 X dX7_findRoot_120 rfl ?_
        refine r_lconst 0 X dX7_findRoot_121 (by decide) ?_
        refine r_lcmp_ne 130 X dX7_findRoot_122 dX7_findRoot_123 (by decide) ⟨by omega, by omega⟩ ⟨by omega, by omega⟩ (fun c122 => ?_) (fun c122 => ?_)
        · refine r_iconst X dX7_findRoot_130 ?_
          refine r_mput X dX7_findRoot_131 fX7_123 hm1 lc oc tc ((N / 4294967296 : Nat) : Int) ((N % 4294967296 : Nat) : Int) ((isq (N) : Nat) : Int) 0 rfl (by decide) rfl rfl rfl (fun hp131 hm131 kp131 => ?_)
          refine r_vret X Y dX7_findRoot_134 (by decide) (by decide) ?_
          have hz := hm131
          rw [show ((0 : Int)) = sS a b c by unfold sS; rw [hrS, hN]; first | (rw [if_pos (by omega)]; done) | (rw [if_neg (by omega)]; done), ← hrS] at hz
          exact ⟨rfl, ⟨_, _, hz⟩, (Keep_tr kp1 kp131)⟩
        · refine r_iconst X dX7_findRoot_126 ?_
          refine r_goto 131 X dX7_findRoot_127 (by decide) ?_
          refine r_mput X dX7_findRoot_131 fX7_123 hm1 lc oc tc ((N / 4294967296 : Nat) : Int) ((N % 4294967296 : Nat) : Int) ((isq (N) : Nat) : Int) 1 rfl (by decide) rfl rfl rfl (fun hp131 hm131 kp131 => ?_)
          refine r_vret X Y dX7_findRoot_134 (by decide) (by decide) ?_
          have hz := hm131
          rw [show ((1 : Int)) = sS a b c by unfold sS; rw [hrS, hN]; first | (rw [if_pos (by omega)]; done) | (rw [if_neg (by omega)]; done), ← hrS] at hz
          exact ⟨rfl, ⟨_, _, hz⟩, (Keep_tr kp1 kp131)⟩
      · exfalso
        omega
    | succ p ih =>
      intro hp1 h1 hm1 kp1
      have hrb := rs_b (N / 4 ^ (p + 1))
      have hst := isq_step (N / 4 ^ (p + 1)) (N / 4 ^ p % 4) (by omega)
      rw [← div4 N p] at hst
      have hsm : isq (N / 4 ^ (p + 1)) < 17179869184 := isq_lt (by have := Nat.div_le_self N (4 ^ (p + 1)); omega)
      refine r_iload 0 X dX7_findRoot_16 rfl ?_
      refine r_if_lt 119 X dX7_findRoot_18 (by decide) ⟨by omega, by omega⟩ (fun c18 => ?_) (fun c18 => ?_)
      · exfalso
        omega
      · refine r_iload 0 X dX7_findRoot_21 rfl ?_
        refine r_bipush X dX7_findRoot_23 (by decide) ?_
        refine r_icmp_lt 43 X dX7_findRoot_25 (by decide) ⟨by omega, by omega⟩ ⟨by omega, by omega⟩ (fun c25 => ?_) (fun c25 => ?_)
        · refine r_aload_n 2 X dX7_findRoot_43 rfl ?_
          refine r_getf X dX7_findRoot_44 fX7_105 hm1.1 rfl ?_
          refine r_iconst X dX7_findRoot_47 ?_
          refine r_iload 0 X dX7_findRoot_48 rfl ?_
          refine r_imul X dX7_findRoot_50 ?_
          refine r_lshr X dX7_findRoot_51 (2 * p) ((4 ^ p : Nat) : Int) (by omega) (by rw [pow4]) (by omega) ⟨by omega, by omega⟩ ?_
          refine r_ldc2 3 X dX7_findRoot_52 nX7_119 (by decide) ?_
          refine r_land X dX7_findRoot_55 2 4 (by decide) (by decide) (by decide) ?_
          refine WW_e (congrArg (fun z => jv z :: []) (show (((N % 4294967296 : Nat) : Int) / ((4 ^ p : Nat) : Int)) % 4 = ((N / 4 ^ p % 4 : Nat) : Int) by have := dig_lo (N := N) (p := p) (by omega); exact congrArg Nat.cast this)) ?_
          show WW K D z0 9 h1 0 0 56 [(4, iv (((p + 1 : Nat) : Int) - 1)), (2, jv (rs (N / 4 ^ (p + 1)))), (0, .ref y), (1, iv p0)] [jv ((N / 4 ^ p % 4 : Nat) : Int)]
          refine r_lstore (L' := [(5, jv ((N / 4 ^ p % 4 : Nat) : Int)), (4, iv (((p + 1 : Nat) : Int) - 1)), (2, jv (rs (N / 4 ^ (p + 1)))), (0, .ref y), (1, iv p0)]) X dX7_findRoot_56 (by decide) rfl ?_
          refine r_lload_n 2 X dX7_findRoot_58 rfl ?_
          refine r_ldc2 4 X dX7_findRoot_59 nX7_121 (by decide) ?_
          refine r_lmul X dX7_findRoot_62 ?_
          refine r_lload 0 X dX7_findRoot_63 rfl ?_
          refine r_ladd X dX7_findRoot_65 ?_
          refine r_lstore_n (L' := [(2, jv (((rs (N / 4 ^ (p + 1))) * 4) + ((N / 4 ^ p % 4 : Nat) : Int))), (5, jv ((N / 4 ^ p % 4 : Nat) : Int)), (4, iv (((p + 1 : Nat) : Int) - 1)), (0, .ref y), (1, iv p0)]) X dX7_findRoot_66 (by decide) rfl ?_
          refine r_aload_n 3 X dX7_findRoot_67 rfl ?_
          refine r_getf X dX7_findRoot_68 fX7_116 hm1.1 rfl ?_
          refine r_ldc2 4 X dX7_findRoot_71 nX7_121 (by decide) ?_
          refine r_lmul X dX7_findRoot_74 ?_
          refine r_lconst 1 X dX7_findRoot_75 (by decide) ?_
          refine r_ladd X dX7_findRoot_76 ?_
          refine r_lstore (L' := [(7, jv ((((isq (N / 4 ^ (p + 1)) : Nat) : Int) * 4) + 1)), (2, jv (((rs (N / 4 ^ (p + 1))) * 4) + ((N / 4 ^ p % 4 : Nat) : Int))), (5, jv ((N / 4 ^ p % 4 : Nat) : Int)), (4, iv (((p + 1 : Nat) : Int) - 1)), (0, .ref y), (1, iv p0)]) X dX7_findRoot_77 (by decide) rfl ?_
          refine r_aload_n 4 X dX7_findRoot_79 rfl ?_
          refine r_aload_n 4 X dX7_findRoot_80 rfl ?_
          refine r_getf X dX7_findRoot_81 fX7_116 hm1.1 rfl ?_
          refine r_ldc2 2 X dX7_findRoot_84 nX7_71 (by decide) ?_
          refine r_lmul X dX7_findRoot_87 ?_
          refine r_mput X dX7_findRoot_88 fX7_116 hm1 lc oc tc ((N / 4294967296 : Nat) : Int) ((N % 4294967296 : Nat) : Int) (((isq (N / 4 ^ (p + 1)) : Nat) : Int) * 2) sq rfl (by decide) rfl rfl rfl (fun hp88 hm88 kp88 => ?_)
          refine r_lload_n 1 X dX7_findRoot_91 rfl ?_
          refine r_lload 0 X dX7_findRoot_92 rfl ?_
          refine r_lcmp_lt 113 X dX7_findRoot_94 dX7_findRoot_95 (by decide) ⟨by omega, by omega⟩ ⟨by omega, by omega⟩ (fun c94 => ?_) (fun c94 => ?_)
          · refine r_iinc 3 (L' := [(4, iv (((p + 1 : Nat) : Int) - 1 + (-1))), (7, jv ((((isq (N / 4 ^ (p + 1)) : Nat) : Int) * 4) + 1)), (2, jv (((rs (N / 4 ^ (p + 1))) * 4) + ((N / 4 ^ p % 4 : Nat) : Int))), (5, jv ((N / 4 ^ p % 4 : Nat) : Int)), (0, .ref y), (1, iv p0)]) X dX7_findRoot_113 rfl (by decide) rfl ?_
            refine r_goto 16 X dX7_findRoot_116 (by decide) ?_
            refine WW_sub (L' := [(4, iv (((p + 1 : Nat) : Int) - 1 + (-1))), (2, jv (((rs (N / 4 ^ (p + 1))) * 4) + ((N / 4 ^ p % 4 : Nat) : Int))), (0, .ref y), (1, iv p0)]) [0, 2, 4, 5] rfl ?_
            have e4 : ((rs (N / 4 ^ (p + 1))) * 4) + ((N / 4 ^ p % 4 : Nat) : Int) = rs (N / 4 ^ p) := by omega
            have e5 : ((isq (N / 4 ^ (p + 1)) : Nat) : Int) * 2 = ((isq (N / 4 ^ p) : Nat) : Int) := by omega
            rw [e4, show ((p + 1 : Nat) : Int) - 1 + (-1) = ((p : Nat) : Int) - 1 by omega]
            rw [e5] at hm88
            exact ih (by omega) _ hm88 (Keep_tr kp1 kp88)
          · refine r_lload_n 1 X dX7_findRoot_98 rfl ?_
            refine r_lload 0 X dX7_findRoot_99 rfl ?_
            refine r_lsub X dX7_findRoot_101 ?_
            refine r_lstore_n (L' := [(2, jv ((((rs (N / 4 ^ (p + 1))) * 4) + ((N / 4 ^ p % 4 : Nat) : Int)) - ((((isq (N / 4 ^ (p + 1)) : Nat) : Int) * 4) + 1))), (7, jv ((((isq (N / 4 ^ (p + 1)) : Nat) : Int) * 4) + 1)), (5, jv ((N / 4 ^ p % 4 : Nat) : Int)), (4, iv (((p + 1 : Nat) : Int) - 1)), (0, .ref y), (1, iv p0)]) X dX7_findRoot_102 (by decide) rfl ?_
            refine r_aload_n 4 X dX7_findRoot_103 rfl ?_
            refine r_dup X dX7_findRoot_104 rfl ?_
            refine r_getf X dX7_findRoot_105 fX7_116 hm88.1 rfl ?_
            refine r_lconst 1 X dX7_findRoot_108 (by decide) ?_
            refine r_ladd X dX7_findRoot_109 ?_
            refine r_mput X dX7_findRoot_110 fX7_116 hm88 lc oc tc ((N / 4294967296 : Nat) : Int) ((N % 4294967296 : Nat) : Int) ((((isq (N / 4 ^ (p + 1)) : Nat) : Int) * 2) + 1) sq rfl (by decide) rfl rfl rfl (fun hp110 hm110 kp110 => ?_)
            refine r_iinc 3 (L' := [(4, iv (((p + 1 : Nat) : Int) - 1 + (-1))), (2, jv ((((rs (N / 4 ^ (p + 1))) * 4) + ((N / 4 ^ p % 4 : Nat) : Int)) - ((((isq (N / 4 ^ (p + 1)) : Nat) : Int) * 4) + 1))), (7, jv ((((isq (N / 4 ^ (p + 1)) : Nat) : Int) * 4) + 1)), (5, jv ((N / 4 ^ p % 4 : Nat) : Int)), (0, .ref y), (1, iv p0)]) X dX7_findRoot_113 rfl (by decide) rfl ?_
            refine r_goto 16 X dX7_findRoot_116 (by decide) ?_
            refine WW_sub (L' := [(4, iv (((p + 1 : Nat) : Int) - 1 + (-1))), (2, jv ((((rs (N / 4 ^ (p + 1))) * 4) + ((N / 4 ^ p % 4 : Nat) : Int)) - ((((isq (N / 4 ^ (p + 1)) : Nat) : Int) * 4) + 1))), (0, .ref y), (1, iv p0)]) [0, 1, 4, 5] rfl ?_
            have e4 : (((rs (N / 4 ^ (p + 1))) * 4) + ((N / 4 ^ p % 4 : Nat) : Int)) - ((((isq (N / 4 ^ (p + 1)) : Nat) : Int) * 4) + 1) = rs (N / 4 ^ p) := by omega
            have e5 : (((isq (N / 4 ^ (p + 1)) : Nat) : Int) * 2) + 1 = ((isq (N / 4 ^ p) : Nat) : Int) := by omega
            rw [e4, show ((p + 1 : Nat) : Int) - 1 + (-1) = ((p : Nat) : Int) - 1 by omega]
            rw [e5] at hm110
            exact ih (by omega) _ hm110 (Keep_tr (Keep_tr kp1 kp88) kp110)
        · refine r_aload_n 2 X dX7_findRoot_28 rfl ?_
          refine r_getf X dX7_findRoot_29 fX7_109 hm1.1 rfl ?_
          refine r_iconst X dX7_findRoot_32 ?_
          refine r_iload 0 X dX7_findRoot_33 rfl ?_
          refine r_bipush X dX7_findRoot_35 (by decide) ?_
          refine r_isub X dX7_findRoot_37 ?_
          refine r_imul X dX7_findRoot_38 ?_
          refine r_lshr X dX7_findRoot_39 (2 * (p - 16)) ((4 ^ (p - 16) : Nat) : Int) (by omega) (by rw [pow4]) (by omega) ⟨by omega, by omega⟩ ?_
          refine r_goto 52 X dX7_findRoot_40 (by decide) ?_
          refine r_ldc2 3 X dX7_findRoot_52 nX7_119 (by decide) ?_
          refine r_land X dX7_findRoot_55 2 4 (by decide) (by decide) (by decide) ?_
          refine WW_e (congrArg (fun z => jv z :: []) (show (((N / 4294967296 : Nat) : Int) / ((4 ^ (p - 16) : Nat) : Int)) % 4 = ((N / 4 ^ p % 4 : Nat) : Int) by have := dig_hi (N := N) (p := p) (by omega); exact congrArg Nat.cast (congrArg (fun z => z % 4) this))) ?_
          show WW K D z0 9 h1 0 0 56 [(4, iv (((p + 1 : Nat) : Int) - 1)), (2, jv (rs (N / 4 ^ (p + 1)))), (0, .ref y), (1, iv p0)] [jv ((N / 4 ^ p % 4 : Nat) : Int)]
          refine r_lstore (L' := [(5, jv ((N / 4 ^ p % 4 : Nat) : Int)), (4, iv (((p + 1 : Nat) : Int) - 1)), (2, jv (rs (N / 4 ^ (p + 1)))), (0, .ref y), (1, iv p0)]) X dX7_findRoot_56 (by decide) rfl ?_
          refine r_lload_n 2 X dX7_findRoot_58 rfl ?_
          refine r_ldc2 4 X dX7_findRoot_59 nX7_121 (by decide) ?_
          refine r_lmul X dX7_findRoot_62 ?_
          refine r_lload 0 X dX7_findRoot_63 rfl ?_
          refine r_ladd X dX7_findRoot_65 ?_
          refine r_lstore_n (L' := [(2, jv (((rs (N / 4 ^ (p + 1))) * 4) + ((N / 4 ^ p % 4 : Nat) : Int))), (5, jv ((N / 4 ^ p % 4 : Nat) : Int)), (4, iv (((p + 1 : Nat) : Int) - 1)), (0, .ref y), (1, iv p0)]) X dX7_findRoot_66 (by decide) rfl ?_
          refine r_aload_n 3 X dX7_findRoot_67 rfl ?_
          refine r_getf X dX7_findRoot_68 fX7_116 hm1.1 rfl ?_
          refine r_ldc2 4 X dX7_findRoot_71 nX7_121 (by decide) ?_
          refine r_lmul X dX7_findRoot_74 ?_
          refine r_lconst 1 X dX7_findRoot_75 (by decide) ?_
          refine r_ladd X dX7_findRoot_76 ?_
          refine r_lstore (L' := [(7, jv ((((isq (N / 4 ^ (p + 1)) : Nat) : Int) * 4) + 1)), (2, jv (((rs (N / 4 ^ (p + 1))) * 4) + ((N / 4 ^ p % 4 : Nat) : Int))), (5, jv ((N / 4 ^ p % 4 : Nat) : Int)), (4, iv (((p + 1 : Nat) : Int) - 1)), (0, .ref y), (1, iv p0)]) X dX7_findRoot_77 (by decide) rfl ?_
          refine r_aload_n 4 X dX7_findRoot_79 rfl ?_
          refine r_aload_n 4 X dX7_findRoot_80 rfl ?_
          refine r_getf X dX7_findRoot_81 fX7_116 hm1.1 rfl ?_
          refine r_ldc2 2 X dX7_findRoot_84 nX7_71 (by decide) ?_
          refine r_lmul X dX7_findRoot_87 ?_
          refine r_mput X dX7_findRoot_88 fX7_116 hm1 lc oc tc ((N / 4294967296 : Nat) : Int) ((N % 4294967296 : Nat) : Int) (((isq (N / 4 ^ (p + 1)) : Nat) : Int) * 2) sq rfl (by decide) rfl rfl rfl (fun hp88 hm88 kp88 => ?_)
          refine r_lload_n 1 X dX7_findRoot_91 rfl ?_
          refine r_lload 0 X dX7_findRoot_92 rfl ?_
          refine r_lcmp_lt 113 X dX7_findRoot_94 dX7_findRoot_95 (by decide) ⟨by omega, by omega⟩ ⟨by omega, by omega⟩ (fun c94 => ?_) (fun c94 => ?_)
          · refine r_iinc 3 (L' := [(4, iv (((p + 1 : Nat) : Int) - 1 + (-1))), (7, jv ((((isq (N / 4 ^ (p + 1)) : Nat) : Int) * 4) + 1)), (2, jv (((rs (N / 4 ^ (p + 1))) * 4) + ((N / 4 ^ p % 4 : Nat) : Int))), (5, jv ((N / 4 ^ p % 4 : Nat) : Int)), (0, .ref y), (1, iv p0)]) X dX7_findRoot_113 rfl (by decide) rfl ?_
            refine r_goto 16 X dX7_findRoot_116 (by decide) ?_
            refine WW_sub (L' := [(4, iv (((p + 1 : Nat) : Int) - 1 + (-1))), (2, jv (((rs (N / 4 ^ (p + 1))) * 4) + ((N / 4 ^ p % 4 : Nat) : Int))), (0, .ref y), (1, iv p0)]) [0, 2, 4, 5] rfl ?_
            have e4 : ((rs (N / 4 ^ (p + 1))) * 4) + ((N / 4 ^ p % 4 : Nat) : Int) = rs (N / 4 ^ p) := by omega
            have e5 : ((isq (N / 4 ^ (p + 1)) : Nat) : Int) * 2 = ((isq (N / 4 ^ p) : Nat) : Int) := by omega
            rw [e4, show ((p + 1 : Nat) : Int) - 1 + (-1) = ((p : Nat) : Int) - 1 by omega]
            rw [e5] at hm88
            exact ih (by omega) _ hm88 (Keep_tr kp1 kp88)
          · refine r_lload_n 1 X dX7_findRoot_98 rfl ?_
            refine r_lload 0 X dX7_findRoot_99 rfl ?_
            refine r_lsub X dX7_findRoot_101 ?_
            refine r_lstore_n (L' := [(2, jv ((((rs (N / 4 ^ (p + 1))) * 4) + ((N / 4 ^ p % 4 : Nat) : Int)) - ((((isq (N / 4 ^ (p + 1)) : Nat) : Int) * 4) + 1))), (7, jv ((((isq (N / 4 ^ (p + 1)) : Nat) : Int) * 4) + 1)), (5, jv ((N / 4 ^ p % 4 : Nat) : Int)), (4, iv (((p + 1 : Nat) : Int) - 1)), (0, .ref y), (1, iv p0)]) X dX7_findRoot_102 (by decide) rfl ?_
            refine r_aload_n 4 X dX7_findRoot_103 rfl ?_
            refine r_dup X dX7_findRoot_104 rfl ?_
            refine r_getf X dX7_findRoot_105 fX7_116 hm88.1 rfl ?_
            refine r_lconst 1 X dX7_findRoot_108 (by decide) ?_
            refine r_ladd X dX7_findRoot_109 ?_
            refine r_mput X dX7_findRoot_110 fX7_116 hm88 lc oc tc ((N / 4294967296 : Nat) : Int) ((N % 4294967296 : Nat) : Int) ((((isq (N / 4 ^ (p + 1)) : Nat) : Int) * 2) + 1) sq rfl (by decide) rfl rfl rfl (fun hp110 hm110 kp110 => ?_)
            refine r_iinc 3 (L' := [(4, iv (((p + 1 : Nat) : Int) - 1 + (-1))), (2, jv ((((rs (N / 4 ^ (p + 1))) * 4) + ((N / 4 ^ p % 4 : Nat) : Int)) - ((((isq (N / 4 ^ (p + 1)) : Nat) : Int) * 4) + 1))), (7, jv ((((isq (N / 4 ^ (p + 1)) : Nat) : Int) * 4) + 1)), (5, jv ((N / 4 ^ p % 4 : Nat) : Int)), (0, .ref y), (1, iv p0)]) X dX7_findRoot_113 rfl (by decide) rfl ?_
            refine r_goto 16 X dX7_findRoot_116 (by decide) ?_
            refine WW_sub (L' := [(4, iv (((p + 1 : Nat) : Int) - 1 + (-1))), (2, jv ((((rs (N / 4 ^ (p + 1))) * 4) + ((N / 4 ^ p % 4 : Nat) : Int)) - ((((isq (N / 4 ^ (p + 1)) : Nat) : Int) * 4) + 1))), (0, .ref y), (1, iv p0)]) [0, 1, 4, 5] rfl ?_
            have e4 : (((rs (N / 4 ^ (p + 1))) * 4) + ((N / 4 ^ p % 4 : Nat) : Int)) - ((((isq (N / 4 ^ (p + 1)) : Nat) : Int) * 4) + 1) = rs (N / 4 ^ p) := by omega
            have e5 : (((isq (N / 4 ^ (p + 1)) : Nat) : Int) * 2) + 1 = ((isq (N / 4 ^ p) : Nat) : Int) := by omega
            rw [e4, show ((p + 1 : Nat) : Int) - 1 + (-1) = ((p : Nat) : Int) - 1 by omega]
            rw [e5] at hm110
            exact ih (by omega) _ hm110 (Keep_tr (Keep_tr kp1 kp88) kp110)
  refine r_aload_n 0 X dX7_findRoot_0 rfl ?_
  refine r_iload_n 1 X dX7_findRoot_1 rfl ?_
  refine r_callV X dX7_findRoot_2 kX7_112 hm.1 (c_X7_makeS (CX_l X) D z0 _ hm ht p0 (by omega) a b c hs ) [] rfl rfl (Nat.le_of_ble_eq_true rfl) (by decide) (by decide) (fun _ _ z => z.elim) (fun v9 hq2 hv9 => ?_)
  obtain ⟨rfl, hm2, kp2⟩ := hv9
  show WW K D z0 9 hq2 0 0 5 [(0, .ref y), (1, iv p0)] []
  refine r_lconst 0 X dX7_findRoot_5 (by decide) ?_
  refine r_lstore_n (L' := [(2, jv 0), (0, .ref y), (1, iv p0)]) X dX7_findRoot_6 (by decide) rfl ?_
  refine r_aload_n 1 X dX7_findRoot_7 rfl ?_
  refine r_lconst 0 X dX7_findRoot_8 (by decide) ?_
  refine r_mput X dX7_findRoot_9 fX7_116 hm2 lc oc tc (Sx a b c / 4294967296) (Sx a b c % 4294967296) 0 sq rfl (by decide) rfl rfl rfl (fun hp9 hm9 kp9 => ?_)
  refine r_bipush X dX7_findRoot_12 (by decide) ?_
  refine r_istore (L' := [(4, iv 33), (2, jv 0), (0, .ref y), (1, iv p0)]) X dX7_findRoot_14 (by decide) rfl ?_
  have e34 : N / 4 ^ 34 = 0 := Nat.div_eq_of_lt (by rw [show (4 ^ 34 : Nat) = 295147905179352825856 from by decide +kernel]; exact hNb)
  refine WW_L (L' := [(4, iv (((34 : Nat) : Int) - 1)), (2, jv (rs (N / 4 ^ 34))), (0, .ref y), (1, iv p0)]) (by rw [e34]; rfl) (loop 34 (Nat.le_refl _) _ ?_ (Keep_tr kp2 kp9))
  have hz := hm9
  rw [show (Sx a b c / 4294967296) = ((N / 4294967296 : Nat) : Int) by omega, show (Sx a b c % 4294967296) = ((N % 4294967296 : Nat) : Int) by omega] at hz
  rw [e34]
  exact hz
