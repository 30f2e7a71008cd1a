/-! the model: roots as doubles, right ones -/
theorem two_1 : (4611686018427387904 : UInt64) = dI (2 ^ 1) 0 := by decide +kernel
theorem onA_f (σ : Tg) (i : Nat) : onA (σ i) = fA σ i + fB σ i + fC σ i := by
  unfold onA fA fB fC
  cases σ i with
  | none => rfl
  | some t => obtain ⟨a, b, c⟩ := t; rfl
abbrev rX7_rootOf : Room := { frames := 0, cells := 0, slots := 0, locals := 0 }
theorem c_X7_rootOf {l : Launch} (hl : l.stackTraces = false) (D : va_G) (z0 : Nat) (h : Hp) (n : Nat) (hn : n < 17179869184) : CC l yX7_rootOf cX7_rootOf 10 (some .double) rX7_rootOf D z0 h [jv (n : Int)] (PV (.double (dR n)) h) NX := by
  refine CC_of RX7 hl (by decide) rfl (Nat.le_of_ble_eq_true rfl) (fun K X Y Z hmn hKl => ?_)
  subst hKl
  show WW K D z0 10 h 0 0 0 [(0, jv (n : Int))] []
  refine r_lload_n 0 X dX7_rootOf_0 rfl ?_
  refine r_lconst 0 X dX7_rootOf_1 (by decide) ?_
  refine r_lcmp_ne 8 X dX7_rootOf_2 dX7_rootOf_3 (by decide) ⟨by omega, by omega⟩ ⟨by omega, by omega⟩ (fun c2 => ?_) (fun c2 => ?_)
  · refine r_lconst 0 X dX7_rootOf_8 (by decide) ?_
    refine r_lstore_n (L' := [(2, jv 0), (0, jv (n : Int))]) X dX7_rootOf_9 (by decide) rfl ?_
    refine r_lconst 0 X dX7_rootOf_10 (by decide) ?_
    refine r_lstore (L' := [(4, jv 0), (2, jv 0), (0, jv (n : Int))]) X dX7_rootOf_11 (by decide) rfl ?_
    refine r_iconst X dX7_rootOf_13 ?_
    refine r_istore (L' := [(6, iv 0), (4, jv 0), (2, jv 0), (0, jv (n : Int))]) X dX7_rootOf_14 (by decide) rfl ?_
    refine r_bipush X dX7_rootOf_16 (by decide) ?_
    refine r_istore (L' := [(7, iv 16), (6, iv 0), (4, jv 0), (2, jv 0), (0, jv (n : Int))]) X dX7_rootOf_18 (by decide) rfl ?_
    have hn1 : 1 ≤ n := by omega
    have loopB : ∀ (m j : Nat), j + m = 63 → isq (n * 4 ^ j) < 18014398509481984 → dRf n m j = dR n → WW K D z0 10 h 0 0 20 [(7, iv (-1 - (j : Int))), (6, iv (j : Int)), (4, jv (rs (n * 4 ^ j))), (2, jv ((isq (n * 4 ^ j) : Nat) : Int)), (0, jv (n : Int))] [] := by
      intro m
      induction m with
      | zero =>
        intro j hj hb he
        have := j_le hn1 hb
        omega
      | succ m ih =>
        intro j hj hb he
        have hrb := rs_b (n * 4 ^ j)
        have hst := isq_step (n * 4 ^ j) 0 (by decide)
        rw [show 4 * (n * 4 ^ j) + 0 = n * 4 ^ (j + 1) from four_j n j] at hst
        refine r_iload 0 X dX7_rootOf_20 rfl ?_
        refine r_if_ge 34 X dX7_rootOf_22 (by decide) ⟨by omega, by omega⟩ (fun c22 => ?_) (fun c22 => ?_)
        · exfalso
          omega
        · refine r_lload_n 3 X dX7_rootOf_25 rfl ?_
          refine r_bipush X dX7_rootOf_26 (by decide) ?_
          refine r_lshr X dX7_rootOf_28 53 9007199254740992 (by decide) (by decide) (by decide) ⟨by omega, by omega⟩ ?_
          refine r_lconst 0 X dX7_rootOf_29 (by decide) ?_
          refine r_lcmp_ne 110 X dX7_rootOf_30 dX7_rootOf_31 (by decide) ⟨by omega, by omega⟩ ⟨by omega, by omega⟩ (fun c30 => ?_) (fun c30 => ?_)
          · have hq : 9007199254740992 ≤ isq (n * 4 ^ j) := by omega
            have hj53 := j_le hn1 hb
            have hj1 : 1 ≤ j := by
              apply Nat.pos_of_ne_zero
              intro z
              rw [z, Nat.pow_zero, Nat.mul_one] at hq
              have := isq_lt (a := 131072) (N := n) (by omega)
              omega
            have hX : ((isq (n * 4 ^ j) + 1) / 2) ≤ 9007199254740992 := by omega
            have hX1 : nOk ((isq (n * 4 ^ j) + 1) / 2) := ⟨by omega, hX⟩
            have hXf := nOk_f hX1
            have hRt := dRf_s n m j
            rw [if_pos hq] at hRt
            have loopD : ∀ (q i : Nat), i + q + 1 = j → WW K D z0 10 h 0 0 123 [(9, iv ((i + 1 : Nat) : Int)), (7, .double (dI ((isq (n * 4 ^ j) + 1) / 2) (-((i : Nat) : Int)))), (6, iv (j : Int))] [] := by
              intro q
              induction q with
              | zero =>
                intro i hi
                refine r_iload 0 X dX7_rootOf_123 rfl ?_
                refine r_iload 2 X dX7_rootOf_125 rfl ?_
                refine r_icmp_ge 144 X dX7_rootOf_127 (by decide) ⟨by omega, by omega⟩ ⟨by omega, by omega⟩ (fun c127 => ?_) (fun c127 => ?_)
                · refine r_dload 1 X dX7_rootOf_144 rfl ?_
                  refine r_dret X Y dX7_rootOf_146 (by decide) (by decide) ?_
                  exact pv (congrArg Value.double (by rw [← he, hRt, show i = j - 1 by omega]))
                · exfalso
                  omega
              | succ q ih =>
                intro i hi
                refine r_iload 0 X dX7_rootOf_123 rfl ?_
                refine r_iload 2 X dX7_rootOf_125 rfl ?_
                refine r_icmp_ge 144 X dX7_rootOf_127 (by decide) ⟨by omega, by omega⟩ ⟨by omega, by omega⟩ (fun c127 => ?_) (fun c127 => ?_)
                · exfalso
                  omega
                · refine r_dload 1 X dX7_rootOf_130 rfl ?_
                  refine r_ldc2d X dX7_rootOf_132 nX7_146 ?_
                  refine r_ddiv (dI ((isq (n * 4 ^ j) + 1) / 2) (-(((i + 1) : Nat) : Int))) X dX7_rootOf_135 (by rw [two_1, ddiv_of (Or.inr ⟨hX1, ⟨by omega, by omega⟩, ⟨by omega, by omega⟩⟩) (by decide)]; exact congrArg _ (by omega)) (dI_nn (Or.inr ⟨hX1, ⟨by omega, by omega⟩⟩)) ?_
                  refine r_dstore (L' := [(7, .double (dI ((isq (n * 4 ^ j) + 1) / 2) (-(((i + 1) : Nat) : Int)))), (9, iv ((i + 1 : Nat) : Int)), (6, iv (j : Int))]) X dX7_rootOf_136 (by decide) rfl ?_
                  refine r_iinc 1 (L' := [(9, iv (((i + 1 : Nat) : Int) + 1)), (7, .double (dI ((isq (n * 4 ^ j) + 1) / 2) (-(((i + 1) : Nat) : Int)))), (6, iv (j : Int))]) X dX7_rootOf_138 rfl (by decide) rfl ?_
                  refine r_goto 123 X dX7_rootOf_141 (by decide) ?_
                  exact ih (i + 1) (by omega)
            refine r_lload_n 3 X dX7_rootOf_110 rfl ?_
            refine r_iconst X dX7_rootOf_111 ?_
            refine r_lshr X dX7_rootOf_112 1 2 (by decide) (by decide) (by decide) ⟨by omega, by omega⟩ ?_
            refine r_lload_n 3 X dX7_rootOf_113 rfl ?_
            refine r_lconst 1 X dX7_rootOf_114 (by decide) ?_
            refine r_land X dX7_rootOf_115 1 2 (by decide) (by decide) (by decide) ?_
            refine r_ladd X dX7_rootOf_116 ?_
            refine WW_e (congrArg (fun z => jv z :: []) (show (((isq (n * 4 ^ j) : Nat) : Int) / 2) + (((isq (n * 4 ^ j) : Nat) : Int) % 2) = ((((isq (n * 4 ^ j) + 1) / 2) : Nat) : Int) by omega)) ?_
            show WW K D z0 10 h 0 0 117 [(7, iv (-1 - (j : Int))), (6, iv (j : Int)), (4, jv (rs (n * 4 ^ j))), (2, jv ((isq (n * 4 ^ j) : Nat) : Int)), (0, jv (n : Int))] [jv ((((isq (n * 4 ^ j) + 1) / 2) : Nat) : Int)]
            refine r_l2d X dX7_rootOf_117 ?_
            refine WW_e (congrArg (fun z => Value.double z :: []) (show FP.l2d (Int64.ofInt ((((isq (n * 4 ^ j) + 1) / 2) : Nat) : Int)) = dI ((isq (n * 4 ^ j) + 1) / 2) (-((0 : Nat) : Int)) from l2d_of hX)) ?_
            show WW K D z0 10 h 0 0 118 [(7, iv (-1 - (j : Int))), (6, iv (j : Int)), (4, jv (rs (n * 4 ^ j))), (2, jv ((isq (n * 4 ^ j) : Nat) : Int)), (0, jv (n : Int))] [.double (dI ((isq (n * 4 ^ j) + 1) / 2) (-((0 : Nat) : Int)))]
            refine r_dstore (L' := [(7, .double (dI ((isq (n * 4 ^ j) + 1) / 2) (-((0 : Nat) : Int)))), (6, iv (j : Int)), (4, jv (rs (n * 4 ^ j))), (2, jv ((isq (n * 4 ^ j) : Nat) : Int)), (0, jv (n : Int))]) X dX7_rootOf_118 (by decide) rfl ?_
            refine r_iconst X dX7_rootOf_120 ?_
            refine r_istore (L' := [(9, iv 1), (7, .double (dI ((isq (n * 4 ^ j) + 1) / 2) (-((0 : Nat) : Int)))), (6, iv (j : Int)), (4, jv (rs (n * 4 ^ j))), (2, jv ((isq (n * 4 ^ j) : Nat) : Int)), (0, jv (n : Int))]) X dX7_rootOf_121 (by decide) rfl ?_
            refine WW_sub (L' := [(9, iv 1), (7, .double (dI ((isq (n * 4 ^ j) + 1) / 2) (-((0 : Nat) : Int)))), (6, iv (j : Int))]) [0, 1, 2] rfl ?_
            exact loopD (j - 1) 0 (by omega)
          · refine r_lload 2 X dX7_rootOf_34 rfl ?_
            refine r_ldc2 4 X dX7_rootOf_36 nX7_121 (by decide) ?_
            refine r_lmul X dX7_rootOf_39 ?_
            refine r_iload 0 X dX7_rootOf_40 rfl ?_
            refine r_if_lt 58 X dX7_rootOf_42 (by decide) ⟨by omega, by omega⟩ (fun c42 => ?_) (fun c42 => ?_)
            · refine r_lconst 0 X dX7_rootOf_58 (by decide) ?_
              refine r_ladd X dX7_rootOf_59 ?_
              refine r_lstore (L' := [(4, jv (((rs (n * 4 ^ j)) * 4) + 0)), (7, iv (-1 - (j : Int))), (6, iv (j : Int)), (2, jv ((isq (n * 4 ^ j) : Nat) : Int)), (0, jv (n : Int))]) X dX7_rootOf_60 (by decide) rfl ?_
              refine r_lload_n 3 X dX7_rootOf_62 rfl ?_
              refine r_ldc2 4 X dX7_rootOf_63 nX7_121 (by decide) ?_
              refine r_lmul X dX7_rootOf_66 ?_
              refine r_lconst 1 X dX7_rootOf_67 (by decide) ?_
              refine r_ladd X dX7_rootOf_68 ?_
              refine r_lstore (L' := [(8, jv ((((isq (n * 4 ^ j) : Nat) : Int) * 4) + 1)), (4, jv (((rs (n * 4 ^ j)) * 4) + 0)), (7, iv (-1 - (j : Int))), (6, iv (j : Int)), (2, jv ((isq (n * 4 ^ j) : Nat) : Int)), (0, jv (n : Int))]) X dX7_rootOf_69 (by decide) rfl ?_
              refine r_lload_n 4 X dX7_rootOf_71 rfl ?_
              refine r_ldc2 2 X dX7_rootOf_72 nX7_71 (by decide) ?_
              refine r_lmul X dX7_rootOf_75 ?_
              refine r_lstore_n (L' := [(2, jv (((isq (n * 4 ^ j) : Nat) : Int) * 2)), (8, jv ((((isq (n * 4 ^ j) : Nat) : Int) * 4) + 1)), (4, jv (((rs (n * 4 ^ j)) * 4) + 0)), (7, iv (-1 - (j : Int))), (6, iv (j : Int)), (0, jv (n : Int))]) X dX7_rootOf_76 (by decide) rfl ?_
              refine r_lload 2 X dX7_rootOf_77 rfl ?_
              refine r_lload 1 X dX7_rootOf_79 rfl ?_
              refine r_lcmp_lt 96 X dX7_rootOf_81 dX7_rootOf_82 (by decide) ⟨by omega, by omega⟩ ⟨by omega, by omega⟩ (fun c81 => ?_) (fun c81 => ?_)
              · refine r_iload 3 X dX7_rootOf_96 rfl ?_
                refine r_if_ge 104 X dX7_rootOf_98 (by decide) ⟨by omega, by omega⟩ (fun c98 => ?_) (fun c98 => ?_)
                · exfalso
                  omega
                · refine r_iinc 4 (L' := [(6, iv ((j : Int) + 1)), (2, jv (((isq (n * 4 ^ j) : Nat) : Int) * 2)), (8, jv ((((isq (n * 4 ^ j) : Nat) : Int) * 4) + 1)), (4, jv (((rs (n * 4 ^ j)) * 4) + 0)), (7, iv (-1 - (j : Int))), (0, jv (n : Int))]) X dX7_rootOf_101 rfl (by decide) rfl ?_
                  refine r_iinc 4 (L' := [(7, iv (-1 - (j : Int) + (-1))), (6, iv ((j : Int) + 1)), (2, jv (((isq (n * 4 ^ j) : Nat) : Int) * 2)), (8, jv ((((isq (n * 4 ^ j) : Nat) : Int) * 4) + 1)), (4, jv (((rs (n * 4 ^ j)) * 4) + 0)), (0, jv (n : Int))]) X dX7_rootOf_104 rfl (by decide) rfl ?_
                  refine r_goto 20 X dX7_rootOf_107 (by decide) ?_
                  refine WW_sub (L' := [(7, iv (-1 - (j : Int) + (-1))), (6, iv ((j : Int) + 1)), (4, jv (((rs (n * 4 ^ j)) * 4) + 0)), (2, jv (((isq (n * 4 ^ j) : Nat) : Int) * 2)), (0, jv (n : Int))]) [0, 1, 4, 2, 5] rfl ?_
                  refine WW_L (L' := [(7, iv (-1 - ((j + 1 : Nat) : Int))), (6, iv ((j + 1 : Nat) : Int)), (4, jv (rs (n * 4 ^ (j + 1)))), (2, jv ((isq (n * 4 ^ (j + 1)) : Nat) : Int)), (0, jv (n : Int))]) ?_ ?_
                  · rw [show ((rs (n * 4 ^ j)) * 4) + 0 = rs (n * 4 ^ (j + 1)) by omega, show ((isq (n * 4 ^ j) : Nat) : Int) * 2 = ((isq (n * 4 ^ (j + 1)) : Nat) : Int) by omega, show -1 - (j : Int) + (-1) = -1 - ((j + 1 : Nat) : Int) by omega, show (j : Int) + 1 = ((j + 1 : Nat) : Int) by omega]
                  · exact ih (j + 1) (by omega) (by omega) (by rw [← he, dRf_s, if_neg (by omega)])
              · refine r_lload 2 X dX7_rootOf_85 rfl ?_
                refine r_lload 1 X dX7_rootOf_87 rfl ?_
                refine r_lsub X dX7_rootOf_89 ?_
                refine r_lstore (L' := [(4, jv ((((rs (n * 4 ^ j)) * 4) + 0) - ((((isq (n * 4 ^ j) : Nat) : Int) * 4) + 1))), (2, jv (((isq (n * 4 ^ j) : Nat) : Int) * 2)), (8, jv ((((isq (n * 4 ^ j) : Nat) : Int) * 4) + 1)), (7, iv (-1 - (j : Int))), (6, iv (j : Int)), (0, jv (n : Int))]) X dX7_rootOf_90 (by decide) rfl ?_
                refine r_lload_n 1 X dX7_rootOf_92 rfl ?_
                refine r_lconst 1 X dX7_rootOf_93 (by decide) ?_
                refine r_ladd X dX7_rootOf_94 ?_
                refine r_lstore_n (L' := [(2, jv ((((isq (n * 4 ^ j) : Nat) : Int) * 2) + 1)), (4, jv ((((rs (n * 4 ^ j)) * 4) + 0) - ((((isq (n * 4 ^ j) : Nat) : Int) * 4) + 1))), (8, jv ((((isq (n * 4 ^ j) : Nat) : Int) * 4) + 1)), (7, iv (-1 - (j : Int))), (6, iv (j : Int)), (0, jv (n : Int))]) X dX7_rootOf_95 (by decide) rfl ?_
                refine r_iload 3 X dX7_rootOf_96 rfl ?_
                refine r_if_ge 104 X dX7_rootOf_98 (by decide) ⟨by omega, by omega⟩ (fun c98 => ?_) (fun c98 => ?_)
                · exfalso
                  omega
                · refine r_iinc 4 (L' := [(6, iv ((j : Int) + 1)), (2, jv ((((isq (n * 4 ^ j) : Nat) : Int) * 2) + 1)), (4, jv ((((rs (n * 4 ^ j)) * 4) + 0) - ((((isq (n * 4 ^ j) : Nat) : Int) * 4) + 1))), (8, jv ((((isq (n * 4 ^ j) : Nat) : Int) * 4) + 1)), (7, iv (-1 - (j : Int))), (0, jv (n : Int))]) X dX7_rootOf_101 rfl (by decide) rfl ?_
                  refine r_iinc 4 (L' := [(7, iv (-1 - (j : Int) + (-1))), (6, iv ((j : Int) + 1)), (2, jv ((((isq (n * 4 ^ j) : Nat) : Int) * 2) + 1)), (4, jv ((((rs (n * 4 ^ j)) * 4) + 0) - ((((isq (n * 4 ^ j) : Nat) : Int) * 4) + 1))), (8, jv ((((isq (n * 4 ^ j) : Nat) : Int) * 4) + 1)), (0, jv (n : Int))]) X dX7_rootOf_104 rfl (by decide) rfl ?_
                  refine r_goto 20 X dX7_rootOf_107 (by decide) ?_
                  refine WW_sub (L' := [(7, iv (-1 - (j : Int) + (-1))), (6, iv ((j : Int) + 1)), (4, jv ((((rs (n * 4 ^ j)) * 4) + 0) - ((((isq (n * 4 ^ j) : Nat) : Int) * 4) + 1))), (2, jv ((((isq (n * 4 ^ j) : Nat) : Int) * 2) + 1)), (0, jv (n : Int))]) [0, 1, 3, 2, 5] rfl ?_
                  refine WW_L (L' := [(7, iv (-1 - ((j + 1 : Nat) : Int))), (6, iv ((j + 1 : Nat) : Int)), (4, jv (rs (n * 4 ^ (j + 1)))), (2, jv ((isq (n * 4 ^ (j + 1)) : Nat) : Int)), (0, jv (n : Int))]) ?_ ?_
                  · rw [show (((rs (n * 4 ^ j)) * 4) + 0) - ((((isq (n * 4 ^ j) : Nat) : Int) * 4) + 1) = rs (n * 4 ^ (j + 1)) by omega, show (((isq (n * 4 ^ j) : Nat) : Int) * 2) + 1 = ((isq (n * 4 ^ (j + 1)) : Nat) : Int) by omega, show -1 - (j : Int) + (-1) = -1 - ((j + 1 : Nat) : Int) by omega, show (j : Int) + 1 = ((j + 1 : Nat) : Int) by omega]
                  · exact ih (j + 1) (by omega) (by omega) (by rw [← he, dRf_s, if_neg (by omega)])
            · exfalso
              omega
    have loopA : ∀ p : Nat, p ≤ 17 → WW K D z0 10 h 0 0 20 [(7, iv (((p : Nat) : Int) - 1)), (6, iv 0), (4, jv (rs (n / 4 ^ p))), (2, jv ((isq (n / 4 ^ p) : Nat) : Int)), (0, jv (n : Int))] [] := by
      intro p
      induction p with
      | zero =>
        intro hp
        refine WW_L (L' := [(7, iv (-1 - ((0 : Nat) : Int))), (6, iv ((0 : Nat) : Int)), (4, jv (rs (n * 4 ^ 0))), (2, jv ((isq (n * 4 ^ 0) : Nat) : Int)), (0, jv (n : Int))]) ?_ (loopB 63 0 rfl ?_ rfl)
        · rw [Nat.pow_zero, Nat.div_one, Nat.mul_one]; rfl
        · have := isq_lt (a := 131072) (N := n) (by omega)
          rw [Nat.pow_zero, Nat.mul_one]
          omega
      | succ p ih =>
        intro hp
        have hrb := rs_b (n / 4 ^ (p + 1))
        have hst := isq_step (n / 4 ^ (p + 1)) (n / 4 ^ p % 4) (by omega)
        rw [← div4 n p] at hst
        have hsm : isq (n / 4 ^ (p + 1)) < 131072 := isq_lt (by have := Nat.div_le_self n (4 ^ (p + 1)); omega)
        have hpp : ((4 ^ p : Nat) : Int) = ((4 ^ p : Nat) : Int) := rfl
        refine r_iload 0 X dX7_rootOf_20 rfl ?_
        refine r_if_ge 34 X dX7_rootOf_22 (by decide) ⟨by omega, by omega⟩ (fun c22 => ?_) (fun c22 => ?_)
        · refine r_lload 2 X dX7_rootOf_34 rfl ?_
          refine r_ldc2 4 X dX7_rootOf_36 nX7_121 (by decide) ?_
          refine r_lmul X dX7_rootOf_39 ?_
          refine r_iload 0 X dX7_rootOf_40 rfl ?_
          refine r_if_lt 58 X dX7_rootOf_42 (by decide) ⟨by omega, by omega⟩ (fun c42 => ?_) (fun c42 => ?_)
          · exfalso
            omega
          · refine r_lload_n 4 X dX7_rootOf_45 rfl ?_
            refine r_iconst X dX7_rootOf_46 ?_
            refine r_iload 0 X dX7_rootOf_47 rfl ?_
            refine r_imul X dX7_rootOf_49 ?_
            refine r_lshr X dX7_rootOf_50 (2 * p) ((4 ^ p : Nat) : Int) (by omega) (by rw [pow4]) (by omega) ⟨by omega, by omega⟩ ?_
            refine r_ldc2 3 X dX7_rootOf_51 nX7_119 (by decide) ?_
            refine r_land X dX7_rootOf_54 2 4 (by decide) (by decide) (by decide) ?_
            refine r_goto 59 X dX7_rootOf_55 (by decide) ?_
            refine WW_e (congrArg (fun z => jv z :: [jv ((rs (n / 4 ^ (p + 1))) * 4)]) (show ((n : Int) / ((4 ^ p : Nat) : Int)) % 4 = ((n / 4 ^ p % 4 : Nat) : Int) from rfl)) ?_
            show WW K D z0 10 h 0 0 59 [(7, iv (((p + 1 : Nat) : Int) - 1)), (6, iv 0), (4, jv (rs (n / 4 ^ (p + 1)))), (2, jv ((isq (n / 4 ^ (p + 1)) : Nat) : Int)), (0, jv (n : Int))] [jv ((n / 4 ^ p % 4 : Nat) : Int), jv ((rs (n / 4 ^ (p + 1))) * 4)]
            refine r_ladd X dX7_rootOf_59 ?_
            refine r_lstore (L' := [(4, jv (((rs (n / 4 ^ (p + 1))) * 4) + ((n / 4 ^ p % 4 : Nat) : Int))), (7, iv (((p + 1 : Nat) : Int) - 1)), (6, iv 0), (2, jv ((isq (n / 4 ^ (p + 1)) : Nat) : Int)), (0, jv (n : Int))]) X dX7_rootOf_60 (by decide) rfl ?_
            refine r_lload_n 3 X dX7_rootOf_62 rfl ?_
            refine r_ldc2 4 X dX7_rootOf_63 nX7_121 (by decide) ?_
            refine r_lmul X dX7_rootOf_66 ?_
            refine r_lconst 1 X dX7_rootOf_67 (by decide) ?_
            refine r_ladd X dX7_rootOf_68 ?_
            refine r_lstore (L' := [(8, jv ((((isq (n / 4 ^ (p + 1)) : Nat) : Int) * 4) + 1)), (4, jv (((rs (n / 4 ^ (p + 1))) * 4) + ((n / 4 ^ p % 4 : Nat) : Int))), (7, iv (((p + 1 : Nat) : Int) - 1)), (6, iv 0), (2, jv ((isq (n / 4 ^ (p + 1)) : Nat) : Int)), (0, jv (n : Int))]) X dX7_rootOf_69 (by decide) rfl ?_
            refine r_lload_n 4 X dX7_rootOf_71 rfl ?_
            refine r_ldc2 2 X dX7_rootOf_72 nX7_71 (by decide) ?_
            refine r_lmul X dX7_rootOf_75 ?_
            refine r_lstore_n (L' := [(2, jv (((isq (n / 4 ^ (p + 1)) : Nat) : Int) * 2)), (8, jv ((((isq (n / 4 ^ (p + 1)) : Nat) : Int) * 4) + 1)), (4, jv (((rs (n / 4 ^ (p + 1))) * 4) + ((n / 4 ^ p % 4 : Nat) : Int))), (7, iv (((p + 1 : Nat) : Int) - 1)), (6, iv 0), (0, jv (n : Int))]) X dX7_rootOf_76 (by decide) rfl ?_
            refine r_lload 2 X dX7_rootOf_77 rfl ?_
            refine r_lload 1 X dX7_rootOf_79 rfl ?_
            refine r_lcmp_lt 96 X dX7_rootOf_81 dX7_rootOf_82 (by decide) ⟨by omega, by omega⟩ ⟨by omega, by omega⟩ (fun c81 => ?_) (fun c81 => ?_)
            · refine r_iload 3 X dX7_rootOf_96 rfl ?_
              refine r_if_ge 104 X dX7_rootOf_98 (by decide) ⟨by omega, by omega⟩ (fun c98 => ?_) (fun c98 => ?_)
              · refine r_iinc 3 (L' := [(7, iv (((p + 1 : Nat) : Int) - 1 + (-1))), (2, jv (((isq (n / 4 ^ (p + 1)) : Nat) : Int) * 2)), (8, jv ((((isq (n / 4 ^ (p + 1)) : Nat) : Int) * 4) + 1)), (4, jv (((rs (n / 4 ^ (p + 1))) * 4) + ((n / 4 ^ p % 4 : Nat) : Int))), (6, iv 0), (0, jv (n : Int))]) X dX7_rootOf_104 rfl (by decide) rfl ?_
                refine r_goto 20 X dX7_rootOf_107 (by decide) ?_
                refine WW_sub (L' := [(7, iv (((p + 1 : Nat) : Int) - 1 + (-1))), (6, iv 0), (4, jv (((rs (n / 4 ^ (p + 1))) * 4) + ((n / 4 ^ p % 4 : Nat) : Int))), (2, jv (((isq (n / 4 ^ (p + 1)) : Nat) : Int) * 2)), (0, jv (n : Int))]) [0, 4, 3, 1, 5] rfl ?_
                refine WW_L (L' := [(7, iv (((p : Nat) : Int) - 1)), (6, iv 0), (4, jv (rs (n / 4 ^ p))), (2, jv ((isq (n / 4 ^ p) : Nat) : Int)), (0, jv (n : Int))]) ?_ ?_
                · rw [show ((rs (n / 4 ^ (p + 1))) * 4) + ((n / 4 ^ p % 4 : Nat) : Int) = rs (n / 4 ^ p) by omega, show ((isq (n / 4 ^ (p + 1)) : Nat) : Int) * 2 = ((isq (n / 4 ^ p) : Nat) : Int) by omega, show ((p + 1 : Nat) : Int) - 1 + (-1) = ((p : Nat) : Int) - 1 by omega]
                · exact ih (by omega)
              · exfalso
                omega
            · refine r_lload 2 X dX7_rootOf_85 rfl ?_
              refine r_lload 1 X dX7_rootOf_87 rfl ?_
              refine r_lsub X dX7_rootOf_89 ?_
              refine r_lstore (L' := [(4, jv ((((rs (n / 4 ^ (p + 1))) * 4) + ((n / 4 ^ p % 4 : Nat) : Int)) - ((((isq (n / 4 ^ (p + 1)) : Nat) : Int) * 4) + 1))), (2, jv (((isq (n / 4 ^ (p + 1)) : Nat) : Int) * 2)), (8, jv ((((isq (n / 4 ^ (p + 1)) : Nat) : Int) * 4) + 1)), (7, iv (((p + 1 : Nat) : Int) - 1)), (6, iv 0), (0, jv (n : Int))]) X dX7_rootOf_90 (by decide) rfl ?_
              refine r_lload_n 1 X dX7_rootOf_92 rfl ?_
              refine r_lconst 1 X dX7_rootOf_93 (by decide) ?_
              refine r_ladd X dX7_rootOf_94 ?_
              refine r_lstore_n (L' := [(2, jv ((((isq (n / 4 ^ (p + 1)) : Nat) : Int) * 2) + 1)), (4, jv ((((rs (n / 4 ^ (p + 1))) * 4) + ((n / 4 ^ p % 4 : Nat) : Int)) - ((((isq (n / 4 ^ (p + 1)) : Nat) : Int) * 4) + 1))), (8, jv ((((isq (n / 4 ^ (p + 1)) : Nat) : Int) * 4) + 1)), (7, iv (((p + 1 : Nat) : Int) - 1)), (6, iv 0), (0, jv (n : Int))]) X dX7_rootOf_95 (by decide) rfl ?_
              refine r_iload 3 X dX7_rootOf_96 rfl ?_
              refine r_if_ge 104 X dX7_rootOf_98 (by decide) ⟨by omega, by omega⟩ (fun c98 => ?_) (fun c98 => ?_)
              · refine r_iinc 3 (L' := [(7, iv (((p + 1 : Nat) : Int) - 1 + (-1))), (2, jv ((((isq (n / 4 ^ (p + 1)) : Nat) : Int) * 2) + 1)), (4, jv ((((rs (n / 4 ^ (p + 1))) * 4) + ((n / 4 ^ p % 4 : Nat) : Int)) - ((((isq (n / 4 ^ (p + 1)) : Nat) : Int) * 4) + 1))), (8, jv ((((isq (n / 4 ^ (p + 1)) : Nat) : Int) * 4) + 1)), (6, iv 0), (0, jv (n : Int))]) X dX7_rootOf_104 rfl (by decide) rfl ?_
                refine r_goto 20 X dX7_rootOf_107 (by decide) ?_
                refine WW_sub (L' := [(7, iv (((p + 1 : Nat) : Int) - 1 + (-1))), (6, iv 0), (4, jv ((((rs (n / 4 ^ (p + 1))) * 4) + ((n / 4 ^ p % 4 : Nat) : Int)) - ((((isq (n / 4 ^ (p + 1)) : Nat) : Int) * 4) + 1))), (2, jv ((((isq (n / 4 ^ (p + 1)) : Nat) : Int) * 2) + 1)), (0, jv (n : Int))]) [0, 4, 2, 1, 5] rfl ?_
                refine WW_L (L' := [(7, iv (((p : Nat) : Int) - 1)), (6, iv 0), (4, jv (rs (n / 4 ^ p))), (2, jv ((isq (n / 4 ^ p) : Nat) : Int)), (0, jv (n : Int))]) ?_ ?_
                · rw [show (((rs (n / 4 ^ (p + 1))) * 4) + ((n / 4 ^ p % 4 : Nat) : Int)) - ((((isq (n / 4 ^ (p + 1)) : Nat) : Int) * 4) + 1) = rs (n / 4 ^ p) by omega, show (((isq (n / 4 ^ (p + 1)) : Nat) : Int) * 2) + 1 = ((isq (n / 4 ^ p) : Nat) : Int) by omega, show ((p + 1 : Nat) : Int) - 1 + (-1) = ((p : Nat) : Int) - 1 by omega]
                · exact ih (by omega)
              · exfalso
                omega
        · exfalso
          omega
    refine WW_L (L' := [(7, iv (((17 : Nat) : Int) - 1)), (6, iv 0), (4, jv (rs (n / 4 ^ 17))), (2, jv ((isq (n / 4 ^ 17) : Nat) : Int)), (0, jv (n : Int))]) ?_ (loopA 17 (Nat.le_refl _))
    rw [show n / 4 ^ 17 = 0 from Nat.div_eq_of_lt (by rw [show (4 ^ 17 : Nat) = 17179869184 from by decide +kernel]; exact hn)]
    rfl
  · refine r_dconst0 X dX7_rootOf_6 ?_
    refine r_dret X Y dX7_rootOf_7 (by decide) (by decide) ?_
    exact pv (congrArg Value.double (show FP.dconst0 = dR n by rw [show n = 0 by omega]; rfl))
abbrev rX7_root : Room := { frames := 1, cells := 0, slots := 0, locals := 29 }
theorem c_X7_root {l : Launch} (hl : l.stackTraces = false) (D : va_G) (z0 : Nat) (h : Hp) {y : Nat} {v : Nat → Nat} {σ : Tg} {e1 e2 e3 od : Nat → Int} {lc oc tc hi lo rf sq : Int} (hm : Mz D h y v (fA σ) (fB σ) (fC σ) e1 e2 e3 od lc oc tc hi lo rf sq) (ht : TVs σ) (p : Int) (hp0 : I64 p) : CC l yX7_root cX7_root 3 (some .double) rX7_root D z0 h [.ref y, jv p] (MO D y v σ σ e1 e2 e3 od lc oc (cdRo p) (.double (dR p.toNat)) (.double FP.dconst0) h) NX := by
  refine CC_of RX7 hl (by decide) rfl (Nat.le_of_ble_eq_true rfl) (fun K X Y Z hmn hKl => ?_)
  subst hKl
  show WW K D z0 3 h 0 0 0 [(0, .ref y), (1, jv p)] []
  refine r_aload_n 0 X dX7_root_0 rfl ?_
  refine r_lload_n 1 X dX7_root_1 rfl ?_
  refine r_lconst 0 X dX7_root_2 (by decide) ?_
  refine r_ldc2 8589672450 X dX7_root_3 nX7_152 (by decide) ?_
  refine r_callS_v X dX7_root_6 kX7_37 (c_X7_isBetween (CX_l X) D z0 _ p 0 8589672450 ⟨by omega, by omega⟩ ⟨by omega, by omega⟩ ⟨by omega, by omega⟩) [.ref y] rfl rfl (Nat.le_of_ble_eq_true rfl) (by decide) rfl rfl (by decide) ?_
  refine r_ifb_eq 16 X dX7_root_9 (by decide) (fun c9 => ?_) (fun c9 => ?_)
  · refine r_iconst X dX7_root_16 ?_
    refine r_callV X dX7_root_17 kX7_57 hm.1 (c_X7_isWrong (CX_l X) D z0 _ hm 1 ⟨by omega, by omega⟩) [] rfl rfl (Nat.le_of_ble_eq_true rfl) (by decide) (by decide) (fun _ _ z => z.elim) (fun v9 hq17 hv9 => ?_)
    obtain ⟨rfl, hm17, kp17⟩ := hv9
    show WW K D z0 3 hq17 0 0 20 [(0, .ref y), (1, jv p)] [iv 1]
    refine r_if_eq 27 X dX7_root_20 (by decide) ⟨by omega, by omega⟩ (fun c20 => ?_) (fun c20 => ?_)
    · exfalso
      omega
    · refine r_dconst0 X dX7_root_23 ?_
      refine r_goto 31 X dX7_root_24 (by decide) ?_
      refine r_dret X Y dX7_root_31 (by decide) (by decide) ?_
      exact MO_w (by unfold cdRo; (try simp only [isNone_f, isNone_t, true_or, or_true, false_or, or_false]); (repeat' split) <;> first | rfl | omega | contradiction | (exfalso; simp_all; done) | (exfalso; simp_all; omega)) (by first | decide | omega) hm17 kp17
  · refine r_iconst X dX7_root_12 ?_
    refine r_goto 17 X dX7_root_13 (by decide) ?_
    refine r_callV X dX7_root_17 kX7_57 hm.1 (c_X7_isWrong (CX_l X) D z0 _ hm 0 ⟨by omega, by omega⟩) [] rfl rfl (Nat.le_of_ble_eq_true rfl) (by decide) (by decide) (fun _ _ z => z.elim) (fun v9 hq17 hv9 => ?_)
    obtain ⟨rfl, hm17, kp17⟩ := hv9
    show WW K D z0 3 hq17 0 0 20 [(0, .ref y), (1, jv p)] [iv 0]
    refine r_if_eq 27 X dX7_root_20 (by decide) ⟨by omega, by omega⟩ (fun c20 => ?_) (fun c20 => ?_)
    · refine r_lload_n 1 X dX7_root_27 rfl ?_
      refine WW_e (congrArg (fun z => jv z :: []) (show p = (p.toNat : Int) by omega)) ?_
      show WW K D z0 3 hq17 0 0 28 [(0, .ref y), (1, jv p)] [jv (p.toNat : Int)]
      refine r_callS_v X dX7_root_28 kX7_148 (c_X7_rootOf (CX_l X) D z0 _ (p.toNat) (by omega)) [] rfl rfl (Nat.le_of_ble_eq_true rfl) (by decide) rfl rfl (by decide) ?_
      refine r_dret X Y dX7_root_31 (by decide) (by decide) ?_
      exact MO_k (by unfold cdRo; (try simp only [isNone_f, isNone_t, true_or, or_true, false_or, or_false]); (repeat' split) <;> first | rfl | omega | contradiction | (exfalso; simp_all; done) | (exfalso; simp_all; omega)) rfl rfl hm17 kp17
    · exfalso
      omega
abbrev rX7_hypot : Room := { frames := 3, cells := 0, slots := 0, locals := 67 }
theorem c_X7_hypot {l : Launch} (hl : l.stackTraces = false) (D : va_G) (z0 : Nat) (h : Hp) {y : Nat} {v : Nat → Nat} {σ : Tg} {e1 e2 e3 od : Nat → Int} {lc oc tc hi lo rf sq : Int} (hm : Mz D h y v (fA σ) (fB σ) (fC σ) e1 e2 e3 od lc oc tc hi lo rf sq) (ht : TVs σ) (p : Int) (hp0 : I32 p) (i k : Int) (hi0 : I32 i) (hk0 : I32 k) : CC l yX7_hypot cX7_hypot 4 (some .double) rX7_hypot D z0 h [.ref y, iv p, iv i, iv k] (MO D y v σ σ e1 e2 e3 od lc oc (cdHy σ p i k) (.double (dR (hyN σ p i k))) (.double FP.dconst0) h) NX := by
  refine CC_of RX7 hl (by decide) rfl (Nat.le_of_ble_eq_true rfl) (fun K X Y Z hmn hKl => ?_)
  subst hKl
  show WW K D z0 4 h 0 0 0 [(0, .ref y), (1, iv p), (2, iv i), (3, iv k)] []
  refine r_aload_n 0 X dX7_hypot_0 rfl ?_
  refine r_iload_n 2 X dX7_hypot_1 rfl ?_
  refine r_i2l X dX7_hypot_2 ⟨by omega, by omega⟩ ?_
  refine r_lconst 0 X dX7_hypot_3 (by decide) ?_
  refine r_ldc2 2 X dX7_hypot_4 nX7_71 (by decide) ?_
  refine r_callS_v X dX7_hypot_7 kX7_37 (c_X7_isBetween (CX_l X) D z0 _ i 0 2 ⟨by omega, by omega⟩ ⟨by omega, by omega⟩ ⟨by omega, by omega⟩) [.ref y] rfl rfl (Nat.le_of_ble_eq_true rfl) (by decide) rfl rfl (by decide) ?_
  refine r_ifb_eq 25 X dX7_hypot_10 (by decide) (fun c10 => ?_) (fun c10 => ?_)
  · refine r_iconst X dX7_hypot_25 ?_
    refine r_goto 35 X dX7_hypot_26 (by decide) ?_
    refine r_callV X dX7_hypot_35 kX7_57 hm.1 (c_X7_isWrong (CX_l X) D z0 _ hm 1 ⟨by omega, by omega⟩) [] rfl rfl (Nat.le_of_ble_eq_true rfl) (by decide) (by decide) (fun _ _ z => z.elim) (fun v9 hq35 hv9 => ?_)
    obtain ⟨rfl, hm35, kp35⟩ := hv9
    show WW K D z0 4 hq35 0 0 38 [(0, .ref y), (1, iv p), (2, iv i), (3, iv k)] [iv 1]
    refine r_if_eq 43 X dX7_hypot_38 (by decide) ⟨by omega, by omega⟩ (fun c38 => ?_) (fun c38 => ?_)
    · exfalso
      omega
    · refine r_dconst0 X dX7_hypot_41 ?_
      refine r_dret X Y dX7_hypot_42 (by decide) (by decide) ?_
      exact MO_w (by unfold cdHy ms; (try simp only [isNone_f, isNone_t, true_or, or_true, false_or, or_false]); (repeat' split) <;> first | rfl | omega | contradiction | (exfalso; simp_all; done) | (exfalso; simp_all; omega)) (by first | decide | omega) hm35 kp35
  · refine r_iload_n 3 X dX7_hypot_13 rfl ?_
    refine r_i2l X dX7_hypot_14 ⟨by omega, by omega⟩ ?_
    refine r_lconst 0 X dX7_hypot_15 (by decide) ?_
    refine r_ldc2 2 X dX7_hypot_16 nX7_71 (by decide) ?_
    refine r_callS_v X dX7_hypot_19 kX7_37 (c_X7_isBetween (CX_l X) D z0 _ k 0 2 ⟨by omega, by omega⟩ ⟨by omega, by omega⟩ ⟨by omega, by omega⟩) [.ref y] rfl rfl (Nat.le_of_ble_eq_true rfl) (by decide) rfl rfl (by decide) ?_
    refine r_ifb_ne 29 X dX7_hypot_22 (by decide) (fun c22 => ?_) (fun c22 => ?_)
    · refine r_aload_n 0 X dX7_hypot_29 rfl ?_
      refine r_iload_n 1 X dX7_hypot_30 rfl ?_
      refine r_iconst X dX7_hypot_31 ?_
      refine r_callV_v X dX7_hypot_32 kX7_68 hm.1 (c_X7_missing (CX_l X) D z0 _ hm ht p 2 ⟨by omega, by omega⟩) [.ref y] rfl rfl (Nat.le_of_ble_eq_true rfl) (by decide) rfl rfl (by decide) ?_
      refine r_callV X dX7_hypot_35 kX7_57 hm.1 (c_X7_isWrong (CX_l X) D z0 _ hm (ms σ p 2) (ms_b ⟨by decide, by decide⟩)) [] rfl rfl (Nat.le_of_ble_eq_true rfl) (by decide) (by decide) (fun _ _ z => z.elim) (fun v9 hq35 hv9 => ?_)
      obtain ⟨rfl, hm35, kp35⟩ := hv9
      show WW K D z0 4 hq35 0 0 38 [(0, .ref y), (1, iv p), (2, iv i), (3, iv k)] [iv (if (ms σ p 2) ≠ 0 then 1 else 0)]
      refine r_ifb_eq 43 X dX7_hypot_38 (by decide) (fun c38 => ?_) (fun c38 => ?_)
      · have hcd : ms σ p 2 = 0 := by omega
        obtain ⟨hp_p, a, b, c, hs⟩ := ms_0 (by decide) hcd
        have hv := ht p.toNat (by omega) a b c hs
        have hb := TV_b hv
        have hli := ln_b hv i
        have hlk := ln_b hv k
        have n1 := Nat.mul_le_mul (show (ln a b c i).toNat ≤ 65535 by omega) (show (ln a b c i).toNat ≤ 65535 by omega)
        have n2 := Nat.mul_le_mul (show (ln a b c k).toNat ≤ 65535 by omega) (show (ln a b c k).toNat ≤ 65535 by omega)
        refine r_aload_n 0 X dX7_hypot_43 rfl ?_
        refine r_iload_n 1 X dX7_hypot_44 rfl ?_
        refine r_iload_n 2 X dX7_hypot_45 rfl ?_
        refine r_callV_v X dX7_hypot_46 kX7_73 hm35.1 (c_X7_sideOf (CX_l X) D z0 _ hm35 ht p (by omega) a b c hs i) [] rfl rfl (Nat.le_of_ble_eq_true rfl) (by decide) rfl rfl (by decide) ?_
        refine r_i2l X dX7_hypot_49 ⟨by omega, by omega⟩ ?_
        refine r_callS_v X dX7_hypot_50 kX7_92 (c_X7_squared (CX_l X) D z0 _ (ln a b c i)) [] rfl rfl (Nat.le_of_ble_eq_true rfl) (by decide) rfl rfl (by decide) ?_
        refine r_aload_n 0 X dX7_hypot_53 rfl ?_
        refine r_iload_n 1 X dX7_hypot_54 rfl ?_
        refine r_iload_n 3 X dX7_hypot_55 rfl ?_
        refine r_callV_v X dX7_hypot_56 kX7_73 hm35.1 (c_X7_sideOf (CX_l X) D z0 _ hm35 ht p (by omega) a b c hs k) [jv ((ln a b c i) * (ln a b c i))] rfl rfl (Nat.le_of_ble_eq_true rfl) (by decide) rfl rfl (by decide) ?_
        refine r_i2l X dX7_hypot_59 ⟨by omega, by omega⟩ ?_
        refine r_callS_v X dX7_hypot_60 kX7_92 (c_X7_squared (CX_l X) D z0 _ (ln a b c k)) [jv ((ln a b c i) * (ln a b c i))] rfl rfl (Nat.le_of_ble_eq_true rfl) (by decide) rfl rfl (by decide) ?_
        refine r_ladd X dX7_hypot_63 ?_
        refine WW_e (congrArg (fun z => jv z :: []) (show ((ln a b c i) * (ln a b c i)) + ((ln a b c k) * (ln a b c k)) = (((ln a b c i).toNat * (ln a b c i).toNat + (ln a b c k).toNat * (ln a b c k).toNat : Nat) : Int) by rw [Int.natCast_add, Int.natCast_mul, Int.natCast_mul, show ((ln a b c i).toNat : Int) = ln a b c i by omega, show ((ln a b c k).toNat : Int) = ln a b c k by omega])) ?_
        show WW K D z0 4 hq35 0 0 64 [(0, .ref y), (1, iv p), (2, iv i), (3, iv k)] [jv (((ln a b c i).toNat * (ln a b c i).toNat + (ln a b c k).toNat * (ln a b c k).toNat : Nat) : Int)]
        refine r_callS_v X dX7_hypot_64 kX7_148 (c_X7_rootOf (CX_l X) D z0 _ ((ln a b c i).toNat * (ln a b c i).toNat + (ln a b c k).toNat * (ln a b c k).toNat) (by omega)) [] rfl rfl (Nat.le_of_ble_eq_true rfl) (by decide) rfl rfl (by decide) ?_
        refine r_dret X Y dX7_hypot_67 (by decide) (by decide) ?_
        exact MO_k (by unfold cdHy ms; (try simp only [on_s hs, hs, isNone_f, isNone_t, true_or, or_true, false_or, or_false]); (repeat' split) <;> first | rfl | omega | contradiction | (exfalso; simp_all; done) | (exfalso; simp_all; omega)) (by omega) (congrArg Value.double (by unfold hyN; rw [on_s hs, on_s hs])) hm35 kp35
      · refine r_dconst0 X dX7_hypot_41 ?_
        refine r_dret X Y dX7_hypot_42 (by decide) (by decide) ?_
        exact MO_w (by unfold cdHy ms; (try simp only [isNone_f, isNone_t, true_or, or_true, false_or, or_false]); (repeat' split) <;> first | rfl | omega | contradiction | (exfalso; simp_all; done) | (exfalso; simp_all; omega)) (by first | decide | omega) hm35 kp35
    · refine r_iconst X dX7_hypot_25 ?_
      refine r_goto 35 X dX7_hypot_26 (by decide) ?_
      refine r_callV X dX7_hypot_35 kX7_57 hm.1 (c_X7_isWrong (CX_l X) D z0 _ hm 1 ⟨by omega, by omega⟩) [] rfl rfl (Nat.le_of_ble_eq_true rfl) (by decide) (by decide) (fun _ _ z => z.elim) (fun v9 hq35 hv9 => ?_)
      obtain ⟨rfl, hm35, kp35⟩ := hv9
      show WW K D z0 4 hq35 0 0 38 [(0, .ref y), (1, iv p), (2, iv i), (3, iv k)] [iv 1]
      refine r_if_eq 43 X dX7_hypot_38 (by decide) ⟨by omega, by omega⟩ (fun c38 => ?_) (fun c38 => ?_)
      · exfalso
        omega
      · refine r_dconst0 X dX7_hypot_41 ?_
        refine r_dret X Y dX7_hypot_42 (by decide) (by decide) ?_
        exact MO_w (by unfold cdHy ms; (try simp only [isNone_f, isNone_t, true_or, or_true, false_or, or_false]); (repeat' split) <;> first | rfl | omega | contradiction | (exfalso; simp_all; done) | (exfalso; simp_all; omega)) (by first | decide | omega) hm35 kp35
abbrev rX7_mean : Room := { frames := 1, cells := 0, slots := 0, locals := 22 }
theorem arT_b2 {σ : Tg} (ht : TVs σ) : ∀ k : Nat, k ≤ 16 → 0 ≤ arT σ k ∧ arT σ k ≤ k * 196605 := by
  intro k
  induction k with
  | zero => intro _; simp [arT]
  | succ k ih =>
    intro hk
    have h1 := ih (by omega)
    have h2 := f_b ht (i := k) (by omega)
    unfold arT
    rw [onA_f]
    omega
theorem dMe_nn2 {σ : Tg} (ht : TVs σ) : vf_n64 (dMe σ) := by
  unfold dMe
  have h1 := arT_b2 ht 16 (by omega)
  have h2 := cntT_b σ 16
  split
  · exact d0_nn
  · exact dQ_nn ⟨by omega, by omega⟩ ⟨by omega, by omega⟩
theorem c_X7_mean {l : Launch} (hl : l.stackTraces = false) (D : va_G) (z0 : Nat) (h : Hp) {y : Nat} {v : Nat → Nat} {σ : Tg} {e1 e2 e3 od : Nat → Int} {lc oc tc hi lo rf sq : Int} (hm : Mz D h y v (fA σ) (fB σ) (fC σ) e1 e2 e3 od lc oc tc hi lo rf sq) (ht : TVs σ) : CC l yX7_mean cX7_mean 3 (some .double) rX7_mean D z0 h [.ref y] (fun w0 h' => w0 = some (.double (dMe σ)) ∧ Mz D h' y v (fA σ) (fB σ) (fC σ) e1 e2 e3 od lc oc 0 hi lo rf sq ∧ Keep (WM y v) h h') NX := by
  refine CC_of RX7 hl (by decide) rfl (Nat.le_of_ble_eq_true rfl) (fun K X Y Z hmn hKl => ?_)
  subst hKl
  show WW K D z0 3 h 0 0 0 [(0, .ref y)] []
  have hnn := dMe_nn2 ht
  refine r_aload_n 0 X dX7_mean_0 rfl ?_
  refine r_iconst X dX7_mean_1 ?_
  refine r_mput X dX7_mean_2 fX7_31 hm lc oc 0 hi lo rf sq rfl (by decide) rfl rfl rfl (fun hp2 hm2 kp2 => ?_)
  refine r_iconst X dX7_mean_5 ?_
  refine r_istore_n (L' := [(1, iv 0), (0, .ref y)]) X dX7_mean_6 (by decide) rfl ?_
  refine r_iconst X dX7_mean_7 ?_
  refine r_istore_n (L' := [(2, iv 0), (1, iv 0), (0, .ref y)]) X dX7_mean_8 (by decide) rfl ?_
  have hcb := cntT_b σ 16
  have loop : ∀ (q i : Nat), i + q = 16 → WW K D z0 3 hp2 0 0 9 [(2, iv (i : Int)), (1, iv (arT σ i)), (0, .ref y)] [] := by
    intro q
    induction q with
    | zero =>
      intro i hi6
      have hab := arT_b2 ht i (by omega)
      refine r_iload_n 0 X dX7_mean_9 rfl ?_
      refine r_bipush X dX7_mean_10 (by decide) ?_
      refine r_icmp_ge 29 X dX7_mean_12 (by decide) ⟨by omega, by omega⟩ ⟨by omega, by omega⟩ (fun c12 => ?_) (fun c12 => ?_)
      · refine r_aload_n 2 X dX7_mean_29 rfl ?_
        refine r_callV_v X dX7_mean_30 kX7_64 hm2.1 (c_X7_many (CX_l X) D z0 _ hm2 ht  ) [] rfl rfl (Nat.le_of_ble_eq_true rfl) (by decide) rfl rfl (by decide) ?_
        refine r_if_ne 40 X dX7_mean_33 (by decide) ⟨by omega, by omega⟩ (fun c33 => ?_) (fun c33 => ?_)
        · refine r_iload_n 1 X dX7_mean_40 rfl ?_
          refine r_i2d X dX7_mean_41 ?_
          refine r_aload_n 2 X dX7_mean_42 rfl ?_
          refine r_callV_v X dX7_mean_43 kX7_64 hm2.1 (c_X7_many (CX_l X) D z0 _ hm2 ht  ) [.double (FP.i2d (Int32.ofInt (arT σ i)))] rfl rfl (Nat.le_of_ble_eq_true rfl) (by decide) rfl rfl (by decide) ?_
          refine r_i2d X dX7_mean_46 ?_
          refine r_ddiv (dMe σ) X dX7_mean_47 (by unfold dMe; rw [if_neg (by omega), show i = 16 from hi6]) hnn ?_
          refine r_dret X Y dX7_mean_48 (by decide) (by decide) ?_
          exact ⟨congrArg (fun z => some (Value.double z)) rfl, hm2, kp2⟩
        · refine r_dconst0 X dX7_mean_36 ?_
          refine r_goto 48 X dX7_mean_37 (by decide) ?_
          refine r_dret X Y dX7_mean_48 (by decide) (by decide) ?_
          exact ⟨congrArg (fun z => some (Value.double z)) (show _ = dMe σ by unfold dMe; rw [if_pos (by omega)]), hm2, kp2⟩
      · exfalso
        omega
    | succ q ih =>
      intro i hi6
      have hab := arT_b2 ht i (by omega)
      have hfb := f_b ht (i := i) (by omega)
      refine r_iload_n 0 X dX7_mean_9 rfl ?_
      refine r_bipush X dX7_mean_10 (by decide) ?_
      refine r_icmp_ge 29 X dX7_mean_12 (by decide) ⟨by omega, by omega⟩ ⟨by omega, by omega⟩ (fun c12 => ?_) (fun c12 => ?_)
      · exfalso
        omega
      · refine r_iload_n 1 X dX7_mean_15 rfl ?_
        refine r_aload_n 2 X dX7_mean_16 rfl ?_
        refine r_iload_n 0 X dX7_mean_17 rfl ?_
        refine r_callV_v X dX7_mean_18 kX7_96 hm2.1 (c_X7_around (CX_l X) D z0 _ hm2 ht (i : Int) (by omega)) [iv (arT σ i)] rfl rfl (Nat.le_of_ble_eq_true rfl) (by decide) rfl rfl (by decide) ?_
        refine r_iadd X dX7_mean_21 ?_
        refine r_istore_n (L' := [(1, iv ((arT σ i) + (fA σ (i : Int).toNat + fB σ (i : Int).toNat + fC σ (i : Int).toNat))), (2, iv (i : Int)), (0, .ref y)]) X dX7_mean_22 (by decide) rfl ?_
        refine r_iinc 1 (L' := [(2, iv ((i : Int) + 1)), (1, iv ((arT σ i) + (fA σ (i : Int).toNat + fB σ (i : Int).toNat + fC σ (i : Int).toNat))), (0, .ref y)]) X dX7_mean_23 rfl (by decide) rfl ?_
        refine r_goto 9 X dX7_mean_26 (by decide) ?_
        rw [show (arT σ i) + (fA σ (i : Int).toNat + fB σ (i : Int).toNat + fC σ (i : Int).toNat) = arT σ (i + 1) by
          show _ = arT σ i + onA (σ i)
          rw [onA_f]
          rfl]
        exact ih (i + 1) (by omega)
  exact loop 16 0 rfl
