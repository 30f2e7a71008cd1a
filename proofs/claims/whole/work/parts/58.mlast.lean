/-! the model: list, counts, its constructor -/
theorem aL_n (n : Nat) : ∀ m a b : Nat, ¬ a < b → aL n m a b = 0
  | 0, _, _, _ => rfl
  | m + 1, a, b, h => by rw [aL_s, if_neg h]
abbrev rX7_counts : Room := { frames := 1, cells := 0, slots := 0, locals := 25 }
theorem c_X7_counts {l : Launch} (hl : l.stackTraces = false) (D : va_G) (z0 : Nat) (h : Hp) {y : Nat} {v : Nat → Nat} {σ : Tg} {e1 e2 e3 od : Nat → Int} {lc oc tc hi lo rf sq : Int} (hm : Mz D h y v (fA σ) (fB σ) (fC σ) e1 e2 e3 od lc oc tc hi lo rf sq) (ht : TVs σ) (w p : Int) (hw : 0 ≤ w ∧ w ≤ 65535) (hp0 : I32 p) : CC l yX7_counts cX7_counts 6 (some .int) rX7_counts D z0 h [.ref y, iv w, iv p] (MO D y v σ σ e1 e2 e3 od lc oc (cdCn w p) (iv (vCn w p)) (iv 0) h) NX := by
  refine CC_of RX7 hl (by decide) rfl (Nat.le_of_ble_eq_true rfl) (fun K X Y Z hmn hKl => ?_)
  subst hKl
  obtain ⟨n, hn⟩ : ∃ n, n = p.toNat := ⟨_, rfl⟩
  show WW K D z0 6 h 0 0 0 [(0, .ref y), (1, iv w), (2, iv p)] []
  refine r_aload_n 0 X dX7_counts_0 rfl ?_
  refine r_iload_n 1 X dX7_counts_1 rfl ?_
  refine r_bipush X dX7_counts_2 (by decide) ?_
  refine r_icmp_eq 13 X dX7_counts_4 (by decide) ⟨by omega, by omega⟩ ⟨by omega, by omega⟩ (fun c4 => ?_) (fun c4 => ?_)
  · refine r_iload_n 2 X dX7_counts_13 rfl ?_
    refine r_i2l X dX7_counts_14 ⟨by omega, by omega⟩ ?_
    refine r_lconst 1 X dX7_counts_15 (by decide) ?_
    refine r_ldc2 1000 X dX7_counts_16 nX7_181 (by decide) ?_
    refine r_callS_v X dX7_counts_19 kX7_37 (c_X7_isBetween (CX_l X) D z0 _ p 1 1000 ⟨by omega, by omega⟩ ⟨by omega, by omega⟩ ⟨by omega, by omega⟩) [.ref y] rfl rfl (Nat.le_of_ble_eq_true rfl) (by decide) rfl rfl (by decide) ?_
    refine r_ifb_eq 29 X dX7_counts_22 (by decide) (fun c22 => ?_) (fun c22 => ?_)
    · refine r_iconst X dX7_counts_29 ?_
      refine r_callV X dX7_counts_30 kX7_57 hm.1 (c_X7_isWrong (CX_l X) D z0 _ hm 1 ⟨by omega, by omega⟩) [] rfl rfl (Nat.le_of_ble_eq_true rfl) (by decide) (by decide) (fun _ _ z => z.elim) (fun v9 hq30 hv9 => ?_)
      obtain ⟨rfl, hm30, kp30⟩ := hv9
      show WW K D z0 6 hq30 0 0 33 [(0, .ref y), (1, iv w), (2, iv p)] [iv 1]
      refine r_if_eq 38 X dX7_counts_33 (by decide) ⟨by omega, by omega⟩ (fun c33 => ?_) (fun c33 => ?_)
      · exfalso
        omega
      · refine r_iconst X dX7_counts_36 ?_
        refine r_iret X Y dX7_counts_37 (by decide) (by decide) ?_
        exact MO_w (by unfold cdCn; (try simp only [isNone_f, isNone_t, true_or, or_true, false_or, or_false]); (repeat' split) <;> first | rfl | omega | contradiction | (exfalso; simp_all; done) | (exfalso; simp_all; omega)) (by first | decide | omega) hm30 kp30
    · refine r_iconst X dX7_counts_25 ?_
      refine r_goto 30 X dX7_counts_26 (by decide) ?_
      refine r_callV X dX7_counts_30 kX7_57 hm.1 (c_X7_isWrong (CX_l X) D z0 _ hm 0 ⟨by omega, by omega⟩) [] rfl rfl (Nat.le_of_ble_eq_true rfl) (by decide) (by decide) (fun _ _ z => z.elim) (fun v9 hq30 hv9 => ?_)
      obtain ⟨rfl, hm30, kp30⟩ := hv9
      show WW K D z0 6 hq30 0 0 33 [(0, .ref y), (1, iv w), (2, iv p)] [iv 0]
      refine r_if_eq 38 X dX7_counts_33 (by decide) ⟨by omega, by omega⟩ (fun c33 => ?_) (fun c33 => ?_)
      · refine r_iconst X dX7_counts_38 ?_
        refine r_istore_n (L' := [(3, iv 0), (0, .ref y), (1, iv w), (2, iv p)]) X dX7_counts_39 (by decide) rfl ?_
        refine r_iload_n 3 X dX7_counts_40 rfl ?_
        refine r_iconst X dX7_counts_41 ?_
        refine r_isub X dX7_counts_42 ?_
        refine r_istore (L' := [(4, iv (p - 1)), (3, iv 0), (0, .ref y), (1, iv w), (2, iv p)]) X dX7_counts_43 (by decide) rfl ?_
        refine r_iload_n 3 X dX7_counts_45 rfl ?_
        refine r_bipush X dX7_counts_46 (by decide) ?_
        refine r_icmp_ne 99 X dX7_counts_48 (by decide) ⟨by omega, by omega⟩ ⟨by omega, by omega⟩ (fun c48 => ?_) (fun c48 => ?_)
        · refine r_iconst X dX7_counts_99 ?_
          refine r_istore (L' := [(5, iv 1), (4, iv (p - 1)), (3, iv 0), (0, .ref y), (1, iv w), (2, iv p)]) X dX7_counts_100 (by decide) rfl ?_
          have hpn : p = (n : Int) := by omega
          have hnn := Nat.mul_le_mul (show n ≤ 1000 by omega) (show n ≤ 1000 by omega)
          have hpp : p * p = ((n * n : Nat) : Int) := by
            rw [hpn]
            rfl
          obtain ⟨R, hR⟩ : ∃ R, R = aL n n 1 (n - 1) := ⟨_, rfl⟩
          have loop : ∀ (m a b c : Nat), b < a + m → 1 ≤ a → a ≤ n + 1 → b ≤ n → c ≤ a → c + aL n m a b = R → WW K D z0 6 hq30 0 0 109 [(5, iv (a : Int)), (4, iv (b : Int)), (3, iv (c : Int)), (2, iv p)] [] := by
            intro m
            induction m with
            | zero =>
              intro a b c hab ha1 ha hb9 hca he
              refine r_iload 0 X dX7_counts_109 rfl ?_
              refine r_iload 1 X dX7_counts_111 rfl ?_
              refine r_icmp_ge 139 X dX7_counts_113 (by decide) ⟨by omega, by omega⟩ ⟨by omega, by omega⟩ (fun c113 => ?_) (fun c113 => ?_)
              · refine r_iload_n 2 X dX7_counts_139 rfl ?_
                refine r_iload 0 X dX7_counts_140 rfl ?_
                refine r_iload 1 X dX7_counts_142 rfl ?_
                refine r_icmp_ge 168 X dX7_counts_144 (by decide) ⟨by omega, by omega⟩ ⟨by omega, by omega⟩ (fun c144 => ?_) (fun c144 => ?_)
                · refine r_iconst X dX7_counts_168 ?_
                  refine r_iadd X dX7_counts_169 ?_
                  refine r_istore_n (L' := [(3, iv ((c : Int) + 0)), (5, iv (a : Int)), (4, iv (b : Int)), (2, iv p)]) X dX7_counts_170 (by decide) rfl ?_
                  refine r_iinc 1 (L' := [(5, iv ((a : Int) + 1)), (3, iv ((c : Int) + 0)), (4, iv (b : Int)), (2, iv p)]) X dX7_counts_171 rfl (by decide) rfl ?_
                  refine r_goto 102 X dX7_counts_174 (by decide) ?_
                  refine r_iload 0 X dX7_counts_102 rfl ?_
                  refine r_iload 2 X dX7_counts_104 rfl ?_
                  refine r_icmp_ge 177 X dX7_counts_106 (by decide) ⟨by omega, by omega⟩ ⟨by omega, by omega⟩ (fun c106 => ?_) (fun c106 => ?_)
                  · refine r_iload_n 1 X dX7_counts_177 rfl ?_
                    refine r_iret X Y dX7_counts_178 (by decide) (by decide) ?_
                    have he2 : ((c : Int) + 0) = (R : Int) := by
                      rw [aL_n _ _ _ _ (show ¬ a < b by omega)] at he
                      omega
                    exact MO_k (if_pos (by omega)) rfl (congrArg iv (show (c : Int) + 0 = vCn w p by unfold vCn; rw [if_pos (by omega), ← hn, ← hR]; omega)) hm30 kp30
                  · exfalso
                    omega
                · exfalso
                  omega
              · exfalso
                omega
            | succ m ih =>
              intro a b c hab ha1 ha hb9 hca he
              have hxx := Nat.mul_le_mul (show a ≤ 1001 by omega) (show a ≤ 1001 by omega)
              have hyy := Nat.mul_le_mul (show b ≤ 1000 by omega) (show b ≤ 1000 by omega)
              refine r_iload 0 X dX7_counts_109 rfl ?_
              refine r_iload 1 X dX7_counts_111 rfl ?_
              refine r_icmp_ge 139 X dX7_counts_113 (by decide) ⟨by omega, by omega⟩ ⟨by omega, by omega⟩ (fun c113 => ?_) (fun c113 => ?_)
              · refine r_iload_n 2 X dX7_counts_139 rfl ?_
                refine r_iload 0 X dX7_counts_140 rfl ?_
                refine r_iload 1 X dX7_counts_142 rfl ?_
                refine r_icmp_ge 168 X dX7_counts_144 (by decide) ⟨by omega, by omega⟩ ⟨by omega, by omega⟩ (fun c144 => ?_) (fun c144 => ?_)
                · refine r_iconst X dX7_counts_168 ?_
                  refine r_iadd X dX7_counts_169 ?_
                  refine r_istore_n (L' := [(3, iv ((c : Int) + 0)), (5, iv (a : Int)), (4, iv (b : Int)), (2, iv p)]) X dX7_counts_170 (by decide) rfl ?_
                  refine r_iinc 1 (L' := [(5, iv ((a : Int) + 1)), (3, iv ((c : Int) + 0)), (4, iv (b : Int)), (2, iv p)]) X dX7_counts_171 rfl (by decide) rfl ?_
                  refine r_goto 102 X dX7_counts_174 (by decide) ?_
                  refine r_iload 0 X dX7_counts_102 rfl ?_
                  refine r_iload 2 X dX7_counts_104 rfl ?_
                  refine r_icmp_ge 177 X dX7_counts_106 (by decide) ⟨by omega, by omega⟩ ⟨by omega, by omega⟩ (fun c106 => ?_) (fun c106 => ?_)
                  · refine r_iload_n 1 X dX7_counts_177 rfl ?_
                    refine r_iret X Y dX7_counts_178 (by decide) (by decide) ?_
                    have he2 : ((c : Int) + 0) = (R : Int) := by
                      by_cases hab : a < b
                      · rw [aL_s, if_pos hab, if_pos (show a * a + b * b ≤ n * n by omega), aL_n _ _ _ _ (show ¬ a + 1 < b by omega)] at he
                        split at he <;> omega
                      · rw [aL_n _ _ _ _ hab] at he
                        omega
                    exact MO_k (if_pos (by omega)) rfl (congrArg iv (show (c : Int) + 0 = vCn w p by unfold vCn; rw [if_pos (by omega), ← hn, ← hR]; omega)) hm30 kp30
                  · refine WW_sub (L' := [(5, iv ((a : Int) + 1)), (4, iv (b : Int)), (3, iv ((c : Int) + 0)), (2, iv p)]) [0, 2, 1, 3] rfl ?_
                    rw [show (c : Int) + 0 = ((c : Nat) : Int) by omega, show (a : Int) + 1 = ((a + 1 : Nat) : Int) by omega]
                    rw [aL_s, if_pos (show a < b by omega), if_neg (show ¬ a * a + b * b = n * n by omega), if_pos (show a * a + b * b ≤ n * n by omega)] at he
                    exact ih (a + 1) b c (by omega) (by omega) (by omega) (by omega) (by omega) (by omega)
                · refine r_iload 0 X dX7_counts_147 rfl ?_
                  refine r_iload 0 X dX7_counts_149 rfl ?_
                  refine r_imul X dX7_counts_151 ?_
                  refine r_iload 1 X dX7_counts_152 rfl ?_
                  refine r_iload 1 X dX7_counts_154 rfl ?_
                  refine r_imul X dX7_counts_156 ?_
                  refine r_iadd X dX7_counts_157 ?_
                  refine r_iload_n 3 X dX7_counts_158 rfl ?_
                  refine r_iload_n 3 X dX7_counts_159 rfl ?_
                  refine r_imul X dX7_counts_160 ?_
                  refine r_icmp_ne 168 X dX7_counts_161 (by decide) ⟨by omega, by omega⟩ ⟨by omega, by omega⟩ (fun c161 => ?_) (fun c161 => ?_)
                  · refine r_iconst X dX7_counts_168 ?_
                    refine r_iadd X dX7_counts_169 ?_
                    refine r_istore_n (L' := [(3, iv ((c : Int) + 0)), (5, iv (a : Int)), (4, iv (b : Int)), (2, iv p)]) X dX7_counts_170 (by decide) rfl ?_
                    refine r_iinc 1 (L' := [(5, iv ((a : Int) + 1)), (3, iv ((c : Int) + 0)), (4, iv (b : Int)), (2, iv p)]) X dX7_counts_171 rfl (by decide) rfl ?_
                    refine r_goto 102 X dX7_counts_174 (by decide) ?_
                    refine r_iload 0 X dX7_counts_102 rfl ?_
                    refine r_iload 2 X dX7_counts_104 rfl ?_
                    refine r_icmp_ge 177 X dX7_counts_106 (by decide) ⟨by omega, by omega⟩ ⟨by omega, by omega⟩ (fun c106 => ?_) (fun c106 => ?_)
                    · refine r_iload_n 1 X dX7_counts_177 rfl ?_
                      refine r_iret X Y dX7_counts_178 (by decide) (by decide) ?_
                      have he2 : ((c : Int) + 0) = (R : Int) := by
                        by_cases hab : a < b
                        · rw [aL_s, if_pos hab, if_pos (show a * a + b * b ≤ n * n by omega), aL_n _ _ _ _ (show ¬ a + 1 < b by omega)] at he
                          split at he <;> omega
                        · rw [aL_n _ _ _ _ hab] at he
                          omega
                      exact MO_k (if_pos (by omega)) rfl (congrArg iv (show (c : Int) + 0 = vCn w p by unfold vCn; rw [if_pos (by omega), ← hn, ← hR]; omega)) hm30 kp30
                    · refine WW_sub (L' := [(5, iv ((a : Int) + 1)), (4, iv (b : Int)), (3, iv ((c : Int) + 0)), (2, iv p)]) [0, 2, 1, 3] rfl ?_
                      rw [show (c : Int) + 0 = ((c : Nat) : Int) by omega, show (a : Int) + 1 = ((a + 1 : Nat) : Int) by omega]
                      rw [aL_s, if_pos (show a < b by omega), if_neg (show ¬ a * a + b * b = n * n by omega), if_pos (show a * a + b * b ≤ n * n by omega)] at he
                      exact ih (a + 1) b c (by omega) (by omega) (by omega) (by omega) (by omega) (by omega)
                  · refine r_iconst X dX7_counts_164 ?_
                    refine r_goto 169 X dX7_counts_165 (by decide) ?_
                    refine r_iadd X dX7_counts_169 ?_
                    refine r_istore_n (L' := [(3, iv ((c : Int) + 1)), (5, iv (a : Int)), (4, iv (b : Int)), (2, iv p)]) X dX7_counts_170 (by decide) rfl ?_
                    refine r_iinc 1 (L' := [(5, iv ((a : Int) + 1)), (3, iv ((c : Int) + 1)), (4, iv (b : Int)), (2, iv p)]) X dX7_counts_171 rfl (by decide) rfl ?_
                    refine r_goto 102 X dX7_counts_174 (by decide) ?_
                    refine r_iload 0 X dX7_counts_102 rfl ?_
                    refine r_iload 2 X dX7_counts_104 rfl ?_
                    refine r_icmp_ge 177 X dX7_counts_106 (by decide) ⟨by omega, by omega⟩ ⟨by omega, by omega⟩ (fun c106 => ?_) (fun c106 => ?_)
                    · refine r_iload_n 1 X dX7_counts_177 rfl ?_
                      refine r_iret X Y dX7_counts_178 (by decide) (by decide) ?_
                      have he2 : ((c : Int) + 1) = (R : Int) := by
                        by_cases hab : a < b
                        · rw [aL_s, if_pos hab, if_pos (show a * a + b * b ≤ n * n by omega), aL_n _ _ _ _ (show ¬ a + 1 < b by omega)] at he
                          split at he <;> omega
                        · rw [aL_n _ _ _ _ hab] at he
                          omega
                      exact MO_k (if_pos (by omega)) rfl (congrArg iv (show (c : Int) + 1 = vCn w p by unfold vCn; rw [if_pos (by omega), ← hn, ← hR]; omega)) hm30 kp30
                    · refine WW_sub (L' := [(5, iv ((a : Int) + 1)), (4, iv (b : Int)), (3, iv ((c : Int) + 1)), (2, iv p)]) [0, 2, 1, 3] rfl ?_
                      rw [show (c : Int) + 1 = (((c + 1) : Nat) : Int) by omega, show (a : Int) + 1 = ((a + 1 : Nat) : Int) by omega]
                      rw [aL_s, if_pos (show a < b by omega), if_pos (show a * a + b * b = n * n by omega), if_pos (show a * a + b * b ≤ n * n by omega)] at he
                      exact ih (a + 1) b (c + 1) (by omega) (by omega) (by omega) (by omega) (by omega) (by omega)
              · refine r_iload 0 X dX7_counts_116 rfl ?_
                refine r_iload 0 X dX7_counts_118 rfl ?_
                refine r_imul X dX7_counts_120 ?_
                refine r_iload 1 X dX7_counts_121 rfl ?_
                refine r_iload 1 X dX7_counts_123 rfl ?_
                refine r_imul X dX7_counts_125 ?_
                refine r_iadd X dX7_counts_126 ?_
                refine r_iload_n 3 X dX7_counts_127 rfl ?_
                refine r_iload_n 3 X dX7_counts_128 rfl ?_
                refine r_imul X dX7_counts_129 ?_
                refine r_icmp_le 139 X dX7_counts_130 (by decide) ⟨by omega, by omega⟩ ⟨by omega, by omega⟩ (fun c130 => ?_) (fun c130 => ?_)
                · refine r_iload_n 2 X dX7_counts_139 rfl ?_
                  refine r_iload 0 X dX7_counts_140 rfl ?_
                  refine r_iload 1 X dX7_counts_142 rfl ?_
                  refine r_icmp_ge 168 X dX7_counts_144 (by decide) ⟨by omega, by omega⟩ ⟨by omega, by omega⟩ (fun c144 => ?_) (fun c144 => ?_)
                  · refine r_iconst X dX7_counts_168 ?_
                    refine r_iadd X dX7_counts_169 ?_
                    refine r_istore_n (L' := [(3, iv ((c : Int) + 0)), (5, iv (a : Int)), (4, iv (b : Int)), (2, iv p)]) X dX7_counts_170 (by decide) rfl ?_
                    refine r_iinc 1 (L' := [(5, iv ((a : Int) + 1)), (3, iv ((c : Int) + 0)), (4, iv (b : Int)), (2, iv p)]) X dX7_counts_171 rfl (by decide) rfl ?_
                    refine r_goto 102 X dX7_counts_174 (by decide) ?_
                    refine r_iload 0 X dX7_counts_102 rfl ?_
                    refine r_iload 2 X dX7_counts_104 rfl ?_
                    refine r_icmp_ge 177 X dX7_counts_106 (by decide) ⟨by omega, by omega⟩ ⟨by omega, by omega⟩ (fun c106 => ?_) (fun c106 => ?_)
                    · refine r_iload_n 1 X dX7_counts_177 rfl ?_
                      refine r_iret X Y dX7_counts_178 (by decide) (by decide) ?_
                      have he2 : ((c : Int) + 0) = (R : Int) := by
                        by_cases hab : a < b
                        · rw [aL_s, if_pos hab, if_pos (show a * a + b * b ≤ n * n by omega), aL_n _ _ _ _ (show ¬ a + 1 < b by omega)] at he
                          split at he <;> omega
                        · rw [aL_n _ _ _ _ hab] at he
                          omega
                      exact MO_k (if_pos (by omega)) rfl (congrArg iv (show (c : Int) + 0 = vCn w p by unfold vCn; rw [if_pos (by omega), ← hn, ← hR]; omega)) hm30 kp30
                    · refine WW_sub (L' := [(5, iv ((a : Int) + 1)), (4, iv (b : Int)), (3, iv ((c : Int) + 0)), (2, iv p)]) [0, 2, 1, 3] rfl ?_
                      rw [show (c : Int) + 0 = ((c : Nat) : Int) by omega, show (a : Int) + 1 = ((a + 1 : Nat) : Int) by omega]
                      rw [aL_s, if_pos (show a < b by omega), if_neg (show ¬ a * a + b * b = n * n by omega), if_pos (show a * a + b * b ≤ n * n by omega)] at he
                      exact ih (a + 1) b c (by omega) (by omega) (by omega) (by omega) (by omega) (by omega)
                  · refine r_iload 0 X dX7_counts_147 rfl ?_
                    refine r_iload 0 X dX7_counts_149 rfl ?_
                    refine r_imul X dX7_counts_151 ?_
                    refine r_iload 1 X dX7_counts_152 rfl ?_
                    refine r_iload 1 X dX7_counts_154 rfl ?_
                    refine r_imul X dX7_counts_156 ?_
                    refine r_iadd X dX7_counts_157 ?_
                    refine r_iload_n 3 X dX7_counts_158 rfl ?_
                    refine r_iload_n 3 X dX7_counts_159 rfl ?_
                    refine r_imul X dX7_counts_160 ?_
                    refine r_icmp_ne 168 X dX7_counts_161 (by decide) ⟨by omega, by omega⟩ ⟨by omega, by omega⟩ (fun c161 => ?_) (fun c161 => ?_)
                    · refine r_iconst X dX7_counts_168 ?_
                      refine r_iadd X dX7_counts_169 ?_
                      refine r_istore_n (L' := [(3, iv ((c : Int) + 0)), (5, iv (a : Int)), (4, iv (b : Int)), (2, iv p)]) X dX7_counts_170 (by decide) rfl ?_
                      refine r_iinc 1 (L' := [(5, iv ((a : Int) + 1)), (3, iv ((c : Int) + 0)), (4, iv (b : Int)), (2, iv p)]) X dX7_counts_171 rfl (by decide) rfl ?_
                      refine r_goto 102 X dX7_counts_174 (by decide) ?_
                      refine r_iload 0 X dX7_counts_102 rfl ?_
                      refine r_iload 2 X dX7_counts_104 rfl ?_
                      refine r_icmp_ge 177 X dX7_counts_106 (by decide) ⟨by omega, by omega⟩ ⟨by omega, by omega⟩ (fun c106 => ?_) (fun c106 => ?_)
                      · refine r_iload_n 1 X dX7_counts_177 rfl ?_
                        refine r_iret X Y dX7_counts_178 (by decide) (by decide) ?_
                        have he2 : ((c : Int) + 0) = (R : Int) := by
                          by_cases hab : a < b
                          · rw [aL_s, if_pos hab, if_pos (show a * a + b * b ≤ n * n by omega), aL_n _ _ _ _ (show ¬ a + 1 < b by omega)] at he
                            split at he <;> omega
                          · rw [aL_n _ _ _ _ hab] at he
                            omega
                        exact MO_k (if_pos (by omega)) rfl (congrArg iv (show (c : Int) + 0 = vCn w p by unfold vCn; rw [if_pos (by omega), ← hn, ← hR]; omega)) hm30 kp30
                      · refine WW_sub (L' := [(5, iv ((a : Int) + 1)), (4, iv (b : Int)), (3, iv ((c : Int) + 0)), (2, iv p)]) [0, 2, 1, 3] rfl ?_
                        rw [show (c : Int) + 0 = ((c : Nat) : Int) by omega, show (a : Int) + 1 = ((a + 1 : Nat) : Int) by omega]
                        rw [aL_s, if_pos (show a < b by omega), if_neg (show ¬ a * a + b * b = n * n by omega), if_pos (show a * a + b * b ≤ n * n by omega)] at he
                        exact ih (a + 1) b c (by omega) (by omega) (by omega) (by omega) (by omega) (by omega)
                    · refine r_iconst X dX7_counts_164 ?_
                      refine r_goto 169 X dX7_counts_165 (by decide) ?_
                      refine r_iadd X dX7_counts_169 ?_
                      refine r_istore_n (L' := [(3, iv ((c : Int) + 1)), (5, iv (a : Int)), (4, iv (b : Int)), (2, iv p)]) X dX7_counts_170 (by decide) rfl ?_
                      refine r_iinc 1 (L' := [(5, iv ((a : Int) + 1)), (3, iv ((c : Int) + 1)), (4, iv (b : Int)), (2, iv p)]) X dX7_counts_171 rfl (by decide) rfl ?_
                      refine r_goto 102 X dX7_counts_174 (by decide) ?_
                      refine r_iload 0 X dX7_counts_102 rfl ?_
                      refine r_iload 2 X dX7_counts_104 rfl ?_
                      refine r_icmp_ge 177 X dX7_counts_106 (by decide) ⟨by omega, by omega⟩ ⟨by omega, by omega⟩ (fun c106 => ?_) (fun c106 => ?_)
                      · refine r_iload_n 1 X dX7_counts_177 rfl ?_
                        refine r_iret X Y dX7_counts_178 (by decide) (by decide) ?_
                        have he2 : ((c : Int) + 1) = (R : Int) := by
                          by_cases hab : a < b
                          · rw [aL_s, if_pos hab, if_pos (show a * a + b * b ≤ n * n by omega), aL_n _ _ _ _ (show ¬ a + 1 < b by omega)] at he
                            split at he <;> omega
                          · rw [aL_n _ _ _ _ hab] at he
                            omega
                        exact MO_k (if_pos (by omega)) rfl (congrArg iv (show (c : Int) + 1 = vCn w p by unfold vCn; rw [if_pos (by omega), ← hn, ← hR]; omega)) hm30 kp30
                      · refine WW_sub (L' := [(5, iv ((a : Int) + 1)), (4, iv (b : Int)), (3, iv ((c : Int) + 1)), (2, iv p)]) [0, 2, 1, 3] rfl ?_
                        rw [show (c : Int) + 1 = (((c + 1) : Nat) : Int) by omega, show (a : Int) + 1 = ((a + 1 : Nat) : Int) by omega]
                        rw [aL_s, if_pos (show a < b by omega), if_pos (show a * a + b * b = n * n by omega), if_pos (show a * a + b * b ≤ n * n by omega)] at he
                        exact ih (a + 1) b (c + 1) (by omega) (by omega) (by omega) (by omega) (by omega) (by omega)
                · refine r_iinc 1 (L' := [(4, iv ((b : Int) + (-1))), (5, iv (a : Int)), (3, iv (c : Int)), (2, iv p)]) X dX7_counts_133 rfl (by decide) rfl ?_
                  refine r_goto 109 X dX7_counts_136 (by decide) ?_
                  refine WW_sub (L' := [(5, iv (a : Int)), (4, iv ((b : Int) + (-1))), (3, iv (c : Int)), (2, iv p)]) [1, 0, 2, 3] rfl ?_
                  rw [show (b : Int) + (-1) = ((b - 1 : Nat) : Int) by omega]
                  rw [aL_s, if_pos (show a < b by omega), if_neg (show ¬ a * a + b * b = n * n by omega), if_neg (show ¬ a * a + b * b ≤ n * n by omega)] at he
                  exact ih a (b - 1) c (by omega) (by omega) (by omega) (by omega) (by omega) (by omega)
          refine r_iload 0 X dX7_counts_102 rfl ?_
          refine r_iload 1 X dX7_counts_104 rfl ?_
          refine r_icmp_ge 177 X dX7_counts_106 (by decide) ⟨by omega, by omega⟩ ⟨by omega, by omega⟩ (fun c106 => ?_) (fun c106 => ?_)
          · refine r_iload_n 2 X dX7_counts_177 rfl ?_
            refine r_iret X Y dX7_counts_178 (by decide) (by decide) ?_
            have hz9 : aL n n 1 (n - 1) = 0 := aL_n _ _ _ _ (by omega)
            exact MO_k (if_pos (by omega)) rfl (congrArg iv (show 0 = vCn w p by unfold vCn; rw [if_pos (by omega), ← hn, ← hR]; omega)) hm30 kp30
          · refine WW_sub (L' := [(5, iv 1), (4, iv (p - 1)), (3, iv 0), (2, iv p)]) [0, 1, 2, 5] rfl ?_
            rw [show p - 1 = ((n - 1 : Nat) : Int) by omega]
            exact loop n 1 (n - 1) 0 (by omega) (by omega) (by omega) (by omega) (by omega) (by omega)
        · refine r_iconst X dX7_counts_51 ?_
          refine r_istore (L' := [(5, iv 1), (4, iv (p - 1)), (3, iv 0), (0, .ref y), (1, iv w), (2, iv p)]) X dX7_counts_52 (by decide) rfl ?_
          exfalso
          omega
      · exfalso
        omega
  · refine r_iload_n 1 X dX7_counts_7 rfl ?_
    refine r_bipush X dX7_counts_8 (by decide) ?_
    refine r_icmp_ne 29 X dX7_counts_10 (by decide) ⟨by omega, by omega⟩ ⟨by omega, by omega⟩ (fun c10 => ?_) (fun c10 => ?_)
    · refine r_iconst X dX7_counts_29 ?_
      refine r_callV X dX7_counts_30 kX7_57 hm.1 (c_X7_isWrong (CX_l X) D z0 _ hm 1 ⟨by omega, by omega⟩) [] rfl rfl (Nat.le_of_ble_eq_true rfl) (by decide) (by decide) (fun _ _ z => z.elim) (fun v9 hq30 hv9 => ?_)
      obtain ⟨rfl, hm30, kp30⟩ := hv9
      show WW K D z0 6 hq30 0 0 33 [(0, .ref y), (1, iv w), (2, iv p)] [iv 1]
      refine r_if_eq 38 X dX7_counts_33 (by decide) ⟨by omega, by omega⟩ (fun c33 => ?_) (fun c33 => ?_)
      · exfalso
        omega
      · refine r_iconst X dX7_counts_36 ?_
        refine r_iret X Y dX7_counts_37 (by decide) (by decide) ?_
        exact MO_w (by unfold cdCn; (try simp only [isNone_f, isNone_t, true_or, or_true, false_or, or_false]); (repeat' split) <;> first | rfl | omega | contradiction | (exfalso; simp_all; done) | (exfalso; simp_all; omega)) (by first | decide | omega) hm30 kp30
    · refine r_iload_n 2 X dX7_counts_13 rfl ?_
      refine r_i2l X dX7_counts_14 ⟨by omega, by omega⟩ ?_
      refine r_lconst 1 X dX7_counts_15 (by decide) ?_
      refine r_ldc2 1000 X dX7_counts_16 nX7_181 (by decide) ?_
      refine r_callS_v X dX7_counts_19 kX7_37 (c_X7_isBetween (CX_l X) D z0 _ p 1 1000 ⟨by omega, by omega⟩ ⟨by omega, by omega⟩ ⟨by omega, by omega⟩) [.ref y] rfl rfl (Nat.le_of_ble_eq_true rfl) (by decide) rfl rfl (by decide) ?_
      refine r_ifb_eq 29 X dX7_counts_22 (by decide) (fun c22 => ?_) (fun c22 => ?_)
      · refine r_iconst X dX7_counts_29 ?_
        refine r_callV X dX7_counts_30 kX7_57 hm.1 (c_X7_isWrong (CX_l X) D z0 _ hm 1 ⟨by omega, by omega⟩) [] rfl rfl (Nat.le_of_ble_eq_true rfl) (by decide) (by decide) (fun _ _ z => z.elim) (fun v9 hq30 hv9 => ?_)
        obtain ⟨rfl, hm30, kp30⟩ := hv9
        show WW K D z0 6 hq30 0 0 33 [(0, .ref y), (1, iv w), (2, iv p)] [iv 1]
        refine r_if_eq 38 X dX7_counts_33 (by decide) ⟨by omega, by omega⟩ (fun c33 => ?_) (fun c33 => ?_)
        · exfalso
          omega
        · refine r_iconst X dX7_counts_36 ?_
          refine r_iret X Y dX7_counts_37 (by decide) (by decide) ?_
          exact MO_w (by unfold cdCn; (try simp only [isNone_f, isNone_t, true_or, or_true, false_or, or_false]); (repeat' split) <;> first | rfl | omega | contradiction | (exfalso; simp_all; done) | (exfalso; simp_all; omega)) (by first | decide | omega) hm30 kp30
      · refine r_iconst X dX7_counts_25 ?_
        refine r_goto 30 X dX7_counts_26 (by decide) ?_
        refine r_callV X dX7_counts_30 kX7_57 hm.1 (c_X7_isWrong (CX_l X) D z0 _ hm 0 ⟨by omega, by omega⟩) [] rfl rfl (Nat.le_of_ble_eq_true rfl) (by decide) (by decide) (fun _ _ z => z.elim) (fun v9 hq30 hv9 => ?_)
        obtain ⟨rfl, hm30, kp30⟩ := hv9
        show WW K D z0 6 hq30 0 0 33 [(0, .ref y), (1, iv w), (2, iv p)] [iv 0]
        refine r_if_eq 38 X dX7_counts_33 (by decide) ⟨by omega, by omega⟩ (fun c33 => ?_) (fun c33 => ?_)
        · refine r_iconst X dX7_counts_38 ?_
          refine r_istore_n (L' := [(3, iv 0), (0, .ref y), (1, iv w), (2, iv p)]) X dX7_counts_39 (by decide) rfl ?_
          refine r_iload_n 3 X dX7_counts_40 rfl ?_
          refine r_iconst X dX7_counts_41 ?_
          refine r_isub X dX7_counts_42 ?_
          refine r_istore (L' := [(4, iv (p - 1)), (3, iv 0), (0, .ref y), (1, iv w), (2, iv p)]) X dX7_counts_43 (by decide) rfl ?_
          refine r_iload_n 3 X dX7_counts_45 rfl ?_
          refine r_bipush X dX7_counts_46 (by decide) ?_
          refine r_icmp_ne 99 X dX7_counts_48 (by decide) ⟨by omega, by omega⟩ ⟨by omega, by omega⟩ (fun c48 => ?_) (fun c48 => ?_)
          · refine r_iconst X dX7_counts_99 ?_
            refine r_istore (L' := [(5, iv 1), (4, iv (p - 1)), (3, iv 0), (0, .ref y), (1, iv w), (2, iv p)]) X dX7_counts_100 (by decide) rfl ?_
            exfalso
            omega
          · refine r_iconst X dX7_counts_51 ?_
            refine r_istore (L' := [(5, iv 1), (4, iv (p - 1)), (3, iv 0), (0, .ref y), (1, iv w), (2, iv p)]) X dX7_counts_52 (by decide) rfl ?_
            have hpn : p = (n : Int) := by omega
            have hnn := Nat.mul_le_mul (show n ≤ 1000 by omega) (show n ≤ 1000 by omega)
            have hpp : p * p = ((n * n : Nat) : Int) := by
              rw [hpn]
              rfl
            have loop : ∀ (q i : Nat), i + q + 1 = n → WW K D z0 6 hq30 0 0 54 [(5, iv ((i + 1 : Nat) : Int)), (3, iv (lgN n i : Int)), (2, iv p)] [] := by
              intro q
              induction q with
              | zero =>
                intro i hi9
                refine r_iload 0 X dX7_counts_54 rfl ?_
                refine r_iload_n 2 X dX7_counts_56 rfl ?_
                refine r_icmp_ge 97 X dX7_counts_57 (by decide) ⟨by omega, by omega⟩ ⟨by omega, by omega⟩ (fun c57 => ?_) (fun c57 => ?_)
                · refine r_iload_n 1 X dX7_counts_97 rfl ?_
                  refine r_iret X Y dX7_counts_98 (by decide) (by decide) ?_
                  exact MO_k (if_pos (by omega)) rfl (congrArg iv (show ((lgN n i : Nat) : Int) = vCn w p by unfold vCn; rw [if_neg (by omega), ← hn, show i = n - 1 by omega])) hm30 kp30
                · exfalso
                  omega
              | succ q ih =>
                intro i hi9
                have hlb := lgN_b n i
                obtain ⟨R1, hR1⟩ : ∃ R1, R1 = n * n % (i + 1) := ⟨_, rfl⟩
                obtain ⟨D1, hD1⟩ : ∃ D1, D1 = n * n / (i + 1) := ⟨_, rfl⟩
                have hrl : R1 < i + 1 := by rw [hR1]; exact Nat.mod_lt _ (by omega)
                have hdl : i + 1 ≤ D1 := by
                  rw [hD1]
                  exact (Nat.le_div_iff_mul_le (by omega)).mpr (Nat.mul_le_mul (by omega) (by omega))
                have hdu : D1 ≤ n * n := by rw [hD1]; exact Nat.div_le_self _ _
                refine r_iload 0 X dX7_counts_54 rfl ?_
                refine r_iload_n 2 X dX7_counts_56 rfl ?_
                refine r_icmp_ge 97 X dX7_counts_57 (by decide) ⟨by omega, by omega⟩ ⟨by omega, by omega⟩ (fun c57 => ?_) (fun c57 => ?_)
                · exfalso
                  omega
                · refine r_iload_n 1 X dX7_counts_60 rfl ?_
                  refine r_iload_n 2 X dX7_counts_61 rfl ?_
                  refine r_iload_n 2 X dX7_counts_62 rfl ?_
                  refine r_imul X dX7_counts_63 ?_
                  refine r_iload 0 X dX7_counts_64 rfl ?_
                  refine r_irem X dX7_counts_66 ⟨by omega, by omega⟩ ⟨by omega, by omega⟩ ?_
                  refine WW_e (congrArg (fun z => iv z :: [iv (lgN n i : Int)]) (show (p * p) % ((i + 1 : Nat) : Int) = (R1 : Int) by rw [hpp, hR1]; rfl)) ?_
                  show WW K D z0 6 hq30 0 0 67 [(5, iv ((i + 1 : Nat) : Int)), (3, iv (lgN n i : Int)), (2, iv p)] [iv (R1 : Int), iv (lgN n i : Int)]
                  refine r_if_ne 88 X dX7_counts_67 (by decide) ⟨by omega, by omega⟩ (fun c67 => ?_) (fun c67 => ?_)
                  · refine r_iconst X dX7_counts_88 ?_
                    refine r_iadd X dX7_counts_89 ?_
                    refine r_istore_n (L' := [(3, iv ((lgN n i : Int) + 0)), (5, iv ((i + 1 : Nat) : Int)), (2, iv p)]) X dX7_counts_90 (by decide) rfl ?_
                    refine r_iinc 1 (L' := [(5, iv (((i + 1 : Nat) : Int) + 1)), (3, iv ((lgN n i : Int) + 0)), (2, iv p)]) X dX7_counts_91 rfl (by decide) rfl ?_
                    refine r_goto 54 X dX7_counts_94 (by decide) ?_
                    rw [show (lgN n i : Int) + 0 = ((lgN n (i + 1) : Nat) : Int) by
                      rw [lgN_s, ← hR1, ← hD1]
                      split <;> omega, show ((i + 1 : Nat) : Int) + 1 = ((i + 1 + 1 : Nat) : Int) from rfl]
                    exact ih (i + 1) (by omega)
                  · refine r_iload_n 2 X dX7_counts_70 rfl ?_
                    refine r_iload_n 2 X dX7_counts_71 rfl ?_
                    refine r_imul X dX7_counts_72 ?_
                    refine r_iload 0 X dX7_counts_73 rfl ?_
                    refine r_idiv X dX7_counts_75 ⟨by omega, by omega⟩ ⟨by omega, by omega⟩ ?_
                    refine WW_e (congrArg (fun z => iv z :: [iv (lgN n i : Int)]) (show (p * p) / ((i + 1 : Nat) : Int) = (D1 : Int) by rw [hpp, hD1]; rfl)) ?_
                    show WW K D z0 6 hq30 0 0 76 [(5, iv ((i + 1 : Nat) : Int)), (3, iv (lgN n i : Int)), (2, iv p)] [iv (D1 : Int), iv (lgN n i : Int)]
                    refine r_iload 0 X dX7_counts_76 rfl ?_
                    refine r_iadd X dX7_counts_78 ?_
                    refine r_iconst X dX7_counts_79 ?_
                    refine r_irem X dX7_counts_80 ⟨by omega, by omega⟩ ⟨by omega, by omega⟩ ?_
                    refine r_if_ne 88 X dX7_counts_81 (by decide) ⟨by omega, by omega⟩ (fun c81 => ?_) (fun c81 => ?_)
                    · refine r_iconst X dX7_counts_88 ?_
                      refine r_iadd X dX7_counts_89 ?_
                      refine r_istore_n (L' := [(3, iv ((lgN n i : Int) + 0)), (5, iv ((i + 1 : Nat) : Int)), (2, iv p)]) X dX7_counts_90 (by decide) rfl ?_
                      refine r_iinc 1 (L' := [(5, iv (((i + 1 : Nat) : Int) + 1)), (3, iv ((lgN n i : Int) + 0)), (2, iv p)]) X dX7_counts_91 rfl (by decide) rfl ?_
                      refine r_goto 54 X dX7_counts_94 (by decide) ?_
                      rw [show (lgN n i : Int) + 0 = ((lgN n (i + 1) : Nat) : Int) by
                        rw [lgN_s, ← hR1, ← hD1]
                        split <;> omega, show ((i + 1 : Nat) : Int) + 1 = ((i + 1 + 1 : Nat) : Int) from rfl]
                      exact ih (i + 1) (by omega)
                    · refine r_iconst X dX7_counts_84 ?_
                      refine r_goto 89 X dX7_counts_85 (by decide) ?_
                      refine r_iadd X dX7_counts_89 ?_
                      refine r_istore_n (L' := [(3, iv ((lgN n i : Int) + 1)), (5, iv ((i + 1 : Nat) : Int)), (2, iv p)]) X dX7_counts_90 (by decide) rfl ?_
                      refine r_iinc 1 (L' := [(5, iv (((i + 1 : Nat) : Int) + 1)), (3, iv ((lgN n i : Int) + 1)), (2, iv p)]) X dX7_counts_91 rfl (by decide) rfl ?_
                      refine r_goto 54 X dX7_counts_94 (by decide) ?_
                      rw [show (lgN n i : Int) + 1 = ((lgN n (i + 1) : Nat) : Int) by
                        rw [lgN_s, ← hR1, ← hD1]
                        split <;> omega, show ((i + 1 : Nat) : Int) + 1 = ((i + 1 + 1 : Nat) : Int) from rfl]
                      exact ih (i + 1) (by omega)
            refine WW_sub (L' := [(5, iv 1), (3, iv 0), (2, iv p)]) [0, 2, 5] rfl ?_
            exact loop (n - 1) 0 (by omega)
        · exfalso
          omega
abbrev rX7_list : Room := { frames := 1, cells := 0, slots := 0, locals := 25 }
theorem c_X7_list {l : Launch} (hl : l.stackTraces = false) (D : va_G) (z0 : Nat) (h : Hp) {y : Nat} {v : Nat → Nat} {σ : Tg} {e1 e2 e3 od : Nat → Int} {lc oc tc hi lo rf sq : Int} (hm : Mz D h y v (fA σ) (fB σ) (fC σ) e1 e2 e3 od lc oc tc hi lo rf sq) (ht : TVs σ) (w k : Int) (hw : 0 ≤ w ∧ w ≤ 65535) (hk : I32 k) : CC l yX7_list cX7_list 6 (some .int) rX7_list D z0 h [.ref y, iv w, iv k] (fun w0 h' => w0 = some (iv (if cdLi w k = 0 then ((eR k.toNat).length : Int) else 0)) ∧ (cdLi w k = 0 → ∃ (f1 f2 f3 : Nat → Int) (hi lo rf sq : Int), Mz D h' y v (fA σ) (fB σ) (fC σ) f1 f2 f3 od ((eR k.toNat).length : Int) oc 0 hi lo rf sq ∧ EL f1 f2 f3 (eR k.toNat)) ∧ (cdLi w k ≠ 0 → ∃ hi lo rf sq : Int, Mz D h' y v (fA σ) (fB σ) (fC σ) e1 e2 e3 od lc oc 1 hi lo rf sq) ∧ Keep (WM y v) h h') NX := by
  refine CC_of RX7 hl (by decide) rfl (Nat.le_of_ble_eq_true rfl) (fun K X Y Z hmn hKl => ?_)
  subst hKl
  show WW K D z0 6 h 0 0 0 [(0, .ref y), (1, iv w), (2, iv k)] []
  have loop : (0 ≤ k ∧ k ≤ 400) → cdLi w k = 0 → ∀ (q j : Nat) (f1 f2 f3 : Nat → Int) (hA : Hp), j + q = k.toNat → EL f1 f2 f3 (mZ j) → Mz D hA y v (fA σ) (fB σ) (fC σ) f1 f2 f3 od ((mZ j).length : Int) oc 0 hi lo rf sq → Keep (WM y v) h hA → WW K D z0 6 hA 0 0 51 [(3, iv ((j + 1 : Nat) : Int)), (0, .ref y), (2, iv k)] [] := by
    intro hk4 hcd q
    induction q with
    | zero =>
      intro j f1 f2 f3 hA hj hEA hmA kpA
      have hje : mZ k.toNat = eR k.toNat := mZ_eR _ (by omega)
      have hjm : mZ j = mZ k.toNat := by rw [show j = k.toNat from hj]
      refine r_iload_n 0 X dX7_list_51 rfl ?_
      refine r_iload_n 2 X dX7_list_52 rfl ?_
      refine r_icmp_gt 190 X dX7_list_53 (by decide) ⟨by omega, by omega⟩ ⟨by omega, by omega⟩ (fun c53 => ?_) (fun c53 => ?_)
      · refine r_aload_n 1 X dX7_list_190 rfl ?_
        refine r_getf X dX7_list_191 fX7_178 hmA.1 rfl ?_
        refine r_iret X Y dX7_list_194 (by decide) (by decide) ?_
        exact ⟨by rw [if_pos hcd, ← hje, ← hjm], fun _ => ⟨_, _, _, _, _, _, _, by rw [← hje, ← hjm]; exact hmA, by rw [← hje, ← hjm]; exact hEA⟩, fun z9 => absurd hcd z9, kpA⟩
      · exfalso
        omega
    | succ q ihq =>
      intro j f1 f2 f3 hA hj hEA hmA kpA
      refine r_iload_n 0 X dX7_list_51 rfl ?_
      refine r_iload_n 2 X dX7_list_52 rfl ?_
      refine r_icmp_gt 190 X dX7_list_53 (by decide) ⟨by omega, by omega⟩ ⟨by omega, by omega⟩ (fun c53 => ?_) (fun c53 => ?_)
      · exfalso
        omega
      · obtain ⟨z, hz9⟩ : ∃ z, z = j + 1 := ⟨_, rfl⟩
        have ihz : ∀ (z9 : Nat) (f1 f2 f3 : Nat → Int) (hA : Hp), z9 = j + 1 → EL f1 f2 f3 (mZ z9) → Mz D hA y v (fA σ) (fB σ) (fC σ) f1 f2 f3 od ((mZ z9).length : Int) oc 0 hi lo rf sq → Keep (WM y v) h hA → WW K D z0 6 hA 0 0 51 [(3, iv ((z9 + 1 : Nat) : Int)), (0, .ref y), (2, iv k)] [] := by
          intro z9 f1 f2 f3 hA e9 hE9 hm9 kp9
          subst e9
          exact ihq (j + 1) f1 f2 f3 hA (by omega) hE9 hm9 kp9
        have inner : ∀ (m a b : Nat) (r : List Nat) (f1 f2 f3 : Nat → Int) (hB : Hp), b < a + m → 1 ≤ a → a ≤ z + 1 → b ≤ z → mX z m a b r = mZ z → EL f1 f2 f3 r → Mz D hB y v (fA σ) (fB σ) (fC σ) f1 f2 f3 od (r.length : Int) oc 0 hi lo rf sq → Keep (WM y v) h hB → WW K D z0 6 hB 0 0 71 [(5, iv (a : Int)), (4, iv (b : Int)), (3, iv ((z : Nat) : Int)), (0, .ref y), (2, iv k)] [] := by
          intro m
          induction m with
          | zero =>
            intro a b r f1 f2 f3 hB hab ha1 ha hb9 he hE hmB kpB
            have hxx := Nat.mul_le_mul (show a ≤ 401 by omega) (show a ≤ 401 by omega)
            have hyy := Nat.mul_le_mul (show b ≤ 400 by omega) (show b ≤ 400 by omega)
            have hzz := Nat.mul_le_mul (show z ≤ 400 by omega) (show z ≤ 400 by omega)
            refine r_iload 0 X dX7_list_71 rfl ?_
            refine r_iload 1 X dX7_list_73 rfl ?_
            refine r_icmp_ge 101 X dX7_list_75 (by decide) ⟨by omega, by omega⟩ ⟨by omega, by omega⟩ (fun c75 => ?_) (fun c75 => ?_)
            · refine r_iload 0 X dX7_list_101 rfl ?_
              refine r_iload 1 X dX7_list_103 rfl ?_
              refine r_icmp_ge 178 X dX7_list_105 (by decide) ⟨by omega, by omega⟩ ⟨by omega, by omega⟩ (fun c105 => ?_) (fun c105 => ?_)
              · refine r_iinc 0 (L' := [(5, iv ((a : Int) + 1)), (4, iv (b : Int)), (3, iv ((z : Nat) : Int)), (0, .ref y), (2, iv k)]) X dX7_list_178 rfl (by decide) rfl ?_
                refine r_goto 64 X dX7_list_181 (by decide) ?_
                refine r_iload 0 X dX7_list_64 rfl ?_
                refine r_iload 1 X dX7_list_66 rfl ?_
                refine r_icmp_ge 184 X dX7_list_68 (by decide) ⟨by omega, by omega⟩ ⟨by omega, by omega⟩ (fun c68 => ?_) (fun c68 => ?_)
                · refine r_iinc 2 (L' := [(3, iv (((z : Nat) : Int) + 1)), (5, iv ((a : Int) + 1)), (4, iv (b : Int)), (0, .ref y), (2, iv k)]) X dX7_list_184 rfl (by decide) rfl ?_
                  refine r_goto 51 X dX7_list_187 (by decide) ?_
                  refine WW_sub (L' := [(3, iv (((z : Nat) : Int) + 1)), (0, .ref y), (2, iv k)]) [0, 3, 4] rfl ?_
                  rw [mX_n _ _ _ _ _ (show ¬ a < b by omega)] at he
                  rw [show ((z : Nat) : Int) + 1 = ((z + 1 : Nat) : Int) from rfl]
                  exact ihz (z) _ _ _ _ (by omega) (by rw [← he]; exact hE) (by rw [← he]; exact hmB) kpB
                · exfalso
                  omega
              · exfalso
                omega
            · exfalso
              omega
          | succ m ihm =>
            intro a b r f1 f2 f3 hB hab ha1 ha hb9 he hE hmB kpB
            have hxx := Nat.mul_le_mul (show a ≤ 401 by omega) (show a ≤ 401 by omega)
            have hyy := Nat.mul_le_mul (show b ≤ 400 by omega) (show b ≤ 400 by omega)
            have hzz := Nat.mul_le_mul (show z ≤ 400 by omega) (show z ≤ 400 by omega)
            refine r_iload 0 X dX7_list_71 rfl ?_
            refine r_iload 1 X dX7_list_73 rfl ?_
            refine r_icmp_ge 101 X dX7_list_75 (by decide) ⟨by omega, by omega⟩ ⟨by omega, by omega⟩ (fun c75 => ?_) (fun c75 => ?_)
            · refine r_iload 0 X dX7_list_101 rfl ?_
              refine r_iload 1 X dX7_list_103 rfl ?_
              refine r_icmp_ge 178 X dX7_list_105 (by decide) ⟨by omega, by omega⟩ ⟨by omega, by omega⟩ (fun c105 => ?_) (fun c105 => ?_)
              · refine r_iinc 0 (L' := [(5, iv ((a : Int) + 1)), (4, iv (b : Int)), (3, iv ((z : Nat) : Int)), (0, .ref y), (2, iv k)]) X dX7_list_178 rfl (by decide) rfl ?_
                refine r_goto 64 X dX7_list_181 (by decide) ?_
                refine r_iload 0 X dX7_list_64 rfl ?_
                refine r_iload 1 X dX7_list_66 rfl ?_
                refine r_icmp_ge 184 X dX7_list_68 (by decide) ⟨by omega, by omega⟩ ⟨by omega, by omega⟩ (fun c68 => ?_) (fun c68 => ?_)
                · refine r_iinc 2 (L' := [(3, iv (((z : Nat) : Int) + 1)), (5, iv ((a : Int) + 1)), (4, iv (b : Int)), (0, .ref y), (2, iv k)]) X dX7_list_184 rfl (by decide) rfl ?_
                  refine r_goto 51 X dX7_list_187 (by decide) ?_
                  refine WW_sub (L' := [(3, iv (((z : Nat) : Int) + 1)), (0, .ref y), (2, iv k)]) [0, 3, 4] rfl ?_
                  rw [mX_n _ _ _ _ _ (show ¬ a < b by omega)] at he
                  rw [show ((z : Nat) : Int) + 1 = ((z + 1 : Nat) : Int) from rfl]
                  exact ihz (z) _ _ _ _ (by omega) (by rw [← he]; exact hE) (by rw [← he]; exact hmB) kpB
                · exfalso
                  omega
              · refine r_iload 0 X dX7_list_108 rfl ?_
                refine r_iload 0 X dX7_list_110 rfl ?_
                refine r_imul X dX7_list_112 ?_
                refine r_iload 1 X dX7_list_113 rfl ?_
                refine r_iload 1 X dX7_list_115 rfl ?_
                refine r_imul X dX7_list_117 ?_
                refine r_iadd X dX7_list_118 ?_
                refine r_iload_n 2 X dX7_list_119 rfl ?_
                refine r_iload_n 2 X dX7_list_120 rfl ?_
                refine r_imul X dX7_list_121 ?_
                refine r_icmp_ne 178 X dX7_list_122 (by decide) ⟨by omega, by omega⟩ ⟨by omega, by omega⟩ (fun c122 => ?_) (fun c122 => ?_)
                · refine r_iinc 0 (L' := [(5, iv ((a : Int) + 1)), (4, iv (b : Int)), (3, iv ((z : Nat) : Int)), (0, .ref y), (2, iv k)]) X dX7_list_178 rfl (by decide) rfl ?_
                  refine r_goto 64 X dX7_list_181 (by decide) ?_
                  refine r_iload 0 X dX7_list_64 rfl ?_
                  refine r_iload 1 X dX7_list_66 rfl ?_
                  refine r_icmp_ge 184 X dX7_list_68 (by decide) ⟨by omega, by omega⟩ ⟨by omega, by omega⟩ (fun c68 => ?_) (fun c68 => ?_)
                  · refine r_iinc 2 (L' := [(3, iv (((z : Nat) : Int) + 1)), (5, iv ((a : Int) + 1)), (4, iv (b : Int)), (0, .ref y), (2, iv k)]) X dX7_list_184 rfl (by decide) rfl ?_
                    refine r_goto 51 X dX7_list_187 (by decide) ?_
                    refine WW_sub (L' := [(3, iv (((z : Nat) : Int) + 1)), (0, .ref y), (2, iv k)]) [0, 3, 4] rfl ?_
                    rw [mX_s, if_pos (show a < b by omega), if_pos (show a * a + b * b ≤ z * z by omega), if_neg (show ¬ (a * a + b * b = z * z ∧ Nat.gcd a b = 1) from fun q => absurd q.1 (by omega))] at he
                    rw [mX_n _ _ _ _ _ (show ¬ a + 1 < b by omega)] at he
                    rw [show ((z : Nat) : Int) + 1 = ((z + 1 : Nat) : Int) from rfl]
                    exact ihz (z) _ _ _ _ (by omega) (by rw [← he]; exact hE) (by rw [← he]; exact hmB) kpB
                  · rw [mX_s, if_pos (show a < b by omega), if_pos (show a * a + b * b ≤ z * z by omega), if_neg (show ¬ (a * a + b * b = z * z ∧ Nat.gcd a b = 1) from fun q => absurd q.1 (by omega))] at he
                    rw [show (a : Int) + 1 = ((a + 1 : Nat) : Int) by omega]
                    exact ihm (a + 1) b r _ _ _ _ (by omega) (by omega) (by omega) (by omega) he hE hmB kpB
                · refine r_iload 0 X dX7_list_125 rfl ?_
                  refine r_iload 1 X dX7_list_127 rfl ?_
                  refine r_callS_v X dX7_list_129 kX7_79 (c_X7_divisor (CX_l X) D z0 _ (a : Int) (b : Int) ⟨by omega, by omega⟩ ⟨by omega, by omega⟩) [] rfl rfl (Nat.le_of_ble_eq_true rfl) (by decide) rfl rfl (by decide) ?_
                  show WW K D z0 6 hB 0 0 132 [(5, iv (a : Int)), (4, iv (b : Int)), (3, iv ((z : Nat) : Int)), (0, .ref y), (2, iv k)] [iv ((Nat.gcd a b : Nat) : Int)]
                  have hgl : Nat.gcd a b ≤ b := Nat.le_of_dvd (by omega) (Nat.gcd_dvd_right _ _)
                  refine r_iconst X dX7_list_132 ?_
                  refine r_icmp_ne 178 X dX7_list_133 (by decide) ⟨by omega, by omega⟩ ⟨by omega, by omega⟩ (fun c133 => ?_) (fun c133 => ?_)
                  · refine r_iinc 0 (L' := [(5, iv ((a : Int) + 1)), (4, iv (b : Int)), (3, iv ((z : Nat) : Int)), (0, .ref y), (2, iv k)]) X dX7_list_178 rfl (by decide) rfl ?_
                    refine r_goto 64 X dX7_list_181 (by decide) ?_
                    refine r_iload 0 X dX7_list_64 rfl ?_
                    refine r_iload 1 X dX7_list_66 rfl ?_
                    refine r_icmp_ge 184 X dX7_list_68 (by decide) ⟨by omega, by omega⟩ ⟨by omega, by omega⟩ (fun c68 => ?_) (fun c68 => ?_)
                    · refine r_iinc 2 (L' := [(3, iv (((z : Nat) : Int) + 1)), (5, iv ((a : Int) + 1)), (4, iv (b : Int)), (0, .ref y), (2, iv k)]) X dX7_list_184 rfl (by decide) rfl ?_
                      refine r_goto 51 X dX7_list_187 (by decide) ?_
                      refine WW_sub (L' := [(3, iv (((z : Nat) : Int) + 1)), (0, .ref y), (2, iv k)]) [0, 3, 4] rfl ?_
                      rw [mX_s, if_pos (show a < b by omega), if_pos (show a * a + b * b ≤ z * z by omega), if_neg (show ¬ (a * a + b * b = z * z ∧ Nat.gcd a b = 1) from fun q => c133 (by omega))] at he
                      rw [mX_n _ _ _ _ _ (show ¬ a + 1 < b by omega)] at he
                      rw [show ((z : Nat) : Int) + 1 = ((z + 1 : Nat) : Int) from rfl]
                      exact ihz (z) _ _ _ _ (by omega) (by rw [← he]; exact hE) (by rw [← he]; exact hmB) kpB
                    · rw [mX_s, if_pos (show a < b by omega), if_pos (show a * a + b * b ≤ z * z by omega), if_neg (show ¬ (a * a + b * b = z * z ∧ Nat.gcd a b = 1) from fun q => c133 (by omega))] at he
                      rw [show (a : Int) + 1 = ((a + 1 : Nat) : Int) by omega]
                      exact ihm (a + 1) b r _ _ _ _ (by omega) (by omega) (by omega) (by omega) he hE hmB kpB
                  · have hpl := mX_len z m (a + 1) b ((z * 262144 + a * 512 + b) :: r)
                    have he9 := he
                    rw [mX_s, if_pos (show a < b by omega), if_pos (show a * a + b * b ≤ z * z by omega), if_pos (show a * a + b * b = z * z ∧ Nat.gcd a b = 1 from ⟨by omega, by omega⟩)] at he9
                    rw [he9, List.length_cons] at hpl
                    have hzl := mZ_len (b := z) (by omega)
                    refine r_aload_n 3 X dX7_list_136 rfl ?_
                    refine r_getf X dX7_list_137 fX7_19 hmB.1 rfl ?_
                    refine r_aload_n 3 X dX7_list_140 rfl ?_
                    refine r_getf X dX7_list_141 fX7_178 hmB.1 rfl ?_
                    refine r_iload 0 X dX7_list_144 rfl ?_
                    refine r_mst3 X dX7_list_146 hmB ⟨by omega, by omega⟩ (fun hp146 hm146 kp146 => ?_)
                    refine r_aload_n 3 X dX7_list_147 rfl ?_
                    refine r_getf X dX7_list_148 fX7_22 hm146.1 rfl ?_
                    refine r_aload_n 3 X dX7_list_151 rfl ?_
                    refine r_getf X dX7_list_152 fX7_178 hm146.1 rfl ?_
                    refine r_iload 1 X dX7_list_155 rfl ?_
                    refine r_mst4 X dX7_list_157 hm146 ⟨by omega, by omega⟩ (fun hp157 hm157 kp157 => ?_)
                    refine r_aload_n 3 X dX7_list_158 rfl ?_
                    refine r_getf X dX7_list_159 fX7_25 hm157.1 rfl ?_
                    refine r_aload_n 3 X dX7_list_162 rfl ?_
                    refine r_getf X dX7_list_163 fX7_178 hm157.1 rfl ?_
                    refine r_iload_n 2 X dX7_list_166 rfl ?_
                    refine r_mst5 X dX7_list_167 hm157 ⟨by omega, by omega⟩ (fun hp167 hm167 kp167 => ?_)
                    refine r_aload_n 3 X dX7_list_168 rfl ?_
                    refine r_dup X dX7_list_169 rfl ?_
                    refine r_getf X dX7_list_170 fX7_178 hm167.1 rfl ?_
                    refine r_iconst X dX7_list_173 ?_
                    refine r_iadd X dX7_list_174 ?_
                    refine r_mput X dX7_list_175 fX7_178 hm167 ((r.length : Int) + 1) oc 0 hi lo rf sq rfl (by decide) rfl rfl rfl (fun hp175 hm175 kp175 => ?_)
                    refine r_iinc 0 (L' := [(5, iv ((a : Int) + 1)), (4, iv (b : Int)), (3, iv ((z : Nat) : Int)), (0, .ref y), (2, iv k)]) X dX7_list_178 rfl (by decide) rfl ?_
                    refine r_goto 64 X dX7_list_181 (by decide) ?_
                    refine r_iload 0 X dX7_list_64 rfl ?_
                    refine r_iload 1 X dX7_list_66 rfl ?_
                    refine r_icmp_ge 184 X dX7_list_68 (by decide) ⟨by omega, by omega⟩ ⟨by omega, by omega⟩ (fun c68 => ?_) (fun c68 => ?_)
                    · refine r_iinc 2 (L' := [(3, iv (((z : Nat) : Int) + 1)), (5, iv ((a : Int) + 1)), (4, iv (b : Int)), (0, .ref y), (2, iv k)]) X dX7_list_184 rfl (by decide) rfl ?_
                      refine r_goto 51 X dX7_list_187 (by decide) ?_
                      refine WW_sub (L' := [(3, iv (((z : Nat) : Int) + 1)), (0, .ref y), (2, iv k)]) [0, 3, 4] rfl ?_
                      rw [mX_s, if_pos (show a < b by omega), if_pos (show a * a + b * b ≤ z * z by omega), if_pos (show a * a + b * b = z * z ∧ Nat.gcd a b = 1 from ⟨by omega, by omega⟩)] at he
                      rw [mX_n _ _ _ _ _ (show ¬ a + 1 < b by omega)] at he
                      have hz := hm175
                      rw [Int.toNat_natCast] at hz
                      rw [show ((z : Nat) : Int) + 1 = ((z + 1 : Nat) : Int) from rfl]
                      exact ihz (z) _ _ _ _ (by omega) (by rw [← he]; exact (EL_c hE z a b (by omega) (by omega))) (by rw [← he]; exact hz) (Keep_tr (Keep_tr (Keep_tr (Keep_tr kpB kp146) kp157) kp167) kp175)
                    · rw [mX_s, if_pos (show a < b by omega), if_pos (show a * a + b * b ≤ z * z by omega), if_pos (show a * a + b * b = z * z ∧ Nat.gcd a b = 1 from ⟨by omega, by omega⟩)] at he
                      have hz := hm175
                      rw [Int.toNat_natCast] at hz
                      rw [show (a : Int) + 1 = ((a + 1 : Nat) : Int) by omega]
                      exact ihm (a + 1) b ((z * 262144 + a * 512 + b) :: r) _ _ _ _ (by omega) (by omega) (by omega) (by omega) he (EL_c hE z a b (by omega) (by omega)) hz (Keep_tr (Keep_tr (Keep_tr (Keep_tr kpB kp146) kp157) kp167) kp175)
            · refine r_iload 0 X dX7_list_78 rfl ?_
              refine r_iload 0 X dX7_list_80 rfl ?_
              refine r_imul X dX7_list_82 ?_
              refine r_iload 1 X dX7_list_83 rfl ?_
              refine r_iload 1 X dX7_list_85 rfl ?_
              refine r_imul X dX7_list_87 ?_
              refine r_iadd X dX7_list_88 ?_
              refine r_iload_n 2 X dX7_list_89 rfl ?_
              refine r_iload_n 2 X dX7_list_90 rfl ?_
              refine r_imul X dX7_list_91 ?_
              refine r_icmp_le 101 X dX7_list_92 (by decide) ⟨by omega, by omega⟩ ⟨by omega, by omega⟩ (fun c92 => ?_) (fun c92 => ?_)
              · refine r_iload 0 X dX7_list_101 rfl ?_
                refine r_iload 1 X dX7_list_103 rfl ?_
                refine r_icmp_ge 178 X dX7_list_105 (by decide) ⟨by omega, by omega⟩ ⟨by omega, by omega⟩ (fun c105 => ?_) (fun c105 => ?_)
                · refine r_iinc 0 (L' := [(5, iv ((a : Int) + 1)), (4, iv (b : Int)), (3, iv ((z : Nat) : Int)), (0, .ref y), (2, iv k)]) X dX7_list_178 rfl (by decide) rfl ?_
                  refine r_goto 64 X dX7_list_181 (by decide) ?_
                  refine r_iload 0 X dX7_list_64 rfl ?_
                  refine r_iload 1 X dX7_list_66 rfl ?_
                  refine r_icmp_ge 184 X dX7_list_68 (by decide) ⟨by omega, by omega⟩ ⟨by omega, by omega⟩ (fun c68 => ?_) (fun c68 => ?_)
                  · refine r_iinc 2 (L' := [(3, iv (((z : Nat) : Int) + 1)), (5, iv ((a : Int) + 1)), (4, iv (b : Int)), (0, .ref y), (2, iv k)]) X dX7_list_184 rfl (by decide) rfl ?_
                    refine r_goto 51 X dX7_list_187 (by decide) ?_
                    refine WW_sub (L' := [(3, iv (((z : Nat) : Int) + 1)), (0, .ref y), (2, iv k)]) [0, 3, 4] rfl ?_
                    rw [mX_n _ _ _ _ _ (show ¬ a < b by omega)] at he
                    rw [show ((z : Nat) : Int) + 1 = ((z + 1 : Nat) : Int) from rfl]
                    exact ihz (z) _ _ _ _ (by omega) (by rw [← he]; exact hE) (by rw [← he]; exact hmB) kpB
                  · exfalso
                    omega
                · refine r_iload 0 X dX7_list_108 rfl ?_
                  refine r_iload 0 X dX7_list_110 rfl ?_
                  refine r_imul X dX7_list_112 ?_
                  refine r_iload 1 X dX7_list_113 rfl ?_
                  refine r_iload 1 X dX7_list_115 rfl ?_
                  refine r_imul X dX7_list_117 ?_
                  refine r_iadd X dX7_list_118 ?_
                  refine r_iload_n 2 X dX7_list_119 rfl ?_
                  refine r_iload_n 2 X dX7_list_120 rfl ?_
                  refine r_imul X dX7_list_121 ?_
                  refine r_icmp_ne 178 X dX7_list_122 (by decide) ⟨by omega, by omega⟩ ⟨by omega, by omega⟩ (fun c122 => ?_) (fun c122 => ?_)
                  · refine r_iinc 0 (L' := [(5, iv ((a : Int) + 1)), (4, iv (b : Int)), (3, iv ((z : Nat) : Int)), (0, .ref y), (2, iv k)]) X dX7_list_178 rfl (by decide) rfl ?_
                    refine r_goto 64 X dX7_list_181 (by decide) ?_
                    refine r_iload 0 X dX7_list_64 rfl ?_
                    refine r_iload 1 X dX7_list_66 rfl ?_
                    refine r_icmp_ge 184 X dX7_list_68 (by decide) ⟨by omega, by omega⟩ ⟨by omega, by omega⟩ (fun c68 => ?_) (fun c68 => ?_)
                    · refine r_iinc 2 (L' := [(3, iv (((z : Nat) : Int) + 1)), (5, iv ((a : Int) + 1)), (4, iv (b : Int)), (0, .ref y), (2, iv k)]) X dX7_list_184 rfl (by decide) rfl ?_
                      refine r_goto 51 X dX7_list_187 (by decide) ?_
                      refine WW_sub (L' := [(3, iv (((z : Nat) : Int) + 1)), (0, .ref y), (2, iv k)]) [0, 3, 4] rfl ?_
                      rw [mX_s, if_pos (show a < b by omega), if_pos (show a * a + b * b ≤ z * z by omega), if_neg (show ¬ (a * a + b * b = z * z ∧ Nat.gcd a b = 1) from fun q => absurd q.1 (by omega))] at he
                      rw [mX_n _ _ _ _ _ (show ¬ a + 1 < b by omega)] at he
                      rw [show ((z : Nat) : Int) + 1 = ((z + 1 : Nat) : Int) from rfl]
                      exact ihz (z) _ _ _ _ (by omega) (by rw [← he]; exact hE) (by rw [← he]; exact hmB) kpB
                    · rw [mX_s, if_pos (show a < b by omega), if_pos (show a * a + b * b ≤ z * z by omega), if_neg (show ¬ (a * a + b * b = z * z ∧ Nat.gcd a b = 1) from fun q => absurd q.1 (by omega))] at he
                      rw [show (a : Int) + 1 = ((a + 1 : Nat) : Int) by omega]
                      exact ihm (a + 1) b r _ _ _ _ (by omega) (by omega) (by omega) (by omega) he hE hmB kpB
                  · refine r_iload 0 X dX7_list_125 rfl ?_
                    refine r_iload 1 X dX7_list_127 rfl ?_
                    refine r_callS_v X dX7_list_129 kX7_79 (c_X7_divisor (CX_l X) D z0 _ (a : Int) (b : Int) ⟨by omega, by omega⟩ ⟨by omega, by omega⟩) [] rfl rfl (Nat.le_of_ble_eq_true rfl) (by decide) rfl rfl (by decide) ?_
                    show WW K D z0 6 hB 0 0 132 [(5, iv (a : Int)), (4, iv (b : Int)), (3, iv ((z : Nat) : Int)), (0, .ref y), (2, iv k)] [iv ((Nat.gcd a b : Nat) : Int)]
                    have hgl : Nat.gcd a b ≤ b := Nat.le_of_dvd (by omega) (Nat.gcd_dvd_right _ _)
                    refine r_iconst X dX7_list_132 ?_
                    refine r_icmp_ne 178 X dX7_list_133 (by decide) ⟨by omega, by omega⟩ ⟨by omega, by omega⟩ (fun c133 => ?_) (fun c133 => ?_)
                    · refine r_iinc 0 (L' := [(5, iv ((a : Int) + 1)), (4, iv (b : Int)), (3, iv ((z : Nat) : Int)), (0, .ref y), (2, iv k)]) X dX7_list_178 rfl (by decide) rfl ?_
                      refine r_goto 64 X dX7_list_181 (by decide) ?_
                      refine r_iload 0 X dX7_list_64 rfl ?_
                      refine r_iload 1 X dX7_list_66 rfl ?_
                      refine r_icmp_ge 184 X dX7_list_68 (by decide) ⟨by omega, by omega⟩ ⟨by omega, by omega⟩ (fun c68 => ?_) (fun c68 => ?_)
                      · refine r_iinc 2 (L' := [(3, iv (((z : Nat) : Int) + 1)), (5, iv ((a : Int) + 1)), (4, iv (b : Int)), (0, .ref y), (2, iv k)]) X dX7_list_184 rfl (by decide) rfl ?_
                        refine r_goto 51 X dX7_list_187 (by decide) ?_
                        refine WW_sub (L' := [(3, iv (((z : Nat) : Int) + 1)), (0, .ref y), (2, iv k)]) [0, 3, 4] rfl ?_
                        rw [mX_s, if_pos (show a < b by omega), if_pos (show a * a + b * b ≤ z * z by omega), if_neg (show ¬ (a * a + b * b = z * z ∧ Nat.gcd a b = 1) from fun q => c133 (by omega))] at he
                        rw [mX_n _ _ _ _ _ (show ¬ a + 1 < b by omega)] at he
                        rw [show ((z : Nat) : Int) + 1 = ((z + 1 : Nat) : Int) from rfl]
                        exact ihz (z) _ _ _ _ (by omega) (by rw [← he]; exact hE) (by rw [← he]; exact hmB) kpB
                      · rw [mX_s, if_pos (show a < b by omega), if_pos (show a * a + b * b ≤ z * z by omega), if_neg (show ¬ (a * a + b * b = z * z ∧ Nat.gcd a b = 1) from fun q => c133 (by omega))] at he
                        rw [show (a : Int) + 1 = ((a + 1 : Nat) : Int) by omega]
                        exact ihm (a + 1) b r _ _ _ _ (by omega) (by omega) (by omega) (by omega) he hE hmB kpB
                    · have hpl := mX_len z m (a + 1) b ((z * 262144 + a * 512 + b) :: r)
                      have he9 := he
                      rw [mX_s, if_pos (show a < b by omega), if_pos (show a * a + b * b ≤ z * z by omega), if_pos (show a * a + b * b = z * z ∧ Nat.gcd a b = 1 from ⟨by omega, by omega⟩)] at he9
                      rw [he9, List.length_cons] at hpl
                      have hzl := mZ_len (b := z) (by omega)
                      refine r_aload_n 3 X dX7_list_136 rfl ?_
                      refine r_getf X dX7_list_137 fX7_19 hmB.1 rfl ?_
                      refine r_aload_n 3 X dX7_list_140 rfl ?_
                      refine r_getf X dX7_list_141 fX7_178 hmB.1 rfl ?_
                      refine r_iload 0 X dX7_list_144 rfl ?_
                      refine r_mst3 X dX7_list_146 hmB ⟨by omega, by omega⟩ (fun hp146 hm146 kp146 => ?_)
                      refine r_aload_n 3 X dX7_list_147 rfl ?_
                      refine r_getf X dX7_list_148 fX7_22 hm146.1 rfl ?_
                      refine r_aload_n 3 X dX7_list_151 rfl ?_
                      refine r_getf X dX7_list_152 fX7_178 hm146.1 rfl ?_
                      refine r_iload 1 X dX7_list_155 rfl ?_
                      refine r_mst4 X dX7_list_157 hm146 ⟨by omega, by omega⟩ (fun hp157 hm157 kp157 => ?_)
                      refine r_aload_n 3 X dX7_list_158 rfl ?_
                      refine r_getf X dX7_list_159 fX7_25 hm157.1 rfl ?_
                      refine r_aload_n 3 X dX7_list_162 rfl ?_
                      refine r_getf X dX7_list_163 fX7_178 hm157.1 rfl ?_
                      refine r_iload_n 2 X dX7_list_166 rfl ?_
                      refine r_mst5 X dX7_list_167 hm157 ⟨by omega, by omega⟩ (fun hp167 hm167 kp167 => ?_)
                      refine r_aload_n 3 X dX7_list_168 rfl ?_
                      refine r_dup X dX7_list_169 rfl ?_
                      refine r_getf X dX7_list_170 fX7_178 hm167.1 rfl ?_
                      refine r_iconst X dX7_list_173 ?_
                      refine r_iadd X dX7_list_174 ?_
                      refine r_mput X dX7_list_175 fX7_178 hm167 ((r.length : Int) + 1) oc 0 hi lo rf sq rfl (by decide) rfl rfl rfl (fun hp175 hm175 kp175 => ?_)
                      refine r_iinc 0 (L' := [(5, iv ((a : Int) + 1)), (4, iv (b : Int)), (3, iv ((z : Nat) : Int)), (0, .ref y), (2, iv k)]) X dX7_list_178 rfl (by decide) rfl ?_
                      refine r_goto 64 X dX7_list_181 (by decide) ?_
                      refine r_iload 0 X dX7_list_64 rfl ?_
                      refine r_iload 1 X dX7_list_66 rfl ?_
                      refine r_icmp_ge 184 X dX7_list_68 (by decide) ⟨by omega, by omega⟩ ⟨by omega, by omega⟩ (fun c68 => ?_) (fun c68 => ?_)
                      · refine r_iinc 2 (L' := [(3, iv (((z : Nat) : Int) + 1)), (5, iv ((a : Int) + 1)), (4, iv (b : Int)), (0, .ref y), (2, iv k)]) X dX7_list_184 rfl (by decide) rfl ?_
                        refine r_goto 51 X dX7_list_187 (by decide) ?_
                        refine WW_sub (L' := [(3, iv (((z : Nat) : Int) + 1)), (0, .ref y), (2, iv k)]) [0, 3, 4] rfl ?_
                        rw [mX_s, if_pos (show a < b by omega), if_pos (show a * a + b * b ≤ z * z by omega), if_pos (show a * a + b * b = z * z ∧ Nat.gcd a b = 1 from ⟨by omega, by omega⟩)] at he
                        rw [mX_n _ _ _ _ _ (show ¬ a + 1 < b by omega)] at he
                        have hz := hm175
                        rw [Int.toNat_natCast] at hz
                        rw [show ((z : Nat) : Int) + 1 = ((z + 1 : Nat) : Int) from rfl]
                        exact ihz (z) _ _ _ _ (by omega) (by rw [← he]; exact (EL_c hE z a b (by omega) (by omega))) (by rw [← he]; exact hz) (Keep_tr (Keep_tr (Keep_tr (Keep_tr kpB kp146) kp157) kp167) kp175)
                      · rw [mX_s, if_pos (show a < b by omega), if_pos (show a * a + b * b ≤ z * z by omega), if_pos (show a * a + b * b = z * z ∧ Nat.gcd a b = 1 from ⟨by omega, by omega⟩)] at he
                        have hz := hm175
                        rw [Int.toNat_natCast] at hz
                        rw [show (a : Int) + 1 = ((a + 1 : Nat) : Int) by omega]
                        exact ihm (a + 1) b ((z * 262144 + a * 512 + b) :: r) _ _ _ _ (by omega) (by omega) (by omega) (by omega) he (EL_c hE z a b (by omega) (by omega)) hz (Keep_tr (Keep_tr (Keep_tr (Keep_tr kpB kp146) kp157) kp167) kp175)
              · refine r_iinc 1 (L' := [(4, iv ((b : Int) + (-1))), (5, iv (a : Int)), (3, iv ((z : Nat) : Int)), (0, .ref y), (2, iv k)]) X dX7_list_95 rfl (by decide) rfl ?_
                refine r_goto 71 X dX7_list_98 (by decide) ?_
                refine WW_sub (L' := [(5, iv (a : Int)), (4, iv ((b : Int) + (-1))), (3, iv ((z : Nat) : Int)), (0, .ref y), (2, iv k)]) [1, 0, 2, 3, 4] rfl ?_
                rw [show (b : Int) + (-1) = ((b - 1 : Nat) : Int) by omega]
                rw [mX_s, if_pos (show a < b by omega), if_neg (show ¬ a * a + b * b ≤ z * z by omega)] at he
                exact ihm a (b - 1) r _ _ _ _ (by omega) (by omega) (by omega) (by omega) he hE hmB kpB
        refine r_iload_n 0 X dX7_list_56 rfl ?_
        refine r_iconst X dX7_list_57 ?_
        refine r_isub X dX7_list_58 ?_
        refine r_istore (L' := [(4, iv (((j + 1 : Nat) : Int) - 1)), (3, iv ((j + 1 : Nat) : Int)), (0, .ref y), (2, iv k)]) X dX7_list_59 (by decide) rfl ?_
        refine r_iconst X dX7_list_61 ?_
        refine r_istore (L' := [(5, iv 1), (4, iv (((j + 1 : Nat) : Int) - 1)), (3, iv ((j + 1 : Nat) : Int)), (0, .ref y), (2, iv k)]) X dX7_list_62 (by decide) rfl ?_
        refine r_iload 0 X dX7_list_64 rfl ?_
        refine r_iload 1 X dX7_list_66 rfl ?_
        refine r_icmp_ge 184 X dX7_list_68 (by decide) ⟨by omega, by omega⟩ ⟨by omega, by omega⟩ (fun c68 => ?_) (fun c68 => ?_)
        · refine r_iinc 2 (L' := [(3, iv (((j + 1 : Nat) : Int) + 1)), (5, iv 1), (4, iv (((j + 1 : Nat) : Int) - 1)), (0, .ref y), (2, iv k)]) X dX7_list_184 rfl (by decide) rfl ?_
          refine r_goto 51 X dX7_list_187 (by decide) ?_
          refine WW_sub (L' := [(3, iv (((j + 1 : Nat) : Int) + 1)), (0, .ref y), (2, iv k)]) [0, 3, 4] rfl ?_
          have he : mZ z = mZ j := by rw [hz9, mZ_s]; exact mX_n _ _ _ _ _ (by omega)
          rw [show ((j + 1 : Nat) : Int) + 1 = ((z + 1 : Nat) : Int) by omega]
          exact ihz z _ _ _ _ hz9 (by rw [he]; exact hEA) (by rw [he]; exact hmA) kpA
        · rw [show ((j + 1 : Nat) : Int) - 1 = ((z - 1 : Nat) : Int) by omega, show ((j + 1 : Nat) : Int) = ((z : Nat) : Int) by omega]
          exact inner z 1 (z - 1) (mZ j) _ _ _ _ (by omega) (by omega) (by omega) (by omega) (by rw [hz9]; rfl) hEA hmA kpA
  refine r_aload_n 0 X dX7_list_0 rfl ?_
  refine r_iload_n 1 X dX7_list_1 rfl ?_
  refine r_bipush X dX7_list_2 (by decide) ?_
  refine r_icmp_eq 19 X dX7_list_4 (by decide) ⟨by omega, by omega⟩ ⟨by omega, by omega⟩ (fun c4 => ?_) (fun c4 => ?_)
  · refine r_iload_n 2 X dX7_list_19 rfl ?_
    refine r_i2l X dX7_list_20 ⟨by omega, by omega⟩ ?_
    refine r_lconst 0 X dX7_list_21 (by decide) ?_
    refine r_ldc2 400 X dX7_list_22 nX7_176 (by decide) ?_
    refine r_callS_v X dX7_list_25 kX7_37 (c_X7_isBetween (CX_l X) D z0 _ k 0 400 ⟨by omega, by omega⟩ ⟨by omega, by omega⟩ ⟨by omega, by omega⟩) [.ref y] rfl rfl (Nat.le_of_ble_eq_true rfl) (by decide) rfl rfl (by decide) ?_
    refine r_ifb_eq 35 X dX7_list_28 (by decide) (fun c28 => ?_) (fun c28 => ?_)
    · refine r_iconst X dX7_list_35 ?_
      refine r_callV X dX7_list_36 kX7_57 hm.1 (c_X7_isWrong (CX_l X) D z0 _ hm 1 ⟨by omega, by omega⟩) [] rfl rfl (Nat.le_of_ble_eq_true rfl) (by decide) (by decide) (fun _ _ z => z.elim) (fun v9 hq36 hv9 => ?_)
      obtain ⟨rfl, hm36, kp36⟩ := hv9
      show WW K D z0 6 hq36 0 0 39 [(0, .ref y), (1, iv w), (2, iv k)] [iv 1]
      refine r_if_eq 44 X dX7_list_39 (by decide) ⟨by omega, by omega⟩ (fun c39 => ?_) (fun c39 => ?_)
      · exfalso
        omega
      · refine r_iconst X dX7_list_42 ?_
        refine r_iret X Y dX7_list_43 (by decide) (by decide) ?_
        have hn1 : cdLi w k = 1 := if_neg (by omega)
        exact ⟨by rw [hn1]; rfl, fun z9 => absurd (hn1.symm.trans z9) (by decide), fun _ => ⟨_, _, _, _, hm36⟩, kp36⟩
    · refine r_iconst X dX7_list_31 ?_
      refine r_goto 36 X dX7_list_32 (by decide) ?_
      refine r_callV X dX7_list_36 kX7_57 hm.1 (c_X7_isWrong (CX_l X) D z0 _ hm 0 ⟨by omega, by omega⟩) [] rfl rfl (Nat.le_of_ble_eq_true rfl) (by decide) (by decide) (fun _ _ z => z.elim) (fun v9 hq36 hv9 => ?_)
      obtain ⟨rfl, hm36, kp36⟩ := hv9
      show WW K D z0 6 hq36 0 0 39 [(0, .ref y), (1, iv w), (2, iv k)] [iv 0]
      refine r_if_eq 44 X dX7_list_39 (by decide) ⟨by omega, by omega⟩ (fun c39 => ?_) (fun c39 => ?_)
      · refine r_aload_n 0 X dX7_list_44 rfl ?_
        refine r_iconst X dX7_list_45 ?_
        refine r_mput X dX7_list_46 fX7_178 hm36 0 oc 0 hi lo rf sq rfl (by decide) rfl rfl rfl (fun hp46 hm46 kp46 => ?_)
        refine r_iconst X dX7_list_49 ?_
        refine r_istore_n (L' := [(3, iv 1), (0, .ref y), (1, iv w), (2, iv k)]) X dX7_list_50 (by decide) rfl ?_
        refine WW_sub (L' := [(3, iv 1), (0, .ref y), (2, iv k)]) [0, 1, 3] rfl ?_
        exact loop ⟨by omega, by omega⟩ (if_pos (by omega)) k.toNat 0 _ _ _ _ (by omega) (EL_0 _ _ _) hm46 (Keep_tr kp36 kp46)
      · exfalso
        omega
  · refine r_iload_n 1 X dX7_list_7 rfl ?_
    refine r_bipush X dX7_list_8 (by decide) ?_
    refine r_icmp_eq 19 X dX7_list_10 (by decide) ⟨by omega, by omega⟩ ⟨by omega, by omega⟩ (fun c10 => ?_) (fun c10 => ?_)
    · refine r_iload_n 2 X dX7_list_19 rfl ?_
      refine r_i2l X dX7_list_20 ⟨by omega, by omega⟩ ?_
      refine r_lconst 0 X dX7_list_21 (by decide) ?_
      refine r_ldc2 400 X dX7_list_22 nX7_176 (by decide) ?_
      refine r_callS_v X dX7_list_25 kX7_37 (c_X7_isBetween (CX_l X) D z0 _ k 0 400 ⟨by omega, by omega⟩ ⟨by omega, by omega⟩ ⟨by omega, by omega⟩) [.ref y] rfl rfl (Nat.le_of_ble_eq_true rfl) (by decide) rfl rfl (by decide) ?_
      refine r_ifb_eq 35 X dX7_list_28 (by decide) (fun c28 => ?_) (fun c28 => ?_)
      · refine r_iconst X dX7_list_35 ?_
        refine r_callV X dX7_list_36 kX7_57 hm.1 (c_X7_isWrong (CX_l X) D z0 _ hm 1 ⟨by omega, by omega⟩) [] rfl rfl (Nat.le_of_ble_eq_true rfl) (by decide) (by decide) (fun _ _ z => z.elim) (fun v9 hq36 hv9 => ?_)
        obtain ⟨rfl, hm36, kp36⟩ := hv9
        show WW K D z0 6 hq36 0 0 39 [(0, .ref y), (1, iv w), (2, iv k)] [iv 1]
        refine r_if_eq 44 X dX7_list_39 (by decide) ⟨by omega, by omega⟩ (fun c39 => ?_) (fun c39 => ?_)
        · exfalso
          omega
        · refine r_iconst X dX7_list_42 ?_
          refine r_iret X Y dX7_list_43 (by decide) (by decide) ?_
          have hn1 : cdLi w k = 1 := if_neg (by omega)
          exact ⟨by rw [hn1]; rfl, fun z9 => absurd (hn1.symm.trans z9) (by decide), fun _ => ⟨_, _, _, _, hm36⟩, kp36⟩
      · refine r_iconst X dX7_list_31 ?_
        refine r_goto 36 X dX7_list_32 (by decide) ?_
        refine r_callV X dX7_list_36 kX7_57 hm.1 (c_X7_isWrong (CX_l X) D z0 _ hm 0 ⟨by omega, by omega⟩) [] rfl rfl (Nat.le_of_ble_eq_true rfl) (by decide) (by decide) (fun _ _ z => z.elim) (fun v9 hq36 hv9 => ?_)
        obtain ⟨rfl, hm36, kp36⟩ := hv9
        show WW K D z0 6 hq36 0 0 39 [(0, .ref y), (1, iv w), (2, iv k)] [iv 0]
        refine r_if_eq 44 X dX7_list_39 (by decide) ⟨by omega, by omega⟩ (fun c39 => ?_) (fun c39 => ?_)
        · refine r_aload_n 0 X dX7_list_44 rfl ?_
          refine r_iconst X dX7_list_45 ?_
          refine r_mput X dX7_list_46 fX7_178 hm36 0 oc 0 hi lo rf sq rfl (by decide) rfl rfl rfl (fun hp46 hm46 kp46 => ?_)
          refine r_iconst X dX7_list_49 ?_
          refine r_istore_n (L' := [(3, iv 1), (0, .ref y), (1, iv w), (2, iv k)]) X dX7_list_50 (by decide) rfl ?_
          refine WW_sub (L' := [(3, iv 1), (0, .ref y), (2, iv k)]) [0, 1, 3] rfl ?_
          exact loop ⟨by omega, by omega⟩ (if_pos (by omega)) k.toNat 0 _ _ _ _ (by omega) (EL_0 _ _ _) hm46 (Keep_tr kp36 kp46)
        · exfalso
          omega
    · refine r_iload_n 1 X dX7_list_13 rfl ?_
      refine r_bipush X dX7_list_14 (by decide) ?_
      refine r_icmp_ne 35 X dX7_list_16 (by decide) ⟨by omega, by omega⟩ ⟨by omega, by omega⟩ (fun c16 => ?_) (fun c16 => ?_)
      · refine r_iconst X dX7_list_35 ?_
        refine r_callV X dX7_list_36 kX7_57 hm.1 (c_X7_isWrong (CX_l X) D z0 _ hm 1 ⟨by omega, by omega⟩) [] rfl rfl (Nat.le_of_ble_eq_true rfl) (by decide) (by decide) (fun _ _ z => z.elim) (fun v9 hq36 hv9 => ?_)
        obtain ⟨rfl, hm36, kp36⟩ := hv9
        show WW K D z0 6 hq36 0 0 39 [(0, .ref y), (1, iv w), (2, iv k)] [iv 1]
        refine r_if_eq 44 X dX7_list_39 (by decide) ⟨by omega, by omega⟩ (fun c39 => ?_) (fun c39 => ?_)
        · exfalso
          omega
        · refine r_iconst X dX7_list_42 ?_
          refine r_iret X Y dX7_list_43 (by decide) (by decide) ?_
          have hn1 : cdLi w k = 1 := if_neg (by omega)
          exact ⟨by rw [hn1]; rfl, fun z9 => absurd (hn1.symm.trans z9) (by decide), fun _ => ⟨_, _, _, _, hm36⟩, kp36⟩
      · refine r_iload_n 2 X dX7_list_19 rfl ?_
        refine r_i2l X dX7_list_20 ⟨by omega, by omega⟩ ?_
        refine r_lconst 0 X dX7_list_21 (by decide) ?_
        refine r_ldc2 400 X dX7_list_22 nX7_176 (by decide) ?_
        refine r_callS_v X dX7_list_25 kX7_37 (c_X7_isBetween (CX_l X) D z0 _ k 0 400 ⟨by omega, by omega⟩ ⟨by omega, by omega⟩ ⟨by omega, by omega⟩) [.ref y] rfl rfl (Nat.le_of_ble_eq_true rfl) (by decide) rfl rfl (by decide) ?_
        refine r_ifb_eq 35 X dX7_list_28 (by decide) (fun c28 => ?_) (fun c28 => ?_)
        · refine r_iconst X dX7_list_35 ?_
          refine r_callV X dX7_list_36 kX7_57 hm.1 (c_X7_isWrong (CX_l X) D z0 _ hm 1 ⟨by omega, by omega⟩) [] rfl rfl (Nat.le_of_ble_eq_true rfl) (by decide) (by decide) (fun _ _ z => z.elim) (fun v9 hq36 hv9 => ?_)
          obtain ⟨rfl, hm36, kp36⟩ := hv9
          show WW K D z0 6 hq36 0 0 39 [(0, .ref y), (1, iv w), (2, iv k)] [iv 1]
          refine r_if_eq 44 X dX7_list_39 (by decide) ⟨by omega, by omega⟩ (fun c39 => ?_) (fun c39 => ?_)
          · exfalso
            omega
          · refine r_iconst X dX7_list_42 ?_
            refine r_iret X Y dX7_list_43 (by decide) (by decide) ?_
            have hn1 : cdLi w k = 1 := if_neg (by omega)
            exact ⟨by rw [hn1]; rfl, fun z9 => absurd (hn1.symm.trans z9) (by decide), fun _ => ⟨_, _, _, _, hm36⟩, kp36⟩
        · refine r_iconst X dX7_list_31 ?_
          refine r_goto 36 X dX7_list_32 (by decide) ?_
          refine r_callV X dX7_list_36 kX7_57 hm.1 (c_X7_isWrong (CX_l X) D z0 _ hm 0 ⟨by omega, by omega⟩) [] rfl rfl (Nat.le_of_ble_eq_true rfl) (by decide) (by decide) (fun _ _ z => z.elim) (fun v9 hq36 hv9 => ?_)
          obtain ⟨rfl, hm36, kp36⟩ := hv9
          show WW K D z0 6 hq36 0 0 39 [(0, .ref y), (1, iv w), (2, iv k)] [iv 0]
          refine r_if_eq 44 X dX7_list_39 (by decide) ⟨by omega, by omega⟩ (fun c39 => ?_) (fun c39 => ?_)
          · refine r_aload_n 0 X dX7_list_44 rfl ?_
            refine r_iconst X dX7_list_45 ?_
            refine r_mput X dX7_list_46 fX7_178 hm36 0 oc 0 hi lo rf sq rfl (by decide) rfl rfl rfl (fun hp46 hm46 kp46 => ?_)
            refine r_iconst X dX7_list_49 ?_
            refine r_istore_n (L' := [(3, iv 1), (0, .ref y), (1, iv w), (2, iv k)]) X dX7_list_50 (by decide) rfl ?_
            refine WW_sub (L' := [(3, iv 1), (0, .ref y), (2, iv k)]) [0, 1, 3] rfl ?_
            exact loop ⟨by omega, by omega⟩ (if_pos (by omega)) k.toNat 0 _ _ _ _ (by omega) (EL_0 _ _ _) hm46 (Keep_tr kp36 kp46)
          · exfalso
            omega
abbrev rX7_thrown : Room := { frames := 0, cells := 0, slots := 0, locals := 0 }
theorem c_X7_thrown {l : Launch} (hl : l.stackTraces = false) (D : va_G) (z0 : Nat) (h : Hp) {y : Nat} {v : Nat → Nat} {σ : Tg} {e1 e2 e3 od : Nat → Int} {lc oc tc hi lo rf sq : Int} (hm : Mz D h y v (fA σ) (fB σ) (fC σ) e1 e2 e3 od lc oc tc hi lo rf sq) (ht : TVs σ) : CC l yX7_thrown cX7_thrown 1 (some .int) rX7_thrown D z0 h [.ref y] (PV (iv tc) h) NX := by
  refine CC_of RX7 hl (by decide) rfl (Nat.le_of_ble_eq_true rfl) (fun K X Y Z hmn hKl => ?_)
  subst hKl
  show WW K D z0 1 h 0 0 0 [(0, .ref y)] []
  refine r_aload_n 0 X dX7_thrown_0 rfl ?_
  refine r_getf X dX7_thrown_1 fX7_31 hm.1 rfl ?_
  refine r_iret X Y dX7_thrown_4 (by decide) (by decide) ?_
  exact pv_i (by rfl)
abbrev rX7_init : Room := { frames := 1, cells := 7, slots := 304, locals := 20 }
theorem c_X7_init {l : Launch} (hl : l.stackTraces = false) (D : va_G) (z0 : Nat) (h : Hp) (y : Nat) (hx : h y = some (ob 3 [.null, .null, .null, .null, .null, .null, .null, iv 0, iv 0, iv 0, jv 0, jv 0, jv 0, iv 0])) : CC l yX7_init cX7_init 1 none rX7_init D z0 h [.ref y] (fun w0 h' => w0 = none ∧ ∃ b0 b1 b2 b3 b4 b5 b6 : Nat, Ini h' y (ob 3 [.ref b0, .ref b1, .ref b2, .ref b3, .ref b4, .ref b5, .ref b6, iv 0, iv 0, iv 0, jv 0, jv 0, jv 0, iv 0]) [(b6, aI D 16 (fun _ => 0)), (b5, aI D 80 (fun _ => 0)), (b4, aI D 80 (fun _ => 0)), (b3, aI D 80 (fun _ => 0)), (b2, aI D 16 (fun _ => 0)), (b1, aI D 16 (fun _ => 0)), (b0, aI D 16 (fun _ => 0))] ∧ Keep (fun y9 => y9 = y) h h' ∧ h b0 = none ∧ h b1 = none ∧ h b2 = none ∧ h b3 = none ∧ h b4 = none ∧ h b5 = none ∧ h b6 = none) NX := by
  refine CC_of RX7 hl (by decide) rfl (Nat.le_of_ble_eq_true rfl) (fun K X Y Z hmn hKl => ?_)
  subst hKl
  show WW K D z0 1 h 0 0 0 [(0, .ref y)] []
  have hi0 := Ini_0 hx
  have khi0 : Keep (fun y9 => y9 = y) h h := Keep_rf
  refine r_aload_n 0 X dX7_init_0 rfl ?_
  refine r_objInit X dX7_init_1 kX7_1 obj_i obj_c (Nat.le_of_ble_eq_true rfl) (by decide) ?_
  refine r_aload_n 0 X dX7_init_4 rfl ?_
  refine r_bipush X dX7_init_5 (by decide) ?_
  refine r_newI (n := 16) X dX7_init_7 arr_int (by decide) (Nat.le_of_ble_eq_true rfl) (Nat.le_of_ble_eq_true rfl) (fun a7 ha7 za7 => ?_)
  have hi7 := Ini_new hi0 ha7 (aI D 16 (fun _ => 0))
  have khi7 := Keep_add (e := aI D 16 (fun _ => 0)) khi0 ha7
  have hfa7 := Keep_none khi0 hx ha7 (by rw [hi0.1]; exact Option.some_ne_none _)
  refine r_putfF (fs' := [.ref a7, .null, .null, .null, .null, .null, .null, iv 0, iv 0, iv 0, jv 0, jv 0, jv 0, iv 0]) X hmn dX7_init_9 fX7_7 hi7.1 rfl (Nat.le_of_ble_eq_true rfl) rfl rfl rfl ?_
  have hi9 := Ini_put hi7 (ob 3 [.ref a7, .null, .null, .null, .null, .null, .null, iv 0, iv 0, iv 0, jv 0, jv 0, jv 0, iv 0])
  have khi9 := Keep_put (e := ob 3 [.ref a7, .null, .null, .null, .null, .null, .null, iv 0, iv 0, iv 0, jv 0, jv 0, jv 0, iv 0]) khi7
  refine r_aload_n 0 X dX7_init_12 rfl ?_
  refine r_bipush X dX7_init_13 (by decide) ?_
  refine r_newI (n := 16) X dX7_init_15 arr_int (by decide) (Nat.le_of_ble_eq_true rfl) (Nat.le_of_ble_eq_true rfl) (fun a15 ha15 za15 => ?_)
  have hi15 := Ini_new hi9 ha15 (aI D 16 (fun _ => 0))
  have khi15 := Keep_add (e := aI D 16 (fun _ => 0)) khi9 ha15
  have hfa15 := Keep_none khi9 hx ha15 (by rw [hi9.1]; exact Option.some_ne_none _)
  refine r_putfF (fs' := [.ref a7, .ref a15, .null, .null, .null, .null, .null, iv 0, iv 0, iv 0, jv 0, jv 0, jv 0, iv 0]) X hmn dX7_init_17 fX7_13 hi15.1 rfl (Nat.le_of_ble_eq_true rfl) rfl rfl rfl ?_
  have hi17 := Ini_put hi15 (ob 3 [.ref a7, .ref a15, .null, .null, .null, .null, .null, iv 0, iv 0, iv 0, jv 0, jv 0, jv 0, iv 0])
  have khi17 := Keep_put (e := ob 3 [.ref a7, .ref a15, .null, .null, .null, .null, .null, iv 0, iv 0, iv 0, jv 0, jv 0, jv 0, iv 0]) khi15
  refine r_aload_n 0 X dX7_init_20 rfl ?_
  refine r_bipush X dX7_init_21 (by decide) ?_
  refine r_newI (n := 16) X dX7_init_23 arr_int (by decide) (Nat.le_of_ble_eq_true rfl) (Nat.le_of_ble_eq_true rfl) (fun a23 ha23 za23 => ?_)
  have hi23 := Ini_new hi17 ha23 (aI D 16 (fun _ => 0))
  have khi23 := Keep_add (e := aI D 16 (fun _ => 0)) khi17 ha23
  have hfa23 := Keep_none khi17 hx ha23 (by rw [hi17.1]; exact Option.some_ne_none _)
  refine r_putfF (fs' := [.ref a7, .ref a15, .ref a23, .null, .null, .null, .null, iv 0, iv 0, iv 0, jv 0, jv 0, jv 0, iv 0]) X hmn dX7_init_25 fX7_16 hi23.1 rfl (Nat.le_of_ble_eq_true rfl) rfl rfl rfl ?_
  have hi25 := Ini_put hi23 (ob 3 [.ref a7, .ref a15, .ref a23, .null, .null, .null, .null, iv 0, iv 0, iv 0, jv 0, jv 0, jv 0, iv 0])
  have khi25 := Keep_put (e := ob 3 [.ref a7, .ref a15, .ref a23, .null, .null, .null, .null, iv 0, iv 0, iv 0, jv 0, jv 0, jv 0, iv 0]) khi23
  refine r_aload_n 0 X dX7_init_28 rfl ?_
  refine r_bipush X dX7_init_29 (by decide) ?_
  refine r_newI (n := 80) X dX7_init_31 arr_int (by decide) (Nat.le_of_ble_eq_true rfl) (Nat.le_of_ble_eq_true rfl) (fun a31 ha31 za31 => ?_)
  have hi31 := Ini_new hi25 ha31 (aI D 80 (fun _ => 0))
  have khi31 := Keep_add (e := aI D 80 (fun _ => 0)) khi25 ha31
  have hfa31 := Keep_none khi25 hx ha31 (by rw [hi25.1]; exact Option.some_ne_none _)
  refine r_putfF (fs' := [.ref a7, .ref a15, .ref a23, .ref a31, .null, .null, .null, iv 0, iv 0, iv 0, jv 0, jv 0, jv 0, iv 0]) X hmn dX7_init_33 fX7_19 hi31.1 rfl (Nat.le_of_ble_eq_true rfl) rfl rfl rfl ?_
  have hi33 := Ini_put hi31 (ob 3 [.ref a7, .ref a15, .ref a23, .ref a31, .null, .null, .null, iv 0, iv 0, iv 0, jv 0, jv 0, jv 0, iv 0])
  have khi33 := Keep_put (e := ob 3 [.ref a7, .ref a15, .ref a23, .ref a31, .null, .null, .null, iv 0, iv 0, iv 0, jv 0, jv 0, jv 0, iv 0]) khi31
  refine r_aload_n 0 X dX7_init_36 rfl ?_
  refine r_bipush X dX7_init_37 (by decide) ?_
  refine r_newI (n := 80) X dX7_init_39 arr_int (by decide) (Nat.le_of_ble_eq_true rfl) (Nat.le_of_ble_eq_true rfl) (fun a39 ha39 za39 => ?_)
  have hi39 := Ini_new hi33 ha39 (aI D 80 (fun _ => 0))
  have khi39 := Keep_add (e := aI D 80 (fun _ => 0)) khi33 ha39
  have hfa39 := Keep_none khi33 hx ha39 (by rw [hi33.1]; exact Option.some_ne_none _)
  refine r_putfF (fs' := [.ref a7, .ref a15, .ref a23, .ref a31, .ref a39, .null, .null, iv 0, iv 0, iv 0, jv 0, jv 0, jv 0, iv 0]) X hmn dX7_init_41 fX7_22 hi39.1 rfl (Nat.le_of_ble_eq_true rfl) rfl rfl rfl ?_
  have hi41 := Ini_put hi39 (ob 3 [.ref a7, .ref a15, .ref a23, .ref a31, .ref a39, .null, .null, iv 0, iv 0, iv 0, jv 0, jv 0, jv 0, iv 0])
  have khi41 := Keep_put (e := ob 3 [.ref a7, .ref a15, .ref a23, .ref a31, .ref a39, .null, .null, iv 0, iv 0, iv 0, jv 0, jv 0, jv 0, iv 0]) khi39
  refine r_aload_n 0 X dX7_init_44 rfl ?_
  refine r_bipush X dX7_init_45 (by decide) ?_
  refine r_newI (n := 80) X dX7_init_47 arr_int (by decide) (Nat.le_of_ble_eq_true rfl) (Nat.le_of_ble_eq_true rfl) (fun a47 ha47 za47 => ?_)
  have hi47 := Ini_new hi41 ha47 (aI D 80 (fun _ => 0))
  have khi47 := Keep_add (e := aI D 80 (fun _ => 0)) khi41 ha47
  have hfa47 := Keep_none khi41 hx ha47 (by rw [hi41.1]; exact Option.some_ne_none _)
  refine r_putfF (fs' := [.ref a7, .ref a15, .ref a23, .ref a31, .ref a39, .ref a47, .null, iv 0, iv 0, iv 0, jv 0, jv 0, jv 0, iv 0]) X hmn dX7_init_49 fX7_25 hi47.1 rfl (Nat.le_of_ble_eq_true rfl) rfl rfl rfl ?_
  have hi49 := Ini_put hi47 (ob 3 [.ref a7, .ref a15, .ref a23, .ref a31, .ref a39, .ref a47, .null, iv 0, iv 0, iv 0, jv 0, jv 0, jv 0, iv 0])
  have khi49 := Keep_put (e := ob 3 [.ref a7, .ref a15, .ref a23, .ref a31, .ref a39, .ref a47, .null, iv 0, iv 0, iv 0, jv 0, jv 0, jv 0, iv 0]) khi47
  refine r_aload_n 0 X dX7_init_52 rfl ?_
  refine r_bipush X dX7_init_53 (by decide) ?_
  refine r_newI (n := 16) X dX7_init_55 arr_int (by decide) (Nat.le_of_ble_eq_true rfl) (Nat.le_of_ble_eq_true rfl) (fun a55 ha55 za55 => ?_)
  have hi55 := Ini_new hi49 ha55 (aI D 16 (fun _ => 0))
  have khi55 := Keep_add (e := aI D 16 (fun _ => 0)) khi49 ha55
  have hfa55 := Keep_none khi49 hx ha55 (by rw [hi49.1]; exact Option.some_ne_none _)
  refine r_putfF (fs' := [.ref a7, .ref a15, .ref a23, .ref a31, .ref a39, .ref a47, .ref a55, iv 0, iv 0, iv 0, jv 0, jv 0, jv 0, iv 0]) X hmn dX7_init_57 fX7_28 hi55.1 rfl (Nat.le_of_ble_eq_true rfl) rfl rfl rfl ?_
  have hi57 := Ini_put hi55 (ob 3 [.ref a7, .ref a15, .ref a23, .ref a31, .ref a39, .ref a47, .ref a55, iv 0, iv 0, iv 0, jv 0, jv 0, jv 0, iv 0])
  have khi57 := Keep_put (e := ob 3 [.ref a7, .ref a15, .ref a23, .ref a31, .ref a39, .ref a47, .ref a55, iv 0, iv 0, iv 0, jv 0, jv 0, jv 0, iv 0]) khi55
  refine r_vret X Y dX7_init_60 (by decide) (by decide) ?_
  exact ⟨rfl, a7, a15, a23, a31, a39, a47, a55, hi57, khi57, hfa7, hfa15, hfa23, hfa31, hfa39, hfa47, hfa55⟩
