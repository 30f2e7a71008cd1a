/-! the model: order, list -/
/-- the model's list is r -/
def EL (e1 e2 e3 : Nat → Int) (r : List Nat) : Prop := ∀ i, i < r.length → e1 i = lnK ((nthR r i : Nat) : Int) 0 ∧ e2 i = lnK ((nthR r i : Nat) : Int) 1 ∧ e3 i = lnK ((nthR r i : Nat) : Int) 2
theorem onC_f (σ : Tg) (i : Nat) : onC (σ i) = 4294967296 * fA σ i + 65536 * fB σ i + fC σ i := by
  unfold onC fA fB fC
  cases σ i with
  | none => rfl
  | some t => obtain ⟨a, b, c⟩ := t; rfl
abbrev rX7_isBehind : Room := { frames := 3, cells := 0, slots := 0, locals := 80 }
theorem c_X7_isBehind {l : Launch} (hl : l.stackTraces = false) (D : va_G) (z0 : Nat) (h : Hp) {y : Nat} {v : Nat → Nat} {σ : Tg} {e1 e2 e3 od : Nat → Int} {lc oc tc hi lo rf sq : Int} (hm : Mz D h y v (fA σ) (fB σ) (fC σ) e1 e2 e3 od lc oc tc hi lo rf sq) (ht : TVs σ) (p q : Int) (hp : pl p) (hq : pl q) (a b c d e f : Int) (hs : σ p.toNat = some (a, b, c)) (hs2 : σ q.toNat = some (d, e, f)) (w : Int) (hw : 0 ≤ w ∧ w ≤ 65535) : CC l yX7_isBehind cX7_isBehind 4 (some .boolean) rX7_isBehind D z0 h [.ref y, iv p, iv q, iv w] (fun w0 h' => w0 = some (iv (lsI σ w q p)) ∧ (∃ hi lo : Int, Mz D h' y v (fA σ) (fB σ) (fC σ) e1 e2 e3 od lc oc tc hi lo rf sq) ∧ Keep (WM y v) h h') NX := by
  refine CC_of RX7 hl (by decide) rfl (Nat.le_of_ble_eq_true rfl) (fun K X Y Z hmn hKl => ?_)
  subst hKl
  have hv := ht p.toNat (by omega) a b c hs
  have hb := TV_b hv
  have hv2 := ht q.toNat (by omega) d e f hs2
  have hb2 := TV_b hv2
  have hl0 : ln a b c 0 = a := rfl
  have hl1 : ln a b c 1 = b := rfl
  have hk0 : ln d e f 0 = d := rfl
  have hk1 : ln d e f 1 = e := rfl
  have hls : lsI σ w q p = (if lsT w d e f a b c then 1 else 0) := by
    unfold lsI
    rw [on_s hs2, on_s hs]
  have hcv : 0 < cmpv (Sx a b c) (Sx d e f) ↔ Sx d e f < Sx a b c := by
    unfold cmpv
    (repeat' split) <;> omega
  show WW K D z0 4 h 0 0 0 [(0, .ref y), (1, iv p), (2, iv q), (3, iv w)] []
  refine r_iload_n 3 X dX7_isBehind_0 rfl ?_
  refine r_bipush X dX7_isBehind_1 (by decide) ?_
  refine r_icmp_ne 27 X dX7_isBehind_3 (by decide) ⟨by omega, by omega⟩ ⟨by omega, by omega⟩ (fun c3 => ?_) (fun c3 => ?_)
  · refine r_iload_n 3 X dX7_isBehind_27 rfl ?_
    refine r_bipush X dX7_isBehind_28 (by decide) ?_
    refine r_icmp_ne 54 X dX7_isBehind_30 (by decide) ⟨by omega, by omega⟩ ⟨by omega, by omega⟩ (fun c30 => ?_) (fun c30 => ?_)
    · refine r_aload_n 0 X dX7_isBehind_54 rfl ?_
      refine r_iload_n 1 X dX7_isBehind_55 rfl ?_
      refine r_iload_n 2 X dX7_isBehind_56 rfl ?_
      refine r_callV X dX7_isBehind_57 kX7_143 hm.1 (c_X7_compared (CX_l X) D z0 _ hm ht p q (by omega) (by omega) a b c d e f hs hs2) [] rfl rfl (Nat.le_of_ble_eq_true rfl) (by decide) (by decide) (fun _ _ z => z.elim) (fun v9 hq57 hv9 => ?_)
      obtain ⟨rfl, ⟨hi57, lo57, hm57⟩, kp57⟩ := hv9
      show WW K D z0 4 hq57 0 0 60 [(0, .ref y), (1, iv p), (2, iv q), (3, iv w)] [iv (cmpv (Sx a b c) (Sx d e f))]
      refine r_if_le 67 X dX7_isBehind_60 (by decide) ⟨by unfold cmpv; split <;> (try split) <;> omega, by unfold cmpv; split <;> (try split) <;> omega⟩ (fun c60 => ?_) (fun c60 => ?_)
      · refine r_iconst X dX7_isBehind_67 ?_
        refine r_zret X Y dX7_isBehind_68 (Or.inl rfl) (by decide) (by decide) ?_
        exact ⟨congrArg (fun z => some (iv z)) (show (0 : Int) = lsI σ w q p by rw [hls, if_neg (by omega)]), ⟨_, _, hm57⟩, kp57⟩
      · refine r_iconst X dX7_isBehind_63 ?_
        refine r_goto 68 X dX7_isBehind_64 (by decide) ?_
        refine r_zret X Y dX7_isBehind_68 (Or.inr rfl) (by decide) (by decide) ?_
        exact ⟨congrArg (fun z => some (iv z)) (show (1 : Int) = lsI σ w q p by rw [hls, if_pos (by omega)]), ⟨_, _, hm57⟩, kp57⟩
    · refine r_aload_n 0 X dX7_isBehind_33 rfl ?_
      refine r_iload_n 1 X dX7_isBehind_34 rfl ?_
      refine r_callV_v X dX7_isBehind_35 kX7_96 hm.1 (c_X7_aroundH (CX_l X) D z0 _ hm ht p (by omega) a b c hs) [] rfl rfl (Nat.le_of_ble_eq_true rfl) (by decide) rfl rfl (by decide) ?_
      refine r_aload_n 0 X dX7_isBehind_38 rfl ?_
      refine r_iload_n 2 X dX7_isBehind_39 rfl ?_
      refine r_callV_v X dX7_isBehind_40 kX7_96 hm.1 (c_X7_aroundH (CX_l X) D z0 _ hm ht q (by omega) d e f hs2) [iv (a + b + c)] rfl rfl (Nat.le_of_ble_eq_true rfl) (by decide) rfl rfl (by decide) ?_
      refine r_icmp_le 50 X dX7_isBehind_43 (by decide) ⟨by omega, by omega⟩ ⟨by omega, by omega⟩ (fun c43 => ?_) (fun c43 => ?_)
      · refine r_iconst X dX7_isBehind_50 ?_
        refine r_goto 68 X dX7_isBehind_51 (by decide) ?_
        refine r_zret X Y dX7_isBehind_68 (Or.inl rfl) (by decide) (by decide) ?_
        exact ⟨congrArg (fun z => some (iv z)) (show (0 : Int) = lsI σ w q p by rw [hls, if_neg (by omega)]), ⟨_, _, hm⟩, Keep_rf⟩
      · refine r_iconst X dX7_isBehind_46 ?_
        refine r_goto 68 X dX7_isBehind_47 (by decide) ?_
        refine r_zret X Y dX7_isBehind_68 (Or.inr rfl) (by decide) (by decide) ?_
        exact ⟨congrArg (fun z => some (iv z)) (show (1 : Int) = lsI σ w q p by rw [hls, if_pos (by omega)]), ⟨_, _, hm⟩, Keep_rf⟩
  · refine r_aload_n 0 X dX7_isBehind_6 rfl ?_
    refine r_getf X dX7_isBehind_7 fX7_16 hm.1 rfl ?_
    refine r_iload_n 1 X dX7_isBehind_10 rfl ?_
    refine r_ialoadE X dX7_isBehind_11 hm.2.2.2.1 ⟨by omega, by omega⟩ (by decide) (fC_s hs) ?_
    refine r_aload_n 0 X dX7_isBehind_12 rfl ?_
    refine r_getf X dX7_isBehind_13 fX7_16 hm.1 rfl ?_
    refine r_iload_n 2 X dX7_isBehind_16 rfl ?_
    refine r_ialoadE X dX7_isBehind_17 hm.2.2.2.1 ⟨by omega, by omega⟩ (by decide) (fC_s hs2) ?_
    refine r_icmp_le 25 X dX7_isBehind_18 (by decide) ⟨by omega, by omega⟩ ⟨by omega, by omega⟩ (fun c18 => ?_) (fun c18 => ?_)
    · refine r_iconst X dX7_isBehind_25 ?_
      refine r_zret X Y dX7_isBehind_26 (Or.inl rfl) (by decide) (by decide) ?_
      exact ⟨congrArg (fun z => some (iv z)) (show (0 : Int) = lsI σ w q p by rw [hls, if_neg (by omega)]), ⟨_, _, hm⟩, Keep_rf⟩
    · refine r_iconst X dX7_isBehind_21 ?_
      refine r_goto 26 X dX7_isBehind_22 (by decide) ?_
      refine r_zret X Y dX7_isBehind_26 (Or.inr rfl) (by decide) (by decide) ?_
      exact ⟨congrArg (fun z => some (iv z)) (show (1 : Int) = lsI σ w q p by rw [hls, if_pos (by omega)]), ⟨_, _, hm⟩, Keep_rf⟩
abbrev rX7_sort : Room := { frames := 4, cells := 0, slots := 0, locals := 103 }
theorem c_X7_sort {l : Launch} (hl : l.stackTraces = false) (D : va_G) (z0 : Nat) (h : Hp) {y : Nat} {v : Nat → Nat} {σ : Tg} {e1 e2 e3 od : Nat → Int} {lc oc tc hi lo rf sq : Int} (hm : Mz D h y v (fA σ) (fB σ) (fC σ) e1 e2 e3 od lc oc tc hi lo rf sq) (ht : TVs σ) (w : Int) (hw : 0 ≤ w ∧ w ≤ 65535) : CC l yX7_sort cX7_sort 4 (some .int) rX7_sort D z0 h [.ref y, iv w] (fun w0 h' => w0 = some (iv (if cdBy w = 0 then ((srt σ w od 16).1 : Int) else 0)) ∧ (∃ hi lo rf sq : Int, Mz D h' y v (fA σ) (fB σ) (fC σ) e1 e2 e3 (if cdBy w = 0 then (srt σ w od 16).2 else od) lc (if cdBy w = 0 then ((srt σ w od 16).1 : Int) else oc) (cdBy w) hi lo rf sq) ∧ Keep (WM y v) h h') NX := by
  refine CC_of RX7 hl (by decide) rfl (Nat.le_of_ble_eq_true rfl) (fun K X Y Z hmn hKl => ?_)
  subst hKl
  show WW K D z0 4 h 0 0 0 [(0, .ref y), (1, iv w)] []
  have loop : cdBy w = 0 → ∀ (m k : Nat) (hA : Hp) (hiA loA : Int), k + m = 16 → Mz D hA y v (fA σ) (fB σ) (fC σ) e1 e2 e3 ((srt σ w od k).2) lc ((srt σ w od k).1 : Int) 0 hiA loA rf sq → Keep (WM y v) h hA → WW K D z0 4 hA 0 0 39 [(2, iv (k : Int)), (0, .ref y), (1, iv w)] [] := by
    intro hcd m
    induction m with
    | zero =>
      intro k hA hiA loA hk hmA kpA
      have hk2 : k = 16 := hk
      subst hk2
      refine r_iload_n 0 X dX7_sort_39 rfl ?_
      refine r_bipush X dX7_sort_40 (by decide) ?_
      refine r_icmp_ge 125 X dX7_sort_42 (by decide) ⟨by omega, by omega⟩ ⟨by omega, by omega⟩ (fun c42 => ?_) (fun c42 => ?_)
      · refine r_aload_n 1 X dX7_sort_125 rfl ?_
        refine r_getf X dX7_sort_126 fX7_183 hmA.1 rfl ?_
        refine r_iret X Y dX7_sort_129 (by decide) (by decide) ?_
        exact ⟨by rw [if_pos hcd], ⟨_, _, _, _, by rw [if_pos hcd, if_pos hcd, hcd]; exact hmA⟩, kpA⟩
      · exfalso
        omega
    | succ m ih0 =>
      intro k hA hiA loA hk hmA kpA
      have hok := srt_ok σ w od k (by omega)
      refine r_iload_n 0 X dX7_sort_39 rfl ?_
      refine r_bipush X dX7_sort_40 (by decide) ?_
      refine r_icmp_ge 125 X dX7_sort_42 (by decide) ⟨by omega, by omega⟩ ⟨by omega, by omega⟩ (fun c42 => ?_) (fun c42 => ?_)
      · exfalso
        omega
      · refine r_aload_n 1 X dX7_sort_45 rfl ?_
        refine r_iload_n 0 X dX7_sort_46 rfl ?_
        refine r_callV_v X dX7_sort_47 kX7_45 hmA.1 (c_X7_isThere (CX_l X) D z0 _ hmA ht (k : Int) (by omega)) [] rfl rfl (Nat.le_of_ble_eq_true rfl) (by decide) rfl rfl (by decide) ?_
        refine r_ifb_ne 56 X dX7_sort_50 (by decide) (fun c50 => ?_) (fun c50 => ?_)
        · obtain ⟨d, e, f, hs2⟩ := some_of (σ := σ) (i := (k : Int).toNat) c50
          have es : srt σ w od (k + 1) = ((srt σ w od k).1 + 1, insO σ w (k : Int) (srt σ w od k).1 (srt σ w od k).2) := by
            rw [srt_s, show σ k = some (d, e, f) from hs2]
            rfl
          have inner : ∀ (j : Nat) (q : Nat → Int) (hB : Hp) (hiB loB : Int), j ≤ (srt σ w od k).1 → (∀ i, i < j → q i = (srt σ w od k).2 i) → insO σ w (k : Int) j q = insO σ w (k : Int) (srt σ w od k).1 (srt σ w od k).2 → Mz D hB y v (fA σ) (fB σ) (fC σ) e1 e2 e3 q lc ((srt σ w od k).1 : Int) 0 hiB loB rf sq → Keep (WM y v) h hB → WW K D z0 4 hB 0 0 61 [(3, iv (j : Int)), (2, iv (k : Int)), (0, .ref y), (1, iv w)] [] := by
            intro j
            induction j with
            | zero =>
              intro q hB hiB loB hj hqo hqe hmB kpB
              refine r_iload_n 0 X dX7_sort_61 rfl ?_
              refine r_if_le 102 X dX7_sort_62 (by decide) ⟨by omega, by omega⟩ (fun c62 => ?_) (fun c62 => ?_)
              · refine r_aload_n 2 X dX7_sort_102 rfl ?_
                refine r_getf X dX7_sort_103 fX7_28 hmB.1 rfl ?_
                refine r_iload_n 0 X dX7_sort_106 rfl ?_
                refine r_iload_n 1 X dX7_sort_107 rfl ?_
                refine r_mst6 X dX7_sort_108 hmB ⟨by omega, by omega⟩ (fun hp108 hm108 kp108 => ?_)
                refine r_aload_n 2 X dX7_sort_109 rfl ?_
                refine r_dup X dX7_sort_110 rfl ?_
                refine r_getf X dX7_sort_111 fX7_183 hm108.1 rfl ?_
                refine r_iconst X dX7_sort_114 ?_
                refine r_iadd X dX7_sort_115 ?_
                refine r_mput X dX7_sort_116 fX7_183 hm108 lc (((srt σ w od k).1 : Int) + 1) 0 hiB loB rf sq rfl (by decide) rfl rfl rfl (fun hp116 hm116 kp116 => ?_)
                refine r_iinc 1 (L' := [(2, iv ((k : Int) + 1)), (3, iv ((0 : Nat) : Int)), (0, .ref y), (1, iv w)]) X dX7_sort_119 rfl (by decide) rfl ?_
                refine r_goto 39 X dX7_sort_122 (by decide) ?_
                refine WW_sub (L' := [(2, iv ((k : Int) + 1)), (0, .ref y), (1, iv w)]) [0, 2, 3] rfl ?_
                rw [show (k : Int) + 1 = ((k + 1 : Nat) : Int) from rfl]
                refine ih0 (k + 1) hp116 hiB loB (by omega) ?_ (Keep_tr (Keep_tr kpB kp108) kp116)
                have hz := hm116
                rw [Int.toNat_natCast] at hz
                rw [es, ← hqe]
                unfold insO
                exact hz
              · exfalso
                omega
            | succ j ih =>
              intro q hB hiB loB hj hqo hqe hmB kpB
              have e8 : ((((j + 1 : Nat) : Int) - 1).toNat) = j := by omega
              obtain ⟨hpq, a, b, c, hs⟩ : hdp σ (q j) := by rw [hqo j (by omega)]; exact hok.2 j (by omega)
              refine r_iload_n 0 X dX7_sort_61 rfl ?_
              refine r_if_le 102 X dX7_sort_62 (by decide) ⟨by omega, by omega⟩ (fun c62 => ?_) (fun c62 => ?_)
              · exfalso
                omega
              · refine r_aload_n 2 X dX7_sort_65 rfl ?_
                refine r_aload_n 2 X dX7_sort_66 rfl ?_
                refine r_getf X dX7_sort_67 fX7_28 hmB.1 rfl ?_
                refine r_iload_n 0 X dX7_sort_70 rfl ?_
                refine r_iconst X dX7_sort_71 ?_
                refine r_isub X dX7_sort_72 ?_
                refine r_iaload X dX7_sort_73 hmB.2.2.2.2.2.2.2.1 ⟨by omega, by omega⟩ (by decide) ?_
                refine WW_e (congrArg (fun z => iv z :: [.ref y]) (show q ((((j + 1 : Nat) : Int) - 1).toNat) = q j by rw [e8])) ?_
                show WW K D z0 4 hB 0 0 74 [(3, iv ((j + 1 : Nat) : Int)), (2, iv (k : Int)), (0, .ref y), (1, iv w)] [iv (q j), .ref y]
                refine r_iload_n 1 X dX7_sort_74 rfl ?_
                refine r_iload_n 3 X dX7_sort_75 rfl ?_
                refine r_callV X dX7_sort_76 kX7_186 hmB.1 (c_X7_isBehind (CX_l X) D z0 _ hmB ht (q j) (k : Int) (by omega) (by omega) a b c d e f hs hs2 w hw) [] rfl rfl (Nat.le_of_ble_eq_true rfl) (by decide) (by decide) (fun _ _ z => z.elim) (fun v9 hq76 hv9 => ?_)
                obtain ⟨rfl, ⟨hi76, lo76, hm76⟩, kp76⟩ := hv9
                show WW K D z0 4 hq76 0 0 79 [(3, iv ((j + 1 : Nat) : Int)), (2, iv (k : Int)), (0, .ref y), (1, iv w)] [iv (lsI σ w (k : Int) (q j))]
                refine r_if_eq 102 X dX7_sort_79 (by decide) (lsI_r _ _ _ _) (fun c79 => ?_) (fun c79 => ?_)
                · refine r_aload_n 2 X dX7_sort_102 rfl ?_
                  refine r_getf X dX7_sort_103 fX7_28 hm76.1 rfl ?_
                  refine r_iload_n 0 X dX7_sort_106 rfl ?_
                  refine r_iload_n 1 X dX7_sort_107 rfl ?_
                  refine r_mst6 X dX7_sort_108 hm76 ⟨by omega, by omega⟩ (fun hp108 hm108 kp108 => ?_)
                  refine r_aload_n 2 X dX7_sort_109 rfl ?_
                  refine r_dup X dX7_sort_110 rfl ?_
                  refine r_getf X dX7_sort_111 fX7_183 hm108.1 rfl ?_
                  refine r_iconst X dX7_sort_114 ?_
                  refine r_iadd X dX7_sort_115 ?_
                  refine r_mput X dX7_sort_116 fX7_183 hm108 lc (((srt σ w od k).1 : Int) + 1) 0 hi76 lo76 rf sq rfl (by decide) rfl rfl rfl (fun hp116 hm116 kp116 => ?_)
                  refine r_iinc 1 (L' := [(2, iv ((k : Int) + 1)), (3, iv ((j + 1 : Nat) : Int)), (0, .ref y), (1, iv w)]) X dX7_sort_119 rfl (by decide) rfl ?_
                  refine r_goto 39 X dX7_sort_122 (by decide) ?_
                  refine WW_sub (L' := [(2, iv ((k : Int) + 1)), (0, .ref y), (1, iv w)]) [0, 2, 3] rfl ?_
                  rw [show (k : Int) + 1 = ((k + 1 : Nat) : Int) from rfl]
                  refine ih0 (k + 1) hp116 hi76 lo76 (by omega) ?_ (Keep_tr (Keep_tr (Keep_tr kpB kp76) kp108) kp116)
                  have hz := hm116
                  rw [Int.toNat_natCast] at hz
                  rw [es, ← hqe]
                  rw [insO_s, if_pos c79]
                  exact hz
                · refine r_aload_n 2 X dX7_sort_82 rfl ?_
                  refine r_getf X dX7_sort_83 fX7_28 hm76.1 rfl ?_
                  refine r_iload_n 0 X dX7_sort_86 rfl ?_
                  refine r_aload_n 2 X dX7_sort_87 rfl ?_
                  refine r_getf X dX7_sort_88 fX7_28 hm76.1 rfl ?_
                  refine r_iload_n 0 X dX7_sort_91 rfl ?_
                  refine r_iconst X dX7_sort_92 ?_
                  refine r_isub X dX7_sort_93 ?_
                  refine r_iaload X dX7_sort_94 hm76.2.2.2.2.2.2.2.1 ⟨by omega, by omega⟩ (by decide) ?_
                  refine WW_e (congrArg (fun z => iv z :: [iv ((j + 1 : Nat) : Int), .ref (v 6)]) (show q ((((j + 1 : Nat) : Int) - 1).toNat) = q j by rw [e8])) ?_
                  show WW K D z0 4 hq76 0 0 95 [(3, iv ((j + 1 : Nat) : Int)), (2, iv (k : Int)), (0, .ref y), (1, iv w)] [iv (q j), iv ((j + 1 : Nat) : Int), .ref (v 6)]
                  refine r_mst6 X dX7_sort_95 hm76 ⟨by omega, by omega⟩ (fun hp95 hm95 kp95 => ?_)
                  refine r_iinc 0 (L' := [(3, iv (((j + 1 : Nat) : Int) + (-1))), (2, iv (k : Int)), (0, .ref y), (1, iv w)]) X dX7_sort_96 rfl (by decide) rfl ?_
                  refine r_goto 61 X dX7_sort_99 (by decide) ?_
                  rw [show ((j + 1 : Nat) : Int) + (-1) = (j : Int) by omega]
                  have hz := hm95
                  rw [Int.toNat_natCast] at hz
                  refine ih _ _ _ _ (by omega) (fun i hi => ?_) ?_ hz (Keep_tr (Keep_tr kpB kp76) kp95)
                  · rw [up_n _ _ (by omega)]
                    exact hqo i (by omega)
                  · rw [← hqe, insO_s, if_neg c79]
          refine r_aload_n 1 X dX7_sort_56 rfl ?_
          refine r_getf X dX7_sort_57 fX7_183 hmA.1 rfl ?_
          refine r_istore_n (L' := [(3, iv ((srt σ w od k).1 : Int)), (2, iv (k : Int)), (0, .ref y), (1, iv w)]) X dX7_sort_60 (by decide) rfl ?_
          exact inner (srt σ w od k).1 (srt σ w od k).2 _ _ _ (Nat.le_refl _) (fun _ _ => rfl) rfl hmA kpA
        · refine r_goto 119 X dX7_sort_53 (by decide) ?_
          refine r_iinc 0 (L' := [(2, iv ((k : Int) + 1)), (0, .ref y), (1, iv w)]) X dX7_sort_119 rfl (by decide) rfl ?_
          refine r_goto 39 X dX7_sort_122 (by decide) ?_
          rw [show (k : Int) + 1 = ((k + 1 : Nat) : Int) from rfl]
          have es : srt σ w od (k + 1) = srt σ w od k := by
            rw [srt_s, if_pos (nN_s.mp (show ¬ (σ k).isSome = true from c50))]
          refine ih0 (k + 1) hA hiA loA (by omega) ?_ kpA
          rw [es]
          exact hmA
  refine r_aload_n 0 X dX7_sort_0 rfl ?_
  refine r_iload_n 1 X dX7_sort_1 rfl ?_
  refine r_bipush X dX7_sort_2 (by decide) ?_
  refine r_icmp_eq 19 X dX7_sort_4 (by decide) ⟨by omega, by omega⟩ ⟨by omega, by omega⟩ (fun c4 => ?_) (fun c4 => ?_)
  · refine r_iconst X dX7_sort_19 ?_
    refine r_goto 24 X dX7_sort_20 (by decide) ?_
    refine r_callV X dX7_sort_24 kX7_57 hm.1 (c_X7_isWrong (CX_l X) D z0 _ hm 0 ⟨by omega, by omega⟩) [] rfl rfl (Nat.le_of_ble_eq_true rfl) (by decide) (by decide) (fun _ _ z => z.elim) (fun v9 hq24 hv9 => ?_)
    obtain ⟨rfl, hm24, kp24⟩ := hv9
    show WW K D z0 4 hq24 0 0 27 [(0, .ref y), (1, iv w)] [iv 0]
    refine r_if_eq 32 X dX7_sort_27 (by decide) ⟨by omega, by omega⟩ (fun c27 => ?_) (fun c27 => ?_)
    · refine r_aload_n 0 X dX7_sort_32 rfl ?_
      refine r_iconst X dX7_sort_33 ?_
      refine r_mput X dX7_sort_34 fX7_183 hm24 lc 0 0 hi lo rf sq rfl (by decide) rfl rfl rfl (fun hp34 hm34 kp34 => ?_)
      refine r_iconst X dX7_sort_37 ?_
      refine r_istore_n (L' := [(2, iv 0), (0, .ref y), (1, iv w)]) X dX7_sort_38 (by decide) rfl ?_
      exact loop (if_pos (by omega)) 16 0 _ _ _ rfl hm34 (Keep_tr kp24 kp34)
    · exfalso
      omega
  · refine r_iload_n 1 X dX7_sort_7 rfl ?_
    refine r_bipush X dX7_sort_8 (by decide) ?_
    refine r_icmp_eq 19 X dX7_sort_10 (by decide) ⟨by omega, by omega⟩ ⟨by omega, by omega⟩ (fun c10 => ?_) (fun c10 => ?_)
    · refine r_iconst X dX7_sort_19 ?_
      refine r_goto 24 X dX7_sort_20 (by decide) ?_
      refine r_callV X dX7_sort_24 kX7_57 hm.1 (c_X7_isWrong (CX_l X) D z0 _ hm 0 ⟨by omega, by omega⟩) [] rfl rfl (Nat.le_of_ble_eq_true rfl) (by decide) (by decide) (fun _ _ z => z.elim) (fun v9 hq24 hv9 => ?_)
      obtain ⟨rfl, hm24, kp24⟩ := hv9
      show WW K D z0 4 hq24 0 0 27 [(0, .ref y), (1, iv w)] [iv 0]
      refine r_if_eq 32 X dX7_sort_27 (by decide) ⟨by omega, by omega⟩ (fun c27 => ?_) (fun c27 => ?_)
      · refine r_aload_n 0 X dX7_sort_32 rfl ?_
        refine r_iconst X dX7_sort_33 ?_
        refine r_mput X dX7_sort_34 fX7_183 hm24 lc 0 0 hi lo rf sq rfl (by decide) rfl rfl rfl (fun hp34 hm34 kp34 => ?_)
        refine r_iconst X dX7_sort_37 ?_
        refine r_istore_n (L' := [(2, iv 0), (0, .ref y), (1, iv w)]) X dX7_sort_38 (by decide) rfl ?_
        exact loop (if_pos (by omega)) 16 0 _ _ _ rfl hm34 (Keep_tr kp24 kp34)
      · exfalso
        omega
    · refine r_iload_n 1 X dX7_sort_13 rfl ?_
      refine r_bipush X dX7_sort_14 (by decide) ?_
      refine r_icmp_ne 23 X dX7_sort_16 (by decide) ⟨by omega, by omega⟩ ⟨by omega, by omega⟩ (fun c16 => ?_) (fun c16 => ?_)
      · refine r_iconst X dX7_sort_23 ?_
        refine r_callV X dX7_sort_24 kX7_57 hm.1 (c_X7_isWrong (CX_l X) D z0 _ hm 1 ⟨by omega, by omega⟩) [] rfl rfl (Nat.le_of_ble_eq_true rfl) (by decide) (by decide) (fun _ _ z => z.elim) (fun v9 hq24 hv9 => ?_)
        obtain ⟨rfl, hm24, kp24⟩ := hv9
        show WW K D z0 4 hq24 0 0 27 [(0, .ref y), (1, iv w)] [iv 1]
        refine r_if_eq 32 X dX7_sort_27 (by decide) ⟨by omega, by omega⟩ (fun c27 => ?_) (fun c27 => ?_)
        · exfalso
          omega
        · refine r_iconst X dX7_sort_30 ?_
          refine r_iret X Y dX7_sort_31 (by decide) (by decide) ?_
          have hn1 : cdBy w = 1 := if_neg (by omega)
          exact ⟨by rw [if_neg (by omega)], ⟨_, _, _, _, by rw [if_neg (show ¬ cdBy w = 0 by omega), if_neg (show ¬ cdBy w = 0 by omega), hn1]; exact hm24⟩, kp24⟩
      · refine r_iconst X dX7_sort_19 ?_
        refine r_goto 24 X dX7_sort_20 (by decide) ?_
        refine r_callV X dX7_sort_24 kX7_57 hm.1 (c_X7_isWrong (CX_l X) D z0 _ hm 0 ⟨by omega, by omega⟩) [] rfl rfl (Nat.le_of_ble_eq_true rfl) (by decide) (by decide) (fun _ _ z => z.elim) (fun v9 hq24 hv9 => ?_)
        obtain ⟨rfl, hm24, kp24⟩ := hv9
        show WW K D z0 4 hq24 0 0 27 [(0, .ref y), (1, iv w)] [iv 0]
        refine r_if_eq 32 X dX7_sort_27 (by decide) ⟨by omega, by omega⟩ (fun c27 => ?_) (fun c27 => ?_)
        · refine r_aload_n 0 X dX7_sort_32 rfl ?_
          refine r_iconst X dX7_sort_33 ?_
          refine r_mput X dX7_sort_34 fX7_183 hm24 lc 0 0 hi lo rf sq rfl (by decide) rfl rfl rfl (fun hp34 hm34 kp34 => ?_)
          refine r_iconst X dX7_sort_37 ?_
          refine r_istore_n (L' := [(2, iv 0), (0, .ref y), (1, iv w)]) X dX7_sort_38 (by decide) rfl ?_
          exact loop (if_pos (by omega)) 16 0 _ _ _ rfl hm34 (Keep_tr kp24 kp34)
        · exfalso
          omega
abbrev rX7_sorted : Room := { frames := 1, cells := 0, slots := 0, locals := 25 }
theorem c_X7_sorted {l : Launch} (hl : l.stackTraces = false) (D : va_G) (z0 : Nat) (h : Hp) {y : Nat} {v : Nat → Nat} {σ : Tg} {e1 e2 e3 od : Nat → Int} {lc oc tc hi lo rf sq : Int} (hm : Mz D h y v (fA σ) (fB σ) (fC σ) e1 e2 e3 od lc oc tc hi lo rf sq) (ht : TVs σ) (w : Int) (hw : I32 w) (hn : 0 ≤ oc ∧ oc ≤ 16) : CC l yX7_sorted cX7_sorted 2 (some .int) rX7_sorted D z0 h [.ref y, iv w] (MO D y v σ σ e1 e2 e3 od lc oc (cdSo oc w) (iv (od w.toNat)) (iv 0) h) NX := by
  refine CC_of RX7 hl (by decide) rfl (Nat.le_of_ble_eq_true rfl) (fun K X Y Z hmn hKl => ?_)
  subst hKl
  show WW K D z0 2 h 0 0 0 [(0, .ref y), (1, iv w)] []
  refine r_aload_n 0 X dX7_sorted_0 rfl ?_
  refine r_iload_n 1 X dX7_sorted_1 rfl ?_
  refine r_i2l X dX7_sorted_2 ⟨by omega, by omega⟩ ?_
  refine r_lconst 0 X dX7_sorted_3 (by decide) ?_
  refine r_aload_n 0 X dX7_sorted_4 rfl ?_
  refine r_getf X dX7_sorted_5 fX7_183 hm.1 rfl ?_
  refine r_iconst X dX7_sorted_8 ?_
  refine r_isub X dX7_sorted_9 ?_
  refine r_i2l X dX7_sorted_10 ⟨by omega, by omega⟩ ?_
  refine r_callS_v X dX7_sorted_11 kX7_37 (c_X7_isBetween (CX_l X) D z0 _ w 0 (oc - 1) ⟨by omega, by omega⟩ ⟨by omega, by omega⟩ ⟨by omega, by omega⟩) [.ref y] rfl rfl (Nat.le_of_ble_eq_true rfl) (by decide) rfl rfl (by decide) ?_
  refine r_ifb_eq 21 X dX7_sorted_14 (by decide) (fun c14 => ?_) (fun c14 => ?_)
  · refine r_iconst X dX7_sorted_21 ?_
    refine r_callV X dX7_sorted_22 kX7_57 hm.1 (c_X7_isWrong (CX_l X) D z0 _ hm 1 ⟨by omega, by omega⟩) [] rfl rfl (Nat.le_of_ble_eq_true rfl) (by decide) (by decide) (fun _ _ z => z.elim) (fun v9 hq22 hv9 => ?_)
    obtain ⟨rfl, hm22, kp22⟩ := hv9
    show WW K D z0 2 hq22 0 0 25 [(0, .ref y), (1, iv w)] [iv 1]
    refine r_if_eq 32 X dX7_sorted_25 (by decide) ⟨by omega, by omega⟩ (fun c25 => ?_) (fun c25 => ?_)
    · exfalso
      omega
    · refine r_iconst X dX7_sorted_28 ?_
      refine r_goto 38 X dX7_sorted_29 (by decide) ?_
      refine r_iret X Y dX7_sorted_38 (by decide) (by decide) ?_
      exact MO_w (by unfold cdSo; (try simp only [isNone_f, isNone_t, true_or, or_true, false_or, or_false]); (repeat' split) <;> first | rfl | omega | contradiction | (exfalso; simp_all; done) | (exfalso; simp_all; omega)) (by first | decide | omega) hm22 kp22
  · refine r_iconst X dX7_sorted_17 ?_
    refine r_goto 22 X dX7_sorted_18 (by decide) ?_
    refine r_callV X dX7_sorted_22 kX7_57 hm.1 (c_X7_isWrong (CX_l X) D z0 _ hm 0 ⟨by omega, by omega⟩) [] rfl rfl (Nat.le_of_ble_eq_true rfl) (by decide) (by decide) (fun _ _ z => z.elim) (fun v9 hq22 hv9 => ?_)
    obtain ⟨rfl, hm22, kp22⟩ := hv9
    show WW K D z0 2 hq22 0 0 25 [(0, .ref y), (1, iv w)] [iv 0]
    refine r_if_eq 32 X dX7_sorted_25 (by decide) ⟨by omega, by omega⟩ (fun c25 => ?_) (fun c25 => ?_)
    · refine r_aload_n 0 X dX7_sorted_32 rfl ?_
      refine r_getf X dX7_sorted_33 fX7_28 hm22.1 rfl ?_
      refine r_iload_n 1 X dX7_sorted_36 rfl ?_
      refine r_iaload X dX7_sorted_37 hm22.2.2.2.2.2.2.2.1 ⟨by omega, by omega⟩ (by decide) ?_
      refine r_iret X Y dX7_sorted_38 (by decide) (by decide) ?_
      exact MO_k (by unfold cdSo; (try simp only [isNone_f, isNone_t, true_or, or_true, false_or, or_false]); (repeat' split) <;> first | rfl | omega | contradiction | (exfalso; simp_all; done) | (exfalso; simp_all; omega)) rfl rfl hm22 kp22
    · exfalso
      omega
abbrev rX7_listed : Room := { frames := 1, cells := 0, slots := 0, locals := 25 }
theorem c_X7_listed {l : Launch} (hl : l.stackTraces = false) (D : va_G) (z0 : Nat) (h : Hp) {y : Nat} {v : Nat → Nat} {σ : Tg} {e1 e2 e3 od : Nat → Int} {lc oc tc hi lo rf sq : Int} (hm : Mz D h y v (fA σ) (fB σ) (fC σ) e1 e2 e3 od lc oc tc hi lo rf sq) (ht : TVs σ) (i w : Int) (hi0 : I32 i) (hw0 : I32 w) (r : List Nat) (hlc : lc = (r.length : Int)) (hr : r.length ≤ 63) (hE : EL e1 e2 e3 r) : CC l yX7_listed cX7_listed 3 (some .int) rX7_listed D z0 h [.ref y, iv i, iv w] (MO D y v σ σ e1 e2 e3 od lc oc (cdLd r.length i w) (iv (lnK ((nthR r i.toNat : Nat) : Int) w)) (iv 0) h) NX := by
  refine CC_of RX7 hl (by decide) rfl (Nat.le_of_ble_eq_true rfl) (fun K X Y Z hmn hKl => ?_)
  subst hKl
  show WW K D z0 3 h 0 0 0 [(0, .ref y), (1, iv i), (2, iv w)] []
  refine r_aload_n 0 X dX7_listed_0 rfl ?_
  refine r_iload_n 1 X dX7_listed_1 rfl ?_
  refine r_i2l X dX7_listed_2 ⟨by omega, by omega⟩ ?_
  refine r_lconst 0 X dX7_listed_3 (by decide) ?_
  refine r_aload_n 0 X dX7_listed_4 rfl ?_
  refine r_getf X dX7_listed_5 fX7_178 hm.1 rfl ?_
  refine r_iconst X dX7_listed_8 ?_
  refine r_isub X dX7_listed_9 ?_
  refine r_i2l X dX7_listed_10 ⟨by omega, by omega⟩ ?_
  refine r_callS_v X dX7_listed_11 kX7_37 (c_X7_isBetween (CX_l X) D z0 _ i 0 (lc - 1) ⟨by omega, by omega⟩ ⟨by omega, by omega⟩ ⟨by omega, by omega⟩) [.ref y] rfl rfl (Nat.le_of_ble_eq_true rfl) (by decide) rfl rfl (by decide) ?_
  refine r_ifb_eq 33 X dX7_listed_14 (by decide) (fun c14 => ?_) (fun c14 => ?_)
  · refine r_iconst X dX7_listed_33 ?_
    refine r_callV X dX7_listed_34 kX7_57 hm.1 (c_X7_isWrong (CX_l X) D z0 _ hm 1 ⟨by omega, by omega⟩) [] rfl rfl (Nat.le_of_ble_eq_true rfl) (by decide) (by decide) (fun _ _ z => z.elim) (fun v9 hq34 hv9 => ?_)
    obtain ⟨rfl, hm34, kp34⟩ := hv9
    show WW K D z0 3 hq34 0 0 37 [(0, .ref y), (1, iv i), (2, iv w)] [iv 1]
    refine r_if_eq 42 X dX7_listed_37 (by decide) ⟨by omega, by omega⟩ (fun c37 => ?_) (fun c37 => ?_)
    · exfalso
      omega
    · refine r_iconst X dX7_listed_40 ?_
      refine r_iret X Y dX7_listed_41 (by decide) (by decide) ?_
      exact MO_w (by unfold cdLd; (try simp only [isNone_f, isNone_t, true_or, or_true, false_or, or_false]); (repeat' split) <;> first | rfl | omega | contradiction | (exfalso; simp_all; done) | (exfalso; simp_all; omega)) (by first | decide | omega) hm34 kp34
  · refine r_iload_n 2 X dX7_listed_17 rfl ?_
    refine r_i2l X dX7_listed_18 ⟨by omega, by omega⟩ ?_
    refine r_lconst 0 X dX7_listed_19 (by decide) ?_
    refine r_ldc2 2 X dX7_listed_20 nX7_71 (by decide) ?_
    refine r_callS_v X dX7_listed_23 kX7_37 (c_X7_isBetween (CX_l X) D z0 _ w 0 2 ⟨by omega, by omega⟩ ⟨by omega, by omega⟩ ⟨by omega, by omega⟩) [.ref y] rfl rfl (Nat.le_of_ble_eq_true rfl) (by decide) rfl rfl (by decide) ?_
    refine r_ifb_eq 33 X dX7_listed_26 (by decide) (fun c26 => ?_) (fun c26 => ?_)
    · refine r_iconst X dX7_listed_33 ?_
      refine r_callV X dX7_listed_34 kX7_57 hm.1 (c_X7_isWrong (CX_l X) D z0 _ hm 1 ⟨by omega, by omega⟩) [] rfl rfl (Nat.le_of_ble_eq_true rfl) (by decide) (by decide) (fun _ _ z => z.elim) (fun v9 hq34 hv9 => ?_)
      obtain ⟨rfl, hm34, kp34⟩ := hv9
      show WW K D z0 3 hq34 0 0 37 [(0, .ref y), (1, iv i), (2, iv w)] [iv 1]
      refine r_if_eq 42 X dX7_listed_37 (by decide) ⟨by omega, by omega⟩ (fun c37 => ?_) (fun c37 => ?_)
      · exfalso
        omega
      · refine r_iconst X dX7_listed_40 ?_
        refine r_iret X Y dX7_listed_41 (by decide) (by decide) ?_
        exact MO_w (by unfold cdLd; (try simp only [isNone_f, isNone_t, true_or, or_true, false_or, or_false]); (repeat' split) <;> first | rfl | omega | contradiction | (exfalso; simp_all; done) | (exfalso; simp_all; omega)) (by first | decide | omega) hm34 kp34
    · refine r_iconst X dX7_listed_29 ?_
      refine r_goto 34 X dX7_listed_30 (by decide) ?_
      refine r_callV X dX7_listed_34 kX7_57 hm.1 (c_X7_isWrong (CX_l X) D z0 _ hm 0 ⟨by omega, by omega⟩) [] rfl rfl (Nat.le_of_ble_eq_true rfl) (by decide) (by decide) (fun _ _ z => z.elim) (fun v9 hq34 hv9 => ?_)
      obtain ⟨rfl, hm34, kp34⟩ := hv9
      show WW K D z0 3 hq34 0 0 37 [(0, .ref y), (1, iv i), (2, iv w)] [iv 0]
      refine r_if_eq 42 X dX7_listed_37 (by decide) ⟨by omega, by omega⟩ (fun c37 => ?_) (fun c37 => ?_)
      · refine r_iload_n 2 X dX7_listed_42 rfl ?_
        refine r_if_ne 55 X dX7_listed_43 (by decide) ⟨by omega, by omega⟩ (fun c43 => ?_) (fun c43 => ?_)
        · refine r_iload_n 2 X dX7_listed_55 rfl ?_
          refine r_iconst X dX7_listed_56 ?_
          refine r_icmp_ne 69 X dX7_listed_57 (by decide) ⟨by omega, by omega⟩ ⟨by omega, by omega⟩ (fun c57 => ?_) (fun c57 => ?_)
          · refine r_aload_n 0 X dX7_listed_69 rfl ?_
            refine r_getf X dX7_listed_70 fX7_25 hm34.1 rfl ?_
            refine r_iload_n 1 X dX7_listed_73 rfl ?_
            refine r_iaload X dX7_listed_74 hm34.2.2.2.2.2.2.1 ⟨by omega, by omega⟩ (by decide) ?_
            refine r_iret X Y dX7_listed_75 (by decide) (by decide) ?_
            exact MO_k (by unfold cdLd; (try simp only [isNone_f, isNone_t, true_or, or_true, false_or, or_false]); (repeat' split) <;> first | rfl | omega | contradiction | (exfalso; simp_all; done) | (exfalso; simp_all; omega)) rfl (congrArg iv ((hE i.toNat (by omega)).2.2.trans (by rw [show w = 2 by omega]))) hm34 kp34
          · refine r_aload_n 0 X dX7_listed_60 rfl ?_
            refine r_getf X dX7_listed_61 fX7_22 hm34.1 rfl ?_
            refine r_iload_n 1 X dX7_listed_64 rfl ?_
            refine r_iaload X dX7_listed_65 hm34.2.2.2.2.2.1 ⟨by omega, by omega⟩ (by decide) ?_
            refine r_goto 75 X dX7_listed_66 (by decide) ?_
            refine r_iret X Y dX7_listed_75 (by decide) (by decide) ?_
            exact MO_k (by unfold cdLd; (try simp only [isNone_f, isNone_t, true_or, or_true, false_or, or_false]); (repeat' split) <;> first | rfl | omega | contradiction | (exfalso; simp_all; done) | (exfalso; simp_all; omega)) rfl (congrArg iv ((hE i.toNat (by omega)).2.1.trans (by rw [show w = 1 by omega]))) hm34 kp34
        · refine r_aload_n 0 X dX7_listed_46 rfl ?_
          refine r_getf X dX7_listed_47 fX7_19 hm34.1 rfl ?_
          refine r_iload_n 1 X dX7_listed_50 rfl ?_
          refine r_iaload X dX7_listed_51 hm34.2.2.2.2.1 ⟨by omega, by omega⟩ (by decide) ?_
          refine r_goto 75 X dX7_listed_52 (by decide) ?_
          refine r_iret X Y dX7_listed_75 (by decide) (by decide) ?_
          exact MO_k (by unfold cdLd; (try simp only [isNone_f, isNone_t, true_or, or_true, false_or, or_false]); (repeat' split) <;> first | rfl | omega | contradiction | (exfalso; simp_all; done) | (exfalso; simp_all; omega)) rfl (congrArg iv ((hE i.toNat (by omega)).1.trans (by rw [show w = 0 by omega]))) hm34 kp34
      · exfalso
        omega
abbrev rX7_checksum : Room := { frames := 0, cells := 0, slots := 0, locals := 0 }
theorem c_X7_checksum {l : Launch} (hl : l.stackTraces = false) (D : va_G) (z0 : Nat) (h : Hp) {y : Nat} {v : Nat → Nat} {σ : Tg} {e1 e2 e3 od : Nat → Int} {lc oc tc hi lo rf sq : Int} (hm : Mz D h y v (fA σ) (fB σ) (fC σ) e1 e2 e3 od lc oc tc hi lo rf sq) (ht : TVs σ) (r : List Nat) (hlc : lc = (r.length : Int)) (hr : r.length ≤ 63) (hE : EL e1 e2 e3 r) (hb9 : ∀ a ∈ r, a < 134217728) (m : Nat) (hoc : oc = (m : Int)) (hm16 : m ≤ 16) (hod : ∀ i, i < m → 0 ≤ od i ∧ od i < 16) : CC l yX7_checksum cX7_checksum 4 (some .long) rX7_checksum D z0 h [.ref y] (fun w0 h' => w0 = some (jv (sO od (sL r (s16 σ 16) r.length) m)) ∧ Mz D h' y v (fA σ) (fB σ) (fC σ) e1 e2 e3 od lc oc 0 hi lo rf sq ∧ Keep (WM y v) h h') NX := by
  refine CC_of RX7 hl (by decide) rfl (Nat.le_of_ble_eq_true rfl) (fun K X Y Z hmn hKl => ?_)
  subst hKl
  show WW K D z0 4 h 0 0 0 [(0, .ref y)] []
  have hEb : ∀ i, i < r.length → 0 ≤ e3 i ∧ e3 i < 2147483648 := by
    intro i hi9
    rw [(hE i hi9).2.2]
    have := nthR_b hb9 (by decide) i
    unfold lnK
    rw [if_neg (by decide), if_neg (by decide)]
    omega
  refine r_aload_n 0 X dX7_checksum_0 rfl ?_
  refine r_iconst X dX7_checksum_1 ?_
  refine r_mput X dX7_checksum_2 fX7_31 hm lc oc 0 hi lo rf sq rfl (by decide) rfl rfl rfl (fun hp2 hm2 kp2 => ?_)
  refine r_lconst 0 X dX7_checksum_5 (by decide) ?_
  refine r_lstore_n (L' := [(1, jv 0), (0, .ref y)]) X dX7_checksum_6 (by decide) rfl ?_
  refine r_iconst X dX7_checksum_7 ?_
  refine r_istore_n (L' := [(3, iv 0), (1, jv 0), (0, .ref y)]) X dX7_checksum_8 (by decide) rfl ?_
  obtain ⟨Z1, hZ1⟩ : ∃ z, z = s16 σ 16 := ⟨_, rfl⟩
  obtain ⟨Z2, hZ2⟩ : ∃ z, z = sL r Z1 r.length := ⟨_, rfl⟩
  have hfin : sO od Z2 m = sO od (sL r (s16 σ 16) r.length) m := by rw [hZ2, hZ1]
  have loop3 : ∀ (q i : Nat), i + q = m → WW K D z0 4 hp2 0 0 91 [(3, iv (i : Int)), (1, jv (sO od Z2 i)), (0, .ref y)] [] := by
    intro q
    induction q with
    | zero =>
      intro i hi9
      refine r_iload_n 0 X dX7_checksum_91 rfl ?_
      refine r_aload_n 2 X dX7_checksum_92 rfl ?_
      refine r_getf X dX7_checksum_93 fX7_183 hm2.1 rfl ?_
      refine r_icmp_ge 119 X dX7_checksum_96 (by decide) ⟨by omega, by omega⟩ ⟨by omega, by omega⟩ (fun c96 => ?_) (fun c96 => ?_)
      · refine r_lload_n 1 X dX7_checksum_119 rfl ?_
        refine r_lret X Y dX7_checksum_120 (by decide) (by decide) ?_
        exact ⟨congrArg (fun z => some (jv z)) (show _ = sO od (sL r (s16 σ 16) r.length) m by rw [← hfin, show i = m from hi9]), hm2, kp2⟩
      · exfalso
        omega
    | succ q ih =>
      intro i hi9
      refine r_iload_n 0 X dX7_checksum_91 rfl ?_
      refine r_aload_n 2 X dX7_checksum_92 rfl ?_
      refine r_getf X dX7_checksum_93 fX7_183 hm2.1 rfl ?_
      refine r_icmp_ge 119 X dX7_checksum_96 (by decide) ⟨by omega, by omega⟩ ⟨by omega, by omega⟩ (fun c96 => ?_) (fun c96 => ?_)
      · exfalso
        omega
      · refine r_ldc2 31 X dX7_checksum_99 nX7_190 (by decide) ?_
        refine r_lload_n 1 X dX7_checksum_102 rfl ?_
        refine r_lmul X dX7_checksum_103 ?_
        refine r_aload_n 2 X dX7_checksum_104 rfl ?_
        refine r_getf X dX7_checksum_105 fX7_28 hm2.1 rfl ?_
        refine r_iload_n 0 X dX7_checksum_108 rfl ?_
        refine r_ialoadE X dX7_checksum_109 hm2.2.2.2.2.2.2.2.1 ⟨by omega, by omega⟩ (by decide) (show od (i : Int).toNat = od i from rfl) ?_
        refine r_i2l X dX7_checksum_110 ⟨by show -2147483648 ≤ od i; have := hod i (by omega); omega, by show od i < 2147483648; have := hod i (by omega); omega⟩ ?_
        refine r_ladd X dX7_checksum_111 ?_
        refine r_lstore_n (L' := [(1, jv ((31 * (sO od Z2 i)) + (od i))), (3, iv (i : Int)), (0, .ref y)]) X dX7_checksum_112 (by decide) rfl ?_
        refine r_iinc 1 (L' := [(3, iv ((i : Int) + 1)), (1, jv ((31 * (sO od Z2 i)) + (od i))), (0, .ref y)]) X dX7_checksum_113 rfl (by decide) rfl ?_
        refine r_goto 91 X dX7_checksum_116 (by decide) ?_
        rw [show (31 * (sO od Z2 i)) + (od i) = sO od Z2 (i + 1) by
          rfl, show ((i : Int) + 1) = ((i + 1 : Nat) : Int) from rfl]
        exact ih (i + 1) (by omega)
  have loop2 : ∀ (q i : Nat), i + q = r.length → WW K D z0 4 hp2 0 0 61 [(3, iv (i : Int)), (1, jv (sL r Z1 i)), (0, .ref y)] [] := by
    intro q
    induction q with
    | zero =>
      intro i hi9
      refine r_iload_n 0 X dX7_checksum_61 rfl ?_
      refine r_aload_n 2 X dX7_checksum_62 rfl ?_
      refine r_getf X dX7_checksum_63 fX7_178 hm2.1 rfl ?_
      refine r_icmp_ge 89 X dX7_checksum_66 (by decide) ⟨by omega, by omega⟩ ⟨by omega, by omega⟩ (fun c66 => ?_) (fun c66 => ?_)
      · refine r_iconst X dX7_checksum_89 ?_
        refine r_istore_n (L' := [(3, iv 0), (1, jv (sL r Z1 i)), (0, .ref y)]) X dX7_checksum_90 (by decide) rfl ?_
        rw [show i = r.length from hi9, ← hZ2]
        exact loop3 m 0 (by omega)
      · exfalso
        omega
    | succ q ih =>
      intro i hi9
      refine r_iload_n 0 X dX7_checksum_61 rfl ?_
      refine r_aload_n 2 X dX7_checksum_62 rfl ?_
      refine r_getf X dX7_checksum_63 fX7_178 hm2.1 rfl ?_
      refine r_icmp_ge 89 X dX7_checksum_66 (by decide) ⟨by omega, by omega⟩ ⟨by omega, by omega⟩ (fun c66 => ?_) (fun c66 => ?_)
      · exfalso
        omega
      · refine r_ldc2 31 X dX7_checksum_69 nX7_190 (by decide) ?_
        refine r_lload_n 1 X dX7_checksum_72 rfl ?_
        refine r_lmul X dX7_checksum_73 ?_
        refine r_aload_n 2 X dX7_checksum_74 rfl ?_
        refine r_getf X dX7_checksum_75 fX7_25 hm2.1 rfl ?_
        refine r_iload_n 0 X dX7_checksum_78 rfl ?_
        refine r_ialoadE X dX7_checksum_79 hm2.2.2.2.2.2.2.1 ⟨by omega, by omega⟩ (by decide) (show e3 (i : Int).toNat = e3 i from rfl) ?_
        refine r_i2l X dX7_checksum_80 ⟨by show -2147483648 ≤ e3 i; have := (hEb i (by omega)); omega, by show e3 i < 2147483648; have := (hEb i (by omega)); omega⟩ ?_
        refine r_ladd X dX7_checksum_81 ?_
        refine r_lstore_n (L' := [(1, jv ((31 * (sL r Z1 i)) + (e3 i))), (3, iv (i : Int)), (0, .ref y)]) X dX7_checksum_82 (by decide) rfl ?_
        refine r_iinc 1 (L' := [(3, iv ((i : Int) + 1)), (1, jv ((31 * (sL r Z1 i)) + (e3 i))), (0, .ref y)]) X dX7_checksum_83 rfl (by decide) rfl ?_
        refine r_goto 61 X dX7_checksum_86 (by decide) ?_
        rw [show (31 * (sL r Z1 i)) + (e3 i) = sL r Z1 (i + 1) by
          show _ = 31 * sL r Z1 i + _
          rw [← (hE i (by omega)).2.2], show ((i : Int) + 1) = ((i + 1 : Nat) : Int) from rfl]
        exact ih (i + 1) (by omega)
  have loop1 : ∀ (q i : Nat), i + q = 16 → WW K D z0 4 hp2 0 0 9 [(3, iv (i : Int)), (1, jv (s16 σ i)), (0, .ref y)] [] := by
    intro q
    induction q with
    | zero =>
      intro i hi9
      refine r_iload_n 0 X dX7_checksum_9 rfl ?_
      refine r_bipush X dX7_checksum_10 (by decide) ?_
      refine r_icmp_ge 59 X dX7_checksum_12 (by decide) ⟨by omega, by omega⟩ ⟨by omega, by omega⟩ (fun c12 => ?_) (fun c12 => ?_)
      · refine r_iconst X dX7_checksum_59 ?_
        refine r_istore_n (L' := [(3, iv 0), (1, jv (s16 σ i)), (0, .ref y)]) X dX7_checksum_60 (by decide) rfl ?_
        rw [show i = 16 from hi9, ← hZ1]
        exact loop2 r.length 0 (by omega)
      · exfalso
        omega
    | succ q ih =>
      intro i hi9
      have hfb := f_b ht (i := i) (by omega)
      refine r_iload_n 0 X dX7_checksum_9 rfl ?_
      refine r_bipush X dX7_checksum_10 (by decide) ?_
      refine r_icmp_ge 59 X dX7_checksum_12 (by decide) ⟨by omega, by omega⟩ ⟨by omega, by omega⟩ (fun c12 => ?_) (fun c12 => ?_)
      · exfalso
        omega
      · refine r_ldc2 31 X dX7_checksum_15 nX7_190 (by decide) ?_
        refine r_lload_n 1 X dX7_checksum_18 rfl ?_
        refine r_lmul X dX7_checksum_19 ?_
        refine r_ldc2 4294967296 X dX7_checksum_20 nX7_192 (by decide) ?_
        refine r_aload_n 2 X dX7_checksum_23 rfl ?_
        refine r_getf X dX7_checksum_24 fX7_7 hm2.1 rfl ?_
        refine r_iload_n 0 X dX7_checksum_27 rfl ?_
        refine r_ialoadE X dX7_checksum_28 hm2.2.1 ⟨by omega, by omega⟩ (by decide) (show (fA σ) (i : Int).toNat = (fA σ) i from rfl) ?_
        refine r_i2l X dX7_checksum_29 ⟨by show -2147483648 ≤ fA σ i; omega, by show fA σ i < 2147483648; omega⟩ ?_
        refine r_lmul X dX7_checksum_30 ?_
        refine r_ladd X dX7_checksum_31 ?_
        refine r_ldc2 65536 X dX7_checksum_32 nX7_194 (by decide) ?_
        refine r_aload_n 2 X dX7_checksum_35 rfl ?_
        refine r_getf X dX7_checksum_36 fX7_13 hm2.1 rfl ?_
        refine r_iload_n 0 X dX7_checksum_39 rfl ?_
        refine r_ialoadE X dX7_checksum_40 hm2.2.2.1 ⟨by omega, by omega⟩ (by decide) (show (fB σ) (i : Int).toNat = (fB σ) i from rfl) ?_
        refine r_i2l X dX7_checksum_41 ⟨by show -2147483648 ≤ fB σ i; omega, by show fB σ i < 2147483648; omega⟩ ?_
        refine r_lmul X dX7_checksum_42 ?_
        refine r_ladd X dX7_checksum_43 ?_
        refine r_aload_n 2 X dX7_checksum_44 rfl ?_
        refine r_getf X dX7_checksum_45 fX7_16 hm2.1 rfl ?_
        refine r_iload_n 0 X dX7_checksum_48 rfl ?_
        refine r_ialoadE X dX7_checksum_49 hm2.2.2.2.1 ⟨by omega, by omega⟩ (by decide) (show (fC σ) (i : Int).toNat = (fC σ) i from rfl) ?_
        refine r_i2l X dX7_checksum_50 ⟨by show -2147483648 ≤ fC σ i; omega, by show fC σ i < 2147483648; omega⟩ ?_
        refine r_ladd X dX7_checksum_51 ?_
        refine r_lstore_n (L' := [(1, jv ((((31 * (s16 σ i)) + (4294967296 * ((fA σ) i))) + (65536 * ((fB σ) i))) + ((fC σ) i))), (3, iv (i : Int)), (0, .ref y)]) X dX7_checksum_52 (by decide) rfl ?_
        refine r_iinc 1 (L' := [(3, iv ((i : Int) + 1)), (1, jv ((((31 * (s16 σ i)) + (4294967296 * ((fA σ) i))) + (65536 * ((fB σ) i))) + ((fC σ) i))), (0, .ref y)]) X dX7_checksum_53 rfl (by decide) rfl ?_
        refine r_goto 9 X dX7_checksum_56 (by decide) ?_
        rw [show (((31 * (s16 σ i)) + (4294967296 * ((fA σ) i))) + (65536 * ((fB σ) i))) + ((fC σ) i) = s16 σ (i + 1) by
          show _ = 31 * s16 σ i + onC (σ i)
          rw [onC_f]
          omega, show ((i : Int) + 1) = ((i + 1 : Nat) : Int) from rfl]
        exact ih (i + 1) (by omega)
  exact loop1 16 0 rfl
