/-! Primitives: by steps, by two numbers -/
theorem WW_e {K : KT} {D : va_G} {z0 nL : Nat} {h : Hp} {kc ks pc : Nat} {L : List (Nat × Value)} {st st' : List Value} (e : st = st') (k : WW K D z0 nL h kc ks pc L st') : WW K D z0 nL h kc ks pc L st := e ▸ k
def tR (b : Nat) : List Nat := if b < 5 then [] else tB b 64 0 [keyN 3 4 5]
theorem tB_s (b m i : Nat) (r : List Nat) : tB b (m + 1) i r = if i < r.length then tB b m (i + 1) (stepsOf b i r) else r := rfl
theorem gdK_S {b i : Nat} {r : List Nat} (h : ∀ a ∈ r, gdK a) (hb : b ≤ 400) (hi : i < r.length) : ∀ a ∈ stepsOf b i r, gdK a := by
  have hK := gdK_n h hi
  exact gdK_C (gdK_B (gdK_A h hb hK) hb hK) hb hK
def eN (b m : Nat) : Nat → Nat → List Nat → List Nat
  | 0, _, r => r
  | q + 1, n, r => if n < m ∧ m * m + n * n ≤ b then eN b m q (n + 1) (if (m + n) % 2 = 1 ∧ Nat.gcd m n = 1 then insR (keyN (m * m - n * n) (2 * m * n) (m * m + n * n)) r else r) else r
def eM (b : Nat) : Nat → Nat → List Nat → List Nat
  | 0, _, r => r
  | q + 1, m, r => if m * m ≤ b ∧ m ≤ 255 then eM b q (m + 1) (eN b m m 1 r) else r
def eR (b : Nat) : List Nat := eM b 20 2 []
theorem eN_s (b m q n : Nat) (r : List Nat) : eN b m (q + 1) n r = if n < m ∧ m * m + n * n ≤ b then eN b m q (n + 1) (if (m + n) % 2 = 1 ∧ Nat.gcd m n = 1 then insR (keyN (m * m - n * n) (2 * m * n) (m * m + n * n)) r else r) else r := rfl
theorem eM_s (b q m : Nat) (r : List Nat) : eM b (q + 1) m r = if m * m ≤ b ∧ m ≤ 255 then eM b q (m + 1) (eN b m m 1 r) else r := rfl
theorem eN_len (b m : Nat) : ∀ (q n : Nat) (r : List Nat), r.length ≤ (eN b m q n r).length
  | 0, _, r => Nat.le_refl _
  | q + 1, n, r => by
    rw [eN_s]
    split
    · refine Nat.le_trans ?_ (eN_len b m q (n + 1) _)
      split
      · rw [insR_len]; omega
      · exact Nat.le_refl _
    · exact Nat.le_refl _
theorem eM_len (b : Nat) : ∀ (q m : Nat) (r : List Nat), r.length ≤ (eM b q m r).length
  | 0, _, r => Nat.le_refl _
  | q + 1, m, r => by
    rw [eM_s]
    split
    · exact Nat.le_trans (eN_len b m m 1 r) (eM_len b q (m + 1) _)
    · exact Nat.le_refl _
theorem two_mn {n m : Nat} (h : n ≤ m) : 2 * (n * m) ≤ m * m + n * n := by
  obtain ⟨d, rfl⟩ := Nat.exists_eq_add_of_le h
  simp only [Nat.mul_add, Nat.add_mul]
  have := Nat.mul_comm n d
  omega
theorem keyN_lt {a b c : Nat} (ha : a < 512) (hb : b < 512) (hc : c < 512) : keyN a b c < 134217728 := by
  unfold keyN
  omega
theorem ins_lt {key : Nat} {r : List Nat} (hk : key < 134217728) (h : ∀ a ∈ r, a < 134217728) : ∀ a ∈ insR key r, a < 134217728 := by
  intro a ha
  rcases insR_mem ha with rfl | z
  · exact hk
  · exact h a z
abbrev rX2_addStepsOf : Room := { frames := 3, cells := 0, slots := 0, locals := 76 }
theorem c_X2_addStepsOf {l : Launch} (hl : l.stackTraces = false) (D : va_G) (z0 : Nat) (h : Hp) (f k : Nat) (r : List Nat) (hm : Pm D h f k r) (i b : Nat) (hi : i < r.length) (hbb : b ≤ 400) (hg : ∀ a ∈ r, gdK a) (hl63 : (stepsOf b i r).length ≤ 63) : CC l yX2_addStepsOf cX2_addStepsOf 8 none rX2_addStepsOf D z0 h [.ref f, iv (i : Int), iv (b : Int)] (fun w0 h' => w0 = none ∧ Pm D h' f k (stepsOf b i r) ∧ Keep (fun y => y = f ∨ y = k) h h') NX := by
  refine CC_of RX2 hl (by decide) rfl (Nat.le_of_ble_eq_true rfl) (fun K X Y Z hmn hKl => ?_)
  subst hKl
  have hb : ∀ a ∈ r, a < 134217728 := fun a ha => gdK_l (hg a ha)
  have hK := gdK_n hg hi
  have hok := okK hK
  have hln := stepsOf_len b i r
  have hgl : ∀ a ∈ r, a < 134217728 := hb
  have hgl1 : ∀ a ∈ stA b (nthR r i) r, a < 134217728 := fun a ha => gdK_l (gdK_A hg hbb hK a ha)
  have hgl2 : ∀ a ∈ stB b (nthR r i) (stA b (nthR r i) r), a < 134217728 := fun a ha => gdK_l (gdK_B (gdK_A hg hbb hK) hbb hK a ha)
  show WW K D z0 8 h 0 0 0 [(0, .ref f), (1, iv (i : Int)), (2, iv (b : Int))] []
  refine r_aload_n 0 X dX2_addStepsOf_0 rfl ?_
  refine r_iload_n 1 X dX2_addStepsOf_1 rfl ?_
  refine r_iconst X dX2_addStepsOf_2 ?_
  refine r_callV_v X dX2_addStepsOf_3 kX2_54 hm.1 (c_X2_length (CX_l X) D z0 h f k r hm (by omega) hb (i : Int) 0 ⟨by omega, by omega⟩ ⟨by omega, by omega⟩) [] rfl rfl (Nat.le_of_ble_eq_true rfl) (by decide) rfl rfl (by decide) ?_
  rw [show lnK ((nthR r ((i : Nat) : Int).toNat : Nat) : Int) 0 = ((nthR r i / 512 % 512 : Nat) : Int) by rw [Int.toNat_natCast]; unfold lnK; rw [if_pos rfl]; omega]
  show WW K D z0 8 h 0 0 6 [(0, .ref f), (1, iv (i : Int)), (2, iv (b : Int))] [iv ((nthR r i / 512 % 512 : Nat) : Int)]
  refine r_istore_n (L' := [(3, iv ((nthR r i / 512 % 512 : Nat) : Int)), (0, .ref f), (1, iv (i : Int)), (2, iv (b : Int))]) X dX2_addStepsOf_6 (by decide) rfl ?_
  refine r_aload_n 1 X dX2_addStepsOf_7 rfl ?_
  refine r_iload_n 2 X dX2_addStepsOf_8 rfl ?_
  refine r_iconst X dX2_addStepsOf_9 ?_
  refine r_callV_v X dX2_addStepsOf_10 kX2_54 hm.1 (c_X2_length (CX_l X) D z0 h f k r hm (by omega) hb (i : Int) 1 ⟨by omega, by omega⟩ ⟨by omega, by omega⟩) [] rfl rfl (Nat.le_of_ble_eq_true rfl) (by decide) rfl rfl (by decide) ?_
  rw [show lnK ((nthR r ((i : Nat) : Int).toNat : Nat) : Int) 1 = ((nthR r i % 512 : Nat) : Int) by rw [Int.toNat_natCast]; unfold lnK; rw [if_neg (by decide), if_pos rfl]; omega]
  show WW K D z0 8 h 0 0 13 [(3, iv ((nthR r i / 512 % 512 : Nat) : Int)), (0, .ref f), (1, iv (i : Int)), (2, iv (b : Int))] [iv ((nthR r i % 512 : Nat) : Int)]
  refine r_istore (L' := [(4, iv ((nthR r i % 512 : Nat) : Int)), (3, iv ((nthR r i / 512 % 512 : Nat) : Int)), (0, .ref f), (1, iv (i : Int)), (2, iv (b : Int))]) X dX2_addStepsOf_13 (by decide) rfl ?_
  refine r_aload_n 2 X dX2_addStepsOf_15 rfl ?_
  refine r_iload_n 3 X dX2_addStepsOf_16 rfl ?_
  refine r_iconst X dX2_addStepsOf_17 ?_
  refine r_callV_v X dX2_addStepsOf_18 kX2_54 hm.1 (c_X2_length (CX_l X) D z0 h f k r hm (by omega) hb (i : Int) 2 ⟨by omega, by omega⟩ ⟨by omega, by omega⟩) [] rfl rfl (Nat.le_of_ble_eq_true rfl) (by decide) rfl rfl (by decide) ?_
  rw [show lnK ((nthR r ((i : Nat) : Int).toNat : Nat) : Int) 2 = ((lonK (nthR r i) : Nat) : Int) by rw [Int.toNat_natCast]; unfold lnK; rw [if_neg (by decide), if_neg (by decide)]; unfold lonK; omega]
  show WW K D z0 8 h 0 0 21 [(4, iv ((nthR r i % 512 : Nat) : Int)), (3, iv ((nthR r i / 512 % 512 : Nat) : Int)), (0, .ref f), (1, iv (i : Int)), (2, iv (b : Int))] [iv ((lonK (nthR r i) : Nat) : Int)]
  refine r_istore (L' := [(5, iv ((lonK (nthR r i) : Nat) : Int)), (4, iv ((nthR r i % 512 : Nat) : Int)), (3, iv ((nthR r i / 512 % 512 : Nat) : Int)), (0, .ref f), (1, iv (i : Int)), (2, iv (b : Int))]) X dX2_addStepsOf_21 (by decide) rfl ?_
  refine r_iload_n 2 X dX2_addStepsOf_23 rfl ?_
  refine r_iconst X dX2_addStepsOf_24 ?_
  refine r_iand X dX2_addStepsOf_25 1 2 (by decide) (by decide) (by decide) ?_
  refine r_iconst X dX2_addStepsOf_26 ?_
  refine r_icmp_ne 34 X dX2_addStepsOf_27 (by decide) ⟨by omega, by omega⟩ ⟨by omega, by omega⟩ (fun c27 => ?_) (fun c27 => ?_)
  · refine r_iload 1 X dX2_addStepsOf_34 rfl ?_
    refine WW_e (congrArg (fun z => iv z :: []) (show ((nthR r i % 512 : Nat) : Int) = ((oddK (nthR r i) : Nat) : Int) by unfold oddK; split <;> omega)) ?_
    show WW K D z0 8 h 0 0 36 [(5, iv ((lonK (nthR r i) : Nat) : Int)), (4, iv ((nthR r i % 512 : Nat) : Int)), (3, iv ((nthR r i / 512 % 512 : Nat) : Int)), (0, .ref f), (1, iv (i : Int)), (2, iv (b : Int))] [iv ((oddK (nthR r i) : Nat) : Int)]
    refine r_istore (L' := [(6, iv ((oddK (nthR r i) : Nat) : Int)), (5, iv ((lonK (nthR r i) : Nat) : Int)), (4, iv ((nthR r i % 512 : Nat) : Int)), (3, iv ((nthR r i / 512 % 512 : Nat) : Int)), (0, .ref f), (1, iv (i : Int)), (2, iv (b : Int))]) X dX2_addStepsOf_36 (by decide) rfl ?_
    refine r_iload_n 3 X dX2_addStepsOf_38 rfl ?_
    refine r_iconst X dX2_addStepsOf_39 ?_
    refine r_iand X dX2_addStepsOf_40 1 2 (by decide) (by decide) (by decide) ?_
    refine r_iconst X dX2_addStepsOf_41 ?_
    refine r_icmp_ne 50 X dX2_addStepsOf_42 (by decide) ⟨by omega, by omega⟩ ⟨by omega, by omega⟩ (fun c42 => ?_) (fun c42 => ?_)
    · refine r_iload_n 3 X dX2_addStepsOf_50 rfl ?_
      refine WW_e (congrArg (fun z => iv z :: []) (show ((nthR r i / 512 % 512 : Nat) : Int) = ((eveK (nthR r i) : Nat) : Int) by unfold eveK; split <;> omega)) ?_
      show WW K D z0 8 h 0 0 51 [(6, iv ((oddK (nthR r i) : Nat) : Int)), (5, iv ((lonK (nthR r i) : Nat) : Int)), (4, iv ((nthR r i % 512 : Nat) : Int)), (3, iv ((nthR r i / 512 % 512 : Nat) : Int)), (0, .ref f), (1, iv (i : Int)), (2, iv (b : Int))] [iv ((eveK (nthR r i) : Nat) : Int)]
      refine r_istore (L' := [(7, iv ((eveK (nthR r i) : Nat) : Int)), (6, iv ((oddK (nthR r i) : Nat) : Int)), (5, iv ((lonK (nthR r i) : Nat) : Int)), (4, iv ((nthR r i % 512 : Nat) : Int)), (3, iv ((nthR r i / 512 % 512 : Nat) : Int)), (0, .ref f), (1, iv (i : Int)), (2, iv (b : Int))]) X dX2_addStepsOf_51 (by decide) rfl ?_
      refine r_aload_n 5 X dX2_addStepsOf_53 rfl ?_
      refine r_bipush X dX2_addStepsOf_54 (by decide) ?_
      refine r_iload 1 X dX2_addStepsOf_56 rfl ?_
      refine r_iload 0 X dX2_addStepsOf_58 rfl ?_
      refine r_iload 2 X dX2_addStepsOf_60 rfl ?_
      refine r_iload_n 7 X dX2_addStepsOf_62 rfl ?_
      refine r_callV X dX2_addStepsOf_63 kX2_57 hm.1 (c_X2_addStep (CX_l X) D z0 h f k r hm hgl 97 ((oddK (nthR r i) : Nat) : Int) ((eveK (nthR r i) : Nat) : Int) ((lonK (nthR r i) : Nat) : Int) b (oddK (nthR r i) + 2 * lonK (nthR r i) - 2 * eveK (nthR r i)) (2 * oddK (nthR r i) + 2 * lonK (nthR r i) - eveK (nthR r i)) (2 * oddK (nthR r i) + 3 * lonK (nthR r i) - 2 * eveK (nthR r i)) ⟨by omega, by omega⟩ (by unfold so se; rw [if_neg (by decide), if_pos rfl]; omega) (by unfold so se; rw [if_neg (by decide), if_pos rfl]; omega) (by unfold so se; rw [if_neg (by decide), if_pos rfl]; omega) hbb (fun z => by omega) (by omega) (fun z => by omega)) [] rfl rfl (Nat.le_of_ble_eq_true rfl) (by decide) (by decide) (fun _ _ z => z.elim) (fun v9 h1 hv9 => ?_)
      obtain ⟨rfl, hm1, hk1⟩ := hv9
      show WW K D z0 8 h1 0 0 66 [(7, iv ((eveK (nthR r i) : Nat) : Int)), (6, iv ((oddK (nthR r i) : Nat) : Int)), (5, iv ((lonK (nthR r i) : Nat) : Int)), (4, iv ((nthR r i % 512 : Nat) : Int)), (3, iv ((nthR r i / 512 % 512 : Nat) : Int)), (0, .ref f), (1, iv (i : Int)), (2, iv (b : Int))] []
      refine r_aload_n 5 X dX2_addStepsOf_66 rfl ?_
      refine r_bipush X dX2_addStepsOf_67 (by decide) ?_
      refine r_iload 1 X dX2_addStepsOf_69 rfl ?_
      refine r_iload 0 X dX2_addStepsOf_71 rfl ?_
      refine r_iload 2 X dX2_addStepsOf_73 rfl ?_
      refine r_iload_n 7 X dX2_addStepsOf_75 rfl ?_
      refine r_callV X dX2_addStepsOf_76 kX2_57 hm1.1 (c_X2_addStep (CX_l X) D z0 h1 f k (stA b (nthR r i) r) hm1 hgl1 98 ((oddK (nthR r i) : Nat) : Int) ((eveK (nthR r i) : Nat) : Int) ((lonK (nthR r i) : Nat) : Int) b (oddK (nthR r i) + 2 * eveK (nthR r i) + 2 * lonK (nthR r i)) (2 * oddK (nthR r i) + eveK (nthR r i) + 2 * lonK (nthR r i)) (2 * oddK (nthR r i) + 2 * eveK (nthR r i) + 3 * lonK (nthR r i)) ⟨by omega, by omega⟩ (by unfold so se; rw [if_neg (by decide), if_neg (by decide)]; omega) (by unfold so se; rw [if_neg (by decide), if_neg (by decide)]; omega) (by unfold so se; rw [if_neg (by decide), if_neg (by decide)]; omega) hbb (fun z => by omega) (by omega) (fun z => by omega)) [] rfl rfl (Nat.le_of_ble_eq_true rfl) (by decide) (by decide) (fun _ _ z => z.elim) (fun v9 h2 hv9 => ?_)
      obtain ⟨rfl, hm2, hk2⟩ := hv9
      show WW K D z0 8 h2 0 0 79 [(7, iv ((eveK (nthR r i) : Nat) : Int)), (6, iv ((oddK (nthR r i) : Nat) : Int)), (5, iv ((lonK (nthR r i) : Nat) : Int)), (4, iv ((nthR r i % 512 : Nat) : Int)), (3, iv ((nthR r i / 512 % 512 : Nat) : Int)), (0, .ref f), (1, iv (i : Int)), (2, iv (b : Int))] []
      refine r_aload_n 5 X dX2_addStepsOf_79 rfl ?_
      refine r_bipush X dX2_addStepsOf_80 (by decide) ?_
      refine r_iload 1 X dX2_addStepsOf_82 rfl ?_
      refine r_iload 0 X dX2_addStepsOf_84 rfl ?_
      refine r_iload 2 X dX2_addStepsOf_86 rfl ?_
      refine r_iload_n 7 X dX2_addStepsOf_88 rfl ?_
      refine r_callV X dX2_addStepsOf_89 kX2_57 hm2.1 (c_X2_addStep (CX_l X) D z0 h2 f k (stB b (nthR r i) (stA b (nthR r i) r)) hm2 hgl2 99 ((oddK (nthR r i) : Nat) : Int) ((eveK (nthR r i) : Nat) : Int) ((lonK (nthR r i) : Nat) : Int) b (2 * eveK (nthR r i) + 2 * lonK (nthR r i) - oddK (nthR r i)) (eveK (nthR r i) + 2 * lonK (nthR r i) - 2 * oddK (nthR r i)) (2 * eveK (nthR r i) + 3 * lonK (nthR r i) - 2 * oddK (nthR r i)) ⟨by omega, by omega⟩ (by unfold so se; rw [if_pos rfl, if_neg (by decide)]; omega) (by unfold so se; rw [if_pos rfl, if_neg (by decide)]; omega) (by unfold so se; rw [if_pos rfl, if_neg (by decide)]; omega) hbb (fun z => by omega) (by omega) (fun z => by omega)) [] rfl rfl (Nat.le_of_ble_eq_true rfl) (by decide) (by decide) (fun _ _ z => z.elim) (fun v9 h3 hv9 => ?_)
      obtain ⟨rfl, hm3, hk3⟩ := hv9
      show WW K D z0 8 h3 0 0 92 [(7, iv ((eveK (nthR r i) : Nat) : Int)), (6, iv ((oddK (nthR r i) : Nat) : Int)), (5, iv ((lonK (nthR r i) : Nat) : Int)), (4, iv ((nthR r i % 512 : Nat) : Int)), (3, iv ((nthR r i / 512 % 512 : Nat) : Int)), (0, .ref f), (1, iv (i : Int)), (2, iv (b : Int))] []
      refine r_vret X Y dX2_addStepsOf_92 (by decide) (by decide) ?_
      exact ⟨rfl, hm3, Keep_tr (Keep_tr hk1 hk2) hk3⟩
    · exfalso
      omega
  · refine r_iload_n 2 X dX2_addStepsOf_30 rfl ?_
    refine r_goto 36 X dX2_addStepsOf_31 (by decide) ?_
    refine WW_e (congrArg (fun z => iv z :: []) (show ((nthR r i / 512 % 512 : Nat) : Int) = ((oddK (nthR r i) : Nat) : Int) by unfold oddK; split <;> omega)) ?_
    show WW K D z0 8 h 0 0 36 [(5, iv ((lonK (nthR r i) : Nat) : Int)), (4, iv ((nthR r i % 512 : Nat) : Int)), (3, iv ((nthR r i / 512 % 512 : Nat) : Int)), (0, .ref f), (1, iv (i : Int)), (2, iv (b : Int))] [iv ((oddK (nthR r i) : Nat) : Int)]
    refine r_istore (L' := [(6, iv ((oddK (nthR r i) : Nat) : Int)), (5, iv ((lonK (nthR r i) : Nat) : Int)), (4, iv ((nthR r i % 512 : Nat) : Int)), (3, iv ((nthR r i / 512 % 512 : Nat) : Int)), (0, .ref f), (1, iv (i : Int)), (2, iv (b : Int))]) X dX2_addStepsOf_36 (by decide) rfl ?_
    refine r_iload_n 3 X dX2_addStepsOf_38 rfl ?_
    refine r_iconst X dX2_addStepsOf_39 ?_
    refine r_iand X dX2_addStepsOf_40 1 2 (by decide) (by decide) (by decide) ?_
    refine r_iconst X dX2_addStepsOf_41 ?_
    refine r_icmp_ne 50 X dX2_addStepsOf_42 (by decide) ⟨by omega, by omega⟩ ⟨by omega, by omega⟩ (fun c42 => ?_) (fun c42 => ?_)
    · exfalso
      omega
    · refine r_iload 2 X dX2_addStepsOf_45 rfl ?_
      refine r_goto 51 X dX2_addStepsOf_47 (by decide) ?_
      refine WW_e (congrArg (fun z => iv z :: []) (show ((nthR r i % 512 : Nat) : Int) = ((eveK (nthR r i) : Nat) : Int) by unfold eveK; split <;> omega)) ?_
      show WW K D z0 8 h 0 0 51 [(6, iv ((oddK (nthR r i) : Nat) : Int)), (5, iv ((lonK (nthR r i) : Nat) : Int)), (4, iv ((nthR r i % 512 : Nat) : Int)), (3, iv ((nthR r i / 512 % 512 : Nat) : Int)), (0, .ref f), (1, iv (i : Int)), (2, iv (b : Int))] [iv ((eveK (nthR r i) : Nat) : Int)]
      refine r_istore (L' := [(7, iv ((eveK (nthR r i) : Nat) : Int)), (6, iv ((oddK (nthR r i) : Nat) : Int)), (5, iv ((lonK (nthR r i) : Nat) : Int)), (4, iv ((nthR r i % 512 : Nat) : Int)), (3, iv ((nthR r i / 512 % 512 : Nat) : Int)), (0, .ref f), (1, iv (i : Int)), (2, iv (b : Int))]) X dX2_addStepsOf_51 (by decide) rfl ?_
      refine r_aload_n 5 X dX2_addStepsOf_53 rfl ?_
      refine r_bipush X dX2_addStepsOf_54 (by decide) ?_
      refine r_iload 1 X dX2_addStepsOf_56 rfl ?_
      refine r_iload 0 X dX2_addStepsOf_58 rfl ?_
      refine r_iload 2 X dX2_addStepsOf_60 rfl ?_
      refine r_iload_n 7 X dX2_addStepsOf_62 rfl ?_
      refine r_callV X dX2_addStepsOf_63 kX2_57 hm.1 (c_X2_addStep (CX_l X) D z0 h f k r hm hgl 97 ((oddK (nthR r i) : Nat) : Int) ((eveK (nthR r i) : Nat) : Int) ((lonK (nthR r i) : Nat) : Int) b (oddK (nthR r i) + 2 * lonK (nthR r i) - 2 * eveK (nthR r i)) (2 * oddK (nthR r i) + 2 * lonK (nthR r i) - eveK (nthR r i)) (2 * oddK (nthR r i) + 3 * lonK (nthR r i) - 2 * eveK (nthR r i)) ⟨by omega, by omega⟩ (by unfold so se; rw [if_neg (by decide), if_pos rfl]; omega) (by unfold so se; rw [if_neg (by decide), if_pos rfl]; omega) (by unfold so se; rw [if_neg (by decide), if_pos rfl]; omega) hbb (fun z => by omega) (by omega) (fun z => by omega)) [] rfl rfl (Nat.le_of_ble_eq_true rfl) (by decide) (by decide) (fun _ _ z => z.elim) (fun v9 h1 hv9 => ?_)
      obtain ⟨rfl, hm1, hk1⟩ := hv9
      show WW K D z0 8 h1 0 0 66 [(7, iv ((eveK (nthR r i) : Nat) : Int)), (6, iv ((oddK (nthR r i) : Nat) : Int)), (5, iv ((lonK (nthR r i) : Nat) : Int)), (4, iv ((nthR r i % 512 : Nat) : Int)), (3, iv ((nthR r i / 512 % 512 : Nat) : Int)), (0, .ref f), (1, iv (i : Int)), (2, iv (b : Int))] []
      refine r_aload_n 5 X dX2_addStepsOf_66 rfl ?_
      refine r_bipush X dX2_addStepsOf_67 (by decide) ?_
      refine r_iload 1 X dX2_addStepsOf_69 rfl ?_
      refine r_iload 0 X dX2_addStepsOf_71 rfl ?_
      refine r_iload 2 X dX2_addStepsOf_73 rfl ?_
      refine r_iload_n 7 X dX2_addStepsOf_75 rfl ?_
      refine r_callV X dX2_addStepsOf_76 kX2_57 hm1.1 (c_X2_addStep (CX_l X) D z0 h1 f k (stA b (nthR r i) r) hm1 hgl1 98 ((oddK (nthR r i) : Nat) : Int) ((eveK (nthR r i) : Nat) : Int) ((lonK (nthR r i) : Nat) : Int) b (oddK (nthR r i) + 2 * eveK (nthR r i) + 2 * lonK (nthR r i)) (2 * oddK (nthR r i) + eveK (nthR r i) + 2 * lonK (nthR r i)) (2 * oddK (nthR r i) + 2 * eveK (nthR r i) + 3 * lonK (nthR r i)) ⟨by omega, by omega⟩ (by unfold so se; rw [if_neg (by decide), if_neg (by decide)]; omega) (by unfold so se; rw [if_neg (by decide), if_neg (by decide)]; omega) (by unfold so se; rw [if_neg (by decide), if_neg (by decide)]; omega) hbb (fun z => by omega) (by omega) (fun z => by omega)) [] rfl rfl (Nat.le_of_ble_eq_true rfl) (by decide) (by decide) (fun _ _ z => z.elim) (fun v9 h2 hv9 => ?_)
      obtain ⟨rfl, hm2, hk2⟩ := hv9
      show WW K D z0 8 h2 0 0 79 [(7, iv ((eveK (nthR r i) : Nat) : Int)), (6, iv ((oddK (nthR r i) : Nat) : Int)), (5, iv ((lonK (nthR r i) : Nat) : Int)), (4, iv ((nthR r i % 512 : Nat) : Int)), (3, iv ((nthR r i / 512 % 512 : Nat) : Int)), (0, .ref f), (1, iv (i : Int)), (2, iv (b : Int))] []
      refine r_aload_n 5 X dX2_addStepsOf_79 rfl ?_
      refine r_bipush X dX2_addStepsOf_80 (by decide) ?_
      refine r_iload 1 X dX2_addStepsOf_82 rfl ?_
      refine r_iload 0 X dX2_addStepsOf_84 rfl ?_
      refine r_iload 2 X dX2_addStepsOf_86 rfl ?_
      refine r_iload_n 7 X dX2_addStepsOf_88 rfl ?_
      refine r_callV X dX2_addStepsOf_89 kX2_57 hm2.1 (c_X2_addStep (CX_l X) D z0 h2 f k (stB b (nthR r i) (stA b (nthR r i) r)) hm2 hgl2 99 ((oddK (nthR r i) : Nat) : Int) ((eveK (nthR r i) : Nat) : Int) ((lonK (nthR r i) : Nat) : Int) b (2 * eveK (nthR r i) + 2 * lonK (nthR r i) - oddK (nthR r i)) (eveK (nthR r i) + 2 * lonK (nthR r i) - 2 * oddK (nthR r i)) (2 * eveK (nthR r i) + 3 * lonK (nthR r i) - 2 * oddK (nthR r i)) ⟨by omega, by omega⟩ (by unfold so se; rw [if_pos rfl, if_neg (by decide)]; omega) (by unfold so se; rw [if_pos rfl, if_neg (by decide)]; omega) (by unfold so se; rw [if_pos rfl, if_neg (by decide)]; omega) hbb (fun z => by omega) (by omega) (fun z => by omega)) [] rfl rfl (Nat.le_of_ble_eq_true rfl) (by decide) (by decide) (fun _ _ z => z.elim) (fun v9 h3 hv9 => ?_)
      obtain ⟨rfl, hm3, hk3⟩ := hv9
      show WW K D z0 8 h3 0 0 92 [(7, iv ((eveK (nthR r i) : Nat) : Int)), (6, iv ((oddK (nthR r i) : Nat) : Int)), (5, iv ((lonK (nthR r i) : Nat) : Int)), (4, iv ((nthR r i % 512 : Nat) : Int)), (3, iv ((nthR r i / 512 % 512 : Nat) : Int)), (0, .ref f), (1, iv (i : Int)), (2, iv (b : Int))] []
      refine r_vret X Y dX2_addStepsOf_92 (by decide) (by decide) ?_
      exact ⟨rfl, hm3, Keep_tr (Keep_tr hk1 hk2) hk3⟩
abbrev rX2_fillBySteps : Room := { frames := 4, cells := 0, slots := 0, locals := 103 }
theorem c_X2_fillBySteps {l : Launch} (hl : l.stackTraces = false) (D : va_G) (z0 : Nat) (h : Hp) (f k : Nat) (hm : Pm D h f k []) (b : Nat) (hbb : b ≤ 400) (hlq : (tR b).length ≤ 63) : CC l yX2_fillBySteps cX2_fillBySteps 3 none rX2_fillBySteps D z0 h [.ref f, iv (b : Int)] (fun w0 h' => w0 = none ∧ Pm D h' f k (tR b) ∧ Keep (fun y => y = f ∨ y = k) h h') NX := by
  refine CC_of RX2 hl (by decide) rfl (Nat.le_of_ble_eq_true rfl) (fun K X Y Z hmn hKl => ?_)
  subst hKl
  show WW K D z0 3 h 0 0 0 [(0, .ref f), (1, iv (b : Int))] []
  have loop : ∀ (m i : Nat) (r : List Nat) (hA : Hp), i + m = 64 → (∀ a ∈ r, gdK a) → (tB b m i r).length ≤ 63 → tB b m i r = tR b → Pm D hA f k r → Keep (fun y => y = f ∨ y = k) h hA → WW K D z0 3 hA 0 0 15 [(2, iv (i : Int)), (0, .ref f), (1, iv (b : Int))] [] := by
    intro m
    induction m with
    | zero =>
      intro i r hA hi hg hl he hm9 hkk
      have hl3 : r.length ≤ 63 := hl
      refine r_iload_n 0 X dX2_fillBySteps_15 rfl ?_
      refine r_aload_n 1 X dX2_fillBySteps_16 rfl ?_
      refine r_getf X dX2_fillBySteps_17 fX2_15 hm9.1 rfl ?_
      refine r_icmp_ge 41 X dX2_fillBySteps_20 (by decide) ⟨by omega, by omega⟩ ⟨by omega, by omega⟩ (fun c20 => ?_) (fun c20 => ?_)
      · refine r_vret X Y dX2_fillBySteps_41 (by decide) (by decide) ?_
        exact ⟨rfl, by rw [← he]; exact hm9, hkk⟩
      · exfalso
        have hl2 : r.length ≤ 63 := hl
        omega
    | succ m ih =>
      intro i r hA hi hg hl he hm9 hkk
      have hl3 : r.length ≤ 63 := Nat.le_trans (tB_len b (m + 1) i r) hl
      refine r_iload_n 0 X dX2_fillBySteps_15 rfl ?_
      refine r_aload_n 1 X dX2_fillBySteps_16 rfl ?_
      refine r_getf X dX2_fillBySteps_17 fX2_15 hm9.1 rfl ?_
      refine r_icmp_ge 41 X dX2_fillBySteps_20 (by decide) ⟨by omega, by omega⟩ ⟨by omega, by omega⟩ (fun c20 => ?_) (fun c20 => ?_)
      · refine r_vret X Y dX2_fillBySteps_41 (by decide) (by decide) ?_
        exact ⟨rfl, by rw [← he, tB_s, if_neg (by omega)]; exact hm9, hkk⟩
      · refine r_iload_n 0 X dX2_fillBySteps_23 rfl ?_
        refine r_bipush X dX2_fillBySteps_24 (by decide) ?_
        refine r_icmp_ge 41 X dX2_fillBySteps_26 (by decide) ⟨by omega, by omega⟩ ⟨by omega, by omega⟩ (fun c26 => ?_) (fun c26 => ?_)
        · exfalso
          have hl2 := tB_len b (m + 1) i r
          omega
        · refine r_aload_n 1 X dX2_fillBySteps_29 rfl ?_
          refine r_iload_n 0 X dX2_fillBySteps_30 rfl ?_
          refine r_iload_n 2 X dX2_fillBySteps_31 rfl ?_
          refine r_callV X dX2_fillBySteps_32 kX2_50 hm9.1 (c_X2_addStepsOf (CX_l X) D z0 hA f k r hm9 i b (by omega) hbb hg (by have := tB_len b m (i + 1) (stepsOf b i r); rw [tB_s, if_pos (by omega)] at hl; omega)) [] rfl rfl (Nat.le_of_ble_eq_true rfl) (by decide) (by decide) (fun _ _ z => z.elim) (fun v9 h9 hv9 => ?_)
          obtain ⟨rfl, hm8, hk8⟩ := hv9
          show WW K D z0 3 h9 0 0 35 [(2, iv (i : Int)), (0, .ref f), (1, iv (b : Int))] []
          refine r_iinc 0 (L' := [(2, iv ((i : Int) + 1)), (0, .ref f), (1, iv (b : Int))]) X dX2_fillBySteps_35 rfl (by decide) rfl ?_
          refine r_goto 15 X dX2_fillBySteps_38 (by decide) ?_
          rw [tB_s, if_pos (by omega)] at hl he
          exact ih (i + 1) _ _ (by omega) (gdK_S hg hbb (by omega)) hl he hm8 (Keep_tr hkk hk8)
  refine r_iload_n 1 X dX2_fillBySteps_0 rfl ?_
  refine r_iconst X dX2_fillBySteps_1 ?_
  refine r_icmp_ge 6 X dX2_fillBySteps_2 (by decide) ⟨by omega, by omega⟩ ⟨by omega, by omega⟩ (fun c2 => ?_) (fun c2 => ?_)
  · refine r_aload_n 0 X dX2_fillBySteps_6 rfl ?_
    refine r_iconst X dX2_fillBySteps_7 ?_
    refine r_iconst X dX2_fillBySteps_8 ?_
    refine r_iconst X dX2_fillBySteps_9 ?_
    refine r_callV X dX2_fillBySteps_10 kX2_44 hm.1 (c_X2_add (CX_l X) D z0 h f k [] hm (by decide) (fun a ha => by cases ha) 3 4 5 (by decide) (by decide) (by decide)) [] rfl rfl (Nat.le_of_ble_eq_true rfl) (by decide) (by decide) (fun _ _ z => z.elim) (fun v9 h9 hv9 => ?_)
    obtain ⟨rfl, hm8, hk8⟩ := hv9
    show WW K D z0 3 h9 0 0 13 [(0, .ref f), (1, iv (b : Int))] []
    refine r_iconst X dX2_fillBySteps_13 ?_
    refine r_istore_n (L' := [(2, iv 0), (0, .ref f), (1, iv (b : Int))]) X dX2_fillBySteps_14 (by decide) rfl ?_
    have eR : tR b = tB b 64 0 [keyN 3 4 5] := by unfold tR; rw [if_neg (by omega)]
    exact loop 64 0 [keyN 3 4 5] _ rfl (fun a ha => by rw [List.mem_singleton.mp ha]; decide) (by rw [← eR]; exact hlq) eR.symm hm8 hk8
  · refine r_vret X Y dX2_fillBySteps_5 (by decide) (by decide) ?_
    exact ⟨rfl, by unfold tR; rw [if_pos (by omega)]; exact hm, Keep_rf⟩
abbrev rX2_fillByNumbers : Room := { frames := 2, cells := 0, slots := 0, locals := 50 }
theorem c_X2_fillByNumbers {l : Launch} (hl : l.stackTraces = false) (D : va_G) (z0 : Nat) (h : Hp) (f k : Nat) (hm : Pm D h f k []) (b : Nat) (hbb : b ≤ 400) (hlq : (eR b).length ≤ 63) : CC l yX2_fillByNumbers cX2_fillByNumbers 4 none rX2_fillByNumbers D z0 h [.ref f, iv (b : Int)] (fun w0 h' => w0 = none ∧ Pm D h' f k (eR b) ∧ Keep (fun y => y = f ∨ y = k) h h') NX := by
  refine CC_of RX2 hl (by decide) rfl (Nat.le_of_ble_eq_true rfl) (fun K X Y Z hmn hKl => ?_)
  subst hKl
  show WW K D z0 4 h 0 0 0 [(0, .ref f), (1, iv (b : Int))] []
  have outer : ∀ (Q m : Nat) (r : List Nat) (hA : Hp), m + Q = 22 → 2 ≤ m → (∀ a ∈ r, a < 134217728) → (eM b Q m r).length ≤ 63 → eM b Q m r = eR b → Pm D hA f k r → Keep (fun y => y = f ∨ y = k) h hA → WW K D z0 4 hA 0 0 2 [(2, iv (m : Int)), (0, .ref f), (1, iv (b : Int))] [] := by
    intro Q
    induction Q with
    | zero =>
      intro m r hA hm hm2 hb hl he hm9 hkk
      have hm22 : m = 22 := hm
      subst hm22
      refine r_iload_n 0 X dX2_fillByNumbers_2 rfl ?_
      refine r_iload_n 0 X dX2_fillByNumbers_3 rfl ?_
      refine r_imul X dX2_fillByNumbers_4 ?_
      refine r_iload_n 2 X dX2_fillByNumbers_5 rfl ?_
      refine r_icmp_gt 90 X dX2_fillByNumbers_6 (by decide) ⟨by omega, by omega⟩ ⟨by omega, by omega⟩ (fun c6 => ?_) (fun c6 => ?_)
      · refine r_vret X Y dX2_fillByNumbers_90 (by decide) (by decide) ?_
        exact ⟨rfl, by rw [← he]; exact hm9, hkk⟩
      · exfalso
        omega
    | succ Q ih =>
      intro m r hA hm hm2 hb hl he hm9 hkk
      have hms := Nat.mul_le_mul (show m ≤ 21 by omega) (show m ≤ 21 by omega)
      refine r_iload_n 0 X dX2_fillByNumbers_2 rfl ?_
      refine r_iload_n 0 X dX2_fillByNumbers_3 rfl ?_
      refine r_imul X dX2_fillByNumbers_4 ?_
      refine r_iload_n 2 X dX2_fillByNumbers_5 rfl ?_
      refine r_icmp_gt 90 X dX2_fillByNumbers_6 (by decide) ⟨by omega, by omega⟩ ⟨by omega, by omega⟩ (fun c6 => ?_) (fun c6 => ?_)
      · refine r_vret X Y dX2_fillByNumbers_90 (by decide) (by decide) ?_
        exact ⟨rfl, by rw [← he, eM_s, if_neg (by omega)]; exact hm9, hkk⟩
      · refine r_iload_n 0 X dX2_fillByNumbers_9 rfl ?_
        refine r_sipush X dX2_fillByNumbers_10 (by decide) ?_
        refine r_icmp_gt 90 X dX2_fillByNumbers_13 (by decide) ⟨by omega, by omega⟩ ⟨by omega, by omega⟩ (fun c13 => ?_) (fun c13 => ?_)
        · refine r_vret X Y dX2_fillByNumbers_90 (by decide) (by decide) ?_
          exact ⟨rfl, by rw [← he, eM_s, if_neg (by omega)]; exact hm9, hkk⟩
        · have hmb : m ≤ 20 := by
            apply Nat.le_of_not_lt
            intro z
            have := Nat.mul_le_mul (show 21 ≤ m by omega) (show 21 ≤ m by omega)
            omega
          have inner : ∀ (q n : Nat) (r : List Nat) (hA : Hp), n + q = m + 1 → 1 ≤ n → (∀ a ∈ r, a < 134217728) → (eM b Q (m + 1) (eN b m q n r)).length ≤ 63 → eM b Q (m + 1) (eN b m q n r) = eR b → Pm D hA f k r → Keep (fun y => y = f ∨ y = k) h hA → WW K D z0 4 hA 0 0 18 [(3, iv (n : Int)), (2, iv (m : Int)), (0, .ref f), (1, iv (b : Int))] [] := by
            intro q
            induction q with
            | zero =>
              intro n r hA hn hn1 hb hl he hm9 hkk
              refine r_iload_n 0 X dX2_fillByNumbers_18 rfl ?_
              refine r_iload_n 1 X dX2_fillByNumbers_19 rfl ?_
              refine r_icmp_ge 84 X dX2_fillByNumbers_20 (by decide) ⟨by omega, by omega⟩ ⟨by omega, by omega⟩ (fun c20 => ?_) (fun c20 => ?_)
              · refine r_iinc 1 (L' := [(2, iv ((m : Int) + 1)), (3, iv (n : Int)), (0, .ref f), (1, iv (b : Int))]) X dX2_fillByNumbers_84 rfl (by decide) rfl ?_
                refine r_goto 2 X dX2_fillByNumbers_87 (by decide) ?_
                refine WW_sub (L' := [(2, iv ((m : Int) + 1)), (0, .ref f), (1, iv (b : Int))]) [0, 2, 3] rfl ?_
                exact ih (m + 1) _ _ (by omega) (by omega) hb hl he hm9 hkk
              · exact absurd (by omega) c20
            | succ q ihn =>
              intro n r hA hn hn1 hb hl he hm9 hkk
              have hl3 : r.length ≤ 63 := Nat.le_trans (Nat.le_trans (eN_len b m (q + 1) n r) (eM_len b Q (m + 1) _)) hl
              have hl4 := insR_len (keyN (m * m - n * n) (2 * m * n) (m * m + n * n)) r
              refine r_iload_n 0 X dX2_fillByNumbers_18 rfl ?_
              refine r_iload_n 1 X dX2_fillByNumbers_19 rfl ?_
              refine r_icmp_ge 84 X dX2_fillByNumbers_20 (by decide) ⟨by omega, by omega⟩ ⟨by omega, by omega⟩ (fun c20 => ?_) (fun c20 => ?_)
              · refine r_iinc 1 (L' := [(2, iv ((m : Int) + 1)), (3, iv (n : Int)), (0, .ref f), (1, iv (b : Int))]) X dX2_fillByNumbers_84 rfl (by decide) rfl ?_
                refine r_goto 2 X dX2_fillByNumbers_87 (by decide) ?_
                refine WW_sub (L' := [(2, iv ((m : Int) + 1)), (0, .ref f), (1, iv (b : Int))]) [0, 2, 3] rfl ?_
                rw [eN_s, if_neg (by omega)] at hl he
                exact ih (m + 1) _ _ (by omega) (by omega) hb hl he hm9 hkk
              · have hmn := Nat.mul_le_mul (show n ≤ m by omega) (show n ≤ m by omega)
                have hmn2 := Nat.mul_le_mul (show n ≤ m by omega) (Nat.le_refl m)
                have hmn4 := two_mn (show n ≤ m by omega)
                have hmn3 : 2 * m * n = 2 * (n * m) := by rw [Nat.mul_assoc, Nat.mul_comm m n]
                refine r_iload_n 1 X dX2_fillByNumbers_23 rfl ?_
                refine r_iload_n 1 X dX2_fillByNumbers_24 rfl ?_
                refine r_imul X dX2_fillByNumbers_25 ?_
                refine r_iload_n 0 X dX2_fillByNumbers_26 rfl ?_
                refine r_iload_n 0 X dX2_fillByNumbers_27 rfl ?_
                refine r_imul X dX2_fillByNumbers_28 ?_
                refine r_iadd X dX2_fillByNumbers_29 ?_
                refine r_iload_n 3 X dX2_fillByNumbers_30 rfl ?_
                refine r_icmp_gt 84 X dX2_fillByNumbers_31 (by decide) ⟨by omega, by omega⟩ ⟨by omega, by omega⟩ (fun c31 => ?_) (fun c31 => ?_)
                · refine r_iinc 1 (L' := [(2, iv ((m : Int) + 1)), (3, iv (n : Int)), (0, .ref f), (1, iv (b : Int))]) X dX2_fillByNumbers_84 rfl (by decide) rfl ?_
                  refine r_goto 2 X dX2_fillByNumbers_87 (by decide) ?_
                  refine WW_sub (L' := [(2, iv ((m : Int) + 1)), (0, .ref f), (1, iv (b : Int))]) [0, 2, 3] rfl ?_
                  rw [eN_s, if_neg (by omega)] at hl he
                  exact ih (m + 1) _ _ (by omega) (by omega) hb hl he hm9 hkk
                · refine r_iload_n 1 X dX2_fillByNumbers_34 rfl ?_
                  refine r_iload_n 0 X dX2_fillByNumbers_35 rfl ?_
                  refine r_iadd X dX2_fillByNumbers_36 ?_
                  refine r_iconst X dX2_fillByNumbers_37 ?_
                  refine r_irem X dX2_fillByNumbers_38 ⟨by omega, by omega⟩ ⟨by omega, by omega⟩ ?_
                  refine r_iconst X dX2_fillByNumbers_39 ?_
                  refine r_icmp_ne 78 X dX2_fillByNumbers_40 (by decide) ⟨by omega, by omega⟩ ⟨by omega, by omega⟩ (fun c40 => ?_) (fun c40 => ?_)
                  · refine r_iinc 0 (L' := [(3, iv ((n : Int) + 1)), (2, iv (m : Int)), (0, .ref f), (1, iv (b : Int))]) X dX2_fillByNumbers_78 rfl (by decide) rfl ?_
                    refine r_goto 18 X dX2_fillByNumbers_81 (by decide) ?_
                    rw [eN_s, if_pos ⟨by omega, by omega⟩, if_neg (fun z => by omega)] at hl he
                    exact ihn (n + 1) _ _ (by omega) (by omega) hb hl he hm9 hkk
                  · refine r_iload_n 1 X dX2_fillByNumbers_43 rfl ?_
                    refine r_i2l X dX2_fillByNumbers_44 ⟨by omega, by omega⟩ ?_
                    refine r_iload_n 0 X dX2_fillByNumbers_45 rfl ?_
                    refine r_i2l X dX2_fillByNumbers_46 ⟨by omega, by omega⟩ ?_
                    have hgn : Int.gcd (m : Int) (n : Int) = Nat.gcd m n := rfl
                    have hgb : Nat.gcd m n ≤ n := Nat.gcd_le_right _ (by omega)
                    refine r_callS_v X dX2_fillByNumbers_47 kX2_38 (c_X1_commonDivisor (CX_l X) D z0 hA (m : Int) (n : Int) ⟨by omega, by omega⟩ ⟨by omega, by omega⟩) [] rfl rfl (Nat.le_of_ble_eq_true rfl) (by decide) rfl rfl (by decide) ?_
                    refine r_lconst 1 X dX2_fillByNumbers_50 (by decide) ?_
                    refine r_lcmp_ne 78 X dX2_fillByNumbers_51 dX2_fillByNumbers_52 (by decide) ⟨by omega, by omega⟩ ⟨by omega, by omega⟩ (fun c51 => ?_) (fun c51 => ?_)
                    · refine r_iinc 0 (L' := [(3, iv ((n : Int) + 1)), (2, iv (m : Int)), (0, .ref f), (1, iv (b : Int))]) X dX2_fillByNumbers_78 rfl (by decide) rfl ?_
                      refine r_goto 18 X dX2_fillByNumbers_81 (by decide) ?_
                      rw [eN_s, if_pos ⟨by omega, by omega⟩, if_neg (fun z => by omega)] at hl he
                      exact ihn (n + 1) _ _ (by omega) (by omega) hb hl he hm9 hkk
                    · refine r_aload_n 2 X dX2_fillByNumbers_55 rfl ?_
                      refine r_iload_n 1 X dX2_fillByNumbers_56 rfl ?_
                      refine r_iload_n 1 X dX2_fillByNumbers_57 rfl ?_
                      refine r_imul X dX2_fillByNumbers_58 ?_
                      refine r_iload_n 0 X dX2_fillByNumbers_59 rfl ?_
                      refine r_iload_n 0 X dX2_fillByNumbers_60 rfl ?_
                      refine r_imul X dX2_fillByNumbers_61 ?_
                      refine r_isub X dX2_fillByNumbers_62 ?_
                      refine r_iconst X dX2_fillByNumbers_63 ?_
                      refine r_iload_n 1 X dX2_fillByNumbers_64 rfl ?_
                      refine r_imul X dX2_fillByNumbers_65 ?_
                      refine r_iload_n 0 X dX2_fillByNumbers_66 rfl ?_
                      refine r_imul X dX2_fillByNumbers_67 ?_
                      refine r_iload_n 1 X dX2_fillByNumbers_68 rfl ?_
                      refine r_iload_n 1 X dX2_fillByNumbers_69 rfl ?_
                      refine r_imul X dX2_fillByNumbers_70 ?_
                      refine r_iload_n 0 X dX2_fillByNumbers_71 rfl ?_
                      refine r_iload_n 0 X dX2_fillByNumbers_72 rfl ?_
                      refine r_imul X dX2_fillByNumbers_73 ?_
                      refine r_iadd X dX2_fillByNumbers_74 ?_
                      rw [show ((m : Int) * (m : Int)) - ((n : Int) * (n : Int)) = ((m * m - n * n : Nat) : Int) by omega, show (2 * (m : Int)) * (n : Int) = ((2 * m * n : Nat) : Int) by rw [Int.natCast_mul, Int.natCast_mul]; rfl, show ((m : Int) * (m : Int)) + ((n : Int) * (n : Int)) = ((m * m + n * n : Nat) : Int) by omega]
                      show WW K D z0 4 hA 0 0 75 [(3, iv (n : Int)), (2, iv (m : Int)), (0, .ref f), (1, iv (b : Int))] [iv ((m * m + n * n : Nat) : Int), iv ((2 * m * n : Nat) : Int), iv ((m * m - n * n : Nat) : Int), .ref f]
                      refine r_callV X dX2_fillByNumbers_75 kX2_44 hm9.1 (c_X2_add (CX_l X) D z0 hA f k r hm9 (by omega) hb (m * m - n * n) (2 * m * n) (m * m + n * n) (by omega) (by omega) (by omega)) [] rfl rfl (Nat.le_of_ble_eq_true rfl) (by decide) (by decide) (fun _ _ z => z.elim) (fun v9 h9 hv9 => ?_)
                      obtain ⟨rfl, hm8, hk8⟩ := hv9
                      show WW K D z0 4 h9 0 0 78 [(3, iv (n : Int)), (2, iv (m : Int)), (0, .ref f), (1, iv (b : Int))] []
                      refine r_iinc 0 (L' := [(3, iv ((n : Int) + 1)), (2, iv (m : Int)), (0, .ref f), (1, iv (b : Int))]) X dX2_fillByNumbers_78 rfl (by decide) rfl ?_
                      refine r_goto 18 X dX2_fillByNumbers_81 (by decide) ?_
                      rw [eN_s, if_pos ⟨by omega, by omega⟩, if_pos ⟨by omega, by omega⟩] at hl he
                      exact ihn (n + 1) _ _ (by omega) (by omega) (ins_lt (keyN_lt (by omega) (by omega) (by omega)) hb) hl he hm8 (Keep_tr hkk hk8)
          refine r_iconst X dX2_fillByNumbers_16 ?_
          refine r_istore_n (L' := [(3, iv 1), (2, iv (m : Int)), (0, .ref f), (1, iv (b : Int))]) X dX2_fillByNumbers_17 (by decide) rfl ?_
          rw [eM_s, if_pos ⟨by omega, by omega⟩] at hl he
          exact inner m 1 r hA (by omega) (by omega) hb hl he hm9 hkk
  refine r_iconst X dX2_fillByNumbers_0 ?_
  refine r_istore_n (L' := [(2, iv 2), (0, .ref f), (1, iv (b : Int))]) X dX2_fillByNumbers_1 (by decide) rfl ?_
  exact outer 20 2 [] h rfl (Nat.le_refl _) (fun a ha => by cases ha) hlq rfl hm Keep_rf
