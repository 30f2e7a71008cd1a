/-! listed, checksum -/
def cdLd (m : Nat) (i w : Int) : Int := if (0 ≤ i ∧ i < (m : Int)) ∧ 0 ≤ w ∧ w ≤ 2 then 0 else 1
abbrev rX6_listed : Room := { frames := 7, cells := 2, slots := 12, locals := 110 }
theorem c_X6_listed {l : Launch} (hl : l.stackTraces = false) (D : va_G) (z0 : Nat) (h : Hp) (x T f u v o : Nat) (n : Int) (g : Nat → Option Nat) (σ : Tg) (hc : Cy D h x T f u v o n g σ) (k : Nat) (r : List Nat) (hm : Pm D h f k r) (hr : r.length ≤ 63) (hb : ∀ a ∈ r, a < 134217728) (i w : Int) (hi0 : I32 i) (hw0 : I32 w) : CC l yX6_listed cX6_listed 3 (some .int) rX6_listed D z0 h [.ref x, iv i, iv w] (fun w0 h' => w0 = some (iv (lnK ((nthR r i.toNat : Nat) : Int) w)) ∧ h = h' ∧ cdLd r.length i w = 0) (Xn [iob] (cdLd r.length i w) h) := by
  refine CC_of RX6 hl (by decide) rfl (Nat.le_of_ble_eq_true rfl) (fun K X Y Z hmn hKl => ?_)
  subst hKl
  show WW K D z0 3 h 0 0 0 [(0, .ref x), (1, iv i), (2, iv w)] []
  refine r_iload_n 1 X dX6_listed_0 rfl ?_
  refine r_if_lt 15 X dX6_listed_1 (by decide) ⟨by omega, by omega⟩ (fun c1 => ?_) (fun c1 => ?_)
  · refine r_throwS (E := "java/lang/IndexOutOfBoundsException") (text := "there is no such number") X Y Z dX6_listed_15 dX6_listed_18 dX6_listed_19 dX6_listed_21 dX6_listed_24 (by decide) gX6_219 ini_IndexOutOfBoundsException (by decide) hX6_223 (Nat.le_of_ble_eq_true rfl) (by decide) (by decide) (by decide) ?_
    exact Xn_mk 1 (if_neg (by omega)) (by decide) rfl
  · refine r_iload_n 1 X dX6_listed_4 rfl ?_
    refine r_aload_n 0 X dX6_listed_5 rfl ?_
    refine r_getf X dX6_listed_6 fX6_18 hc.1 rfl ?_
    refine r_getf X dX6_listed_9 fX6_216 hm.1 rfl ?_
    refine r_icmp_lt 25 X dX6_listed_12 (by decide) ⟨by omega, by omega⟩ ⟨by omega, by omega⟩ (fun c12 => ?_) (fun c12 => ?_)
    · refine r_iload_n 2 X dX6_listed_25 rfl ?_
      refine r_callS X dX6_listed_26 kX6_74 (c_X6_requireSide (CX_l X) D z0 h w ⟨by omega, by omega⟩) [] rfl rfl (Nat.le_of_ble_eq_true rfl) (by decide) (by decide) (fun E9 h9 hx9 => by obtain ⟨rfl, rfl, hn26⟩ := Xn1 hx9; exact WX_out X Y Z (by decide) (by decide) (Xn_mk 1 (if_neg (by omega)) (by decide) rfl)) (fun v9 h9 hv9 => ?_)
      obtain ⟨rfl, rfl, hp26⟩ := hv9
      show WW K D z0 3 h 1 6 29 [(0, .ref x), (1, iv i), (2, iv w)] []
      refine r_aload_n 0 X dX6_listed_29 rfl ?_
      refine r_getf X dX6_listed_30 fX6_18 hc.1 rfl ?_
      refine r_iload_n 1 X dX6_listed_33 rfl ?_
      refine r_iload_n 2 X dX6_listed_34 rfl ?_
      refine r_callV_v X dX6_listed_35 kX6_224 hm.1 (c_X2_length (CX_l X) D z0 h f k r hm (by omega) hb i w ⟨by omega, by omega⟩ ⟨by omega, by omega⟩) [] rfl rfl (Nat.le_of_ble_eq_true rfl) (by decide) rfl rfl (by decide) ?_
      refine r_iret X Y dX6_listed_38 (by decide) (by decide) ?_
      exact ⟨rfl, rfl, if_pos (by omega)⟩
    · refine r_throwS (E := "java/lang/IndexOutOfBoundsException") (text := "there is no such number") X Y Z dX6_listed_15 dX6_listed_18 dX6_listed_19 dX6_listed_21 dX6_listed_24 (by decide) gX6_219 ini_IndexOutOfBoundsException (by decide) hX6_223 (Nat.le_of_ble_eq_true rfl) (by decide) (by decide) (by decide) ?_
      exact Xn_mk 1 (if_neg (by omega)) (by decide) rfl
abbrev rX6_checksum : Room := { frames := 2, cells := 0, slots := 0, locals := 41 }
def onC : Option (Int × Int × Int) → Int
  | some (a, b, c) => 4294967296 * a + 65536 * b + c
  | none => 0
def s16 (σ : Tg) : Nat → Int
  | 0 => 0
  | i + 1 => 31 * s16 σ i + onC (σ i)
def sL (r : List Nat) (z : Int) : Nat → Int
  | 0 => z
  | i + 1 => 31 * sL r z i + lnK ((nthR r i : Nat) : Int) 2
def sO (od : Nat → Int) (z : Int) : Nat → Int
  | 0 => z
  | i + 1 => 31 * sO od z i + od i
theorem c_X6_checksum {l : Launch} (hl : l.stackTraces = false) (D : va_G) (z0 : Nat) (h : Hp) (x T f u v o : Nat) (m : Nat) (g : Nat → Option Nat) (σ : Tg) (hc : Cy D h x T f u v o (m : Int) g σ) (k : Nat) (r : List Nat) (hm : Pm D h f k r) (hr : r.length ≤ 63) (hb : ∀ a ∈ r, a < 134217728) (hm16 : m ≤ 16) (od : Nat → Int) (ho : h o = some (aI D 16 od)) (hod : ∀ i, i < m → 0 ≤ od i ∧ od i < 16) : CC l yX6_checksum cX6_checksum 5 (some .long) rX6_checksum D z0 h [.ref x] (PV (jv (sO od (sL r (s16 σ 16) r.length) m)) h) NX := by
  refine CC_of RX6 hl (by decide) rfl (Nat.le_of_ble_eq_true rfl) (fun K X Y Z hmn hKl => ?_)
  subst hKl
  show WW K D z0 5 h 0 0 0 [(0, .ref x)] []
  obtain ⟨Z1, hZ1⟩ : ∃ z, z = s16 σ 16 := ⟨_, rfl⟩
  obtain ⟨Z2, hZ2⟩ : ∃ z, z = sL r Z1 r.length := ⟨_, rfl⟩
  have hfin : sO od Z2 m = sO od (sL r (s16 σ 16) r.length) m := by rw [hZ2, hZ1]
  have loop3 : ∀ (q i : Nat), i + q = m → WW K D z0 5 h 0 0 82 [(3, iv (i : Int)), (0, .ref x), (1, jv (sO od Z2 i))] [] := by
    intro q
    induction q with
    | zero =>
      intro i hi
      refine r_iload_n 0 X dX6_checksum_82 rfl ?_
      refine r_aload_n 1 X dX6_checksum_83 rfl ?_
      refine r_getf X dX6_checksum_84 fX6_32 hc.1 rfl ?_
      refine r_icmp_ge 116 X dX6_checksum_87 (by decide) ⟨by omega, by omega⟩ ⟨by omega, by omega⟩ (fun c87 => ?_) (fun c87 => ?_)
      · refine r_lload_n 2 X dX6_checksum_116 rfl ?_
        refine r_lret X Y dX6_checksum_117 (by decide) (by decide) ?_
        exact pv_j (by rw [show i = m from hi, hfin])
      · exfalso
        omega
    | succ q ih =>
      intro i hi
      refine r_iload_n 0 X dX6_checksum_82 rfl ?_
      refine r_aload_n 1 X dX6_checksum_83 rfl ?_
      refine r_getf X dX6_checksum_84 fX6_32 hc.1 rfl ?_
      refine r_icmp_ge 116 X dX6_checksum_87 (by decide) ⟨by omega, by omega⟩ ⟨by omega, by omega⟩ (fun c87 => ?_) (fun c87 => ?_)
      · exfalso
        omega
      · refine r_iload_n 0 X dX6_checksum_90 rfl ?_
        refine r_bipush X dX6_checksum_91 (by decide) ?_
        refine r_icmp_ge 116 X dX6_checksum_93 (by decide) ⟨by omega, by omega⟩ ⟨by omega, by omega⟩ (fun c93 => ?_) (fun c93 => ?_)
        · exfalso
          omega
        · refine r_ldc2 31 X dX6_checksum_96 nX6_246 (by decide) ?_
          refine r_lload_n 2 X dX6_checksum_99 rfl ?_
          refine r_lmul X dX6_checksum_100 ?_
          refine r_aload_n 1 X dX6_checksum_101 rfl ?_
          refine r_getf X dX6_checksum_102 fX6_28 hc.1 rfl ?_
          refine r_iload_n 0 X dX6_checksum_105 rfl ?_
          refine r_iaload X dX6_checksum_106 ho ⟨by omega, by omega⟩ (by decide) ?_
          refine r_i2l X dX6_checksum_107 ⟨by have := hod ((i : Int).toNat) (by omega); omega, by have := hod ((i : Int).toNat) (by omega); omega⟩ ?_
          refine r_ladd X dX6_checksum_108 ?_
          refine r_lstore_n (L' := [(1, jv ((31 * (sO od Z2 i)) + (od i))), (3, iv (i : Int)), (0, .ref x)]) X dX6_checksum_109 (by decide) rfl ?_
          refine r_iinc 1 (L' := [(3, iv ((i : Int) + 1)), (1, jv ((31 * (sO od Z2 i)) + (od i))), (0, .ref x)]) X dX6_checksum_110 rfl (by decide) rfl ?_
          refine r_goto 82 X dX6_checksum_113 (by decide) ?_
          refine WW_sub (L' := [(3, iv ((i : Int) + 1)), (0, .ref x), (1, jv ((31 * (sO od Z2 i)) + (od i)))]) [0, 2, 1] rfl ?_
          rw [show (31 * (sO od Z2 i)) + (od i) = sO od Z2 (i + 1) by
            show _ = 31 * sO od Z2 i + _
            rfl, show ((i : Int) + 1) = ((i + 1 : Nat) : Int) from rfl]
          exact ih (i + 1) (by omega)
  have loop2 : ∀ (q i : Nat), i + q = r.length → WW K D z0 5 h 0 0 46 [(3, iv (i : Int)), (0, .ref x), (1, jv (sL r Z1 i))] [] := by
    intro q
    induction q with
    | zero =>
      intro i hi
      refine r_iload_n 0 X dX6_checksum_46 rfl ?_
      refine r_aload_n 1 X dX6_checksum_47 rfl ?_
      refine r_getf X dX6_checksum_48 fX6_18 hc.1 rfl ?_
      refine r_getf X dX6_checksum_51 fX6_216 hm.1 rfl ?_
      refine r_icmp_ge 80 X dX6_checksum_54 (by decide) ⟨by omega, by omega⟩ ⟨by omega, by omega⟩ (fun c54 => ?_) (fun c54 => ?_)
      · refine r_iconst X dX6_checksum_80 ?_
        refine r_istore_n (L' := [(3, iv 0), (0, .ref x), (1, jv (sL r Z1 i))]) X dX6_checksum_81 (by decide) rfl ?_
        rw [show i = r.length from hi, ← hZ2]
        exact loop3 m 0 (by omega)
      · exfalso
        omega
    | succ q ih =>
      intro i hi
      refine r_iload_n 0 X dX6_checksum_46 rfl ?_
      refine r_aload_n 1 X dX6_checksum_47 rfl ?_
      refine r_getf X dX6_checksum_48 fX6_18 hc.1 rfl ?_
      refine r_getf X dX6_checksum_51 fX6_216 hm.1 rfl ?_
      refine r_icmp_ge 80 X dX6_checksum_54 (by decide) ⟨by omega, by omega⟩ ⟨by omega, by omega⟩ (fun c54 => ?_) (fun c54 => ?_)
      · exfalso
        omega
      · refine r_ldc2 31 X dX6_checksum_57 nX6_246 (by decide) ?_
        refine r_lload_n 2 X dX6_checksum_60 rfl ?_
        refine r_lmul X dX6_checksum_61 ?_
        refine r_aload_n 1 X dX6_checksum_62 rfl ?_
        refine r_getf X dX6_checksum_63 fX6_18 hc.1 rfl ?_
        refine r_iload_n 0 X dX6_checksum_66 rfl ?_
        refine r_iconst X dX6_checksum_67 ?_
        refine r_callV_v X dX6_checksum_68 kX6_224 hm.1 (c_X2_length (CX_l X) D z0 h f k r hm (by omega) hb (i : Int) 2 ⟨by omega, by omega⟩ ⟨by omega, by omega⟩) [jv (31 * (sL r Z1 i))] rfl rfl (Nat.le_of_ble_eq_true rfl) (by decide) rfl rfl (by decide) ?_
        refine r_i2l X dX6_checksum_71 ⟨by have := nthR_b hb (by decide) ((i : Int).toNat); unfold lnK; rw [if_neg (by decide), if_neg (by decide)]; omega, by have := nthR_b hb (by decide) ((i : Int).toNat); unfold lnK; rw [if_neg (by decide), if_neg (by decide)]; omega⟩ ?_
        refine r_ladd X dX6_checksum_72 ?_
        refine r_lstore_n (L' := [(1, jv ((31 * (sL r Z1 i)) + (lnK ((nthR r i : Nat) : Int) 2))), (3, iv (i : Int)), (0, .ref x)]) X dX6_checksum_73 (by decide) rfl ?_
        refine r_iinc 1 (L' := [(3, iv ((i : Int) + 1)), (1, jv ((31 * (sL r Z1 i)) + (lnK ((nthR r i : Nat) : Int) 2))), (0, .ref x)]) X dX6_checksum_74 rfl (by decide) rfl ?_
        refine r_goto 46 X dX6_checksum_77 (by decide) ?_
        refine WW_sub (L' := [(3, iv ((i : Int) + 1)), (0, .ref x), (1, jv ((31 * (sL r Z1 i)) + (lnK ((nthR r i : Nat) : Int) 2)))]) [0, 2, 1] rfl ?_
        rw [show (31 * (sL r Z1 i)) + (lnK ((nthR r i : Nat) : Int) 2) = sL r Z1 (i + 1) by
          show _ = 31 * sL r Z1 i + _
          rfl, show ((i : Int) + 1) = ((i + 1 : Nat) : Int) from rfl]
        exact ih (i + 1) (by omega)
  have loop1 : ∀ (q i : Nat), i + q = 16 → WW K D z0 5 h 0 0 4 [(3, iv (i : Int)), (0, .ref x), (1, jv (s16 σ i))] [] := by
    intro q
    induction q with
    | zero =>
      intro i hi
      refine r_iload_n 0 X dX6_checksum_4 rfl ?_
      refine r_bipush X dX6_checksum_5 (by decide) ?_
      refine r_icmp_ge 44 X dX6_checksum_7 (by decide) ⟨by omega, by omega⟩ ⟨by omega, by omega⟩ (fun c7 => ?_) (fun c7 => ?_)
      · refine r_iconst X dX6_checksum_44 ?_
        refine r_istore_n (L' := [(3, iv 0), (0, .ref x), (1, jv (s16 σ i))]) X dX6_checksum_45 (by decide) rfl ?_
        rw [show i = 16 from hi, ← hZ1]
        exact loop2 r.length 0 (by omega)
      · exfalso
        omega
    | succ q ih =>
      intro i hi
      refine r_iload_n 0 X dX6_checksum_4 rfl ?_
      refine r_bipush X dX6_checksum_5 (by decide) ?_
      refine r_icmp_ge 44 X dX6_checksum_7 (by decide) ⟨by omega, by omega⟩ ⟨by omega, by omega⟩ (fun c7 => ?_) (fun c7 => ?_)
      · exfalso
        omega
      · refine r_aload_n 1 X dX6_checksum_10 rfl ?_
        refine r_iload_n 0 X dX6_checksum_11 rfl ?_
        refine r_callV X dX6_checksum_12 kX6_71 hc.1 (c_X6_triangleAt (CX_l X) D z0 h x T f u v o (m : Int) g σ hc (i : Int) ⟨by omega, by omega⟩) [] rfl rfl (Nat.le_of_ble_eq_true rfl) (by decide) (by decide) (fun _ _ z => z.elim) (fun v9 h9 hv9 => ?_)
        obtain ⟨rfl, e9⟩ := hv9
        rw [e9]
        rw [if_pos (show pl (i : Int) by omega), Int.toNat_natCast]
        cases hg : g i with
        | none =>
          have hσ := Trs_none hc.2.2 (by omega) hg
          show WW K D z0 5 h 0 0 15 [(3, iv (i : Int)), (0, .ref x), (1, jv (s16 σ i))] [.null]
          refine r_astoreN (L' := [(4, .null), (3, iv (i : Int)), (0, .ref x), (1, jv (s16 σ i))]) X dX6_checksum_15 (by decide) rfl ?_
          refine r_ldc2 31 X dX6_checksum_17 nX6_246 (by decide) ?_
          refine r_lload_n 3 X dX6_checksum_20 rfl ?_
          refine r_lmul X dX6_checksum_21 ?_
          refine r_aloadN 0 X dX6_checksum_22 rfl ?_
          refine r_ifnonnullN X dX6_checksum_24 ?_
          refine r_lconst 0 X dX6_checksum_27 (by decide) ?_
          refine r_goto 36 X dX6_checksum_28 (by decide) ?_
          refine r_ladd X dX6_checksum_36 ?_
          refine r_lstore_n (L' := [(1, jv ((31 * (s16 σ i)) + 0)), (4, .null), (3, iv (i : Int)), (0, .ref x)]) X dX6_checksum_37 (by decide) rfl ?_
          refine r_iinc 2 (L' := [(3, iv ((i : Int) + 1)), (1, jv ((31 * (s16 σ i)) + 0)), (4, .null), (0, .ref x)]) X dX6_checksum_38 rfl (by decide) rfl ?_
          refine r_goto 4 X dX6_checksum_41 (by decide) ?_
          refine WW_sub (L' := [(3, iv ((i : Int) + 1)), (0, .ref x), (1, jv ((31 * (s16 σ i)) + 0))]) [0, 3, 1] rfl ?_
          rw [show (31 * (s16 σ i)) + 0 = s16 σ (i + 1) by
            show _ = 31 * s16 σ i + _
            rw [hσ]
            rfl, show ((i : Int) + 1) = ((i + 1 : Nat) : Int) from rfl]
          exact ih (i + 1) (by omega)
        | some q =>
          obtain ⟨a, b, c, hσ, ht, hv⟩ := Trs_some hc.2.2 (by omega) hg
          have hbv := TV_b hv
          show WW K D z0 5 h 0 0 15 [(3, iv (i : Int)), (0, .ref x), (1, jv (s16 σ i))] [.ref q]
          refine r_astore (L' := [(4, .ref q), (3, iv (i : Int)), (0, .ref x), (1, jv (s16 σ i))]) X dX6_checksum_15 (by decide) rfl ?_
          refine r_ldc2 31 X dX6_checksum_17 nX6_246 (by decide) ?_
          refine r_lload_n 3 X dX6_checksum_20 rfl ?_
          refine r_lmul X dX6_checksum_21 ?_
          refine r_aload 0 X dX6_checksum_22 rfl ?_
          refine r_ifnonnull 31 X dX6_checksum_24 (by decide) ?_
          refine r_aload 0 X dX6_checksum_31 rfl ?_
          refine r_callV_v X dX6_checksum_33 kX6_248 ht (c_X5_code (CX_l X) D z0 h q a b c ht hv) [jv (31 * (s16 σ i))] rfl rfl (Nat.le_of_ble_eq_true rfl) (by decide) rfl rfl (by decide) ?_
          refine r_ladd X dX6_checksum_36 ?_
          refine r_lstore_n (L' := [(1, jv ((31 * (s16 σ i)) + (4294967296 * a + 65536 * b + c))), (4, .ref q), (3, iv (i : Int)), (0, .ref x)]) X dX6_checksum_37 (by decide) rfl ?_
          refine r_iinc 2 (L' := [(3, iv ((i : Int) + 1)), (1, jv ((31 * (s16 σ i)) + (4294967296 * a + 65536 * b + c))), (4, .ref q), (0, .ref x)]) X dX6_checksum_38 rfl (by decide) rfl ?_
          refine r_goto 4 X dX6_checksum_41 (by decide) ?_
          refine WW_sub (L' := [(3, iv ((i : Int) + 1)), (0, .ref x), (1, jv ((31 * (s16 σ i)) + (4294967296 * a + 65536 * b + c)))]) [0, 3, 1] rfl ?_
          rw [show (31 * (s16 σ i)) + (4294967296 * a + 65536 * b + c) = s16 σ (i + 1) by
            show _ = 31 * s16 σ i + _
            rw [hσ]
            rfl, show ((i : Int) + 1) = ((i + 1 : Nat) : Int) from rfl]
          exact ih (i + 1) (by omega)
  refine r_lconst 0 X dX6_checksum_0 (by decide) ?_
  refine r_lstore_n (L' := [(1, jv 0), (0, .ref x)]) X dX6_checksum_1 (by decide) rfl ?_
  refine r_iconst X dX6_checksum_2 ?_
  refine r_istore_n (L' := [(3, iv 0), (1, jv 0), (0, .ref x)]) X dX6_checksum_3 (by decide) rfl ?_
  refine WW_sub (L' := [(3, iv 0), (0, .ref x), (1, jv 0)]) [0, 2, 1] rfl ?_
  exact loop1 16 0 rfl
