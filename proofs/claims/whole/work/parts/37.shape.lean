/-! shape, mean -/
def fSh (σ : Tg) (p : Int) : UInt32 := match σ p.toNat with
  | some (a, _, c) => fQ a c
  | none => 0
theorem fSh_s {σ : Tg} {p a b c : Int} (h : σ p.toNat = some (a, b, c)) : fSh σ p = fQ a c := by unfold fSh; rw [h]
def onA : Option (Int × Int × Int) → Int
  | some (a, b, c) => a + b + c
  | none => 0
/-- all sides of all held ones -/
def arT (σ : Tg) : Nat → Int
  | 0 => 0
  | k + 1 => arT σ k + onA (σ k)
theorem arT_b {h : Hp} {g : Nat → Option Nat} {σ : Tg} (hs : Trs h g σ) : ∀ k : Nat, k ≤ 16 → 0 ≤ arT σ k ∧ arT σ k ≤ k * 196605 := by
  intro k
  induction k with
  | zero => intro _; simp [arT]
  | succ k ih =>
    intro hk
    have h1 := ih (by omega)
    unfold arT
    rcases hs k (by omega) with ⟨-, z⟩ | ⟨q, a, b, c, -, z, -, hv⟩
    · rw [z]
      show 0 ≤ arT σ k + 0 ∧ arT σ k + 0 ≤ _
      omega
    · rw [z]
      unfold TV at hv
      show 0 ≤ arT σ k + (a + b + c) ∧ arT σ k + (a + b + c) ≤ _
      omega
def dMe (σ : Tg) : UInt64 := if cntT σ 16 = 0 then FP.dconst0 else FP.ddiv (FP.i2d (Int32.ofInt (arT σ 16))) (FP.i2d (Int32.ofInt (cntT σ 16)))
theorem dQ_nn {a b : Int} (ha : 0 ≤ a ∧ a < 2147483648) (hb : 1 ≤ b ∧ b < 2147483648) : vf_n64 (FP.ddiv (FP.i2d (Int32.ofInt a)) (FP.i2d (Int32.ofInt b))) := by
  have h1 := i2d_of (n := a.toNat) (by omega)
  have h2 := i2d_of (n := b.toNat) (by omega)
  rw [show ((a.toNat : Nat) : Int) = a by omega] at h1
  rw [show ((b.toNat : Nat) : Int) = b by omega] at h2
  rw [h1, h2]
  exact ddiv_nn (by omega) ⟨by omega, by omega⟩
theorem d0_nn : vf_n64 FP.dconst0 := by
  unfold vf_n64
  decide +kernel
theorem dMe_nn {h : Hp} {g : Nat → Option Nat} {σ : Tg} (hs : Trs h g σ) : vf_n64 (dMe σ) := by
  unfold dMe
  have h1 := arT_b hs 16 (by omega)
  have h2 := cntT_b σ 16
  split
  · exact d0_nn
  · exact dQ_nn ⟨by omega, by omega⟩ ⟨by omega, by omega⟩
abbrev rX6_shape : Room := { frames := 8, cells := 2, slots := 12, locals := 132 }
theorem c_X6_shape {l : Launch} (hl : l.stackTraces = false) (D : va_G) (z0 : Nat) (h : Hp) (x T f u v o : Nat) (n : Int) (g : Nat → Option Nat) (σ : Tg) (hc : Cy D h x T f u v o n g σ) (p : Int) (hp0 : I32 p) : CC l yX6_shape cX6_shape 3 (some .float) rX6_shape D z0 h [.ref x, iv p] (fun v h' => v = some (.float (fSh σ p)) ∧ h = h' ∧ ms σ p 2 = 0) (Xn [iob, nseN] (ms σ p 2) h) := by
  refine CC_of RX6 hl (by decide) rfl (Nat.le_of_ble_eq_true rfl) (fun K X Y Z hmn hKl => ?_)
  subst hKl
  show WW K D z0 3 h 0 0 0 [(0, .ref x), (1, iv p)] []
  refine r_aload_n 0 X dX6_shape_0 rfl ?_
  refine r_iload_n 1 X dX6_shape_1 rfl ?_
  refine r_callV X dX6_shape_2 kX6_67 hc.1 (c_X6_heldAt (CX_l X) D z0 h x T f u v o n g σ hc p ⟨by omega, by omega⟩) [] rfl rfl (Nat.le_of_ble_eq_true rfl) (by decide) (by decide) (fun E9 h9 hx9 => by obtain ⟨rfl, ⟨hn2, rfl⟩ | ⟨hn2, hz2, rfl⟩⟩ := Xn_ms hx9; exact WX_out X Y Z (by decide) (by decide) (Xn_mk 1 (by unfold ms; (try simp only [isNone_f, isNone_t, true_or, or_true, false_or, or_false]); ((repeat' split) <;> first | rfl | contradiction | omega)) (by decide) rfl); exact WX_out X Y Z (by decide) (by decide) (Xn_mk 2 (by unfold ms; (try simp only [hz2, isNone_f, isNone_t, true_or, or_true, false_or, or_false]); ((repeat' split) <;> first | rfl | contradiction | omega)) (by decide) rfl)) (fun v9 h9 hv9 => ?_)
  obtain ⟨rfl, hp2, q2, a2, b2, c02, rfl, hg2, hs2, ht2, hv2⟩ := hv9
  have hb2 := TV_b hv2
  show WW K D z0 3 h 2 12 5 [(0, .ref x), (1, iv p)] [.ref q2]
  refine r_astore_n (L' := [(2, .ref q2), (0, .ref x), (1, iv p)]) X dX6_shape_5 (by decide) rfl ?_
  refine r_aload_n 0 X dX6_shape_6 rfl ?_
  refine r_getf X dX6_shape_7 fX6_83 ht2 rfl ?_
  refine r_i2f X dX6_shape_10 ?_
  refine r_aload_n 0 X dX6_shape_11 rfl ?_
  refine r_getf X dX6_shape_12 fX6_89 ht2 rfl ?_
  refine r_i2f X dX6_shape_15 ?_
  refine r_fdiv (fQ a2 c02) X dX6_shape_16 rfl (fQ_nn ⟨by omega, by omega⟩ ⟨by omega, by omega⟩) ?_
  refine r_fret X Y dX6_shape_17 (by decide) (by decide) ?_
  exact ⟨congrArg (fun z => some (Value.float z)) (fSh_s hs2).symm, rfl, (by unfold ms; (try simp only [on_s hs2, hs2, isNone_f, isNone_t, true_or, or_true, false_or, or_false]); ((repeat' split) <;> first | rfl | contradiction | omega))⟩
abbrev rX6_mean : Room := { frames := 3, cells := 0, slots := 0, locals := 63 }
theorem c_X6_mean {l : Launch} (hl : l.stackTraces = false) (D : va_G) (z0 : Nat) (h : Hp) (x T f u v o : Nat) (n : Int) (g : Nat → Option Nat) (σ : Tg) (hc : Cy D h x T f u v o n g σ) : CC l yX6_mean cX6_mean 5 (some .double) rX6_mean D z0 h [.ref x] (PV (.double (dMe σ)) h) NX := by
  refine CC_of RX6 hl (by decide) rfl (Nat.le_of_ble_eq_true rfl) (fun K X Y Z hmn hKl => ?_)
  subst hKl
  show WW K D z0 5 h 0 0 0 [(0, .ref x)] []
  have hcb := cntT_b σ 16
  have loop : ¬ cntT σ 16 = 0 → ∀ (q i : Nat), i + q = 16 → WW K D z0 5 h 0 0 15 [(3, iv (i : Int)), (0, .ref x), (1, iv (cntT σ 16)), (2, iv (arT σ i))] [] := by
    intro hz q
    induction q with
    | zero =>
      intro i hi
      refine r_iload_n 0 X dX6_mean_15 rfl ?_
      refine r_bipush X dX6_mean_16 (by decide) ?_
      refine r_icmp_ge 51 X dX6_mean_18 (by decide) ⟨by omega, by omega⟩ ⟨by omega, by omega⟩ (fun c18 => ?_) (fun c18 => ?_)
      · refine r_iload_n 3 X dX6_mean_51 rfl ?_
        refine r_i2d X dX6_mean_52 ?_
        refine r_iload_n 2 X dX6_mean_53 rfl ?_
        refine r_i2d X dX6_mean_54 ?_
        refine r_ddiv (dMe σ) X dX6_mean_55 (by unfold dMe; rw [if_neg hz, show i = 16 from hi]) (dMe_nn hc.2.2) ?_
        refine r_dret X Y dX6_mean_56 (by decide) (by decide) ?_
        exact pv rfl
      · exfalso
        omega
    | succ q ih =>
      intro i hi
      have hab := arT_b hc.2.2 i (by omega)
      refine r_iload_n 0 X dX6_mean_15 rfl ?_
      refine r_bipush X dX6_mean_16 (by decide) ?_
      refine r_icmp_ge 51 X dX6_mean_18 (by decide) ⟨by omega, by omega⟩ ⟨by omega, by omega⟩ (fun c18 => ?_) (fun c18 => ?_)
      · exfalso
        omega
      · refine r_aload_n 1 X dX6_mean_21 rfl ?_
        refine r_iload_n 0 X dX6_mean_22 rfl ?_
        refine r_callV X dX6_mean_23 kX6_71 hc.1 (c_X6_triangleAt (CX_l X) D z0 h x T f u v o n g σ hc (i : Int) ⟨by omega, by omega⟩) [] rfl rfl (Nat.le_of_ble_eq_true rfl) (by decide) (by decide) (fun _ _ z => z.elim) (fun v9 h9 hv9 => ?_)
        obtain ⟨rfl, e9⟩ := hv9
        rw [e9]
        rw [if_pos (show pl (i : Int) by omega), Int.toNat_natCast]
        cases hg : g i with
        | none =>
          have hσ := Trs_none hc.2.2 (by omega) hg
          show WW K D z0 5 h 0 0 26 [(3, iv (i : Int)), (0, .ref x), (1, iv (cntT σ 16)), (2, iv (arT σ i))] [.null]
          refine r_astoreN (L' := [(4, .null), (3, iv (i : Int)), (0, .ref x), (1, iv (cntT σ 16)), (2, iv (arT σ i))]) X dX6_mean_26 (by decide) rfl ?_
          refine r_iload_n 4 X dX6_mean_28 rfl ?_
          refine r_aloadN 0 X dX6_mean_29 rfl ?_
          refine r_ifnonnullN X dX6_mean_31 ?_
          refine r_iconst X dX6_mean_34 ?_
          refine r_goto 43 X dX6_mean_35 (by decide) ?_
          refine r_iadd X dX6_mean_43 ?_
          refine r_istore_n (L' := [(2, iv ((arT σ i) + 0)), (4, .null), (3, iv (i : Int)), (0, .ref x), (1, iv (cntT σ 16))]) X dX6_mean_44 (by decide) rfl ?_
          refine r_iinc 2 (L' := [(3, iv ((i : Int) + 1)), (2, iv ((arT σ i) + 0)), (4, .null), (0, .ref x), (1, iv (cntT σ 16))]) X dX6_mean_45 rfl (by decide) rfl ?_
          refine r_goto 15 X dX6_mean_48 (by decide) ?_
          refine WW_sub (L' := [(3, iv ((i : Int) + 1)), (0, .ref x), (1, iv (cntT σ 16)), (2, iv ((arT σ i) + 0))]) [0, 3, 4, 1] rfl ?_
          rw [show (arT σ i) + 0 = arT σ (i + 1) by
            show _ = arT σ i + _
            rw [hσ]
            rfl, show ((i : Int) + 1) = ((i + 1 : Nat) : Int) from rfl]
          exact ih (i + 1) (by omega)
        | some q =>
          obtain ⟨a, b, c, hσ, ht, hv⟩ := Trs_some hc.2.2 (by omega) hg
          have hbv := TV_b hv
          show WW K D z0 5 h 0 0 26 [(3, iv (i : Int)), (0, .ref x), (1, iv (cntT σ 16)), (2, iv (arT σ i))] [.ref q]
          refine r_astore (L' := [(4, .ref q), (3, iv (i : Int)), (0, .ref x), (1, iv (cntT σ 16)), (2, iv (arT σ i))]) X dX6_mean_26 (by decide) rfl ?_
          refine r_iload_n 4 X dX6_mean_28 rfl ?_
          refine r_aload 0 X dX6_mean_29 rfl ?_
          refine r_ifnonnull 38 X dX6_mean_31 (by decide) ?_
          refine r_aload 0 X dX6_mean_38 rfl ?_
          refine r_callV_v X dX6_mean_40 kX6_155 ht (c_X5_around (CX_l X) D z0 h q a b c ht hv) [iv (arT σ i)] rfl rfl (Nat.le_of_ble_eq_true rfl) (by decide) rfl rfl (by decide) ?_
          refine r_iadd X dX6_mean_43 ?_
          refine r_istore_n (L' := [(2, iv ((arT σ i) + (a + b + c))), (4, .ref q), (3, iv (i : Int)), (0, .ref x), (1, iv (cntT σ 16))]) X dX6_mean_44 (by decide) rfl ?_
          refine r_iinc 2 (L' := [(3, iv ((i : Int) + 1)), (2, iv ((arT σ i) + (a + b + c))), (4, .ref q), (0, .ref x), (1, iv (cntT σ 16))]) X dX6_mean_45 rfl (by decide) rfl ?_
          refine r_goto 15 X dX6_mean_48 (by decide) ?_
          refine WW_sub (L' := [(3, iv ((i : Int) + 1)), (0, .ref x), (1, iv (cntT σ 16)), (2, iv ((arT σ i) + (a + b + c)))]) [0, 3, 4, 1] rfl ?_
          rw [show (arT σ i) + (a + b + c) = arT σ (i + 1) by
            show _ = arT σ i + _
            rw [hσ]
            rfl, show ((i : Int) + 1) = ((i + 1 : Nat) : Int) from rfl]
          exact ih (i + 1) (by omega)
  refine r_aload_n 0 X dX6_mean_0 rfl ?_
  refine r_callV_v X dX6_mean_1 kX6_63 hc.1 (c_X6_countHeld (CX_l X) D z0 h x T f u v o n g σ hc) [] rfl rfl (Nat.le_of_ble_eq_true rfl) (by decide) rfl rfl (by decide) ?_
  refine r_istore_n (L' := [(1, iv (cntT σ 16)), (0, .ref x)]) X dX6_mean_4 (by decide) rfl ?_
  refine r_iload_n 0 X dX6_mean_5 rfl ?_
  refine r_if_ne 11 X dX6_mean_6 (by decide) ⟨by omega, by omega⟩ (fun c6 => ?_) (fun c6 => ?_)
  · refine r_iconst X dX6_mean_11 ?_
    refine r_istore_n (L' := [(2, iv 0), (1, iv (cntT σ 16)), (0, .ref x)]) X dX6_mean_12 (by decide) rfl ?_
    refine r_iconst X dX6_mean_13 ?_
    refine r_istore_n (L' := [(3, iv 0), (2, iv 0), (1, iv (cntT σ 16)), (0, .ref x)]) X dX6_mean_14 (by decide) rfl ?_
    refine WW_sub (L' := [(3, iv 0), (0, .ref x), (1, iv (cntT σ 16)), (2, iv 0)]) [0, 3, 2, 1] rfl ?_
    exact loop (by omega) 16 0 rfl
  · refine r_dconst0 X dX6_mean_9 ?_
    refine r_dret X Y dX6_mean_10 (by decide) (by decide) ?_
    exact pv (congrArg Value.double (by unfold dMe; rw [if_pos (by omega)]))
