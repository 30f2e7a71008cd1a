/-! the class Primitives -/
/-- a number put into an order, from its end -/
def insK (key : Int) : Nat → (Nat → Int) → (Nat → Int)
  | 0, ks => up ks 0 key
  | k + 1, ks => if ks k ≤ key then up ks (k + 1) key else insK key k (up ks (k + 1) (ks k))
theorem insK_s (key : Int) (k : Nat) (ks : Nat → Int) : insK key (k + 1) ks = if ks k ≤ key then up ks (k + 1) key else insK key k (up ks (k + 1) (ks k)) := rfl
theorem insK_hi (key : Int) : ∀ (k : Nat) (ks : Nat → Int) (i : Nat), k < i → insK key k ks i = ks i
  | 0, ks, i, h => up_n _ _ (by omega)
  | k + 1, ks, i, h => by
    rw [insK_s]
    split
    · exact up_n _ _ (by omega)
    · rw [insK_hi key k _ i (by omega)]
      exact up_n _ _ (by omega)
/-- the same on a list whose greatest stands first -/
def insR (key : Nat) : List Nat → List Nat
  | [] => [key]
  | a :: r => if key < a then a :: insR key r else key :: a :: r
theorem insR_len (key : Nat) : ∀ r : List Nat, (insR key r).length = r.length + 1
  | [] => rfl
  | a :: r => by
    unfold insR
    split
    · rw [List.length_cons, insR_len key r, List.length_cons]
    · rfl
def Rp (ks : Nat → Int) : List Nat → Prop
  | [] => True
  | a :: r => ks r.length = (a : Int) ∧ Rp ks r
theorem Rp_up {ks : Nat → Int} {i : Nat} {e : Int} : ∀ {r : List Nat}, Rp ks r → r.length ≤ i → Rp (up ks i e) r
  | [], _, _ => trivial
  | a :: r, h, hi => by
    have hi' : r.length + 1 ≤ i := hi
    exact ⟨by rw [up_n _ _ (by omega)]; exact h.1, Rp_up h.2 (by omega)⟩
theorem Rp_ins (key : Nat) : ∀ (r : List Nat) (ks : Nat → Int), Rp ks r → Rp (insK (key : Int) r.length ks) (insR key r)
  | [], ks, _ => ⟨up_s _ _ _, trivial⟩
  | a :: r, ks, h => by
    show Rp (insK (key : Int) (r.length + 1) ks) (insR key (a :: r))
    rw [insK_s, h.1]
    unfold insR
    by_cases z : key < a
    · rw [if_pos z, if_neg (by omega)]
      refine ⟨?_, Rp_ins key r _ (Rp_up h.2 (by omega))⟩
      rw [insR_len, insK_hi _ _ _ _ (by omega), up_s]
    · rw [if_neg z, if_pos (by omega)]
      exact ⟨up_s _ _ _, Rp_up h (Nat.le_refl _)⟩
/-- the number that stands at i, the least being at 0 -/
def nthR (r : List Nat) (i : Nat) : Nat := r.getD (r.length - 1 - i) 0
theorem Rp_get {ks : Nat → Int} : ∀ {r : List Nat} {i : Nat}, Rp ks r → i < r.length → ks i = (nthR r i : Int)
  | [], i, _, h => absurd h (by simp)
  | a :: r, i, h, hi => by
    have hi' : i < r.length + 1 := hi
    unfold nthR
    rw [List.length_cons]
    by_cases z : i = r.length
    · rw [z, h.1, show r.length + 1 - 1 - r.length = 0 by omega]
      rfl
    · rw [Rp_get h.2 (by omega), show r.length + 1 - 1 - i = (r.length - 1 - i) + 1 by omega]
      rfl
def Pm (D : va_G) (h : Hp) (f k : Nat) (r : List Nat) : Prop := h f = some (ob 1 [.ref k, iv (r.length : Int)]) ∧ ∃ ks : Nat → Int, h k = some (aI D 64 ks) ∧ Rp ks r
def lnK (K w : Int) : Int := if w = 0 then K / 512 % 512 else if w = 1 then K % 512 else K / 262144
theorem nthR_b {r : List Nat} {M : Nat} (h : ∀ a ∈ r, a < M) (hM : 0 < M) (i : Nat) : nthR r i < M := by
  unfold nthR
  rw [List.getD_eq_getElem?_getD]
  cases e : r[r.length - 1 - i]? with
  | none => exact hM
  | some a => exact h a (List.mem_of_getElem? e)
theorem insR_mem {key x : Nat} : ∀ {r : List Nat}, x ∈ insR key r → x = key ∨ x ∈ r
  | [], h => by
    rw [insR] at h
    exact Or.inl (List.mem_singleton.mp h)
  | a :: r, h => by
    unfold insR at h
    split at h
    · rcases List.mem_cons.mp h with z | z
      · exact Or.inr (List.mem_cons.mpr (Or.inl z))
      · rcases insR_mem z with z | z
        · exact Or.inl z
        · exact Or.inr (List.mem_cons.mpr (Or.inr z))
    · rcases List.mem_cons.mp h with z | z
      · exact Or.inl z
      · exact Or.inr z
/-- three sides in one number -/
def keyN (a b c : Nat) : Nat := c * 262144 + min a b * 512 + max a b
theorem Pm_fk {D : va_G} {h : Hp} {f k : Nat} {r : List Nat} {ks : Nat → Int} (h1 : h f = some (ob 1 [.ref k, iv (r.length : Int)])) (h2 : h k = some (aI D 64 ks)) : f ≠ k := by
  intro z
  rw [z, h2] at h1
  cases h1
abbrev rX2_length : Room := { frames := 0, cells := 0, slots := 0, locals := 0 }
theorem c_X2_length {l : Launch} (hl : l.stackTraces = false) (D : va_G) (z0 : Nat) (h : Hp) (f k : Nat) (r : List Nat) (hm : Pm D h f k r) (hr : r.length ≤ 64) (hb : ∀ a ∈ r, a < 134217728) (i w : Int) (hi : 0 ≤ i ∧ i < (r.length : Int)) (hw : I32 w) : CC l yX2_length cX2_length 4 (some .int) rX2_length D z0 h [.ref f, iv i, iv w] (PV (iv (lnK (nthR r i.toNat : Int) w)) h) NX := by
  refine CC_of RX2 hl (by decide) rfl (Nat.le_of_ble_eq_true rfl) (fun K X Y Z hmn hKl => ?_)
  subst hKl
  show WW K D z0 4 h 0 0 0 [(0, .ref f), (1, iv i), (2, iv w)] []
  obtain ⟨hm1, ks, hk, hR⟩ := id hm
  have hnb := nthR_b hb (by decide) i.toNat
  refine r_iload_n 1 X dX2_length_0 rfl ?_
  refine r_if_lt 18 X dX2_length_1 (by decide) ⟨by omega, by omega⟩ (fun c1 => ?_) (fun c1 => ?_)
  · exact absurd c1 (by omega)
  · refine r_iload_n 1 X dX2_length_4 rfl ?_
    refine r_aload_n 0 X dX2_length_5 rfl ?_
    refine r_getf X dX2_length_6 fX2_15 hm1 rfl ?_
    refine r_icmp_ge 18 X dX2_length_9 (by decide) ⟨by omega, by omega⟩ ⟨by omega, by omega⟩ (fun c9 => ?_) (fun c9 => ?_)
    · exact absurd c9 (by omega)
    · refine r_iload_n 1 X dX2_length_12 rfl ?_
      refine r_bipush X dX2_length_13 (by decide) ?_
      refine r_icmp_lt 20 X dX2_length_15 (by decide) ⟨by omega, by omega⟩ ⟨by omega, by omega⟩ (fun c15 => ?_) (fun c15 => ?_)
      · refine r_aload_n 0 X dX2_length_20 rfl ?_
        refine r_getf X dX2_length_21 fX2_11 hm1 rfl ?_
        refine r_iload_n 1 X dX2_length_24 rfl ?_
        refine r_iaload X dX2_length_25 hk ⟨by omega, by omega⟩ (by decide) ?_
        rw [Rp_get hR (show i.toNat < r.length by omega)]
        show WW K D z0 4 h 0 0 26 [(0, .ref f), (1, iv i), (2, iv w)] [iv (nthR r i.toNat : Int)]
        refine r_istore_n (L' := [(3, iv (nthR r i.toNat : Int)), (0, .ref f), (1, iv i), (2, iv w)]) X dX2_length_26 (by decide) rfl ?_
        refine r_iload_n 3 X dX2_length_27 rfl ?_
        refine r_if_ne 40 X dX2_length_28 (by decide) ⟨by omega, by omega⟩ (fun c28 => ?_) (fun c28 => ?_)
        · refine r_iload_n 3 X dX2_length_40 rfl ?_
          refine r_iconst X dX2_length_41 ?_
          refine r_icmp_ne 53 X dX2_length_42 (by decide) ⟨by omega, by omega⟩ ⟨by omega, by omega⟩ (fun c42 => ?_) (fun c42 => ?_)
          · refine r_iload_n 0 X dX2_length_53 rfl ?_
            refine r_bipush X dX2_length_54 (by decide) ?_
            refine r_ishr X dX2_length_56 18 262144 (by decide) (by decide) (by decide) ⟨by omega, by omega⟩ ?_
            refine r_iret X Y dX2_length_57 (by decide) (by decide) ?_
            exact pv_i (by unfold lnK; split <;> (try split) <;> omega)
          · refine r_iload_n 0 X dX2_length_45 rfl ?_
            refine r_sipush X dX2_length_46 (by decide) ?_
            refine r_iand X dX2_length_49 9 512 (by decide) (by decide) (by decide) ?_
            refine r_goto 57 X dX2_length_50 (by decide) ?_
            refine r_iret X Y dX2_length_57 (by decide) (by decide) ?_
            exact pv_i (by unfold lnK; split <;> (try split) <;> omega)
        · refine r_iload_n 0 X dX2_length_31 rfl ?_
          refine r_bipush X dX2_length_32 (by decide) ?_
          refine r_ishr X dX2_length_34 9 512 (by decide) (by decide) (by decide) ⟨by omega, by omega⟩ ?_
          refine r_sipush X dX2_length_35 (by decide) ?_
          refine r_iand X dX2_length_38 9 512 (by decide) (by decide) (by decide) ?_
          refine r_iret X Y dX2_length_39 (by decide) (by decide) ?_
          exact pv_i (by unfold lnK; split <;> (try split) <;> omega)
      · exact absurd (by omega) c15
abbrev rX2_add : Room := { frames := 1, cells := 0, slots := 0, locals := 24 }
theorem c_X2_add {l : Launch} (hl : l.stackTraces = false) (D : va_G) (z0 : Nat) (h : Hp) (f k : Nat) (r : List Nat) (hm : Pm D h f k r) (hr : r.length < 64) (hb : ∀ a ∈ r, a < 134217728) (a b c : Nat) (ha : a < 512) (hbb : b < 512) (hcc : c < 512) : CC l yX2_add cX2_add 7 none rX2_add D z0 h [.ref f, iv (a : Int), iv (b : Int), iv (c : Int)] (fun w0 h' => w0 = none ∧ Pm D h' f k (insR (keyN a b c) r) ∧ Keep (fun y => y = f ∨ y = k) h h') NX := by
  refine CC_of RX2 hl (by decide) rfl (Nat.le_of_ble_eq_true rfl) (fun K X Y Z hmn hKl => ?_)
  subst hKl
  show WW K D z0 7 h 0 0 0 [(0, .ref f), (1, iv (a : Int)), (2, iv (b : Int)), (3, iv (c : Int))] []
  obtain ⟨hm1, ks, hk, hR⟩ := hm
  have hfk := Pm_fk hm1 hk
  have hkb : (keyN a b c : Int) < 134217728 := by unfold keyN; omega
  have loop : ∀ (j : Nat) (q : Nat → Int), j ≤ r.length → (∀ i, i < j → q i = ks i) → insK (keyN a b c : Int) j q = insK (keyN a b c : Int) r.length ks → WW K D z0 7 (hu h k (aI D 64 q)) 0 0 31 [(6, iv (j : Int)), (0, .ref f), (5, iv (keyN a b c : Int))] [] := by
    intro j
    induction j with
    | zero =>
      intro q hj hqo hqe
      refine r_iload 0 X dX2_add_31 rfl ?_
      refine r_if_le 79 X dX2_add_33 (by decide) ⟨by omega, by omega⟩ (fun c33 => ?_) (fun c33 => ?_)
      · refine r_iload 0 X dX2_add_79 rfl ?_
        refine r_if_lt 110 X dX2_add_81 (by decide) ⟨by omega, by omega⟩ (fun c81 => ?_) (fun c81 => ?_)
        · exact absurd c81 (by omega)
        · refine r_iload 0 X dX2_add_84 rfl ?_
          refine r_bipush X dX2_add_86 (by decide) ?_
          refine r_icmp_ge 110 X dX2_add_88 (by decide) ⟨by omega, by omega⟩ ⟨by omega, by omega⟩ (fun c88 => ?_) (fun c88 => ?_)
          · exact absurd c88 (by omega)
          · refine r_aload_n 1 X dX2_add_91 rfl ?_
            refine r_getf X dX2_add_92 fX2_11 ((hu_n _ _ hfk).trans hm1) rfl ?_
            refine r_iload 0 X dX2_add_95 rfl ?_
            refine r_iload 2 X dX2_add_97 rfl ?_
            refine r_iastore X dX2_add_99 (hu_s _ _ _) ⟨by omega, by omega⟩ (by decide) ?_
            refine WW_h (hu_hu _ _ _ _) ?_
            show WW K D z0 7 (hu h k (aI D 64 (up q 0 (keyN a b c : Int)))) 0 0 100 [(6, iv ((0 : Nat) : Int)), (0, .ref f), (5, iv (keyN a b c : Int))] []
            refine r_aload_n 1 X dX2_add_100 rfl ?_
            refine r_dup X dX2_add_101 rfl ?_
            refine r_getf X dX2_add_102 fX2_15 ((hu_n _ _ hfk).trans hm1) rfl ?_
            refine r_iconst X dX2_add_105 ?_
            refine r_iadd X dX2_add_106 ?_
            refine r_putf (fs' := [.ref k, iv ((r.length : Int) + 1)]) X dX2_add_107 fX2_15 ((hu_n _ _ hfk).trans hm1) rfl (Nat.le_of_ble_eq_true rfl) rfl rfl rfl ?_
            refine r_vret X Y dX2_add_110 (by decide) (by decide) ?_
            refine ⟨rfl, ⟨?_, ?_⟩, fun y e' hy hn => ?_⟩
            · rw [hu_s, insR_len]
              rfl
            · refine ⟨_, ?_, Rp_ins _ r ks hR⟩
              rw [hu_n _ _ hfk.symm, hu_s, ← hqe]
              rfl
            · rw [hu_n _ _ (fun z => hn (Or.inl z)), hu_n _ _ (fun z => hn (Or.inr z))]
              exact hy
      · exact absurd (by omega) c33
    | succ j ih =>
      intro q hj hqo hqe
      have e8 : ((((j + 1 : Nat) : Int) - 1).toNat) = j := by omega
      have hqj : q j = (nthR r j : Int) := by rw [hqo j (by omega), Rp_get hR (by omega)]
      have hnb := nthR_b hb (by decide) j
      refine r_iload 0 X dX2_add_31 rfl ?_
      refine r_if_le 79 X dX2_add_33 (by decide) ⟨by omega, by omega⟩ (fun c33 => ?_) (fun c33 => ?_)
      · exact absurd c33 (by omega)
      · refine r_iload 0 X dX2_add_36 rfl ?_
        refine r_bipush X dX2_add_38 (by decide) ?_
        refine r_icmp_ge 79 X dX2_add_40 (by decide) ⟨by omega, by omega⟩ ⟨by omega, by omega⟩ (fun c40 => ?_) (fun c40 => ?_)
        · exact absurd c40 (by omega)
        · refine r_aload_n 1 X dX2_add_43 rfl ?_
          refine r_getf X dX2_add_44 fX2_11 ((hu_n _ _ hfk).trans hm1) rfl ?_
          refine r_iload 0 X dX2_add_47 rfl ?_
          refine r_iconst X dX2_add_49 ?_
          refine r_isub X dX2_add_50 ?_
          refine r_iaload X dX2_add_51 (hu_s _ _ _) ⟨by omega, by omega⟩ (by decide) ?_
          rw [e8]
          show WW K D z0 7 (hu h k (aI D 64 q)) 0 0 52 [(6, iv ((j + 1 : Nat) : Int)), (0, .ref f), (5, iv (keyN a b c : Int))] [iv (q j)]
          refine r_iload 2 X dX2_add_52 rfl ?_
          refine r_icmp_le 79 X dX2_add_54 (by decide) ⟨by omega, by omega⟩ ⟨by omega, by omega⟩ (fun c54 => ?_) (fun c54 => ?_)
          · refine r_iload 0 X dX2_add_79 rfl ?_
            refine r_if_lt 110 X dX2_add_81 (by decide) ⟨by omega, by omega⟩ (fun c81 => ?_) (fun c81 => ?_)
            · exact absurd c81 (by omega)
            · refine r_iload 0 X dX2_add_84 rfl ?_
              refine r_bipush X dX2_add_86 (by decide) ?_
              refine r_icmp_ge 110 X dX2_add_88 (by decide) ⟨by omega, by omega⟩ ⟨by omega, by omega⟩ (fun c88 => ?_) (fun c88 => ?_)
              · exact absurd c88 (by omega)
              · refine r_aload_n 1 X dX2_add_91 rfl ?_
                refine r_getf X dX2_add_92 fX2_11 ((hu_n _ _ hfk).trans hm1) rfl ?_
                refine r_iload 0 X dX2_add_95 rfl ?_
                refine r_iload 2 X dX2_add_97 rfl ?_
                refine r_iastore X dX2_add_99 (hu_s _ _ _) ⟨by omega, by omega⟩ (by decide) ?_
                refine WW_h (hu_hu _ _ _ _) ?_
                show WW K D z0 7 (hu h k (aI D 64 (up q (j + 1) (keyN a b c : Int)))) 0 0 100 [(6, iv ((j + 1 : Nat) : Int)), (0, .ref f), (5, iv (keyN a b c : Int))] []
                refine r_aload_n 1 X dX2_add_100 rfl ?_
                refine r_dup X dX2_add_101 rfl ?_
                refine r_getf X dX2_add_102 fX2_15 ((hu_n _ _ hfk).trans hm1) rfl ?_
                refine r_iconst X dX2_add_105 ?_
                refine r_iadd X dX2_add_106 ?_
                refine r_putf (fs' := [.ref k, iv ((r.length : Int) + 1)]) X dX2_add_107 fX2_15 ((hu_n _ _ hfk).trans hm1) rfl (Nat.le_of_ble_eq_true rfl) rfl rfl rfl ?_
                refine r_vret X Y dX2_add_110 (by decide) (by decide) ?_
                refine ⟨rfl, ⟨?_, ?_⟩, fun y e' hy hn => ?_⟩
                · rw [hu_s, insR_len]
                  rfl
                · refine ⟨_, ?_, Rp_ins _ r ks hR⟩
                  rw [hu_n _ _ hfk.symm, hu_s, ← hqe, insK_s, if_pos c54]
                · rw [hu_n _ _ (fun z => hn (Or.inl z)), hu_n _ _ (fun z => hn (Or.inr z))]
                  exact hy
          · refine r_aload_n 1 X dX2_add_57 rfl ?_
            refine r_getf X dX2_add_58 fX2_11 ((hu_n _ _ hfk).trans hm1) rfl ?_
            refine r_iload 0 X dX2_add_61 rfl ?_
            refine r_aload_n 1 X dX2_add_63 rfl ?_
            refine r_getf X dX2_add_64 fX2_11 ((hu_n _ _ hfk).trans hm1) rfl ?_
            refine r_iload 0 X dX2_add_67 rfl ?_
            refine r_iconst X dX2_add_69 ?_
            refine r_isub X dX2_add_70 ?_
            refine r_iaload X dX2_add_71 (hu_s _ _ _) ⟨by omega, by omega⟩ (by decide) ?_
            rw [e8]
            show WW K D z0 7 (hu h k (aI D 64 q)) 0 0 72 [(6, iv ((j + 1 : Nat) : Int)), (0, .ref f), (5, iv (keyN a b c : Int))] [iv (q j), iv ((j + 1 : Nat) : Int), .ref k]
            refine r_iastore X dX2_add_72 (hu_s _ _ _) ⟨by omega, by omega⟩ (by decide) ?_
            refine WW_h (hu_hu _ _ _ _) ?_
            show WW K D z0 7 (hu h k (aI D 64 (up q (j + 1) (q j)))) 0 0 73 [(6, iv ((j + 1 : Nat) : Int)), (0, .ref f), (5, iv (keyN a b c : Int))] []
            refine r_iinc 0 (L' := [(6, iv (((j + 1 : Nat) : Int) + (-1))), (0, .ref f), (5, iv (keyN a b c : Int))]) X dX2_add_73 rfl (by decide) rfl ?_
            refine r_goto 31 X dX2_add_76 (by decide) ?_
            rw [show ((j + 1 : Nat) : Int) + (-1) = (j : Int) by omega]
            refine ih _ (by omega) (fun i hi => ?_) ?_
            · rw [up_n _ _ (by omega)]
              exact hqo i (by omega)
            · rw [← hqe, insK_s, if_neg (by omega)]
  refine r_iload_n 1 X dX2_add_0 rfl ?_
  refine r_iload_n 2 X dX2_add_1 rfl ?_
  refine r_mmin X dX2_add_2 kX2_29 ⟨by omega, by omega⟩ ⟨by omega, by omega⟩ (Nat.le_of_ble_eq_true rfl) (by decide) ?_
  refine r_bipush X dX2_add_5 (by decide) ?_
  refine r_ishl X dX2_add_7 9 512 (by decide) (by decide) (by decide) ?_
  refine r_iload_n 1 X dX2_add_8 rfl ?_
  refine r_iload_n 2 X dX2_add_9 rfl ?_
  refine r_mmax X dX2_add_10 kX2_35 ⟨by omega, by omega⟩ ⟨by omega, by omega⟩ (Nat.le_of_ble_eq_true rfl) (by decide) ?_
  refine r_ior X dX2_add_13 (min (a : Int) (b : Int)) 9 512 (by decide) (by decide) rfl ⟨by omega, by omega⟩ ?_
  refine r_istore (L' := [(4, iv (((min (a : Int) (b : Int)) * 512) + (max (a : Int) (b : Int)))), (0, .ref f), (1, iv (a : Int)), (2, iv (b : Int)), (3, iv (c : Int))]) X dX2_add_14 (by decide) rfl ?_
  refine r_iload_n 4 X dX2_add_16 rfl ?_
  refine r_bipush X dX2_add_17 (by decide) ?_
  refine r_ishl X dX2_add_19 18 262144 (by decide) (by decide) (by decide) ?_
  refine r_iload 0 X dX2_add_20 rfl ?_
  refine r_ior X dX2_add_22 (c : Int) 18 262144 (by decide) (by decide) rfl ⟨by omega, by omega⟩ ?_
  rw [show ((c : Int) * 262144) + (((min (a : Int) (b : Int)) * 512) + (max (a : Int) (b : Int))) = (keyN a b c : Int) by unfold keyN; omega]
  show WW K D z0 7 h 0 0 23 [(4, iv (((min (a : Int) (b : Int)) * 512) + (max (a : Int) (b : Int)))), (0, .ref f), (1, iv (a : Int)), (2, iv (b : Int)), (3, iv (c : Int))] [iv (keyN a b c : Int)]
  refine r_istore (L' := [(5, iv (keyN a b c : Int)), (4, iv (((min (a : Int) (b : Int)) * 512) + (max (a : Int) (b : Int)))), (0, .ref f), (1, iv (a : Int)), (2, iv (b : Int)), (3, iv (c : Int))]) X dX2_add_23 (by decide) rfl ?_
  refine r_aload_n 2 X dX2_add_25 rfl ?_
  refine r_getf X dX2_add_26 fX2_15 hm1 rfl ?_
  refine r_istore (L' := [(6, iv (r.length : Int)), (5, iv (keyN a b c : Int)), (4, iv (((min (a : Int) (b : Int)) * 512) + (max (a : Int) (b : Int)))), (0, .ref f), (1, iv (a : Int)), (2, iv (b : Int)), (3, iv (c : Int))]) X dX2_add_29 (by decide) rfl ?_
  refine WW_sub (L' := [(6, iv (r.length : Int)), (0, .ref f), (5, iv (keyN a b c : Int))]) [0, 3, 1] rfl ?_
  refine WW_h (hu_self hk).symm ?_
  exact loop r.length ks (Nat.le_refl _) (fun _ _ => rfl) rfl
