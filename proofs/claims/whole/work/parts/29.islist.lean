/-! list, listIsTrue -/
theorem Pm_keep {D : va_G} {h h' : Hp} {W : Nat → Prop} {f k : Nat} {r : List Nat} (hk : Keep W h h') (hm : Pm D h f k r) (n1 : ¬ W f) (n2 : ¬ W k) : Pm D h' f k r := by
  obtain ⟨h1, ks, h2, h3⟩ := hm
  exact ⟨hk _ _ h1 n1, ks, hk _ _ h2 n2, h3⟩
/-- an object of one class is no list, and no list's row -/
theorem ob0_ne {D : va_G} {h : Hp} {x f k : Nat} {fs : List Value} {r : List Nat} (hx : h x = some (ob 0 fs)) (hm : Pm D h f k r) : x ≠ f ∧ x ≠ k := by
  obtain ⟨h1, ks, h2, h3⟩ := hm
  constructor
  · intro z
    rw [z, h1] at hx
    unfold ob at hx
    injection hx with hx
    injection hx with hx
    injection hx with hx hx2
    cases hx
  · intro z
    rw [z, h2] at hx
    cases hx
theorem ob1_ne {D : va_G} {h : Hp} {f k f2 k2 : Nat} {r r2 : List Nat} (hm : Pm D h f k r) (hm2 : Pm D h f2 k2 r2) : f ≠ k2 := by
  obtain ⟨h1, -⟩ := hm
  obtain ⟨-, ks, h2, -⟩ := hm2
  intro z
  rw [z, h2] at h1
  cases h1
theorem asc_nth : ∀ {r : List Nat}, ascB r = true → ∀ i, i + 1 < r.length → nthR r i < nthR r (i + 1)
  | [], _, i, hi => absurd hi (by simp)
  | [a], _, i, hi => absurd hi (by simp)
  | a :: b :: r, h, i, hi => by
    unfold ascB at h
    simp only [Bool.and_eq_true, decide_eq_true_eq] at h
    have hl : (a :: b :: r).length = r.length + 2 := rfl
    have hl2 : (b :: r).length = r.length + 1 := rfl
    have e : ∀ j, j < r.length + 1 → nthR (a :: b :: r) j = nthR (b :: r) j := by
      intro j hj
      unfold nthR
      rw [hl, hl2, show r.length + 2 - 1 - j = (r.length + 1 - 1 - j) + 1 by omega]
      rfl
    by_cases z : i + 1 = r.length + 1
    · rw [e i (by omega)]
      have e1 : nthR (a :: b :: r) (i + 1) = a := by
        unfold nthR
        rw [hl, show r.length + 2 - 1 - (i + 1) = 0 by omega]
        rfl
      have e2 : nthR (b :: r) i = b := by
        unfold nthR
        rw [hl2, show r.length + 1 - 1 - i = 0 by omega]
        rfl
      rw [e1, e2]
      exact h.1
    · rw [e i (by omega), e (i + 1) (by omega)]
      exact asc_nth h.2 i (by rw [hl2]; omega)
def cdLi (w b : Int) : Int := if (w = 101 ∨ w = 116 ∨ w = 104) ∧ 0 ≤ b ∧ b ≤ 400 then 0 else 1
def cdLt (b : Int) : Int := if 0 ≤ b ∧ b ≤ 400 then 0 else 1
abbrev rX6_list : Room := { frames := 7, cells := 2, slots := 12, locals := 147 }
theorem c_X6_list {l : Launch} (hl : l.stackTraces = false) (D : va_G) (z0 : Nat) (h : Hp) (x T f u v o : Nat) (n : Int) (g : Nat → Option Nat) (σ : Tg) (hc : Cy D h x T f u v o n g σ) (k : Nat) (r : List Nat) (hm : Pm D h f k r) (w b : Int) (hw : 0 ≤ w ∧ w ≤ 65535) (hb0 : I32 b) : CC l yX6_list cX6_list 3 (some .int) rX6_list D z0 h [.ref x, iv w, iv b] (fun w0 h' => w0 = some (iv ((eR b.toNat).length : Int)) ∧ Pm D h' f k (eR b.toNat) ∧ Keep (fun y => y = f ∨ y = k) h h' ∧ cdLi w b = 0) (Xn [iae] (cdLi w b) h) := by
  refine CC_of RX6 hl (by decide) rfl (Nat.le_of_ble_eq_true rfl) (fun K X Y Z hmn hKl => ?_)
  subst hKl
  show WW K D z0 3 h 0 0 0 [(0, .ref x), (1, iv w), (2, iv b)] []
  refine r_iload_n 1 X dX6_list_0 rfl ?_
  refine r_bipush X dX6_list_1 (by decide) ?_
  refine r_icmp_eq 28 X dX6_list_3 (by decide) ⟨by omega, by omega⟩ ⟨by omega, by omega⟩ (fun c3 => ?_) (fun c3 => ?_)
  · refine r_iload_n 2 X dX6_list_28 rfl ?_
    refine r_callS X dX6_list_29 kX6_209 (c_X6_requireBound (CX_l X) D z0 h b ⟨by omega, by omega⟩) [] rfl rfl (Nat.le_of_ble_eq_true rfl) (by decide) (by decide) (fun E9 h9 hx9 => by obtain ⟨rfl, rfl, hn29⟩ := Xn1 hx9; exact WX_out X Y Z (by decide) (by decide) (Xn_mk 1 (if_neg (by omega)) (by decide) rfl)) (fun v9 h9 hv9 => ?_)
    obtain ⟨rfl, rfl, hp29⟩ := hv9
    show WW K D z0 3 h 1 6 32 [(0, .ref x), (1, iv w), (2, iv b)] []
    refine r_aload_n 0 X dX6_list_32 rfl ?_
    refine r_getf X dX6_list_33 fX6_18 hc.1 rfl ?_
    refine r_iload_n 1 X dX6_list_36 rfl ?_
    refine r_iload_n 2 X dX6_list_37 rfl ?_
    refine WW_e (congrArg (fun z => iv z :: [iv w, .ref f]) (show b = (b.toNat : Int) by omega)) ?_
    show WW K D z0 3 h 1 6 38 [(0, .ref x), (1, iv w), (2, iv b)] [iv (b.toNat : Int), iv w, .ref f]
    refine r_callV X dX6_list_38 kX6_212 hm.1 (c_X2_fill (CX_l X) D z0 h f k r hm w hw b.toNat (by omega)) [] rfl rfl (Nat.le_of_ble_eq_true rfl) (by decide) (by decide) (fun _ _ z => z.elim) (fun v9 h9 hv9 => ?_)
    obtain ⟨rfl, hm8, hk8⟩ := hv9
    show WW K D z0 3 h9 1 6 41 [(0, .ref x), (1, iv w), (2, iv b)] []
    refine r_aload_n 0 X dX6_list_41 rfl ?_
    refine r_getf X dX6_list_42 fX6_18 (hk8 _ _ hc.1 (fun z => z.elim (ob0_ne hc.1 hm).1 (ob0_ne hc.1 hm).2)) rfl ?_
    refine r_getf X dX6_list_45 fX6_216 hm8.1 rfl ?_
    refine r_iret X Y dX6_list_48 (by decide) (by decide) ?_
    exact ⟨rfl, hm8, hk8, if_pos (by omega)⟩
  · refine r_iload_n 1 X dX6_list_6 rfl ?_
    refine r_bipush X dX6_list_7 (by decide) ?_
    refine r_icmp_eq 28 X dX6_list_9 (by decide) ⟨by omega, by omega⟩ ⟨by omega, by omega⟩ (fun c9 => ?_) (fun c9 => ?_)
    · refine r_iload_n 2 X dX6_list_28 rfl ?_
      refine r_callS X dX6_list_29 kX6_209 (c_X6_requireBound (CX_l X) D z0 h b ⟨by omega, by omega⟩) [] rfl rfl (Nat.le_of_ble_eq_true rfl) (by decide) (by decide) (fun E9 h9 hx9 => by obtain ⟨rfl, rfl, hn29⟩ := Xn1 hx9; exact WX_out X Y Z (by decide) (by decide) (Xn_mk 1 (if_neg (by omega)) (by decide) rfl)) (fun v9 h9 hv9 => ?_)
      obtain ⟨rfl, rfl, hp29⟩ := hv9
      show WW K D z0 3 h 1 6 32 [(0, .ref x), (1, iv w), (2, iv b)] []
      refine r_aload_n 0 X dX6_list_32 rfl ?_
      refine r_getf X dX6_list_33 fX6_18 hc.1 rfl ?_
      refine r_iload_n 1 X dX6_list_36 rfl ?_
      refine r_iload_n 2 X dX6_list_37 rfl ?_
      refine WW_e (congrArg (fun z => iv z :: [iv w, .ref f]) (show b = (b.toNat : Int) by omega)) ?_
      show WW K D z0 3 h 1 6 38 [(0, .ref x), (1, iv w), (2, iv b)] [iv (b.toNat : Int), iv w, .ref f]
      refine r_callV X dX6_list_38 kX6_212 hm.1 (c_X2_fill (CX_l X) D z0 h f k r hm w hw b.toNat (by omega)) [] rfl rfl (Nat.le_of_ble_eq_true rfl) (by decide) (by decide) (fun _ _ z => z.elim) (fun v9 h9 hv9 => ?_)
      obtain ⟨rfl, hm8, hk8⟩ := hv9
      show WW K D z0 3 h9 1 6 41 [(0, .ref x), (1, iv w), (2, iv b)] []
      refine r_aload_n 0 X dX6_list_41 rfl ?_
      refine r_getf X dX6_list_42 fX6_18 (hk8 _ _ hc.1 (fun z => z.elim (ob0_ne hc.1 hm).1 (ob0_ne hc.1 hm).2)) rfl ?_
      refine r_getf X dX6_list_45 fX6_216 hm8.1 rfl ?_
      refine r_iret X Y dX6_list_48 (by decide) (by decide) ?_
      exact ⟨rfl, hm8, hk8, if_pos (by omega)⟩
    · refine r_iload_n 1 X dX6_list_12 rfl ?_
      refine r_bipush X dX6_list_13 (by decide) ?_
      refine r_icmp_eq 28 X dX6_list_15 (by decide) ⟨by omega, by omega⟩ ⟨by omega, by omega⟩ (fun c15 => ?_) (fun c15 => ?_)
      · refine r_iload_n 2 X dX6_list_28 rfl ?_
        refine r_callS X dX6_list_29 kX6_209 (c_X6_requireBound (CX_l X) D z0 h b ⟨by omega, by omega⟩) [] rfl rfl (Nat.le_of_ble_eq_true rfl) (by decide) (by decide) (fun E9 h9 hx9 => by obtain ⟨rfl, rfl, hn29⟩ := Xn1 hx9; exact WX_out X Y Z (by decide) (by decide) (Xn_mk 1 (if_neg (by omega)) (by decide) rfl)) (fun v9 h9 hv9 => ?_)
        obtain ⟨rfl, rfl, hp29⟩ := hv9
        show WW K D z0 3 h 1 6 32 [(0, .ref x), (1, iv w), (2, iv b)] []
        refine r_aload_n 0 X dX6_list_32 rfl ?_
        refine r_getf X dX6_list_33 fX6_18 hc.1 rfl ?_
        refine r_iload_n 1 X dX6_list_36 rfl ?_
        refine r_iload_n 2 X dX6_list_37 rfl ?_
        refine WW_e (congrArg (fun z => iv z :: [iv w, .ref f]) (show b = (b.toNat : Int) by omega)) ?_
        show WW K D z0 3 h 1 6 38 [(0, .ref x), (1, iv w), (2, iv b)] [iv (b.toNat : Int), iv w, .ref f]
        refine r_callV X dX6_list_38 kX6_212 hm.1 (c_X2_fill (CX_l X) D z0 h f k r hm w hw b.toNat (by omega)) [] rfl rfl (Nat.le_of_ble_eq_true rfl) (by decide) (by decide) (fun _ _ z => z.elim) (fun v9 h9 hv9 => ?_)
        obtain ⟨rfl, hm8, hk8⟩ := hv9
        show WW K D z0 3 h9 1 6 41 [(0, .ref x), (1, iv w), (2, iv b)] []
        refine r_aload_n 0 X dX6_list_41 rfl ?_
        refine r_getf X dX6_list_42 fX6_18 (hk8 _ _ hc.1 (fun z => z.elim (ob0_ne hc.1 hm).1 (ob0_ne hc.1 hm).2)) rfl ?_
        refine r_getf X dX6_list_45 fX6_216 hm8.1 rfl ?_
        refine r_iret X Y dX6_list_48 (by decide) (by decide) ?_
        exact ⟨rfl, hm8, hk8, if_pos (by omega)⟩
      · refine r_throwS (E := "java/lang/IllegalArgumentException") (text := "there is no such way") X Y Z dX6_list_18 dX6_list_21 dX6_list_22 dX6_list_24 dX6_list_27 (by decide) gX6_44 ini_IllegalArgumentException (by decide) hX6_48 (Nat.le_of_ble_eq_true rfl) (by decide) (by decide) (by decide) ?_
        exact Xn_mk 1 (if_neg (by omega)) (by decide) rfl
abbrev rX6_listIsTrue : Room := { frames := 7, cells := 1, slots := 6, locals := 147 }
theorem eM_lt {b : Nat} (hb : b ≤ 400) (c m : Nat) (hc : c = 199) (hm : m = 200) : ∀ a ∈ hO b c m 1 [], a < 134217728 := by
  have key : ∀ (m o : Nat) (r : List Nat), (∀ a ∈ r, a < 134217728) → ∀ a ∈ hO b c m o r, a < 134217728 := by
    intro m
    induction m with
    | zero => exact fun _ _ h => h
    | succ m ih => exact fun o r h => ih (o + 2) _ (hE_lt hb c 2 r h)
  exact key m 1 [] (fun a ha => by cases ha)
theorem eR_lt {b : Nat} (hb : b ≤ 400) : ∀ a ∈ eR b, a < 134217728 := by
  obtain ⟨c, hc⟩ : ∃ c, c = 199 := ⟨_, rfl⟩
  obtain ⟨m, hm⟩ : ∃ m, m = 200 := ⟨_, rfl⟩
  rw [← hR_e hb hc hm]
  exact eM_lt hb c m hc hm
theorem c_X6_listIsTrue {l : Launch} (hl : l.stackTraces = false) (D : va_G) (z0 : Nat) (h : Hp) (x T f u v o : Nat) (n : Int) (g : Nat → Option Nat) (σ : Tg) (hc : Cy D h x T f u v o n g σ) (ku kv : Nat) (r1 r2 : List Nat) (hmu : Pm D h u ku r1) (hmv : Pm D h v kv r2) (huv : u ≠ v) (hku : ku ≠ kv) (b : Int) (hb0 : I32 b) : CC l yX6_listIsTrue cX6_listIsTrue 2 (some .boolean) rX6_listIsTrue D z0 h [.ref x, iv b] (fun w0 h' => w0 = some (iv 1) ∧ Pm D h' u ku (eR b.toNat) ∧ Pm D h' v kv (eR b.toNat) ∧ Keep (fun y => y = u ∨ y = ku ∨ y = v ∨ y = kv) h h' ∧ cdLt b = 0) (Xn [iae] (cdLt b) h) := by
  refine CC_of RX6 hl (by decide) rfl (Nat.le_of_ble_eq_true rfl) (fun K X Y Z hmn hKl => ?_)
  subst hKl
  show WW K D z0 2 h 0 0 0 [(0, .ref x), (1, iv b)] []
  refine r_iload_n 1 X dX6_listIsTrue_0 rfl ?_
  refine r_callS X dX6_listIsTrue_1 kX6_209 (c_X6_requireBound (CX_l X) D z0 h b ⟨by omega, by omega⟩) [] rfl rfl (Nat.le_of_ble_eq_true rfl) (by decide) (by decide) (fun E9 h9 hx9 => by obtain ⟨rfl, rfl, hn1⟩ := Xn1 hx9; exact WX_out X Y Z (by decide) (by decide) (Xn_mk 1 (if_neg (by omega)) (by decide) rfl)) (fun v9 h9 hv9 => ?_)
  obtain ⟨rfl, rfl, hp1⟩ := hv9
  show WW K D z0 2 h 1 6 4 [(0, .ref x), (1, iv b)] []
  refine r_aload_n 0 X dX6_listIsTrue_4 rfl ?_
  refine r_getf X dX6_listIsTrue_5 fX6_22 hc.1 rfl ?_
  refine r_bipush X dX6_listIsTrue_8 (by decide) ?_
  refine r_iload_n 1 X dX6_listIsTrue_10 rfl ?_
  refine WW_e (congrArg (fun z => iv z :: [iv 101, .ref u]) (show b = (b.toNat : Int) by omega)) ?_
  show WW K D z0 2 h 1 6 11 [(0, .ref x), (1, iv b)] [iv (b.toNat : Int), iv 101, .ref u]
  refine r_callV X dX6_listIsTrue_11 kX6_212 hmu.1 (c_X2_fill (CX_l X) D z0 h u ku _ hmu 101 ⟨by omega, by omega⟩ b.toNat (by omega)) [] rfl rfl (Nat.le_of_ble_eq_true rfl) (by decide) (by decide) (fun _ _ z => z.elim) (fun v9 hA hv9 => ?_)
  obtain ⟨rfl, hmhA, hkhA⟩ := hv9
  have hxA := hkhA _ _ hc.1 (fun z => z.elim (ob0_ne hc.1 hmu).1 (ob0_ne hc.1 hmu).2)
  have hmvA := Pm_keep hkhA hmv (fun z => z.elim (fun e => huv e.symm) (fun e => ob1_ne hmv hmu e)) (fun z => z.elim (fun e => ob1_ne hmu hmv e.symm) (fun e => hku e.symm))
  show WW K D z0 2 hA 1 6 14 [(0, .ref x), (1, iv b)] []
  refine r_aload_n 0 X dX6_listIsTrue_14 rfl ?_
  refine r_getf X dX6_listIsTrue_15 fX6_25 hxA rfl ?_
  refine r_bipush X dX6_listIsTrue_18 (by decide) ?_
  refine r_iload_n 1 X dX6_listIsTrue_20 rfl ?_
  refine WW_e (congrArg (fun z => iv z :: [iv 116, .ref v]) (show b = (b.toNat : Int) by omega)) ?_
  show WW K D z0 2 hA 1 6 21 [(0, .ref x), (1, iv b)] [iv (b.toNat : Int), iv 116, .ref v]
  refine r_callV X dX6_listIsTrue_21 kX6_212 hmvA.1 (c_X2_fill (CX_l X) D z0 hA v kv _ hmvA 116 ⟨by omega, by omega⟩ b.toNat (by omega)) [] rfl rfl (Nat.le_of_ble_eq_true rfl) (by decide) (by decide) (fun _ _ z => z.elim) (fun v9 hB hv9 => ?_)
  obtain ⟨rfl, hmhB, hkhB⟩ := hv9
  have hxB := hkhB _ _ hxA (fun z => z.elim (ob0_ne hc.1 hmv).1 (ob0_ne hc.1 hmv).2)
  have hmuB := Pm_keep hkhB hmhA (fun z => z.elim huv (ob1_ne hmu hmv)) (fun z => z.elim (fun e => ob1_ne hmv hmu e.symm) hku)
  show WW K D z0 2 hB 1 6 24 [(0, .ref x), (1, iv b)] []
  refine r_aload_n 0 X dX6_listIsTrue_24 rfl ?_
  refine r_getf X dX6_listIsTrue_25 fX6_22 hxB rfl ?_
  refine r_callV_v X dX6_listIsTrue_28 kX6_268 hmuB.1 (c_X2_areEachOnce (CX_l X) D z0 hB u ku _ hmuB (by have := (et_at (b := b.toNat) (by omega)).2.1; omega) (eR_lt (by omega)) (asc_nth (et_at (b := b.toNat) (by omega)).2.2)) [] rfl rfl (Nat.le_of_ble_eq_true rfl) (by decide) rfl rfl (by decide) ?_
  refine r_if_eq 48 X dX6_listIsTrue_31 (by decide) ⟨by omega, by omega⟩ (fun c31 => ?_) (fun c31 => ?_)
  · exfalso
    omega
  · refine r_aload_n 0 X dX6_listIsTrue_34 rfl ?_
    refine r_getf X dX6_listIsTrue_35 fX6_22 hxB rfl ?_
    refine r_aload_n 0 X dX6_listIsTrue_38 rfl ?_
    refine r_getf X dX6_listIsTrue_39 fX6_25 hxB rfl ?_
    refine r_callV_v X dX6_listIsTrue_42 kX6_272 hmuB.1 (c_X2_areThoseOf (CX_l X) D z0 hB u ku _ hmuB (by have := (et_at (b := b.toNat) (by omega)).2.1; omega) (eR_lt (by omega)) v kv hmhB) [] rfl rfl (Nat.le_of_ble_eq_true rfl) (by decide) rfl rfl (by decide) ?_
    refine r_if_ne 50 X dX6_listIsTrue_45 (by decide) ⟨by omega, by omega⟩ (fun c45 => ?_) (fun c45 => ?_)
    · refine r_aload_n 0 X dX6_listIsTrue_50 rfl ?_
      refine r_getf X dX6_listIsTrue_51 fX6_25 hxB rfl ?_
      refine r_bipush X dX6_listIsTrue_54 (by decide) ?_
      refine r_iload_n 1 X dX6_listIsTrue_56 rfl ?_
      refine WW_e (congrArg (fun z => iv z :: [iv 104, .ref v]) (show b = (b.toNat : Int) by omega)) ?_
      show WW K D z0 2 hB 1 6 57 [(0, .ref x), (1, iv b)] [iv (b.toNat : Int), iv 104, .ref v]
      refine r_callV X dX6_listIsTrue_57 kX6_212 hmhB.1 (c_X2_fill (CX_l X) D z0 hB v kv _ hmhB 104 ⟨by omega, by omega⟩ b.toNat (by omega)) [] rfl rfl (Nat.le_of_ble_eq_true rfl) (by decide) (by decide) (fun _ _ z => z.elim) (fun v9 hC hv9 => ?_)
      obtain ⟨rfl, hmhC, hkhC⟩ := hv9
      have hxC := hkhC _ _ hxB (fun z => z.elim (ob0_ne hc.1 hmv).1 (ob0_ne hc.1 hmv).2)
      have hmuC := Pm_keep hkhC hmuB (fun z => z.elim huv (ob1_ne hmu hmv)) (fun z => z.elim (fun e => ob1_ne hmv hmu e.symm) hku)
      show WW K D z0 2 hC 1 6 60 [(0, .ref x), (1, iv b)] []
      refine r_aload_n 0 X dX6_listIsTrue_60 rfl ?_
      refine r_getf X dX6_listIsTrue_61 fX6_22 hxC rfl ?_
      refine r_aload_n 0 X dX6_listIsTrue_64 rfl ?_
      refine r_getf X dX6_listIsTrue_65 fX6_25 hxC rfl ?_
      refine r_callV_v X dX6_listIsTrue_68 kX6_272 hmuC.1 (c_X2_areThoseOf (CX_l X) D z0 hC u ku _ hmuC (by have := (et_at (b := b.toNat) (by omega)).2.1; omega) (eR_lt (by omega)) v kv hmhC) [] rfl rfl (Nat.le_of_ble_eq_true rfl) (by decide) rfl rfl (by decide) ?_
      refine r_zret X Y dX6_listIsTrue_71 (Or.inr rfl) (by decide) (by decide) ?_
      exact ⟨rfl, hmuC, hmhC, fun y e hy hn => hkhC _ _ (hkhB _ _ (hkhA _ _ hy (fun z => hn (z.elim Or.inl (fun z => Or.inr (Or.inl z))))) (fun z => hn (Or.inr (Or.inr z)))) (fun z => hn (Or.inr (Or.inr z))), if_pos (by omega)⟩
    · exfalso
      omega
